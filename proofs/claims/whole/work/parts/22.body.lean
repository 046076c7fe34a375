/-! the law: one turn of its loop, then the loop -/
abbrev LVi (b0 x y0 w i : Nat) : List (Nat × Value) := [(0, .ref b0), (1, .ref x), (2, .ref y0), (3, .ref w), (4, .int (nI i))]
/-- what both sides have between two calls -/
def INV (n kn : Nat) (T : Nat → Nat → Nat) (f : Nat → Nat) (o : Nat → Option (Nat → Nat)) (O : Nat → Nat → Nat) (s sl z hh : Nat → Nat) : Prop :=
  IV s ∧ HV s ∧ kn ≤ 6 ∧ (n ≤ 60 ∧ ∀ k, k < n → f k < 128) ∧ (∃ t, HR2 kn T t hh) ∧ ∃ w, SL2 o O w sl z
/-- wherever both sides agree, the body comes to Q from pc -/
def LK (E : EE) (G : gT) (A : Nat → Prop) (Q : State → Prop) (b0 x q w : Nat) (a r p h y : Nat → Nat) (pc i kc ks : Nat) : Prop :=
  ∀ (H g f : Nat → Nat) (n kn : Nat) (d T : Nat → Nat → Nat) (fo : Nat → Int64) (o : Nat → Option (Nat → Nat)) (O : Nat → Nat → Nat) (t th : Nat) (s sl z hh g6 d7 : Nat → Nat),
    INV n kn T f o O s sl z hh → V E G A 7 (LW G x q w a (c3 s) r H g p f h n kn d T fo o O y t th s sl z hh g6 d7) kc ks Q pc (LVi b0 x (y 0) w i) []
theorem INV_chg {n kn : Nat} {T : Nat → Nat → Nat} {f : Nat → Nat} {o : Nat → Option (Nat → Nat)} {O : Nat → Nat → Nat} {s sl z hh : Nat → Nat} (hJ : INV n kn T f o O s sl z hh) {s' : Nat → Nat} (h1 : IV s') (h2 : HV s') : INV n (aM kn + 1) (hT kn (c3 s) T) f o O s' sl z (rcH kn s hh) := by
  obtain ⟨hI, hH, hkn, hn, ⟨t, ht⟩, hw⟩ := hJ
  exact ⟨h1, h2, aM_lt hkn, hn, ⟨_, HR2_rec hkn hI hH ht⟩, hw⟩
theorem INV_pad {n kn : Nat} {T : Nat → Nat → Nat} {f : Nat → Nat} {o : Nat → Option (Nat → Nat)} {O : Nat → Nat → Nat} {s sl z hh : Nat → Nat} (hJ : INV n kn T f o O s sl z hh) {n' : Nat} {f' : Nat → Nat} (h1 : n' ≤ 60) (h2 : ∀ k, k < n' → f' k < 128) : INV n' kn T f' o O s sl z hh := ⟨hJ.1, hJ.2.1, hJ.2.2.1, ⟨h1, h2⟩, hJ.2.2.2.2⟩
theorem IV_at {s : Nat → Nat} {j v : Nat} (h : (32 ≤ j ∧ j < 36 ∧ v ≤ 9) ∨ (36 ≤ j ∧ j < 46 ∧ v ≤ 60) ∨ (j = 46 ∧ v ≤ 300)) (hI : IV s) : IV (va_up s j v) := by
  obtain ⟨h1, h2, h3, h4, h5, h6⟩ := hI
  refine ⟨fun k hk => ?_, fun k hk => ?_, fun k hk => ?_, ?_, ?_, fun k hk => ?_⟩
  · rw [va_up_ne _ _ (by omega)]; exact h1 k hk
  · by_cases e : 32 + k = j
    · rw [e, va_up_self]; omega
    · rw [va_up_ne _ _ e]; exact h2 k hk
  · by_cases e : 36 + k = j
    · rw [e, va_up_self]; omega
    · rw [va_up_ne _ _ e]; exact h3 k hk
  · by_cases e : 46 = j
    · rw [e, va_up_self]; omega
    · rw [va_up_ne _ _ e]; exact h4
  · rw [va_up_ne _ _ (by omega)]; exact h5
  · rw [va_up_ne _ _ (by omega)]; exact h6 k hk
theorem HV_up {s : Nat → Nat} {j v : Nat} (h : j < 49) (hv : HV s) : HV (va_up s j v) := HV_sameB (sameB_up (lo := 0) (hi := 49) (by omega) (by omega)) (by decide) hv
theorem i64_lN (x : Int64) : ∃ v : Nat, v < 2 ^ 64 ∧ x = lN v := ⟨x.toBitVec.toNat, x.toBitVec.isLt, by
  apply Int64.toBitVec_inj.mp
  apply BitVec.eq_of_toNat_eq
  exact (Nat.mod_eq_of_lt x.toBitVec.isLt).symm⟩
theorem rsd_lt {s : Nat → Nat} {k : Nat} (hk : k < 32) : rsd s k < 1024 := by unfold rsd; rw [if_pos hk]; exact Nat.mod_lt _ (by decide)
theorem IV_tbk {s : Nat → Nat} (hI : IV s) : IV (tbk 9 s) := by
  obtain ⟨i1, i2, i3, i4, i5, i6⟩ := hI
  have e : ∀ k, k < 47 → tbk 9 s k = s k := fun k hk => by unfold tbk; rw [if_neg (by omega), if_neg (by omega)]
  refine ⟨fun k hk => by rw [e _ (by omega)]; exact i1 k hk, fun k hk => by rw [e _ (by omega)]; exact i2 k hk, fun k hk => by rw [e _ (by omega)]; exact i3 k hk, by rw [e _ (by decide)]; exact i4, ?_, fun k hk => ?_⟩
  · show tbk 9 s 47 < 32
    unfold tbk; rw [if_pos rfl]; decide
  · unfold tbk; rw [if_neg (by omega), if_pos (by omega)]; decide
theorem SL2_some {o : Nat → Option (Nat → Nat)} {O w : Nat → Nat → Nat} {sl z : Nat → Nat} {c : Nat} {b : Nat → Nat} (ho : o c = some b) (h : SL2 (va_up o c (some b)) O w sl z) : SL2 o O w sl z := by
  have e : va_up o c (some b) = o := by
    funext k
    by_cases q : k = c
    · subst q; rw [va_up_self, ho]
    · rw [va_up_ne _ _ q]
  rw [e] at h
  exact h
set_option maxHeartbeats 4000000 in
set_option maxRecDepth 100000 in
theorem lt_turnPeg {E : EE} {G : gT} {A : Nat → Prop} {Q : State → Prop} {l : Launch} {b0 L : Nat} {xs : Nat → Int32} (X : Cx E G A 7 cL_law RL wsL_law room_1 l) (hX : va_X b0 L xs (e_s E) (e_s E).heap) (hbl : b0 < (e_s E).heap.size) (hbA : ¬ A b0) (hL : L ≤ 1536) (x q w : Nat) (a r p h y : Nat → Nat) (kc ks i : Nat) (hkc : kc + 8 ≤ 604766) (hks : ks + 83 ≤ 7281805) (hi : i + 3 ≤ L) (KK : LK E G A Q b0 x q w a r p h y 1602 i (kc + 8) (ks + 83)) : LK E G A Q b0 x q w a r p h y 200 i kc ks := by
  intro H g f n kn d T fo o O t th s sl z hh g6 d7 hJ
  obtain ⟨hI, hH, hkn, ⟨hn, hf⟩, ⟨t9, hR⟩, ⟨w9, hS⟩⟩ := id hJ
  by_cases h1 : okr 0 31 (xs (i + 1))
  · obtain ⟨c, -, hc, hu1⟩ := h1
    by_cases h2 : okr 0 9 (xs (i + 2))
    · obtain ⟨v, hv1, hv, hu2⟩ := h2
      exact lc_turnPeg X hX hbl hbA hL x q w a r H g p f h n kn d T fo o O y t th s sl z hh g6 d7 kc ks i hI hkn c v (by omega) (by omega) hu1 hu2 hkc hks hi (V_widen (by omega) (by omega) (KK _ _ _ _ _ _ _ _ _ _ _ _ _ _ _ _ _ _ (INV_chg hJ (IV_peg (by omega) (Nat.xor_lt_two_pow (n := 10) (hI.1 c (by omega)) (Nat.pow_lt_pow_right (by decide) (by omega))) hI) (HV_up (by omega) hH))))
    · exact lc_turnPeg_b2 X hX hbl hbA hL x q w a r H g p f h n kn d T fo o O y t th s sl z hh g6 d7 kc ks i c (by omega) (xs (i + 2)) h2 hu1 rfl hkc hks hi (V_widen (by omega) (by omega) (KK _ _ _ _ _ _ _ _ _ _ _ _ _ _ _ _ _ _ hJ))
  · exact lc_turnPeg_b1 X hX hbl hbA hL x q w a r H g p f h n kn d T fo o O y t th s sl z hh g6 d7 kc ks i (xs (i + 1)) (xs (i + 2)) h1 rfl rfl hkc hks hi (V_widen (by omega) (by omega) (KK _ _ _ _ _ _ _ _ _ _ _ _ _ _ _ _ _ _ hJ))

set_option maxHeartbeats 4000000 in
set_option maxRecDepth 100000 in
theorem lt_setColumn {E : EE} {G : gT} {A : Nat → Prop} {Q : State → Prop} {l : Launch} {b0 L : Nat} {xs : Nat → Int32} (X : Cx E G A 7 cL_law RL wsL_law room_1 l) (hX : va_X b0 L xs (e_s E) (e_s E).heap) (hbl : b0 < (e_s E).heap.size) (hbA : ¬ A b0) (hL : L ≤ 1536) (x q w : Nat) (a r p h y : Nat → Nat) (kc ks i : Nat) (hkc : kc + 8 ≤ 604766) (hks : ks + 83 ≤ 7281805) (hi : i + 3 ≤ L) (KK : LK E G A Q b0 x q w a r p h y 1602 i (kc + 8) (ks + 83)) : LK E G A Q b0 x q w a r p h y 275 i kc ks := by
  intro H g f n kn d T fo o O t th s sl z hh g6 d7 hJ
  obtain ⟨hI, hH, hkn, ⟨hn, hf⟩, ⟨t9, hR⟩, ⟨w9, hS⟩⟩ := id hJ
  by_cases h1 : okr 0 31 (xs (i + 1))
  · obtain ⟨c, -, hc, hu1⟩ := h1
    by_cases h2 : okr 0 1023 (xs (i + 2))
    · obtain ⟨v, hv1, hv, hu2⟩ := h2
      exact lc_setColumn X hX hbl hbA hL x q w a r H g p f h n kn d T fo o O y t th s sl z hh g6 d7 kc ks i hI hkn c v (by omega) (by omega) hu1 hu2 hkc hks hi (V_widen (by omega) (by omega) (KK _ _ _ _ _ _ _ _ _ _ _ _ _ _ _ _ _ _ (INV_chg hJ (IV_peg (by omega) (by omega) hI) (HV_up (by omega) hH))))
    · exact lc_setColumn_b2 X hX hbl hbA hL x q w a r H g p f h n kn d T fo o O y t th s sl z hh g6 d7 kc ks i c (by omega) (xs (i + 2)) h2 hu1 rfl hkc hks hi (V_widen (by omega) (by omega) (KK _ _ _ _ _ _ _ _ _ _ _ _ _ _ _ _ _ _ hJ))
  · exact lc_setColumn_b1 X hX hbl hbA hL x q w a r H g p f h n kn d T fo o O y t th s sl z hh g6 d7 kc ks i (xs (i + 1)) (xs (i + 2)) h1 rfl rfl hkc hks hi (V_widen (by omega) (by omega) (KK _ _ _ _ _ _ _ _ _ _ _ _ _ _ _ _ _ _ hJ))

set_option maxHeartbeats 4000000 in
set_option maxRecDepth 100000 in
theorem lt_setTempo {E : EE} {G : gT} {A : Nat → Prop} {Q : State → Prop} {l : Launch} {b0 L : Nat} {xs : Nat → Int32} (X : Cx E G A 7 cL_law RL wsL_law room_1 l) (hX : va_X b0 L xs (e_s E) (e_s E).heap) (hbl : b0 < (e_s E).heap.size) (hbA : ¬ A b0) (hL : L ≤ 1536) (x q w : Nat) (a r p h y : Nat → Nat) (kc ks i : Nat) (hkc : kc + 8 ≤ 604766) (hks : ks + 83 ≤ 7281805) (hi : i + 3 ≤ L) (KK : LK E G A Q b0 x q w a r p h y 1602 i (kc + 8) (ks + 83)) : LK E G A Q b0 x q w a r p h y 343 i kc ks := by
  intro H g f n kn d T fo o O t th s sl z hh g6 d7 hJ
  obtain ⟨hI, hH, hkn, ⟨hn, hf⟩, ⟨t9, hR⟩, ⟨w9, hS⟩⟩ := id hJ
  by_cases h1 : okr 0 3 (xs (i + 1))
  · obtain ⟨c, -, hc, hu1⟩ := h1
    by_cases h2 : okr 1 9 (xs (i + 2))
    · obtain ⟨v, hv1, hv, hu2⟩ := h2
      exact lc_setTempo X hX hbl hbA hL x q w a r H g p f h n kn d T fo o O y t th s sl z hh g6 d7 kc ks i hI hkn c v (by omega) hv1 (by omega) hu1 hu2 hkc hks hi (V_widen (by omega) (by omega) (KK _ _ _ _ _ _ _ _ _ _ _ _ _ _ _ _ _ _ (INV_chg hJ (IV_at (by omega) hI) (HV_up (by omega) hH))))
    · exact lc_setTempo_b2 X hX hbl hbA hL x q w a r H g p f h n kn d T fo o O y t th s sl z hh g6 d7 kc ks i c (by omega) (xs (i + 2)) h2 hu1 rfl hkc hks hi (V_widen (by omega) (by omega) (KK _ _ _ _ _ _ _ _ _ _ _ _ _ _ _ _ _ _ hJ))
  · exact lc_setTempo_b1 X hX hbl hbA hL x q w a r H g p f h n kn d T fo o O y t th s sl z hh g6 d7 kc ks i (xs (i + 1)) (xs (i + 2)) h1 rfl rfl hkc hks hi (V_widen (by omega) (by omega) (KK _ _ _ _ _ _ _ _ _ _ _ _ _ _ _ _ _ _ hJ))

set_option maxHeartbeats 4000000 in
set_option maxRecDepth 100000 in
theorem lt_setWeight {E : EE} {G : gT} {A : Nat → Prop} {Q : State → Prop} {l : Launch} {b0 L : Nat} {xs : Nat → Int32} (X : Cx E G A 7 cL_law RL wsL_law room_1 l) (hX : va_X b0 L xs (e_s E) (e_s E).heap) (hbl : b0 < (e_s E).heap.size) (hbA : ¬ A b0) (hL : L ≤ 1536) (x q w : Nat) (a r p h y : Nat → Nat) (kc ks i : Nat) (hkc : kc + 8 ≤ 604766) (hks : ks + 83 ≤ 7281805) (hi : i + 3 ≤ L) (KK : LK E G A Q b0 x q w a r p h y 1602 i (kc + 8) (ks + 83)) : LK E G A Q b0 x q w a r p h y 411 i kc ks := by
  intro H g f n kn d T fo o O t th s sl z hh g6 d7 hJ
  obtain ⟨hI, hH, hkn, ⟨hn, hf⟩, ⟨t9, hR⟩, ⟨w9, hS⟩⟩ := id hJ
  by_cases h1 : okr 0 9 (xs (i + 1))
  · obtain ⟨c, -, hc, hu1⟩ := h1
    by_cases h2 : okr 1 60 (xs (i + 2))
    · obtain ⟨v, hv1, hv, hu2⟩ := h2
      exact lc_setWeight X hX hbl hbA hL x q w a r H g p f h n kn d T fo o O y t th s sl z hh g6 d7 kc ks i hI hkn c v (by omega) hv1 (by omega) hu1 hu2 hkc hks hi (V_widen (by omega) (by omega) (KK _ _ _ _ _ _ _ _ _ _ _ _ _ _ _ _ _ _ (INV_chg hJ (IV_at (by omega) hI) (HV_up (by omega) hH))))
    · exact lc_setWeight_b2 X hX hbl hbA hL x q w a r H g p f h n kn d T fo o O y t th s sl z hh g6 d7 kc ks i c (by omega) (xs (i + 2)) h2 hu1 rfl hkc hks hi (V_widen (by omega) (by omega) (KK _ _ _ _ _ _ _ _ _ _ _ _ _ _ _ _ _ _ hJ))
  · exact lc_setWeight_b1 X hX hbl hbA hL x q w a r H g p f h n kn d T fo o O y t th s sl z hh g6 d7 kc ks i (xs (i + 1)) (xs (i + 2)) h1 rfl rfl hkc hks hi (V_widen (by omega) (by omega) (KK _ _ _ _ _ _ _ _ _ _ _ _ _ _ _ _ _ _ hJ))

set_option maxHeartbeats 4000000 in
set_option maxRecDepth 100000 in
theorem lt_setBound {E : EE} {G : gT} {A : Nat → Prop} {Q : State → Prop} {l : Launch} {b0 L : Nat} {xs : Nat → Int32} (X : Cx E G A 7 cL_law RL wsL_law room_1 l) (hX : va_X b0 L xs (e_s E) (e_s E).heap) (hbl : b0 < (e_s E).heap.size) (hbA : ¬ A b0) (hL : L ≤ 1536) (x q w : Nat) (a r p h y : Nat → Nat) (kc ks i : Nat) (hkc : kc + 8 ≤ 604766) (hks : ks + 83 ≤ 7281805) (hi : i + 3 ≤ L) (KK : LK E G A Q b0 x q w a r p h y 1602 i (kc + 8) (ks + 83)) : LK E G A Q b0 x q w a r p h y 479 i kc ks := by
  intro H g f n kn d T fo o O t th s sl z hh g6 d7 hJ
  obtain ⟨hI, hH, hkn, ⟨hn, hf⟩, ⟨t9, hR⟩, ⟨w9, hS⟩⟩ := id hJ
  by_cases h1 : okr 1 300 (xs (i + 1))
  · obtain ⟨c, hc1, hc, hu1⟩ := h1
    exact lc_setBound X hX hbl hbA hL x q w a r H g p f h n kn d T fo o O y t th s sl z hh g6 d7 kc ks i hI hkn c hc1 (by omega) hu1 hkc hks hi (V_widen (by omega) (by omega) (KK _ _ _ _ _ _ _ _ _ _ _ _ _ _ _ _ _ _ (INV_chg hJ (IV_at (by omega) hI) (HV_up (by omega) hH))))
  · exact lc_setBound_b1 X hX hbl hbA hL x q w a r H g p f h n kn d T fo o O y t th s sl z hh g6 d7 kc ks i (xs (i + 1)) h1 rfl hkc hks hi (V_widen (by omega) (by omega) (KK _ _ _ _ _ _ _ _ _ _ _ _ _ _ _ _ _ _ hJ))

set_option maxHeartbeats 4000000 in
set_option maxRecDepth 100000 in
theorem lt_move {E : EE} {G : gT} {A : Nat → Prop} {Q : State → Prop} {l : Launch} {b0 L : Nat} {xs : Nat → Int32} (X : Cx E G A 7 cL_law RL wsL_law room_1 l) (hX : va_X b0 L xs (e_s E) (e_s E).heap) (hbl : b0 < (e_s E).heap.size) (hbA : ¬ A b0) (hL : L ≤ 1536) (x q w : Nat) (a r p h y : Nat → Nat) (kc ks i : Nat) (hkc : kc + 8 ≤ 604766) (hks : ks + 83 ≤ 7281805) (hi : i + 3 ≤ L) (KK : LK E G A Q b0 x q w a r p h y 1602 i (kc + 8) (ks + 83)) : LK E G A Q b0 x q w a r p h y 548 i kc ks := by
  intro H g f n kn d T fo o O t th s sl z hh g6 d7 hJ
  obtain ⟨hI, hH, hkn, ⟨hn, hf⟩, ⟨t9, hR⟩, ⟨w9, hS⟩⟩ := id hJ
  by_cases h1 : okr 1 31 (xs (i + 1))
  · obtain ⟨c, hc1, hc, hu1⟩ := h1
    exact lc_move X hX hbl hbA hL x q w a r H g p f h n kn d T fo o O y t th s sl z hh g6 d7 kc ks i hI hkn c hc1 (by omega) hu1 hkc hks hi (fun _ => V_widen (by omega) (by omega) (KK _ _ _ _ _ _ _ _ _ _ _ _ _ _ _ _ _ _ (INV_chg hJ (IV_pegs (sameB_mvd _ _) (mvd_lt hI) hI) (HV_sameB (sameB_mvd _ _) (by decide) hH))))
  · exact lc_move_b1 X hX hbl hbA hL x q w a r H g p f h n kn d T fo o O y t th s sl z hh g6 d7 kc ks i (xs (i + 1)) h1 rfl hkc hks hi (V_widen (by omega) (by omega) (KK _ _ _ _ _ _ _ _ _ _ _ _ _ _ _ _ _ _ hJ))

set_option maxHeartbeats 4000000 in
set_option maxRecDepth 100000 in
theorem lt_crank {E : EE} {G : gT} {A : Nat → Prop} {Q : State → Prop} {l : Launch} {b0 L : Nat} {xs : Nat → Int32} (X : Cx E G A 7 cL_law RL wsL_law room_1 l) (hX : va_X b0 L xs (e_s E) (e_s E).heap) (hbl : b0 < (e_s E).heap.size) (hbA : ¬ A b0) (hL : L ≤ 1536) (x q w : Nat) (a r p h y : Nat → Nat) (kc ks i : Nat) (hkc : kc + 8 ≤ 604766) (hks : ks + 83 ≤ 7281805) (hi : i + 3 ≤ L) (KK : LK E G A Q b0 x q w a r p h y 1602 i (kc + 8) (ks + 83)) : LK E G A Q b0 x q w a r p h y 617 i kc ks := by
  intro H g f n kn d T fo o O t th s sl z hh g6 d7 hJ
  obtain ⟨hI, hH, hkn, ⟨hn, hf⟩, ⟨t9, hR⟩, ⟨w9, hS⟩⟩ := id hJ
  by_cases h1 : okr 1 200 (xs (i + 1))
  · obtain ⟨c, hc1, hc, hu1⟩ := h1
    exact lc_crank X hX hbl hbA hL x q w a r H g p f h n kn d T fo o O y t th s sl z hh g6 d7 kc ks i hI hkn c hc1 (by omega) hu1 hkc hks hi (V_widen (by omega) (by omega) (KK _ _ _ _ _ _ _ _ _ _ _ _ _ _ _ _ _ _ (INV_chg hJ (IV_stkN (by decide) hI _) (HV_stkN hH _))))
  · exact lc_crank_b1 X hX hbl hbA hL x q w a r H g p f h n kn d T fo o O y t th s sl z hh g6 d7 kc ks i (xs (i + 1)) h1 rfl hkc hks hi (V_widen (by omega) (by omega) (KK _ _ _ _ _ _ _ _ _ _ _ _ _ _ _ _ _ _ hJ))

set_option maxHeartbeats 4000000 in
set_option maxRecDepth 100000 in
theorem lt_pegsIn {E : EE} {G : gT} {A : Nat → Prop} {Q : State → Prop} {l : Launch} {b0 L : Nat} {xs : Nat → Int32} (X : Cx E G A 7 cL_law RL wsL_law room_1 l) (hX : va_X b0 L xs (e_s E) (e_s E).heap) (hbl : b0 < (e_s E).heap.size) (hbA : ¬ A b0) (hL : L ≤ 1536) (x q w : Nat) (a r p h y : Nat → Nat) (kc ks i : Nat) (hkc : kc + 8 ≤ 604766) (hks : ks + 83 ≤ 7281805) (hi : i + 3 ≤ L) (KK : LK E G A Q b0 x q w a r p h y 1602 i (kc + 8) (ks + 83)) : LK E G A Q b0 x q w a r p h y 730 i kc ks := by
  intro H g f n kn d T fo o O t th s sl z hh g6 d7 hJ
  obtain ⟨hI, hH, hkn, ⟨hn, hf⟩, ⟨t9, hR⟩, ⟨w9, hS⟩⟩ := id hJ
  by_cases h1 : okr 0 31 (xs (i + 1))
  · obtain ⟨c, hc1, hc, hu1⟩ := h1
    exact lc_pegsIn X hX hbl hbA hL x q w a r H g p f h n kn d T fo o O y t th s sl z hh g6 d7 kc ks i hI c (by omega) hu1 hkc hks hi (V_widen (by omega) (by omega) (KK _ _ _ _ _ _ _ _ _ _ _ _ _ _ _ _ _ _ hJ))
  · exact lc_pegsIn_b1 X hX hbl hbA hL x q w a r H g p f h n kn d T fo o O y t th s sl z hh g6 d7 kc ks i (xs (i + 1)) h1 rfl hkc hks hi (V_widen (by omega) (by omega) (KK _ _ _ _ _ _ _ _ _ _ _ _ _ _ _ _ _ _ hJ))

set_option maxHeartbeats 4000000 in
set_option maxRecDepth 100000 in
theorem lt_tempoOf {E : EE} {G : gT} {A : Nat → Prop} {Q : State → Prop} {l : Launch} {b0 L : Nat} {xs : Nat → Int32} (X : Cx E G A 7 cL_law RL wsL_law room_1 l) (hX : va_X b0 L xs (e_s E) (e_s E).heap) (hbl : b0 < (e_s E).heap.size) (hbA : ¬ A b0) (hL : L ≤ 1536) (x q w : Nat) (a r p h y : Nat → Nat) (kc ks i : Nat) (hkc : kc + 8 ≤ 604766) (hks : ks + 83 ≤ 7281805) (hi : i + 3 ≤ L) (KK : LK E G A Q b0 x q w a r p h y 1602 i (kc + 8) (ks + 83)) : LK E G A Q b0 x q w a r p h y 799 i kc ks := by
  intro H g f n kn d T fo o O t th s sl z hh g6 d7 hJ
  obtain ⟨hI, hH, hkn, ⟨hn, hf⟩, ⟨t9, hR⟩, ⟨w9, hS⟩⟩ := id hJ
  by_cases h1 : okr 0 3 (xs (i + 1))
  · obtain ⟨c, hc1, hc, hu1⟩ := h1
    exact lc_tempoOf X hX hbl hbA hL x q w a r H g p f h n kn d T fo o O y t th s sl z hh g6 d7 kc ks i hI c (by omega) hu1 hkc hks hi (V_widen (by omega) (by omega) (KK _ _ _ _ _ _ _ _ _ _ _ _ _ _ _ _ _ _ hJ))
  · exact lc_tempoOf_b1 X hX hbl hbA hL x q w a r H g p f h n kn d T fo o O y t th s sl z hh g6 d7 kc ks i (xs (i + 1)) h1 rfl hkc hks hi (V_widen (by omega) (by omega) (KK _ _ _ _ _ _ _ _ _ _ _ _ _ _ _ _ _ _ hJ))

set_option maxHeartbeats 4000000 in
set_option maxRecDepth 100000 in
theorem lt_weightOf {E : EE} {G : gT} {A : Nat → Prop} {Q : State → Prop} {l : Launch} {b0 L : Nat} {xs : Nat → Int32} (X : Cx E G A 7 cL_law RL wsL_law room_1 l) (hX : va_X b0 L xs (e_s E) (e_s E).heap) (hbl : b0 < (e_s E).heap.size) (hbA : ¬ A b0) (hL : L ≤ 1536) (x q w : Nat) (a r p h y : Nat → Nat) (kc ks i : Nat) (hkc : kc + 8 ≤ 604766) (hks : ks + 83 ≤ 7281805) (hi : i + 3 ≤ L) (KK : LK E G A Q b0 x q w a r p h y 1602 i (kc + 8) (ks + 83)) : LK E G A Q b0 x q w a r p h y 855 i kc ks := by
  intro H g f n kn d T fo o O t th s sl z hh g6 d7 hJ
  obtain ⟨hI, hH, hkn, ⟨hn, hf⟩, ⟨t9, hR⟩, ⟨w9, hS⟩⟩ := id hJ
  by_cases h1 : okr 0 9 (xs (i + 1))
  · obtain ⟨c, hc1, hc, hu1⟩ := h1
    exact lc_weightOf X hX hbl hbA hL x q w a r H g p f h n kn d T fo o O y t th s sl z hh g6 d7 kc ks i hI c (by omega) hu1 hkc hks hi (V_widen (by omega) (by omega) (KK _ _ _ _ _ _ _ _ _ _ _ _ _ _ _ _ _ _ hJ))
  · exact lc_weightOf_b1 X hX hbl hbA hL x q w a r H g p f h n kn d T fo o O y t th s sl z hh g6 d7 kc ks i (xs (i + 1)) h1 rfl hkc hks hi (V_widen (by omega) (by omega) (KK _ _ _ _ _ _ _ _ _ _ _ _ _ _ _ _ _ _ hJ))

set_option maxHeartbeats 4000000 in
set_option maxRecDepth 100000 in
theorem lt_heardOf {E : EE} {G : gT} {A : Nat → Prop} {Q : State → Prop} {l : Launch} {b0 L : Nat} {xs : Nat → Int32} (X : Cx E G A 7 cL_law RL wsL_law room_1 l) (hX : va_X b0 L xs (e_s E) (e_s E).heap) (hbl : b0 < (e_s E).heap.size) (hbA : ¬ A b0) (hL : L ≤ 1536) (x q w : Nat) (a r p h y : Nat → Nat) (kc ks i : Nat) (hkc : kc + 8 ≤ 604766) (hks : ks + 83 ≤ 7281805) (hi : i + 3 ≤ L) (KK : LK E G A Q b0 x q w a r p h y 1602 i (kc + 8) (ks + 83)) : LK E G A Q b0 x q w a r p h y 937 i kc ks := by
  intro H g f n kn d T fo o O t th s sl z hh g6 d7 hJ
  obtain ⟨hI, hH, hkn, ⟨hn, hf⟩, ⟨t9, hR⟩, ⟨w9, hS⟩⟩ := id hJ
  by_cases h1 : okr 0 9 (xs (i + 1))
  · obtain ⟨c, hc1, hc, hu1⟩ := h1
    exact lc_heardOf X hX hbl hbA hL x q w a r H g p f h n kn d T fo o O y t th s sl z hh g6 d7 kc ks i hI c (by omega) hu1 hkc hks hi (V_widen (by omega) (by omega) (KK _ _ _ _ _ _ _ _ _ _ _ _ _ _ _ _ _ _ hJ))
  · exact lc_heardOf_b1 X hX hbl hbA hL x q w a r H g p f h n kn d T fo o O y t th s sl z hh g6 d7 kc ks i (xs (i + 1)) h1 rfl hkc hks hi (V_widen (by omega) (by omega) (KK _ _ _ _ _ _ _ _ _ _ _ _ _ _ _ _ _ _ hJ))

set_option maxHeartbeats 4000000 in
set_option maxRecDepth 100000 in
theorem lt_whyMissed {E : EE} {G : gT} {A : Nat → Prop} {Q : State → Prop} {l : Launch} {b0 L : Nat} {xs : Nat → Int32} (X : Cx E G A 7 cL_law RL wsL_law room_1 l) (hX : va_X b0 L xs (e_s E) (e_s E).heap) (hbl : b0 < (e_s E).heap.size) (hbA : ¬ A b0) (hL : L ≤ 1536) (x q w : Nat) (a r p h y : Nat → Nat) (kc ks i : Nat) (hkc : kc + 8 ≤ 604766) (hks : ks + 83 ≤ 7281805) (hi : i + 3 ≤ L) (KK : LK E G A Q b0 x q w a r p h y 1602 i (kc + 8) (ks + 83)) : LK E G A Q b0 x q w a r p h y 1047 i kc ks := by
  intro H g f n kn d T fo o O t th s sl z hh g6 d7 hJ
  obtain ⟨hI, hH, hkn, ⟨hn, hf⟩, ⟨t9, hR⟩, ⟨w9, hS⟩⟩ := id hJ
  by_cases h1 : okr 0 9 (xs (i + 1))
  · obtain ⟨c, hc1, hc, hu1⟩ := h1
    exact lc_whyMissed X hX hbl hbA hL x q w a r H g p f h n kn d T fo o O y t th s sl z hh g6 d7 kc ks i hI c (by omega) hu1 hkc hks hi (V_widen (by omega) (by omega) (KK _ _ _ _ _ _ _ _ _ _ _ _ _ _ _ _ _ _ hJ))
  · exact lc_whyMissed_b1 X hX hbl hbA hL x q w a r H g p f h n kn d T fo o O y t th s sl z hh g6 d7 kc ks i (xs (i + 1)) h1 rfl hkc hks hi (V_widen (by omega) (by omega) (KK _ _ _ _ _ _ _ _ _ _ _ _ _ _ _ _ _ _ hJ))

set_option maxHeartbeats 4000000 in
set_option maxRecDepth 100000 in
theorem lt_inRound {E : EE} {G : gT} {A : Nat → Prop} {Q : State → Prop} {l : Launch} {b0 L : Nat} {xs : Nat → Int32} (X : Cx E G A 7 cL_law RL wsL_law room_1 l) (hX : va_X b0 L xs (e_s E) (e_s E).heap) (hbl : b0 < (e_s E).heap.size) (hbA : ¬ A b0) (hL : L ≤ 1536) (x q w : Nat) (a r p h y : Nat → Nat) (kc ks i : Nat) (hkc : kc + 8 ≤ 604766) (hks : ks + 83 ≤ 7281805) (hi : i + 3 ≤ L) (KK : LK E G A Q b0 x q w a r p h y 1602 i (kc + 8) (ks + 83)) : LK E G A Q b0 x q w a r p h y 1103 i kc ks := by
  intro H g f n kn d T fo o O t th s sl z hh g6 d7 hJ
  obtain ⟨hI, hH, hkn, ⟨hn, hf⟩, ⟨t9, hR⟩, ⟨w9, hS⟩⟩ := id hJ
  by_cases h1 : okr 0 31 (xs (i + 1))
  · obtain ⟨c, hc1, hc, hu1⟩ := h1
    exact lc_inRound X hX hbl hbA hL x q w a r H g p f h n kn d T fo o O y t th s sl z hh g6 d7 kc ks i hI c (by omega) hu1 hkc hks hi (fun _ => V_widen (by omega) (by omega) (KK _ _ _ _ _ _ _ _ _ _ _ _ _ _ _ _ _ _ hJ))
  · exact lc_inRound_b1 X hX hbl hbA hL x q w a r H g p f h n kn d T fo o O y t th s sl z hh g6 d7 kc ks i (xs (i + 1)) h1 rfl hkc hks hi (V_widen (by omega) (by omega) (KK _ _ _ _ _ _ _ _ _ _ _ _ _ _ _ _ _ _ hJ))

set_option maxHeartbeats 4000000 in
set_option maxRecDepth 100000 in
theorem lt_turnRound {E : EE} {G : gT} {A : Nat → Prop} {Q : State → Prop} {l : Launch} {b0 L : Nat} {xs : Nat → Int32} (X : Cx E G A 7 cL_law RL wsL_law room_1 l) (hX : va_X b0 L xs (e_s E) (e_s E).heap) (hbl : b0 < (e_s E).heap.size) (hbA : ¬ A b0) (hL : L ≤ 1536) (x q w : Nat) (a r p h y : Nat → Nat) (kc ks i : Nat) (hkc : kc + 8 ≤ 604766) (hks : ks + 83 ≤ 7281805) (hi : i + 3 ≤ L) (KK : LK E G A Q b0 x q w a r p h y 1602 i (kc + 8) (ks + 83)) : LK E G A Q b0 x q w a r p h y 535 i kc ks := by
  intro H g f n kn d T fo o O t th s sl z hh g6 d7 hJ
  obtain ⟨hI, hH, hkn, ⟨hn, hf⟩, ⟨t9, hR⟩, ⟨w9, hS⟩⟩ := id hJ
  exact lc_turnRound X hX hbl hbA hL x q w a r H g p f h n kn d T fo o O y t th s sl z hh g6 d7 kc ks i hI hkn hkc hks hi (fun _ => V_widen (by omega) (by omega) (KK _ _ _ _ _ _ _ _ _ _ _ _ _ _ _ _ _ _ (INV_chg hJ (IV_pegs (sameB_trn _) (trn_lt hI) hI) (HV_sameB (sameB_trn _) (by decide) hH))))

set_option maxHeartbeats 4000000 in
set_option maxRecDepth 100000 in
theorem lt_raise {E : EE} {G : gT} {A : Nat → Prop} {Q : State → Prop} {l : Launch} {b0 L : Nat} {xs : Nat → Int32} (X : Cx E G A 7 cL_law RL wsL_law room_1 l) (hX : va_X b0 L xs (e_s E) (e_s E).heap) (hbl : b0 < (e_s E).heap.size) (hbA : ¬ A b0) (hL : L ≤ 1536) (x q w : Nat) (a r p h y : Nat → Nat) (kc ks i : Nat) (hkc : kc + 8 ≤ 604766) (hks : ks + 83 ≤ 7281805) (hi : i + 3 ≤ L) (KK : LK E G A Q b0 x q w a r p h y 1602 i (kc + 8) (ks + 83)) : LK E G A Q b0 x q w a r p h y 604 i kc ks := by
  intro H g f n kn d T fo o O t th s sl z hh g6 d7 hJ
  obtain ⟨hI, hH, hkn, ⟨hn, hf⟩, ⟨t9, hR⟩, ⟨w9, hS⟩⟩ := id hJ
  exact lc_raise X hX hbl hbA hL x q w a r H g p f h n kn d T fo o O y t th s sl z hh g6 d7 kc ks i hI hkn hkc hks hi (V_widen (by omega) (by omega) (KK _ _ _ _ _ _ _ _ _ _ _ _ _ _ _ _ _ _ (INV_chg hJ (IV_pegs (sameB_rsd _) (fun k hk => rsd_lt hk) hI) (HV_sameB (sameB_rsd _) (by decide) hH))))

set_option maxHeartbeats 4000000 in
set_option maxRecDepth 100000 in
theorem lt_turnBack {E : EE} {G : gT} {A : Nat → Prop} {Q : State → Prop} {l : Launch} {b0 L : Nat} {xs : Nat → Int32} (X : Cx E G A 7 cL_law RL wsL_law room_1 l) (hX : va_X b0 L xs (e_s E) (e_s E).heap) (hbl : b0 < (e_s E).heap.size) (hbA : ¬ A b0) (hL : L ≤ 1536) (x q w : Nat) (a r p h y : Nat → Nat) (kc ks i : Nat) (hkc : kc + 8 ≤ 604766) (hks : ks + 83 ≤ 7281805) (hi : i + 3 ≤ L) (KK : LK E G A Q b0 x q w a r p h y 1602 i (kc + 8) (ks + 83)) : LK E G A Q b0 x q w a r p h y 673 i kc ks := by
  intro H g f n kn d T fo o O t th s sl z hh g6 d7 hJ
  obtain ⟨hI, hH, hkn, ⟨hn, hf⟩, ⟨t9, hR⟩, ⟨w9, hS⟩⟩ := id hJ
  exact lc_turnBack X hX hbl hbA hL x q w a r H g p f h n kn d T fo o O y t th s sl z hh g6 d7 kc ks i hI hkn hkc hks hi (V_widen (by omega) (by omega) (KK _ _ _ _ _ _ _ _ _ _ _ _ _ _ _ _ _ _ (INV_chg hJ (IV_tbk hI) (HV_tbk hH))))

set_option maxHeartbeats 4000000 in
set_option maxRecDepth 100000 in
theorem lt_read {E : EE} {G : gT} {A : Nat → Prop} {Q : State → Prop} {l : Launch} {b0 L : Nat} {xs : Nat → Int32} (X : Cx E G A 7 cL_law RL wsL_law room_1 l) (hX : va_X b0 L xs (e_s E) (e_s E).heap) (hbl : b0 < (e_s E).heap.size) (hbA : ¬ A b0) (hL : L ≤ 1536) (x q w : Nat) (a r p h y : Nat → Nat) (kc ks i : Nat) (hkc : kc + 8 ≤ 604766) (hks : ks + 83 ≤ 7281805) (hi : i + 3 ≤ L) (KK : LK E G A Q b0 x q w a r p h y 1602 i (kc + 8) (ks + 83)) : LK E G A Q b0 x q w a r p h y 686 i kc ks := by
  intro H g f n kn d T fo o O t th s sl z hh g6 d7 hJ
  obtain ⟨hI, hH, hkn, ⟨hn, hf⟩, ⟨t9, hR⟩, ⟨w9, hS⟩⟩ := id hJ
  by_cases hv : ff f n = none
  · exact lc_read X hX hbl hbA hL x q w a r H g p f h n kn d T fo o O y t th s sl z hh g6 d7 kc ks i hI hkn hn hf hv hkc hks hi (V_widen (by omega) (by omega) (KK _ _ _ _ _ _ _ _ _ _ _ _ _ _ _ _ _ _ (INV_pad (INV_chg hJ (rd_inv (c := 9) (by decide) hv hI (n + 1) (Nat.le_refl _)).1 (HV_rdS hv hI hH (n + 1) (Nat.le_refl _))) (Nat.zero_le _) (fun k hk => absurd hk (Nat.not_lt_zero _)))))
  · exact lc_read_b1 X hX hbl hbA hL x q w a r H g p f h n kn d T fo o O y t th s sl z hh g6 d7 kc ks i hn hf hv hkc hks hi (V_widen (by omega) (by omega) (KK _ _ _ _ _ _ _ _ _ _ _ _ _ _ _ _ _ _ hJ))

set_option maxHeartbeats 4000000 in
set_option maxRecDepth 100000 in
theorem lt_pegs {E : EE} {G : gT} {A : Nat → Prop} {Q : State → Prop} {l : Launch} {b0 L : Nat} {xs : Nat → Int32} (X : Cx E G A 7 cL_law RL wsL_law room_1 l) (hX : va_X b0 L xs (e_s E) (e_s E).heap) (hbl : b0 < (e_s E).heap.size) (hbA : ¬ A b0) (hL : L ≤ 1536) (x q w : Nat) (a r p h y : Nat → Nat) (kc ks i : Nat) (hkc : kc + 8 ≤ 604766) (hks : ks + 83 ≤ 7281805) (hi : i + 3 ≤ L) (KK : LK E G A Q b0 x q w a r p h y 1602 i (kc + 8) (ks + 83)) : LK E G A Q b0 x q w a r p h y 786 i kc ks := by
  intro H g f n kn d T fo o O t th s sl z hh g6 d7 hJ
  obtain ⟨hI, hH, hkn, ⟨hn, hf⟩, ⟨t9, hR⟩, ⟨w9, hS⟩⟩ := id hJ
  exact lc_pegs X hX hbl hbA hL x q w a r H g p f h n kn d T fo o O y t th s sl z hh g6 d7 kc ks i hI hkc hks hi (V_widen (by omega) (by omega) (KK _ _ _ _ _ _ _ _ _ _ _ _ _ _ _ _ _ _ hJ))

set_option maxHeartbeats 4000000 in
set_option maxRecDepth 100000 in
theorem lt_column {E : EE} {G : gT} {A : Nat → Prop} {Q : State → Prop} {l : Launch} {b0 L : Nat} {xs : Nat → Int32} (X : Cx E G A 7 cL_law RL wsL_law room_1 l) (hX : va_X b0 L xs (e_s E) (e_s E).heap) (hbl : b0 < (e_s E).heap.size) (hbA : ¬ A b0) (hL : L ≤ 1536) (x q w : Nat) (a r p h y : Nat → Nat) (kc ks i : Nat) (hkc : kc + 8 ≤ 604766) (hks : ks + 83 ≤ 7281805) (hi : i + 3 ≤ L) (KK : LK E G A Q b0 x q w a r p h y 1602 i (kc + 8) (ks + 83)) : LK E G A Q b0 x q w a r p h y 911 i kc ks := by
  intro H g f n kn d T fo o O t th s sl z hh g6 d7 hJ
  obtain ⟨hI, hH, hkn, ⟨hn, hf⟩, ⟨t9, hR⟩, ⟨w9, hS⟩⟩ := id hJ
  exact lc_column X hX hbl hbA hL x q w a r H g p f h n kn d T fo o O y t th s sl z hh g6 d7 kc ks i hI hkc hks hi (V_widen (by omega) (by omega) (KK _ _ _ _ _ _ _ _ _ _ _ _ _ _ _ _ _ _ hJ))

set_option maxHeartbeats 4000000 in
set_option maxRecDepth 100000 in
theorem lt_time {E : EE} {G : gT} {A : Nat → Prop} {Q : State → Prop} {l : Launch} {b0 L : Nat} {xs : Nat → Int32} (X : Cx E G A 7 cL_law RL wsL_law room_1 l) (hX : va_X b0 L xs (e_s E) (e_s E).heap) (hbl : b0 < (e_s E).heap.size) (hbA : ¬ A b0) (hL : L ≤ 1536) (x q w : Nat) (a r p h y : Nat → Nat) (kc ks i : Nat) (hkc : kc + 8 ≤ 604766) (hks : ks + 83 ≤ 7281805) (hi : i + 3 ≤ L) (KK : LK E G A Q b0 x q w a r p h y 1602 i (kc + 8) (ks + 83)) : LK E G A Q b0 x q w a r p h y 924 i kc ks := by
  intro H g f n kn d T fo o O t th s sl z hh g6 d7 hJ
  obtain ⟨hI, hH, hkn, ⟨hn, hf⟩, ⟨t9, hR⟩, ⟨w9, hS⟩⟩ := id hJ
  exact lc_time X hX hbl hbA hL x q w a r H g p f h n kn d T fo o O y t th s sl z hh g6 d7 kc ks i hI hkc hks hi (V_widen (by omega) (by omega) (KK _ _ _ _ _ _ _ _ _ _ _ _ _ _ _ _ _ _ hJ))

set_option maxHeartbeats 4000000 in
set_option maxRecDepth 100000 in
theorem lt_missed {E : EE} {G : gT} {A : Nat → Prop} {Q : State → Prop} {l : Launch} {b0 L : Nat} {xs : Nat → Int32} (X : Cx E G A 7 cL_law RL wsL_law room_1 l) (hX : va_X b0 L xs (e_s E) (e_s E).heap) (hbl : b0 < (e_s E).heap.size) (hbA : ¬ A b0) (hL : L ≤ 1536) (x q w : Nat) (a r p h y : Nat → Nat) (kc ks i : Nat) (hkc : kc + 8 ≤ 604766) (hks : ks + 83 ≤ 7281805) (hi : i + 3 ≤ L) (KK : LK E G A Q b0 x q w a r p h y 1602 i (kc + 8) (ks + 83)) : LK E G A Q b0 x q w a r p h y 1034 i kc ks := by
  intro H g f n kn d T fo o O t th s sl z hh g6 d7 hJ
  obtain ⟨hI, hH, hkn, ⟨hn, hf⟩, ⟨t9, hR⟩, ⟨w9, hS⟩⟩ := id hJ
  exact lc_missed X hX hbl hbA hL x q w a r H g p f h n kn d T fo o O y t th s sl z hh g6 d7 kc ks i hI hkc hks hi (V_widen (by omega) (by omega) (KK _ _ _ _ _ _ _ _ _ _ _ _ _ _ _ _ _ _ hJ))

set_option maxHeartbeats 4000000 in
set_option maxRecDepth 100000 in
theorem lt_missedInRound {E : EE} {G : gT} {A : Nat → Prop} {Q : State → Prop} {l : Launch} {b0 L : Nat} {xs : Nat → Int32} (X : Cx E G A 7 cL_law RL wsL_law room_1 l) (hX : va_X b0 L xs (e_s E) (e_s E).heap) (hbl : b0 < (e_s E).heap.size) (hbA : ¬ A b0) (hL : L ≤ 1536) (x q w : Nat) (a r p h y : Nat → Nat) (kc ks i : Nat) (hkc : kc + 8 ≤ 604766) (hks : ks + 83 ≤ 7281805) (hi : i + 3 ≤ L) (KK : LK E G A Q b0 x q w a r p h y 1602 i (kc + 8) (ks + 83)) : LK E G A Q b0 x q w a r p h y 1241 i kc ks := by
  intro H g f n kn d T fo o O t th s sl z hh g6 d7 hJ
  obtain ⟨hI, hH, hkn, ⟨hn, hf⟩, ⟨t9, hR⟩, ⟨w9, hS⟩⟩ := id hJ
  exact lc_missedInRound X hX hbl hbA hL x q w a r H g p f h n kn d T fo o O y t th s sl z hh g6 d7 kc ks i hI hkc hks hi (fun _ => V_widen (by omega) (by omega) (KK _ _ _ _ _ _ _ _ _ _ _ _ _ _ _ _ _ _ hJ))

set_option maxHeartbeats 4000000 in
set_option maxRecDepth 100000 in
theorem lt_busiest {E : EE} {G : gT} {A : Nat → Prop} {Q : State → Prop} {l : Launch} {b0 L : Nat} {xs : Nat → Int32} (X : Cx E G A 7 cL_law RL wsL_law room_1 l) (hX : va_X b0 L xs (e_s E) (e_s E).heap) (hbl : b0 < (e_s E).heap.size) (hbA : ¬ A b0) (hL : L ≤ 1536) (x q w : Nat) (a r p h y : Nat → Nat) (kc ks i : Nat) (hkc : kc + 8 ≤ 604766) (hks : ks + 83 ≤ 7281805) (hi : i + 3 ≤ L) (KK : LK E G A Q b0 x q w a r p h y 1602 i (kc + 8) (ks + 83)) : LK E G A Q b0 x q w a r p h y 1254 i kc ks := by
  intro H g f n kn d T fo o O t th s sl z hh g6 d7 hJ
  obtain ⟨hI, hH, hkn, ⟨hn, hf⟩, ⟨t9, hR⟩, ⟨w9, hS⟩⟩ := id hJ
  exact lc_busiest X hX hbl hbA hL x q w a r H g p f h n kn d T fo o O y t th s sl z hh g6 d7 kc ks i hI hkc hks hi (fun _ => V_widen (by omega) (by omega) (KK _ _ _ _ _ _ _ _ _ _ _ _ _ _ _ _ _ _ hJ))

set_option maxHeartbeats 4000000 in
set_option maxRecDepth 100000 in
theorem lt_longestSilence {E : EE} {G : gT} {A : Nat → Prop} {Q : State → Prop} {l : Launch} {b0 L : Nat} {xs : Nat → Int32} (X : Cx E G A 7 cL_law RL wsL_law room_1 l) (hX : va_X b0 L xs (e_s E) (e_s E).heap) (hbl : b0 < (e_s E).heap.size) (hbA : ¬ A b0) (hL : L ≤ 1536) (x q w : Nat) (a r p h y : Nat → Nat) (kc ks i : Nat) (hkc : kc + 8 ≤ 604766) (hks : ks + 83 ≤ 7281805) (hi : i + 3 ≤ L) (KK : LK E G A Q b0 x q w a r p h y 1602 i (kc + 8) (ks + 83)) : LK E G A Q b0 x q w a r p h y 1267 i kc ks := by
  intro H g f n kn d T fo o O t th s sl z hh g6 d7 hJ
  obtain ⟨hI, hH, hkn, ⟨hn, hf⟩, ⟨t9, hR⟩, ⟨w9, hS⟩⟩ := id hJ
  exact lc_longestSilence X hX hbl hbA hL x q w a r H g p f h n kn d T fo o O y t th s sl z hh g6 d7 kc ks i hI hkc hks hi (fun _ => V_widen (by omega) (by omega) (KK _ _ _ _ _ _ _ _ _ _ _ _ _ _ _ _ _ _ hJ))

set_option maxHeartbeats 4000000 in
set_option maxRecDepth 100000 in
theorem lt_enoughBound {E : EE} {G : gT} {A : Nat → Prop} {Q : State → Prop} {l : Launch} {b0 L : Nat} {xs : Nat → Int32} (X : Cx E G A 7 cL_law RL wsL_law room_1 l) (hX : va_X b0 L xs (e_s E) (e_s E).heap) (hbl : b0 < (e_s E).heap.size) (hbA : ¬ A b0) (hL : L ≤ 1536) (x q w : Nat) (a r p h y : Nat → Nat) (kc ks i : Nat) (hkc : kc + 8 ≤ 604766) (hks : ks + 83 ≤ 7281805) (hi : i + 3 ≤ L) (KK : LK E G A Q b0 x q w a r p h y 1602 i (kc + 8) (ks + 83)) : LK E G A Q b0 x q w a r p h y 1280 i kc ks := by
  intro H g f n kn d T fo o O t th s sl z hh g6 d7 hJ
  obtain ⟨hI, hH, hkn, ⟨hn, hf⟩, ⟨t9, hR⟩, ⟨w9, hS⟩⟩ := id hJ
  exact lc_enoughBound X hX hbl hbA hL x q w a r H g p f h n kn d T fo o O y t th s sl z hh g6 d7 kc ks i hI hkc hks hi (fun _ _ _ => V_widen (by omega) (by omega) (KK _ _ _ _ _ _ _ _ _ _ _ _ _ _ _ _ _ _ hJ))

set_option maxHeartbeats 4000000 in
set_option maxRecDepth 100000 in
theorem lt_heaviestColumn {E : EE} {G : gT} {A : Nat → Prop} {Q : State → Prop} {l : Launch} {b0 L : Nat} {xs : Nat → Int32} (X : Cx E G A 7 cL_law RL wsL_law room_1 l) (hX : va_X b0 L xs (e_s E) (e_s E).heap) (hbl : b0 < (e_s E).heap.size) (hbA : ¬ A b0) (hL : L ≤ 1536) (x q w : Nat) (a r p h y : Nat → Nat) (kc ks i : Nat) (hkc : kc + 8 ≤ 604766) (hks : ks + 83 ≤ 7281805) (hi : i + 3 ≤ L) (KK : LK E G A Q b0 x q w a r p h y 1602 i (kc + 8) (ks + 83)) : LK E G A Q b0 x q w a r p h y 1293 i kc ks := by
  intro H g f n kn d T fo o O t th s sl z hh g6 d7 hJ
  obtain ⟨hI, hH, hkn, ⟨hn, hf⟩, ⟨t9, hR⟩, ⟨w9, hS⟩⟩ := id hJ
  exact lc_heaviestColumn X hX hbl hbA hL x q w a r H g p f h n kn d T fo o O y t th s sl z hh g6 d7 kc ks i hI hkc hks hi (fun _ => V_widen (by omega) (by omega) (KK _ _ _ _ _ _ _ _ _ _ _ _ _ _ _ _ _ _ hJ))

set_option maxHeartbeats 4000000 in
set_option maxRecDepth 100000 in
theorem lt_heard {E : EE} {G : gT} {A : Nat → Prop} {Q : State → Prop} {l : Launch} {b0 L : Nat} {xs : Nat → Int32} (X : Cx E G A 7 cL_law RL wsL_law room_1 l) (hX : va_X b0 L xs (e_s E) (e_s E).heap) (hbl : b0 < (e_s E).heap.size) (hbA : ¬ A b0) (hL : L ≤ 1536) (x q w : Nat) (a r p h y : Nat → Nat) (kc ks i : Nat) (hkc : kc + 8 ≤ 604766) (hks : ks + 83 ≤ 7281805) (hi : i + 3 ≤ L) (KK : LK E G A Q b0 x q w a r p h y 1602 i (kc + 8) (ks + 83)) : LK E G A Q b0 x q w a r p h y 993 i kc ks := by
  intro H g f n kn d T fo o O t th s sl z hh g6 d7 hJ
  obtain ⟨hI, hH, hkn, ⟨hn, hf⟩, ⟨t9, hR⟩, ⟨w9, hS⟩⟩ := id hJ
  exact lc_heard X hX hbl hbA hL x q w a r H g p f h n kn d T fo o O y t th s sl z hh g6 d7 kc ks i hI hH (xs (i + 1)) rfl hkc hks hi (V_widen (by omega) (by omega) (KK _ _ _ _ _ _ _ _ _ _ _ _ _ _ _ _ _ _ hJ))

set_option maxHeartbeats 4000000 in
set_option maxRecDepth 100000 in
theorem lt_heardInRound {E : EE} {G : gT} {A : Nat → Prop} {Q : State → Prop} {l : Launch} {b0 L : Nat} {xs : Nat → Int32} (X : Cx E G A 7 cL_law RL wsL_law room_1 l) (hX : va_X b0 L xs (e_s E) (e_s E).heap) (hbl : b0 < (e_s E).heap.size) (hbA : ¬ A b0) (hL : L ≤ 1536) (x q w : Nat) (a r p h y : Nat → Nat) (kc ks i : Nat) (hkc : kc + 8 ≤ 604766) (hks : ks + 83 ≤ 7281805) (hi : i + 3 ≤ L) (KK : LK E G A Q b0 x q w a r p h y 1602 i (kc + 8) (ks + 83)) : LK E G A Q b0 x q w a r p h y 1159 i kc ks := by
  intro H g f n kn d T fo o O t th s sl z hh g6 d7 hJ
  obtain ⟨hI, hH, hkn, ⟨hn, hf⟩, ⟨t9, hR⟩, ⟨w9, hS⟩⟩ := id hJ
  exact lc_heardInRound X hX hbl hbA hL x q w a r H g p f h n kn d T fo o O y t th s sl z hh g6 d7 kc ks i hI (xs (i + 1)) rfl hkc hks hi (fun _ => V_widen (by omega) (by omega) (KK _ _ _ _ _ _ _ _ _ _ _ _ _ _ _ _ _ _ hJ))

set_option maxHeartbeats 4000000 in
set_option maxRecDepth 100000 in
theorem lt_ticksOfRound {E : EE} {G : gT} {A : Nat → Prop} {Q : State → Prop} {l : Launch} {b0 L : Nat} {xs : Nat → Int32} (X : Cx E G A 7 cL_law RL wsL_law room_1 l) (hX : va_X b0 L xs (e_s E) (e_s E).heap) (hbl : b0 < (e_s E).heap.size) (hbA : ¬ A b0) (hL : L ≤ 1536) (x q w : Nat) (a r p h y : Nat → Nat) (kc ks i : Nat) (hkc : kc + 8 ≤ 604766) (hks : ks + 83 ≤ 7281805) (hi : i + 3 ≤ L) (KK : LK E G A Q b0 x q w a r p h y 1602 i (kc + 8) (ks + 83)) : LK E G A Q b0 x q w a r p h y 1200 i kc ks := by
  intro H g f n kn d T fo o O t th s sl z hh g6 d7 hJ
  obtain ⟨hI, hH, hkn, ⟨hn, hf⟩, ⟨t9, hR⟩, ⟨w9, hS⟩⟩ := id hJ
  exact lc_ticksOfRound X hX hbl hbA hL x q w a r H g p f h n kn d T fo o O y t th s sl z hh g6 d7 kc ks i hI (xs (i + 1)) rfl hkc hks hi (V_widen (by omega) (by omega) (KK _ _ _ _ _ _ _ _ _ _ _ _ _ _ _ _ _ _ hJ))

set_option maxHeartbeats 4000000 in
set_option maxRecDepth 100000 in
theorem lt_put {E : EE} {G : gT} {A : Nat → Prop} {Q : State → Prop} {l : Launch} {b0 L : Nat} {xs : Nat → Int32} (X : Cx E G A 7 cL_law RL wsL_law room_1 l) (hX : va_X b0 L xs (e_s E) (e_s E).heap) (hbl : b0 < (e_s E).heap.size) (hbA : ¬ A b0) (hL : L ≤ 1536) (x q w : Nat) (a r p h y : Nat → Nat) (kc ks i : Nat) (hkc : kc + 8 ≤ 604766) (hks : ks + 83 ≤ 7281805) (hi : i + 3 ≤ L) (KK : LK E G A Q b0 x q w a r p h y 1602 i (kc + 8) (ks + 83)) : LK E G A Q b0 x q w a r p h y 1306 i kc ks := by
  intro H g f n kn d T fo o O t th s sl z hh g6 d7 hJ
  obtain ⟨hI, hH, hkn, ⟨hn, hf⟩, ⟨t9, hR⟩, ⟨w9, hS⟩⟩ := id hJ
  obtain ⟨v, hv, ev⟩ := i64_lN (((xs (i + 1)).toInt64 <<< ((nI 32).toInt64 &&& 63)) ||| ((xs (i + 2)).toInt64 &&& lN 4294967295))
  by_cases h1 : cin v = 0
  · exact lc_put_b1 X hX hbl hbA hL x q w a r H g p f h n kn d T fo o O y t th s sl z hh g6 d7 kc ks i hn hf v hv (xs (i + 1)) (xs (i + 2)) ev rfl rfl h1 hkc hks hi (V_widen (by omega) (by omega) (KK _ _ _ _ _ _ _ _ _ _ _ _ _ _ _ _ _ _ hJ))
  · by_cases h2 : n + cin v ≤ 60
    · exact lc_put X hX hbl hbA hL x q w a r H g p f h n kn d T fo o O y t th s sl z hh g6 d7 kc ks i hn hf v hv (xs (i + 1)) (xs (i + 2)) ev rfl rfl h1 h2 hkc hks hi (V_widen (by omega) (by omega) (KK _ _ _ _ _ _ _ _ _ _ _ _ _ _ _ _ _ _ (INV_pad hJ h2 (ap_lt rfl h1 hf))))
    · exact lc_put_b2 X hX hbl hbA hL x q w a r H g p f h n kn d T fo o O y t th s sl z hh g6 d7 kc ks i hn hf v hv (xs (i + 1)) (xs (i + 2)) ev rfl rfl h1 h2 hkc hks hi (V_widen (by omega) (by omega) (KK _ _ _ _ _ _ _ _ _ _ _ _ _ _ _ _ _ _ hJ))

set_option maxHeartbeats 4000000 in
set_option maxRecDepth 100000 in
theorem lt_wipe {E : EE} {G : gT} {A : Nat → Prop} {Q : State → Prop} {l : Launch} {b0 L : Nat} {xs : Nat → Int32} (X : Cx E G A 7 cL_law RL wsL_law room_1 l) (hX : va_X b0 L xs (e_s E) (e_s E).heap) (hbl : b0 < (e_s E).heap.size) (hbA : ¬ A b0) (hL : L ≤ 1536) (x q w : Nat) (a r p h y : Nat → Nat) (kc ks i : Nat) (hkc : kc + 8 ≤ 604766) (hks : ks + 83 ≤ 7281805) (hi : i + 3 ≤ L) (KK : LK E G A Q b0 x q w a r p h y 1602 i (kc + 8) (ks + 83)) : LK E G A Q b0 x q w a r p h y 1394 i kc ks := by
  intro H g f n kn d T fo o O t th s sl z hh g6 d7 hJ
  obtain ⟨hI, hH, hkn, ⟨hn, hf⟩, ⟨t9, hR⟩, ⟨w9, hS⟩⟩ := id hJ
  exact lc_wipe X hX hbl hbA hL x q w a r H g p f h n kn d T fo o O y t th s sl z hh g6 d7 kc ks i hn hf hkc hks hi (V_widen (by omega) (by omega) (KK _ _ _ _ _ _ _ _ _ _ _ _ _ _ _ _ _ _ (INV_pad hJ (Nat.zero_le _) (fun k hk => absurd hk (Nat.not_lt_zero _)))))

set_option maxHeartbeats 4000000 in
set_option maxRecDepth 100000 in
theorem lt_padLength {E : EE} {G : gT} {A : Nat → Prop} {Q : State → Prop} {l : Launch} {b0 L : Nat} {xs : Nat → Int32} (X : Cx E G A 7 cL_law RL wsL_law room_1 l) (hX : va_X b0 L xs (e_s E) (e_s E).heap) (hbl : b0 < (e_s E).heap.size) (hbA : ¬ A b0) (hL : L ≤ 1536) (x q w : Nat) (a r p h y : Nat → Nat) (kc ks i : Nat) (hkc : kc + 8 ≤ 604766) (hks : ks + 83 ≤ 7281805) (hi : i + 3 ≤ L) (KK : LK E G A Q b0 x q w a r p h y 1602 i (kc + 8) (ks + 83)) : LK E G A Q b0 x q w a r p h y 1407 i kc ks := by
  intro H g f n kn d T fo o O t th s sl z hh g6 d7 hJ
  obtain ⟨hI, hH, hkn, ⟨hn, hf⟩, ⟨t9, hR⟩, ⟨w9, hS⟩⟩ := id hJ
  exact lc_padLength X hX hbl hbA hL x q w a r H g p f h n kn d T fo o O y t th s sl z hh g6 d7 kc ks i hn hf hkc hks hi (V_widen (by omega) (by omega) (KK _ _ _ _ _ _ _ _ _ _ _ _ _ _ _ _ _ _ hJ))

set_option maxHeartbeats 4000000 in
set_option maxRecDepth 100000 in
theorem lt_fault {E : EE} {G : gT} {A : Nat → Prop} {Q : State → Prop} {l : Launch} {b0 L : Nat} {xs : Nat → Int32} (X : Cx E G A 7 cL_law RL wsL_law room_1 l) (hX : va_X b0 L xs (e_s E) (e_s E).heap) (hbl : b0 < (e_s E).heap.size) (hbA : ¬ A b0) (hL : L ≤ 1536) (x q w : Nat) (a r p h y : Nat → Nat) (kc ks i : Nat) (hkc : kc + 8 ≤ 604766) (hks : ks + 83 ≤ 7281805) (hi : i + 3 ≤ L) (KK : LK E G A Q b0 x q w a r p h y 1602 i (kc + 8) (ks + 83)) : LK E G A Q b0 x q w a r p h y 1420 i kc ks := by
  intro H g f n kn d T fo o O t th s sl z hh g6 d7 hJ
  obtain ⟨hI, hH, hkn, ⟨hn, hf⟩, ⟨t9, hR⟩, ⟨w9, hS⟩⟩ := id hJ
  exact lc_fault X hX hbl hbA hL x q w a r H g p f h n kn d T fo o O y t th s sl z hh g6 d7 kc ks i hn hf hkc hks hi (V_widen (by omega) (by omega) (KK _ _ _ _ _ _ _ _ _ _ _ _ _ _ _ _ _ _ hJ))

set_option maxHeartbeats 4000000 in
set_option maxRecDepth 100000 in
theorem lt_undo {E : EE} {G : gT} {A : Nat → Prop} {Q : State → Prop} {l : Launch} {b0 L : Nat} {xs : Nat → Int32} (X : Cx E G A 7 cL_law RL wsL_law room_1 l) (hX : va_X b0 L xs (e_s E) (e_s E).heap) (hbl : b0 < (e_s E).heap.size) (hbA : ¬ A b0) (hL : L ≤ 1536) (x q w : Nat) (a r p h y : Nat → Nat) (kc ks i : Nat) (hkc : kc + 8 ≤ 604766) (hks : ks + 83 ≤ 7281805) (hi : i + 3 ≤ L) (KK : LK E G A Q b0 x q w a r p h y 1602 i (kc + 8) (ks + 83)) : LK E G A Q b0 x q w a r p h y 1433 i kc ks := by
  intro H g f n kn d T fo o O t th s sl z hh g6 d7 hJ
  obtain ⟨hI, hH, hkn, ⟨hn, hf⟩, ⟨t9, hR⟩, ⟨w9, hS⟩⟩ := id hJ
  rcases kn with _ | m
  · exact lc_undo_b1 X hX hbl hbA hL x q w a r H g p f h n 0 d T fo o O y t th s sl z hh g6 d7 kc ks i  hkc hks hi (V_widen (by omega) (by omega) (KK _ _ _ _ _ _ _ _ _ _ _ _ _ _ _ _ _ _ hJ))
  · obtain ⟨e1, e2, e3, e4⟩ := hR m (Nat.lt_succ_self m)
    exact lc_undo X hX hbl hbA hL x q w a r H g p f h n (m + 1) d T fo o O y t th s sl z hh g6 d7 kc ks i m (by omega) (t9 m) e1 e4 hkc hks hi (V_widen (by omega) (by omega) (KK _ _ _ _ _ _ _ _ _ _ _ _ _ _ _ _ _ _ ⟨e2, e3, by omega, ⟨hn, hf⟩, ⟨t9, HR2_less hR⟩, ⟨w9, hS⟩⟩))

set_option maxHeartbeats 4000000 in
set_option maxRecDepth 100000 in
theorem lt_undoable {E : EE} {G : gT} {A : Nat → Prop} {Q : State → Prop} {l : Launch} {b0 L : Nat} {xs : Nat → Int32} (X : Cx E G A 7 cL_law RL wsL_law room_1 l) (hX : va_X b0 L xs (e_s E) (e_s E).heap) (hbl : b0 < (e_s E).heap.size) (hbA : ¬ A b0) (hL : L ≤ 1536) (x q w : Nat) (a r p h y : Nat → Nat) (kc ks i : Nat) (hkc : kc + 8 ≤ 604766) (hks : ks + 83 ≤ 7281805) (hi : i + 3 ≤ L) (KK : LK E G A Q b0 x q w a r p h y 1602 i (kc + 8) (ks + 83)) : LK E G A Q b0 x q w a r p h y 1477 i kc ks := by
  intro H g f n kn d T fo o O t th s sl z hh g6 d7 hJ
  obtain ⟨hI, hH, hkn, ⟨hn, hf⟩, ⟨t9, hR⟩, ⟨w9, hS⟩⟩ := id hJ
  exact lc_undoable X hX hbl hbA hL x q w a r H g p f h n kn d T fo o O y t th s sl z hh g6 d7 kc ks i  hkc hks hi (V_widen (by omega) (by omega) (KK _ _ _ _ _ _ _ _ _ _ _ _ _ _ _ _ _ _ hJ))

set_option maxHeartbeats 4000000 in
set_option maxRecDepth 100000 in
theorem lt_save {E : EE} {G : gT} {A : Nat → Prop} {Q : State → Prop} {l : Launch} {b0 L : Nat} {xs : Nat → Int32} (X : Cx E G A 7 cL_law RL wsL_law room_1 l) (hX : va_X b0 L xs (e_s E) (e_s E).heap) (hbl : b0 < (e_s E).heap.size) (hbA : ¬ A b0) (hL : L ≤ 1536) (x q w : Nat) (a r p h y : Nat → Nat) (kc ks i : Nat) (hkc : kc + 8 ≤ 604766) (hks : ks + 83 ≤ 7281805) (hi : i + 3 ≤ L) (KK : LK E G A Q b0 x q w a r p h y 1602 i (kc + 8) (ks + 83)) : LK E G A Q b0 x q w a r p h y 1490 i kc ks := by
  intro H g f n kn d T fo o O t th s sl z hh g6 d7 hJ
  obtain ⟨hI, hH, hkn, ⟨hn, hf⟩, ⟨t9, hR⟩, ⟨w9, hS⟩⟩ := id hJ
  by_cases h1 : okr 0 1 (xs (i + 1))
  · obtain ⟨c, -, hc, hu1⟩ := h1
    rcases (show c = 0 ∨ c = 1 by omega) with rfl | rfl
    · rcases hS 0 (by decide) with ⟨h3, h4⟩ | ⟨b, h3, h4, h5, h6, h7, h8⟩
      · exact lc_save_none X hX hbl hbA hL x q w a r H g p f h n kn d T fo o O y t th s sl z hh g6 d7 kc ks i hI 0 (by decide) hu1 h3 hkc hks hi (fun _ => V_widen (by omega) (by omega) (KK _ _ _ _ _ _ _ _ _ _ _ _ _ _ _ _ _ _ ⟨hI, hH, hkn, ⟨hn, hf⟩, ⟨t9, hR⟩, ⟨_, SL2_save (c := 0) (b := _) (by decide) hI hH hS⟩⟩))
      · exact lc_save_some X hX hbl hbA hL x q w a r H g p f h n kn d T fo o O y t th s sl z hh g6 d7 kc ks i hI 0 (by decide) hu1 b h3 hkc hks hi (V_widen (by omega) (by omega) (KK _ _ _ _ _ _ _ _ _ _ _ _ _ _ _ _ _ _ ⟨hI, hH, hkn, ⟨hn, hf⟩, ⟨t9, hR⟩, ⟨_, SL2_some (c := 0) h3 (SL2_save (c := 0) (b := b) (by decide) hI hH hS)⟩⟩))
    · rcases hS 1 (by decide) with ⟨h3, h4⟩ | ⟨b, h3, h4, h5, h6, h7, h8⟩
      · exact V_ord [0, 1, 2, 3, 4, 5, 6, 7, 8, 9, 10, 11, 12, 13, 14, 15, 17, 16] _ pm_58 rfl (lc_save_none X hX hbl hbA hL x q w a r H g p f h n kn d T fo o O y t th s sl z hh g6 d7 kc ks i hI 1 (by decide) hu1 h3 hkc hks hi (fun _ => V_ord [0, 1, 2, 3, 4, 5, 6, 7, 8, 9, 10, 11, 12, 13, 14, 15, 17, 16] _ pm_58 rfl (V_widen (by omega) (by omega) (KK _ _ _ _ _ _ _ _ _ _ _ _ _ _ _ _ _ _ ⟨hI, hH, hkn, ⟨hn, hf⟩, ⟨t9, hR⟩, ⟨_, SL2_save (c := 1) (b := _) (by decide) hI hH hS⟩⟩))))
      · exact V_ord [0, 1, 2, 3, 4, 5, 6, 7, 8, 9, 10, 11, 12, 13, 14, 15, 17, 16] _ pm_58 rfl (lc_save_some X hX hbl hbA hL x q w a r H g p f h n kn d T fo o O y t th s sl z hh g6 d7 kc ks i hI 1 (by decide) hu1 b h3 hkc hks hi (V_ord [0, 1, 2, 3, 4, 5, 6, 7, 8, 9, 10, 11, 12, 13, 14, 15, 17, 16] _ pm_58 rfl (V_widen (by omega) (by omega) (KK _ _ _ _ _ _ _ _ _ _ _ _ _ _ _ _ _ _ ⟨hI, hH, hkn, ⟨hn, hf⟩, ⟨t9, hR⟩, ⟨_, SL2_some (c := 1) h3 (SL2_save (c := 1) (b := b) (by decide) hI hH hS)⟩⟩))))
  · exact lc_save_b1 X hX hbl hbA hL x q w a r H g p f h n kn d T fo o O y t th s sl z hh g6 d7 kc ks i (xs (i + 1)) h1 rfl hkc hks hi (V_widen (by omega) (by omega) (KK _ _ _ _ _ _ _ _ _ _ _ _ _ _ _ _ _ _ hJ))

set_option maxHeartbeats 4000000 in
set_option maxRecDepth 100000 in
theorem lt_restore {E : EE} {G : gT} {A : Nat → Prop} {Q : State → Prop} {l : Launch} {b0 L : Nat} {xs : Nat → Int32} (X : Cx E G A 7 cL_law RL wsL_law room_1 l) (hX : va_X b0 L xs (e_s E) (e_s E).heap) (hbl : b0 < (e_s E).heap.size) (hbA : ¬ A b0) (hL : L ≤ 1536) (x q w : Nat) (a r p h y : Nat → Nat) (kc ks i : Nat) (hkc : kc + 8 ≤ 604766) (hks : ks + 83 ≤ 7281805) (hi : i + 3 ≤ L) (KK : LK E G A Q b0 x q w a r p h y 1602 i (kc + 8) (ks + 83)) : LK E G A Q b0 x q w a r p h y 1546 i kc ks := by
  intro H g f n kn d T fo o O t th s sl z hh g6 d7 hJ
  obtain ⟨hI, hH, hkn, ⟨hn, hf⟩, ⟨t9, hR⟩, ⟨w9, hS⟩⟩ := id hJ
  by_cases h1 : okr 0 1 (xs (i + 1))
  · obtain ⟨c, -, hc, hu1⟩ := h1
    rcases (show c = 0 ∨ c = 1 by omega) with rfl | rfl
    · rcases hS 0 (by decide) with ⟨h3, h4⟩ | ⟨b, h3, h4, h5, h6, h7, h8⟩
      · exact lc_restore_b2 X hX hbl hbA hL x q w a r H g p f h n kn d T fo o O y t th s sl z hh g6 d7 kc ks i 0 (by decide) hu1 h3 h4 hkc hks hi (V_widen (by omega) (by omega) (KK _ _ _ _ _ _ _ _ _ _ _ _ _ _ _ _ _ _ hJ))
      · exact lc_restore X hX hbl hbA hL x q w a r H g p f h n kn d T fo o O y t th s sl z hh g6 d7 kc ks i hI hkn 0 (by decide) hu1 b h3 h4 (w9 0) h6 h5 h8 hkc hks hi (V_widen (by omega) (by omega) (KK _ _ _ _ _ _ _ _ _ _ _ _ _ _ _ _ _ _ (INV_chg hJ h6 h7)))
    · rcases hS 1 (by decide) with ⟨h3, h4⟩ | ⟨b, h3, h4, h5, h6, h7, h8⟩
      · exact lc_restore_b2 X hX hbl hbA hL x q w a r H g p f h n kn d T fo o O y t th s sl z hh g6 d7 kc ks i 1 (by decide) hu1 h3 h4 hkc hks hi (V_widen (by omega) (by omega) (KK _ _ _ _ _ _ _ _ _ _ _ _ _ _ _ _ _ _ hJ))
      · exact V_ord [0, 1, 2, 3, 4, 5, 6, 7, 8, 9, 10, 11, 12, 13, 14, 15, 17, 16] _ pm_58 rfl (lc_restore X hX hbl hbA hL x q w a r H g p f h n kn d T fo o O y t th s sl z hh g6 d7 kc ks i hI hkn 1 (by decide) hu1 b h3 h4 (w9 1) h6 h5 h8 hkc hks hi (V_ord [0, 1, 2, 3, 4, 5, 6, 7, 8, 9, 10, 11, 12, 13, 14, 15, 17, 16] _ pm_58 rfl (V_widen (by omega) (by omega) (KK _ _ _ _ _ _ _ _ _ _ _ _ _ _ _ _ _ _ (INV_chg hJ h6 h7)))))
  · exact lc_restore_b1 X hX hbl hbA hL x q w a r H g p f h n kn d T fo o O y t th s sl z hh g6 d7 kc ks i (xs (i + 1)) h1 rfl hkc hks hi (V_widen (by omega) (by omega) (KK _ _ _ _ _ _ _ _ _ _ _ _ _ _ _ _ _ _ hJ))

set_option maxHeartbeats 4000000 in
set_option maxRecDepth 100000 in
theorem lt_all {E : EE} {G : gT} {A : Nat → Prop} {Q : State → Prop} {l : Launch} {b0 L : Nat} {xs : Nat → Int32} (X : Cx E G A 7 cL_law RL wsL_law room_1 l) (hX : va_X b0 L xs (e_s E) (e_s E).heap) (hbl : b0 < (e_s E).heap.size) (hbA : ¬ A b0) (hL : L ≤ 1536) (x q w : Nat) (a r p h y : Nat → Nat) (kc ks i : Nat) (hkc : kc + 8 ≤ 604766) (hks : ks + 83 ≤ 7281805) (hi : i + 3 ≤ L) (KK : LK E G A Q b0 x q w a r p h y 1602 i (kc + 8) (ks + 83)) : LK E G A Q b0 x q w a r p h y 32 i kc ks := by
  intro H g f n kn d T fo o O t th s sl z hh g6 d7 hJ
  refine V_aload_n (pc' := 33) 0 X dL_law_32 rfl rfl rfl ?_
  refine V_iload (pc' := 35) 4 X dL_law_33 rfl rfl ?_
  refine V_sld (pc' := 36) (v := xs i) X hX hbl hbA (j := i) (by omega) (by omega) rfl dL_law_35 rfl ?_
  refine V_bipush (pc' := 38) (nI 63) X dL_law_36 kb_63 rfl ?_
  obtain ⟨v, hv, ev⟩ := pk_andE (xs i) (m := nI 63) 6 (by decide +kernel)
  refine V_iand (pc' := 39) (nI v) X dL_law_38 ev rfl ?_
  by_cases h37 : v < 37
  · clear ev hv
    match v, h37 with
    | 0, _ => exact V_tableIn (off := 161) (tgt := 200) X dL_law_39 (by decide +kernel) (by decide +kernel) (by decide +kernel) (by decide) (lt_turnPeg X hX hbl hbA hL x q w a r p h y kc ks i hkc hks hi KK H g f n kn d T fo o O t th s sl z hh g6 d7 hJ)
    | 1, _ => exact V_tableIn (off := 236) (tgt := 275) X dL_law_39 (by decide +kernel) (by decide +kernel) (by decide +kernel) (by decide) (lt_setColumn X hX hbl hbA hL x q w a r p h y kc ks i hkc hks hi KK H g f n kn d T fo o O t th s sl z hh g6 d7 hJ)
    | 2, _ => exact V_tableIn (off := 304) (tgt := 343) X dL_law_39 (by decide +kernel) (by decide +kernel) (by decide +kernel) (by decide) (lt_setTempo X hX hbl hbA hL x q w a r p h y kc ks i hkc hks hi KK H g f n kn d T fo o O t th s sl z hh g6 d7 hJ)
    | 3, _ => exact V_tableIn (off := 372) (tgt := 411) X dL_law_39 (by decide +kernel) (by decide +kernel) (by decide +kernel) (by decide) (lt_setWeight X hX hbl hbA hL x q w a r p h y kc ks i hkc hks hi KK H g f n kn d T fo o O t th s sl z hh g6 d7 hJ)
    | 4, _ => exact V_tableIn (off := 440) (tgt := 479) X dL_law_39 (by decide +kernel) (by decide +kernel) (by decide +kernel) (by decide) (lt_setBound X hX hbl hbA hL x q w a r p h y kc ks i hkc hks hi KK H g f n kn d T fo o O t th s sl z hh g6 d7 hJ)
    | 5, _ => exact V_tableIn (off := 496) (tgt := 535) X dL_law_39 (by decide +kernel) (by decide +kernel) (by decide +kernel) (by decide) (lt_turnRound X hX hbl hbA hL x q w a r p h y kc ks i hkc hks hi KK H g f n kn d T fo o O t th s sl z hh g6 d7 hJ)
    | 6, _ => exact V_tableIn (off := 509) (tgt := 548) X dL_law_39 (by decide +kernel) (by decide +kernel) (by decide +kernel) (by decide) (lt_move X hX hbl hbA hL x q w a r p h y kc ks i hkc hks hi KK H g f n kn d T fo o O t th s sl z hh g6 d7 hJ)
    | 7, _ => exact V_tableIn (off := 565) (tgt := 604) X dL_law_39 (by decide +kernel) (by decide +kernel) (by decide +kernel) (by decide) (lt_raise X hX hbl hbA hL x q w a r p h y kc ks i hkc hks hi KK H g f n kn d T fo o O t th s sl z hh g6 d7 hJ)
    | 8, _ => exact V_tableIn (off := 578) (tgt := 617) X dL_law_39 (by decide +kernel) (by decide +kernel) (by decide +kernel) (by decide) (lt_crank X hX hbl hbA hL x q w a r p h y kc ks i hkc hks hi KK H g f n kn d T fo o O t th s sl z hh g6 d7 hJ)
    | 9, _ => exact V_tableIn (off := 634) (tgt := 673) X dL_law_39 (by decide +kernel) (by decide +kernel) (by decide +kernel) (by decide) (lt_turnBack X hX hbl hbA hL x q w a r p h y kc ks i hkc hks hi KK H g f n kn d T fo o O t th s sl z hh g6 d7 hJ)
    | 10, _ => exact V_tableIn (off := 647) (tgt := 686) X dL_law_39 (by decide +kernel) (by decide +kernel) (by decide +kernel) (by decide) (lt_read X hX hbl hbA hL x q w a r p h y kc ks i hkc hks hi KK H g f n kn d T fo o O t th s sl z hh g6 d7 hJ)
    | 11, _ => exact V_tableIn (off := 691) (tgt := 730) X dL_law_39 (by decide +kernel) (by decide +kernel) (by decide +kernel) (by decide) (lt_pegsIn X hX hbl hbA hL x q w a r p h y kc ks i hkc hks hi KK H g f n kn d T fo o O t th s sl z hh g6 d7 hJ)
    | 12, _ => exact V_tableIn (off := 747) (tgt := 786) X dL_law_39 (by decide +kernel) (by decide +kernel) (by decide +kernel) (by decide) (lt_pegs X hX hbl hbA hL x q w a r p h y kc ks i hkc hks hi KK H g f n kn d T fo o O t th s sl z hh g6 d7 hJ)
    | 13, _ => exact V_tableIn (off := 760) (tgt := 799) X dL_law_39 (by decide +kernel) (by decide +kernel) (by decide +kernel) (by decide) (lt_tempoOf X hX hbl hbA hL x q w a r p h y kc ks i hkc hks hi KK H g f n kn d T fo o O t th s sl z hh g6 d7 hJ)
    | 14, _ => exact V_tableIn (off := 816) (tgt := 855) X dL_law_39 (by decide +kernel) (by decide +kernel) (by decide +kernel) (by decide) (lt_weightOf X hX hbl hbA hL x q w a r p h y kc ks i hkc hks hi KK H g f n kn d T fo o O t th s sl z hh g6 d7 hJ)
    | 15, _ => exact V_tableIn (off := 872) (tgt := 911) X dL_law_39 (by decide +kernel) (by decide +kernel) (by decide +kernel) (by decide) (lt_column X hX hbl hbA hL x q w a r p h y kc ks i hkc hks hi KK H g f n kn d T fo o O t th s sl z hh g6 d7 hJ)
    | 16, _ => exact V_tableIn (off := 885) (tgt := 924) X dL_law_39 (by decide +kernel) (by decide +kernel) (by decide +kernel) (by decide) (lt_time X hX hbl hbA hL x q w a r p h y kc ks i hkc hks hi KK H g f n kn d T fo o O t th s sl z hh g6 d7 hJ)
    | 17, _ => exact V_tableIn (off := 898) (tgt := 937) X dL_law_39 (by decide +kernel) (by decide +kernel) (by decide +kernel) (by decide) (lt_heardOf X hX hbl hbA hL x q w a r p h y kc ks i hkc hks hi KK H g f n kn d T fo o O t th s sl z hh g6 d7 hJ)
    | 18, _ => exact V_tableIn (off := 954) (tgt := 993) X dL_law_39 (by decide +kernel) (by decide +kernel) (by decide +kernel) (by decide) (lt_heard X hX hbl hbA hL x q w a r p h y kc ks i hkc hks hi KK H g f n kn d T fo o O t th s sl z hh g6 d7 hJ)
    | 19, _ => exact V_tableIn (off := 995) (tgt := 1034) X dL_law_39 (by decide +kernel) (by decide +kernel) (by decide +kernel) (by decide) (lt_missed X hX hbl hbA hL x q w a r p h y kc ks i hkc hks hi KK H g f n kn d T fo o O t th s sl z hh g6 d7 hJ)
    | 20, _ => exact V_tableIn (off := 1008) (tgt := 1047) X dL_law_39 (by decide +kernel) (by decide +kernel) (by decide +kernel) (by decide) (lt_whyMissed X hX hbl hbA hL x q w a r p h y kc ks i hkc hks hi KK H g f n kn d T fo o O t th s sl z hh g6 d7 hJ)
    | 21, _ => exact V_tableIn (off := 1064) (tgt := 1103) X dL_law_39 (by decide +kernel) (by decide +kernel) (by decide +kernel) (by decide) (lt_inRound X hX hbl hbA hL x q w a r p h y kc ks i hkc hks hi KK H g f n kn d T fo o O t th s sl z hh g6 d7 hJ)
    | 22, _ => exact V_tableIn (off := 1120) (tgt := 1159) X dL_law_39 (by decide +kernel) (by decide +kernel) (by decide +kernel) (by decide) (lt_heardInRound X hX hbl hbA hL x q w a r p h y kc ks i hkc hks hi KK H g f n kn d T fo o O t th s sl z hh g6 d7 hJ)
    | 23, _ => exact V_tableIn (off := 1161) (tgt := 1200) X dL_law_39 (by decide +kernel) (by decide +kernel) (by decide +kernel) (by decide) (lt_ticksOfRound X hX hbl hbA hL x q w a r p h y kc ks i hkc hks hi KK H g f n kn d T fo o O t th s sl z hh g6 d7 hJ)
    | 24, _ => exact V_tableIn (off := 1202) (tgt := 1241) X dL_law_39 (by decide +kernel) (by decide +kernel) (by decide +kernel) (by decide) (lt_missedInRound X hX hbl hbA hL x q w a r p h y kc ks i hkc hks hi KK H g f n kn d T fo o O t th s sl z hh g6 d7 hJ)
    | 25, _ => exact V_tableIn (off := 1215) (tgt := 1254) X dL_law_39 (by decide +kernel) (by decide +kernel) (by decide +kernel) (by decide) (lt_busiest X hX hbl hbA hL x q w a r p h y kc ks i hkc hks hi KK H g f n kn d T fo o O t th s sl z hh g6 d7 hJ)
    | 26, _ => exact V_tableIn (off := 1228) (tgt := 1267) X dL_law_39 (by decide +kernel) (by decide +kernel) (by decide +kernel) (by decide) (lt_longestSilence X hX hbl hbA hL x q w a r p h y kc ks i hkc hks hi KK H g f n kn d T fo o O t th s sl z hh g6 d7 hJ)
    | 27, _ => exact V_tableIn (off := 1241) (tgt := 1280) X dL_law_39 (by decide +kernel) (by decide +kernel) (by decide +kernel) (by decide) (lt_enoughBound X hX hbl hbA hL x q w a r p h y kc ks i hkc hks hi KK H g f n kn d T fo o O t th s sl z hh g6 d7 hJ)
    | 28, _ => exact V_tableIn (off := 1254) (tgt := 1293) X dL_law_39 (by decide +kernel) (by decide +kernel) (by decide +kernel) (by decide) (lt_heaviestColumn X hX hbl hbA hL x q w a r p h y kc ks i hkc hks hi KK H g f n kn d T fo o O t th s sl z hh g6 d7 hJ)
    | 29, _ => exact V_tableIn (off := 1267) (tgt := 1306) X dL_law_39 (by decide +kernel) (by decide +kernel) (by decide +kernel) (by decide) (lt_put X hX hbl hbA hL x q w a r p h y kc ks i hkc hks hi KK H g f n kn d T fo o O t th s sl z hh g6 d7 hJ)
    | 30, _ => exact V_tableIn (off := 1355) (tgt := 1394) X dL_law_39 (by decide +kernel) (by decide +kernel) (by decide +kernel) (by decide) (lt_wipe X hX hbl hbA hL x q w a r p h y kc ks i hkc hks hi KK H g f n kn d T fo o O t th s sl z hh g6 d7 hJ)
    | 31, _ => exact V_tableIn (off := 1368) (tgt := 1407) X dL_law_39 (by decide +kernel) (by decide +kernel) (by decide +kernel) (by decide) (lt_padLength X hX hbl hbA hL x q w a r p h y kc ks i hkc hks hi KK H g f n kn d T fo o O t th s sl z hh g6 d7 hJ)
    | 32, _ => exact V_tableIn (off := 1381) (tgt := 1420) X dL_law_39 (by decide +kernel) (by decide +kernel) (by decide +kernel) (by decide) (lt_fault X hX hbl hbA hL x q w a r p h y kc ks i hkc hks hi KK H g f n kn d T fo o O t th s sl z hh g6 d7 hJ)
    | 33, _ => exact V_tableIn (off := 1394) (tgt := 1433) X dL_law_39 (by decide +kernel) (by decide +kernel) (by decide +kernel) (by decide) (lt_undo X hX hbl hbA hL x q w a r p h y kc ks i hkc hks hi KK H g f n kn d T fo o O t th s sl z hh g6 d7 hJ)
    | 34, _ => exact V_tableIn (off := 1438) (tgt := 1477) X dL_law_39 (by decide +kernel) (by decide +kernel) (by decide +kernel) (by decide) (lt_undoable X hX hbl hbA hL x q w a r p h y kc ks i hkc hks hi KK H g f n kn d T fo o O t th s sl z hh g6 d7 hJ)
    | 35, _ => exact V_tableIn (off := 1451) (tgt := 1490) X dL_law_39 (by decide +kernel) (by decide +kernel) (by decide +kernel) (by decide) (lt_save X hX hbl hbA hL x q w a r p h y kc ks i hkc hks hi KK H g f n kn d T fo o O t th s sl z hh g6 d7 hJ)
    | 36, _ => exact V_tableIn (off := 1507) (tgt := 1546) X dL_law_39 (by decide +kernel) (by decide +kernel) (by decide +kernel) (by decide) (lt_restore X hX hbl hbA hL x q w a r p h y kc ks i hkc hks hi KK H g f n kn d T fo o O t th s sl z hh g6 d7 hJ)
    | v + 37, h => exact absurd h (by omega)
  · refine V_tableOut (tgt := 1602) X dL_law_39 (Or.inr (by rw [nI_toInt (by omega)]; omega)) (by decide) ?_
    exact V_widen (by omega) (by omega) (KK H g f n kn d T fo o O t th s sl z hh g6 d7 hJ)
theorem lw_gt {L i : Nat} (hL : L ≤ 1536) (hi : i ≤ 1536) : (nI L - nI 3 < nI i) ↔ ¬ i + 3 ≤ L := by
  rw [Int32.lt_iff_toInt_lt, pk_sub_toInt (by omega) (by decide), nI_toInt (by omega)]
  omega
set_option maxHeartbeats 4000000 in
set_option maxRecDepth 100000 in
theorem lw_loop {E : EE} {G : gT} {A : Nat → Prop} {Q : State → Prop} {l : Launch} {b0 L : Nat} {xs : Nat → Int32} (X : Cx E G A 7 cL_law RL wsL_law room_1 l) (hX : va_X b0 L xs (e_s E) (e_s E).heap) (hbl : b0 < (e_s E).heap.size) (hbA : ¬ A b0) (hL : L ≤ 1536) (x q w : Nat) (a r p h y : Nat → Nat)
    (KE : ∀ (bs : List va_W) (lv : List (Nat × Value)) (kc ks : Nat), kc ≤ 604766 → ks ≤ 7281805 → V E G A 7 bs kc ks Q 1608 lv []) :
    ∀ (m i kc ks : Nat), i ≤ L → L + 1 ≤ i + m → kc + 8 * m ≤ 604766 → ks + 83 * m ≤ 7281805 → LK E G A Q b0 x q w a r p h y 23 i kc ks := by
  intro m
  induction m with
  | zero => intro i kc ks h1 h2; exact absurd h2 (by omega)
  | succ m ih =>
    intro i kc ks h1 h2 h3 h4 H g f n kn d T fo o O t th s sl z hh g6 d7 hJ
    refine V_iload (pc' := 25) 4 X dL_law_23 rfl rfl ?_
    refine V_aload_n (pc' := 26) 0 X dL_law_25 rfl rfl rfl ?_
    refine V_slen (pc' := 27) X hX hbl hbA dL_law_26 rfl ?_
    refine V_iconst (pc' := 28) (nI 3) X dL_law_27 ki_3 rfl ?_
    refine V_isub (pc' := 29) (nI L - nI 3) X dL_law_28 rfl rfl ?_
    refine V_icmp_gt (pc' := 32) (C := ¬ i + 3 ≤ L) 1608 X dL_law_29 (by decide) rfl (lw_gt hL (by omega)) (fun _ => KE _ _ _ _ (by omega) (by omega)) (fun hc => ?_)
    have hi : i + 3 ≤ L := Classical.not_not.mp hc
    refine lt_all X hX hbl hbA hL x q w a r p h y kc ks i (by omega) (by omega) hi ?_ H g f n kn d T fo o O t th s sl z hh g6 d7 hJ
    intro H g f n kn d T fo o O t th s sl z hh g6 d7 hJ
    refine V_iinc (pc' := 1605) [(0, .ref b0), (1, .ref x), (2, .ref (y 0)), (3, .ref w), (4, .int (nI (i + 3)))] 4 [1, 2, 3, 4, 0] X dL_law_1602 rfl (nI_i3 i) (Nat.le_of_ble_eq_true rfl) rfl rfl ?_
    refine V_goto (pc' := 23) X dL_law_1605 (by decide) ?_
    exact ih (i + 3) (kc + 8) (ks + 83) (by omega) (by omega) (by omega) (by omega) H g f n kn d T fo o O t th s sl z hh g6 d7 hJ
