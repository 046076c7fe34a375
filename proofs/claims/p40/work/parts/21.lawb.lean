/-! the law's methods: holds, round, change -/
theorem why_lt (S : Nat → Nat) (b : Nat) : why S b < 4 := by
  rcases why_cases S b with ⟨_, h, _⟩ | ⟨_, h, _⟩ | ⟨_, h, _⟩ <;> omega
theorem z_m1 {a b : Nat} (h : b + 1 = a) : nI b = nI a + (-1) := by subst h; exact (pk_m1 b).symm
theorem pgs_same {S S' : Nat → Nat} (h : ∀ k, k < 32 → S' k = S k) : pgs S' = pgs S := sm_congr (fun k hk => by rw [h k hk])
set_option maxHeartbeats 4000000 in
set_option maxRecDepth 100000 in
theorem c_L_holds (l : Launch) (G : gT) (x K : Nat) (S : Nat → Nat) (n : Nat) (T : Nat → Nat → Nat) (P : Nat → Option (Nat → Nat)) (w : va_W) (hw : OJ G x K S n T P w) (hK : K ≤ 100000) : CM l G yL_holds wsL_holds 5 129 1 [.ref x] [w] 0 0 (fun v u => v = some (.int (nI 1)) ∧ ∃ (w' : va_W), OJ G x K S n T P w' ∧ u = [w']) := by
  refine CM_of RL 4 98 rfl rfl (by decide) (by decide +kernel) (Nat.le_of_ble_eq_true rfl) (fun E A X hrt hnm => ?_)
  generalize hQ : QM E G A _ _ _ = Q
  obtain ⟨i1, i2, i3, i4, i5, i6⟩ := hw.iv
  have h48 := hw.2.1.2.2.2.1
  show V E G A 12 [w] 0 0 Q 0 [(0, .ref x)] []
  refine V_iconst (pc' := 1) (nI 0) X dL_holds_0 ki_0 rfl ?_
  refine V_istore_n (pc' := 2) [(0, .ref x), (1, .int (nI 0))] [1, 0] X dL_holds_1 rfl (Nat.le_of_ble_eq_true rfl) rfl rfl ?_
  refine V_iconst (pc' := 3) (nI 0) X dL_holds_2 ki_0 rfl ?_
  refine V_istore_n (pc' := 4) [(0, .ref x), (1, .int (nI 0)), (2, .int (nI 0))] [1, 2, 0] X dL_holds_3 rfl (Nat.le_of_ble_eq_true rfl) rfl rfl ?_
  refine V_iconst (pc' := 5) (nI 0) X dL_holds_4 ki_0 rfl ?_
  refine V_istore_n (pc' := 6) [(0, .ref x), (1, .int (nI 0)), (2, .int (nI 0)), (3, .int (nI 0))] [1, 2, 3, 0] X dL_holds_5 rfl (Nat.le_of_ble_eq_true rfl) rfl rfl ?_
  refine V_iconst (pc' := 7) (nI 0) X dL_holds_6 ki_0 rfl ?_
  refine V_istore (pc' := 9) [(0, .ref x), (1, .int (nI 0)), (2, .int (nI 0)), (3, .int (nI 0)), (4, .int (nI 0))] [1, 2, 3, 4, 0] X dL_holds_7 (Nat.le_of_ble_eq_true rfl) rfl rfl ?_
  refine V_iconst (pc' := 10) (-1) X dL_holds_9 rfl rfl ?_
  refine V_istore (pc' := 12) [(0, .ref x), (1, .int (nI 0)), (2, .int (nI 0)), (3, .int (nI 0)), (4, .int (nI 0)), (5, .int (-1))] [1, 2, 3, 4, 5, 0] X dL_holds_10 (Nat.le_of_ble_eq_true rfl) rfl rfl ?_
  refine V_iconst (pc' := 13) (nI 0) X dL_holds_12 ki_0 rfl ?_
  refine V_istore (pc' := 15) [(0, .ref x), (1, .int (nI 0)), (2, .int (nI 0)), (3, .int (nI 0)), (4, .int (nI 0)), (5, .int (-1)), (6, .int (nI 0))] [1, 2, 3, 4, 5, 6, 0] X dL_holds_13 (Nat.le_of_ble_eq_true rfl) rfl rfl ?_
  refine V_aload_n (pc' := 16) 0 X dL_holds_15 rfl rfl rfl ?_
  refine O_column (pc' := 19) (st := []) hw X gL_holds_X5_column (Nat.le_of_ble_eq_true rfl) ⟨Nat.le_of_ble_eq_true rfl, Nat.le_of_ble_eq_true rfl⟩ ⟨Nat.le_of_ble_eq_true rfl, Nat.le_of_ble_eq_true rfl⟩ dL_holds_16 rfl (fun w_1 hw_1 => ?_)
  refine V_if_lt (pc' := 22) (C := False) 35 X dL_holds_19 (by decide) rfl (z_lt0 (by omega)) (fun hz => absurd hz (by decide)) (fun _ => ?_)
  refine V_aload_n (pc' := 23) 0 X dL_holds_22 rfl rfl rfl ?_
  refine O_column (pc' := 26) (st := []) hw_1 X gL_holds_X5_column (Nat.le_of_ble_eq_true rfl) ⟨Nat.le_of_ble_eq_true rfl, Nat.le_of_ble_eq_true rfl⟩ ⟨Nat.le_of_ble_eq_true rfl, Nat.le_of_ble_eq_true rfl⟩ dL_holds_23 rfl (fun w_2 hw_2 => ?_)
  refine V_bipush (pc' := 28) (nI 32) X dL_holds_26 kb_32 rfl ?_
  refine V_icmp_ge (pc' := 31) (C := 32 ≤ (S 47)) 35 X dL_holds_28 (by decide) rfl (nI_leI (by omega) (by omega)) (fun hz => absurd hz (by omega)) (fun _ => ?_)
  refine V_iconst (pc' := 32) (nI 1) X dL_holds_31 ki_1 rfl ?_
  refine V_goto (pc' := 36) X dL_holds_32 (by decide) ?_
  refine V_istore (pc' := 38) [(0, .ref x), (1, .int (nI 0)), (2, .int (nI 0)), (3, .int (nI 0)), (4, .int (nI 0)), (5, .int (-1)), (6, .int (nI 0)), (7, .int (nI 1))] [1, 2, 3, 4, 5, 6, 7, 0] X dL_holds_36 (Nat.le_of_ble_eq_true rfl) rfl rfl ?_
  refine V_iconst (pc' := 39) (nI 0) X dL_holds_38 ki_0 rfl ?_
  refine V_istore (pc' := 41) [(0, .ref x), (1, .int (nI 0)), (2, .int (nI 0)), (3, .int (nI 0)), (4, .int (nI 0)), (5, .int (-1)), (6, .int (nI 0)), (7, .int (nI 1)), (8, .int (nI 0))] [1, 2, 3, 4, 5, 6, 7, 8, 0] X dL_holds_39 (Nat.le_of_ble_eq_true rfl) rfl rfl ?_
  have lp_1 : ∀ i, i ≤ 32 → ∀ (wl_1 : va_W), OJ G x K S n T P wl_1 → V E G A 12 [wl_1] 0 0 Q 41 [(0, .ref x), (1, .int (nI (sm (fun k => cnt (rh 3 S (S 46) k)) i))), (2, .int (nI (sm (fun k => cnt (S k)) i))), (3, .int (nI ((lsn (rh 3 S (S 46)) i).2))), (4, .int (nI ((lsn (rh 3 S (S 46)) i).1))), (5, .int (rN (bz (fun k => wIn (fun k => S (36 + k)) (rh 3 S (S 46) k)) i).1)), (6, .int (nI ((bz (fun k => wIn (fun k => S (36 + k)) (rh 3 S (S 46) k)) i).2))), (7, .int (nI 1)), (8, .int (nI i))] [] := by
    refine loopD 32 ?_ ?_
    · intro wl_1 hl_1
      show V E G A 12 [wl_1] 0 0 Q 41 [(0, .ref x), (1, .int (nI (sm (fun k => cnt (rh 3 S (S 46) k)) 32))), (2, .int (nI (sm (fun k => cnt (S k)) 32))), (3, .int (nI ((lsn (rh 3 S (S 46)) 32).2))), (4, .int (nI ((lsn (rh 3 S (S 46)) 32).1))), (5, .int (rN (bz (fun k => wIn (fun k => S (36 + k)) (rh 3 S (S 46) k)) 32).1)), (6, .int (nI ((bz (fun k => wIn (fun k => S (36 + k)) (rh 3 S (S 46) k)) 32).2))), (7, .int (nI 1)), (8, .int (nI 32))] []
      refine V_iload (pc' := 43) 8 X dL_holds_41 rfl rfl ?_
      refine V_bipush (pc' := 45) (nI 32) X dL_holds_43 kb_32 rfl ?_
      refine V_icmp_ge (pc' := 48) (C := 32 ≤ 32) 205 X dL_holds_45 (by decide) rfl (nI_leI (by omega) (by omega)) (fun _ => ?_) (fun hz => absurd (by omega) hz)
      refine V_aload_n (pc' := 206) 0 X dL_holds_205 rfl rfl rfl ?_
      refine O_busiest (pc' := 209) (st := []) hl_1 X gL_holds_X5_busiest (Nat.le_of_ble_eq_true rfl) ⟨Nat.le_of_ble_eq_true rfl, Nat.le_of_ble_eq_true rfl⟩ ⟨Nat.le_of_ble_eq_true rfl, Nat.le_of_ble_eq_true rfl⟩ dL_holds_206 rfl (fun w_3 hw_3 => ?_)
      refine V_istore (pc' := 211) [(0, .ref x), (1, .int (nI (sm (fun k => cnt (rh 3 S (S 46) k)) 32))), (2, .int (nI (sm (fun k => cnt (S k)) 32))), (3, .int (nI ((lsn (rh 3 S (S 46)) 32).2))), (4, .int (nI ((lsn (rh 3 S (S 46)) 32).1))), (5, .int (rN (bz (fun k => wIn (fun k => S (36 + k)) (rh 3 S (S 46) k)) 32).1)), (6, .int (nI ((bz (fun k => wIn (fun k => S (36 + k)) (rh 3 S (S 46) k)) 32).2))), (7, .int (nI 1)), (8, .int (rN (bz (fun k => sm (fun j => bq (rh 3 S (S 46) j) k) 32) 10).1))] [1, 2, 3, 4, 5, 6, 7, 8, 0] X dL_holds_209 (Nat.le_of_ble_eq_true rfl) rfl rfl ?_
      refine V_iload (pc' := 213) 7 X dL_holds_211 rfl rfl ?_
      refine V_if_eq (pc' := 216) (C := 1 = 0) 330 X dL_holds_213 (by decide) rfl (z_eq0 (by omega)) (fun hz => absurd hz (by decide)) (fun _ => ?_)
      refine V_aload_n (pc' := 217) 0 X dL_holds_216 rfl rfl rfl ?_
      refine O_pegs (pc' := 220) (st := []) hw_3 X gL_holds_X5_pegs (Nat.le_of_ble_eq_true rfl) ⟨Nat.le_of_ble_eq_true rfl, Nat.le_of_ble_eq_true rfl⟩ ⟨Nat.le_of_ble_eq_true rfl, Nat.le_of_ble_eq_true rfl⟩ dL_holds_217 rfl (fun w_4 hw_4 => ?_)
      refine V_iload_n (pc' := 221) 2 X dL_holds_220 rfl rfl rfl ?_
      refine V_icmp_ne (pc' := 224) (C := (nI (pgs S)) = (nI (sm (fun k => cnt (S k)) 32))) 330 X dL_holds_221 (by decide) rfl Iff.rfl (fun hz => absurd (rfl) hz) (fun _ => ?_)
      refine V_aload_n (pc' := 225) 0 X dL_holds_224 rfl rfl rfl ?_
      refine V_iconst (pc' := 226) (nI 1) X dL_holds_225 ki_1 rfl ?_
      refine O_heardInRound (pc' := 229) (st := []) 1 (by decide) hw_4 X gL_holds_X5_heardInRound (Nat.le_of_ble_eq_true rfl) ⟨Nat.le_of_ble_eq_true rfl, Nat.le_of_ble_eq_true rfl⟩ ⟨Nat.le_of_ble_eq_true rfl, Nat.le_of_ble_eq_true rfl⟩ dL_holds_226 rfl (fun w_5 hw_5 => ?_)
      refine V_iload_n (pc' := 230) 1 X dL_holds_229 rfl rfl rfl ?_
      refine V_icmp_ne (pc' := 233) (C := (nI (sm (fun k => cnt (rh 3 S (S 46) k)) 32)) = (nI (sm (fun k => cnt (rh 3 S (S 46) k)) 32))) 330 X dL_holds_230 (by decide) rfl Iff.rfl (fun hz => absurd (rfl) hz) (fun _ => ?_)
      refine V_aload_n (pc' := 234) 0 X dL_holds_233 rfl rfl rfl ?_
      refine V_iconst (pc' := 235) (nI 0) X dL_holds_234 ki_0 rfl ?_
      refine O_heardInRound (pc' := 238) (st := []) 0 (by decide) hw_5 X gL_holds_X5_heardInRound (Nat.le_of_ble_eq_true rfl) ⟨Nat.le_of_ble_eq_true rfl, Nat.le_of_ble_eq_true rfl⟩ ⟨Nat.le_of_ble_eq_true rfl, Nat.le_of_ble_eq_true rfl⟩ dL_holds_235 rfl (fun w_6 hw_6 => ?_)
      refine V_iload_n (pc' := 239) 1 X dL_holds_238 rfl rfl rfl ?_
      refine V_icmp_ne (pc' := 242) (C := (nI (sm (fun k => cnt (rh 3 S (S 46) k)) 32)) = (nI (sm (fun k => cnt (rh 3 S (S 46) k)) 32))) 330 X dL_holds_239 (by decide) rfl Iff.rfl (fun hz => absurd (rfl) hz) (fun _ => ?_)
      refine V_aload_n (pc' := 243) 0 X dL_holds_242 rfl rfl rfl ?_
      refine O_missedInRound (pc' := 246) (st := []) hw_6 X gL_holds_X5_missedInRound (Nat.le_of_ble_eq_true rfl) ⟨Nat.le_of_ble_eq_true rfl, Nat.le_of_ble_eq_true rfl⟩ ⟨Nat.le_of_ble_eq_true rfl, Nat.le_of_ble_eq_true rfl⟩ dL_holds_243 rfl (fun w_7 hw_7 => ?_)
      refine V_iload_n (pc' := 247) 2 X dL_holds_246 rfl rfl rfl ?_
      refine V_iload_n (pc' := 248) 1 X dL_holds_247 rfl rfl rfl ?_
      refine V_isub (pc' := 249) (nI ((sm (fun k => cnt (S k)) 32) - (sm (fun k => cnt (rh 3 S (S 46) k)) 32))) X dL_holds_248 (pk_sub (sm_sub (fun k _ => rh_cnt S (S 46) k)).2) rfl ?_
      refine V_icmp_ne (pc' := 252) (C := (nI (pgs S - sm (fun k => cnt (rh 3 S (S 46) k)) 32)) = (nI ((sm (fun k => cnt (S k)) 32) - (sm (fun k => cnt (rh 3 S (S 46) k)) 32)))) 330 X dL_holds_249 (by decide) rfl Iff.rfl (fun hz => absurd (rfl) hz) (fun _ => ?_)
      refine V_aload_n (pc' := 253) 0 X dL_holds_252 rfl rfl rfl ?_
      refine O_longestSilence (pc' := 256) (st := []) hw_7 X gL_holds_X5_longestSilence (Nat.le_of_ble_eq_true rfl) ⟨Nat.le_of_ble_eq_true rfl, Nat.le_of_ble_eq_true rfl⟩ ⟨Nat.le_of_ble_eq_true rfl, Nat.le_of_ble_eq_true rfl⟩ dL_holds_253 rfl (fun w_8 hw_8 => ?_)
      refine V_iload (pc' := 258) 4 X dL_holds_256 rfl rfl ?_
      refine V_icmp_ne (pc' := 261) (C := (nI ((lsn (rh 3 S (S 46)) 32).1)) = (nI ((lsn (rh 3 S (S 46)) 32).1))) 330 X dL_holds_258 (by decide) rfl Iff.rfl (fun hz => absurd (rfl) hz) (fun _ => ?_)
      refine V_aload_n (pc' := 262) 0 X dL_holds_261 rfl rfl rfl ?_
      refine O_heaviestColumn (pc' := 265) (st := []) hw_8 X gL_holds_X5_heaviestColumn (Nat.le_of_ble_eq_true rfl) ⟨Nat.le_of_ble_eq_true rfl, Nat.le_of_ble_eq_true rfl⟩ ⟨Nat.le_of_ble_eq_true rfl, Nat.le_of_ble_eq_true rfl⟩ dL_holds_262 rfl (fun w_9 hw_9 => ?_)
      refine V_iload (pc' := 267) 5 X dL_holds_265 rfl rfl ?_
      refine V_icmp_ne (pc' := 270) (C := (rN (bz (fun k => wIn (fun k => S (36 + k)) (rh 3 S (S 46) k)) 32).1) = (rN (bz (fun k => wIn (fun k => S (36 + k)) (rh 3 S (S 46) k)) 32).1)) 330 X dL_holds_267 (by decide) rfl Iff.rfl (fun hz => absurd (rfl) hz) (fun _ => ?_)
      rcases busy_cases (rh 3 S (S 46)) with ⟨b1, b2⟩ | ⟨b1, b3, b4, b2⟩
      · refine V_iload (pc' := 272) 8 X dL_holds_270 rfl rfl ?_
        refine V_iconst (pc' := 273) (-1) X dL_holds_272 rfl rfl ?_
        refine V_icmp_ne (pc' := 276) (C := (rN (bz (fun k => sm (fun j => bq (rh 3 S (S 46) j) k) 32) 10).1) = (-1)) 280 X dL_holds_273 (by decide) rfl Iff.rfl (fun hz => absurd (by rw [b2]; rfl) hz) (fun _ => ?_)
        refine V_iconst (pc' := 277) (nI 1) X dL_holds_276 ki_1 rfl ?_
        refine V_goto (pc' := 281) X dL_holds_277 (by decide) ?_
        refine V_iload_n (pc' := 282) 1 X dL_holds_281 rfl rfl rfl ?_
        refine V_if_ne (pc' := 285) (C := (sm (fun k => cnt (rh 3 S (S 46) k)) 32) = 0) 289 X dL_holds_282 (by decide) rfl (z_eq0 (Nat.lt_of_le_of_lt (sm_cnt_le _ 32) (by decide))) (fun hz => absurd (b1) hz) (fun _ => ?_)
        refine V_iconst (pc' := 286) (nI 1) X dL_holds_285 ki_1 rfl ?_
        refine V_goto (pc' := 290) X dL_holds_286 (by decide) ?_
        refine V_icmp_ne (pc' := 293) (C := 1 = 1) 330 X dL_holds_290 (by decide) rfl (nI_eq (by omega) (by omega)) (fun hz => absurd (by decide) hz) (fun _ => ?_)
        refine V_aload_n (pc' := 294) 0 X dL_holds_293 rfl rfl rfl ?_
        refine V_iconst (pc' := 295) (nI 1) X dL_holds_294 ki_1 rfl ?_
        refine O_ticksOfRound (pc' := 298) (st := []) 1 (by decide) hw_9 X gL_holds_X5_ticksOfRound (Nat.le_of_ble_eq_true rfl) ⟨Nat.le_of_ble_eq_true rfl, Nat.le_of_ble_eq_true rfl⟩ ⟨Nat.le_of_ble_eq_true rfl, Nat.le_of_ble_eq_true rfl⟩ dL_holds_295 rfl (fun w_10 hw_10 => ?_)
        refine V_aload_n (pc' := 299) 0 X dL_holds_298 rfl rfl rfl ?_
        refine V_iconst (pc' := 300) (nI 0) X dL_holds_299 ki_0 rfl ?_
        refine O_ticksOfRound (pc' := 303) (st := [.int (nI (tks S))]) 0 (by decide) hw_10 X gL_holds_X5_ticksOfRound (Nat.le_of_ble_eq_true rfl) ⟨Nat.le_of_ble_eq_true rfl, Nat.le_of_ble_eq_true rfl⟩ ⟨Nat.le_of_ble_eq_true rfl, Nat.le_of_ble_eq_true rfl⟩ dL_holds_300 rfl (fun w_11 hw_11 => ?_)
        refine V_icmp_ne (pc' := 306) (C := (nI (tks S)) = (nI (tks S))) 330 X dL_holds_303 (by decide) rfl Iff.rfl (fun hz => absurd (rfl) hz) (fun _ => ?_)
        refine V_aload_n (pc' := 307) 0 X dL_holds_306 rfl rfl rfl ?_
        refine V_iconst (pc' := 308) (nI 1) X dL_holds_307 ki_1 rfl ?_
        refine O_heard (pc' := 311) (st := []) 1 (by decide) hw_11 X gL_holds_X5_heard (Nat.le_of_ble_eq_true rfl) ⟨Nat.le_of_ble_eq_true rfl, Nat.le_of_ble_eq_true rfl⟩ ⟨Nat.le_of_ble_eq_true rfl, Nat.le_of_ble_eq_true rfl⟩ dL_holds_308 rfl (fun w_12 hw_12 => ?_)
        refine V_aload_n (pc' := 312) 0 X dL_holds_311 rfl rfl rfl ?_
        refine V_iconst (pc' := 313) (nI 0) X dL_holds_312 ki_0 rfl ?_
        refine O_heard (pc' := 316) (st := [.int (nI (S 70))]) 0 (by decide) hw_12 X gL_holds_X5_heard (Nat.le_of_ble_eq_true rfl) ⟨Nat.le_of_ble_eq_true rfl, Nat.le_of_ble_eq_true rfl⟩ ⟨Nat.le_of_ble_eq_true rfl, Nat.le_of_ble_eq_true rfl⟩ dL_holds_313 rfl (fun w_13 hw_13 => ?_)
        refine V_icmp_ne (pc' := 319) (C := (nI (S 70)) = (nI (S 70))) 330 X dL_holds_316 (by decide) rfl Iff.rfl (fun hz => absurd (rfl) hz) (fun _ => ?_)
        refine V_aload_n (pc' := 320) 0 X dL_holds_319 rfl rfl rfl ?_
        refine O_time (pc' := 323) (st := []) hw_13 X gL_holds_X5_time (Nat.le_of_ble_eq_true rfl) ⟨Nat.le_of_ble_eq_true rfl, Nat.le_of_ble_eq_true rfl⟩ ⟨Nat.le_of_ble_eq_true rfl, Nat.le_of_ble_eq_true rfl⟩ dL_holds_320 rfl (fun w_14 hw_14 => ?_)
        refine V_if_lt (pc' := 326) (C := False) 330 X dL_holds_323 (by decide) rfl (z_lt0 (by omega)) (fun hz => absurd hz (by decide)) (fun _ => ?_)
        refine V_iconst (pc' := 327) (nI 1) X dL_holds_326 ki_1 rfl ?_
        refine V_goto (pc' := 331) X dL_holds_327 (by decide) ?_
        exact V_ireturn (v := nI 1) [w_14] hQ X hrt rfl dL_holds_331 (Nat.le_of_ble_eq_true rfl) (Nat.le_of_ble_eq_true rfl) (List.Perm.refl _) ⟨rfl, w_14, hw_14, rfl⟩
      · refine V_iload (pc' := 272) 8 X dL_holds_270 rfl rfl ?_
        refine V_iconst (pc' := 273) (-1) X dL_holds_272 rfl rfl ?_
        refine V_icmp_ne (pc' := 276) (C := (rN (bz (fun k => sm (fun j => bq (rh 3 S (S 46) j) k) 32) 10).1) = (-1)) 280 X dL_holds_273 (by decide) rfl Iff.rfl (fun _ => ?_) (fun hz => absurd hz (by rw [b2]; exact rN_m1 (by omega)))
        refine V_iconst (pc' := 281) (nI 0) X dL_holds_280 ki_0 rfl ?_
        refine V_iload_n (pc' := 282) 1 X dL_holds_281 rfl rfl rfl ?_
        refine V_if_ne (pc' := 285) (C := (sm (fun k => cnt (rh 3 S (S 46) k)) 32) = 0) 289 X dL_holds_282 (by decide) rfl (z_eq0 (Nat.lt_of_le_of_lt (sm_cnt_le _ 32) (by decide))) (fun _ => ?_) (fun hz => absurd hz (by omega))
        refine V_iconst (pc' := 290) (nI 0) X dL_holds_289 ki_0 rfl ?_
        refine V_icmp_ne (pc' := 293) (C := 0 = 0) 330 X dL_holds_290 (by decide) rfl (nI_eq (by omega) (by omega)) (fun hz => absurd (by decide) hz) (fun _ => ?_)
        refine V_aload_n (pc' := 294) 0 X dL_holds_293 rfl rfl rfl ?_
        refine V_iconst (pc' := 295) (nI 1) X dL_holds_294 ki_1 rfl ?_
        refine O_ticksOfRound (pc' := 298) (st := []) 1 (by decide) hw_9 X gL_holds_X5_ticksOfRound (Nat.le_of_ble_eq_true rfl) ⟨Nat.le_of_ble_eq_true rfl, Nat.le_of_ble_eq_true rfl⟩ ⟨Nat.le_of_ble_eq_true rfl, Nat.le_of_ble_eq_true rfl⟩ dL_holds_295 rfl (fun w_15 hw_15 => ?_)
        refine V_aload_n (pc' := 299) 0 X dL_holds_298 rfl rfl rfl ?_
        refine V_iconst (pc' := 300) (nI 0) X dL_holds_299 ki_0 rfl ?_
        refine O_ticksOfRound (pc' := 303) (st := [.int (nI (tks S))]) 0 (by decide) hw_15 X gL_holds_X5_ticksOfRound (Nat.le_of_ble_eq_true rfl) ⟨Nat.le_of_ble_eq_true rfl, Nat.le_of_ble_eq_true rfl⟩ ⟨Nat.le_of_ble_eq_true rfl, Nat.le_of_ble_eq_true rfl⟩ dL_holds_300 rfl (fun w_16 hw_16 => ?_)
        refine V_icmp_ne (pc' := 306) (C := (nI (tks S)) = (nI (tks S))) 330 X dL_holds_303 (by decide) rfl Iff.rfl (fun hz => absurd (rfl) hz) (fun _ => ?_)
        refine V_aload_n (pc' := 307) 0 X dL_holds_306 rfl rfl rfl ?_
        refine V_iconst (pc' := 308) (nI 1) X dL_holds_307 ki_1 rfl ?_
        refine O_heard (pc' := 311) (st := []) 1 (by decide) hw_16 X gL_holds_X5_heard (Nat.le_of_ble_eq_true rfl) ⟨Nat.le_of_ble_eq_true rfl, Nat.le_of_ble_eq_true rfl⟩ ⟨Nat.le_of_ble_eq_true rfl, Nat.le_of_ble_eq_true rfl⟩ dL_holds_308 rfl (fun w_17 hw_17 => ?_)
        refine V_aload_n (pc' := 312) 0 X dL_holds_311 rfl rfl rfl ?_
        refine V_iconst (pc' := 313) (nI 0) X dL_holds_312 ki_0 rfl ?_
        refine O_heard (pc' := 316) (st := [.int (nI (S 70))]) 0 (by decide) hw_17 X gL_holds_X5_heard (Nat.le_of_ble_eq_true rfl) ⟨Nat.le_of_ble_eq_true rfl, Nat.le_of_ble_eq_true rfl⟩ ⟨Nat.le_of_ble_eq_true rfl, Nat.le_of_ble_eq_true rfl⟩ dL_holds_313 rfl (fun w_18 hw_18 => ?_)
        refine V_icmp_ne (pc' := 319) (C := (nI (S 70)) = (nI (S 70))) 330 X dL_holds_316 (by decide) rfl Iff.rfl (fun hz => absurd (rfl) hz) (fun _ => ?_)
        refine V_aload_n (pc' := 320) 0 X dL_holds_319 rfl rfl rfl ?_
        refine O_time (pc' := 323) (st := []) hw_18 X gL_holds_X5_time (Nat.le_of_ble_eq_true rfl) ⟨Nat.le_of_ble_eq_true rfl, Nat.le_of_ble_eq_true rfl⟩ ⟨Nat.le_of_ble_eq_true rfl, Nat.le_of_ble_eq_true rfl⟩ dL_holds_320 rfl (fun w_19 hw_19 => ?_)
        refine V_if_lt (pc' := 326) (C := False) 330 X dL_holds_323 (by decide) rfl (z_lt0 (by omega)) (fun hz => absurd hz (by decide)) (fun _ => ?_)
        refine V_iconst (pc' := 327) (nI 1) X dL_holds_326 ki_1 rfl ?_
        refine V_goto (pc' := 331) X dL_holds_327 (by decide) ?_
        exact V_ireturn (v := nI 1) [w_19] hQ X hrt rfl dL_holds_331 (Nat.le_of_ble_eq_true rfl) (Nat.le_of_ble_eq_true rfl) (List.Perm.refl _) ⟨rfl, w_19, hw_19, rfl⟩
    · intro i hi_i ih wl_1 hl_1
      show V E G A 12 [wl_1] 0 0 Q 41 [(0, .ref x), (1, .int (nI (sm (fun k => cnt (rh 3 S (S 46) k)) i))), (2, .int (nI (sm (fun k => cnt (S k)) i))), (3, .int (nI ((lsn (rh 3 S (S 46)) i).2))), (4, .int (nI ((lsn (rh 3 S (S 46)) i).1))), (5, .int (rN (bz (fun k => wIn (fun k => S (36 + k)) (rh 3 S (S 46) k)) i).1)), (6, .int (nI ((bz (fun k => wIn (fun k => S (36 + k)) (rh 3 S (S 46) k)) i).2))), (7, .int (nI 1)), (8, .int (nI i))] []
      have hri := rh_lt 3 S (S 46) i
      have hls := lsn_le (rh 3 S (S 46)) i
      have hbz := bz_le (t := (fun k => wIn (fun k => S (36 + k)) (rh 3 S (S 46) k))) (c := 600) (fun _ => wIn_le i3) i
      have hwi : wIn (fun k => S (36 + k)) (rh 3 S (S 46) i) ≤ 600 := wIn_le i3
      refine V_iload (pc' := 43) 8 X dL_holds_41 rfl rfl ?_
      refine V_bipush (pc' := 45) (nI 32) X dL_holds_43 kb_32 rfl ?_
      refine V_icmp_ge (pc' := 48) (C := 32 ≤ i) 205 X dL_holds_45 (by decide) rfl (nI_leI (by omega) (by omega)) (fun hz => absurd hz (by omega)) (fun _ => ?_)
      refine V_iload (pc' := 50) 7 X dL_holds_48 rfl rfl ?_
      refine V_if_eq (pc' := 53) (C := 1 = 0) 205 X dL_holds_50 (by decide) rfl (z_eq0 (by omega)) (fun hz => absurd hz (by decide)) (fun _ => ?_)
      refine V_aload_n (pc' := 54) 0 X dL_holds_53 rfl rfl rfl ?_
      refine V_iload (pc' := 56) 8 X dL_holds_54 rfl rfl ?_
      refine O_inRound (pc' := 59) (st := []) i (by omega) hl_1 X gL_holds_X5_inRound (Nat.le_of_ble_eq_true rfl) ⟨Nat.le_of_ble_eq_true rfl, Nat.le_of_ble_eq_true rfl⟩ ⟨Nat.le_of_ble_eq_true rfl, Nat.le_of_ble_eq_true rfl⟩ dL_holds_56 rfl (fun w_20 hw_20 => ?_)
      refine V_istore (pc' := 61) [(0, .ref x), (1, .int (nI (sm (fun k => cnt (rh 3 S (S 46) k)) i))), (2, .int (nI (sm (fun k => cnt (S k)) i))), (3, .int (nI ((lsn (rh 3 S (S 46)) i).2))), (4, .int (nI ((lsn (rh 3 S (S 46)) i).1))), (5, .int (rN (bz (fun k => wIn (fun k => S (36 + k)) (rh 3 S (S 46) k)) i).1)), (6, .int (nI ((bz (fun k => wIn (fun k => S (36 + k)) (rh 3 S (S 46) k)) i).2))), (7, .int (nI 1)), (8, .int (nI i)), (9, .int (nI (rh 3 S (S 46) i)))] [1, 2, 3, 4, 5, 6, 7, 8, 9, 0] X dL_holds_59 (Nat.le_of_ble_eq_true rfl) rfl rfl ?_
      refine V_iconst (pc' := 62) (nI 0) X dL_holds_61 ki_0 rfl ?_
      refine V_istore (pc' := 64) [(0, .ref x), (1, .int (nI (sm (fun k => cnt (rh 3 S (S 46) k)) i))), (2, .int (nI (sm (fun k => cnt (S k)) i))), (3, .int (nI ((lsn (rh 3 S (S 46)) i).2))), (4, .int (nI ((lsn (rh 3 S (S 46)) i).1))), (5, .int (rN (bz (fun k => wIn (fun k => S (36 + k)) (rh 3 S (S 46) k)) i).1)), (6, .int (nI ((bz (fun k => wIn (fun k => S (36 + k)) (rh 3 S (S 46) k)) i).2))), (7, .int (nI 1)), (8, .int (nI i)), (9, .int (nI (rh 3 S (S 46) i))), (10, .int (nI 0))] [1, 2, 3, 4, 5, 6, 7, 8, 9, 10, 0] X dL_holds_62 (Nat.le_of_ble_eq_true rfl) rfl rfl ?_
      refine V_iconst (pc' := 65) (nI 0) X dL_holds_64 ki_0 rfl ?_
      refine V_istore (pc' := 67) [(0, .ref x), (1, .int (nI (sm (fun k => cnt (rh 3 S (S 46) k)) i))), (2, .int (nI (sm (fun k => cnt (S k)) i))), (3, .int (nI ((lsn (rh 3 S (S 46)) i).2))), (4, .int (nI ((lsn (rh 3 S (S 46)) i).1))), (5, .int (rN (bz (fun k => wIn (fun k => S (36 + k)) (rh 3 S (S 46) k)) i).1)), (6, .int (nI ((bz (fun k => wIn (fun k => S (36 + k)) (rh 3 S (S 46) k)) i).2))), (7, .int (nI 1)), (8, .int (nI i)), (9, .int (nI (rh 3 S (S 46) i))), (10, .int (nI 0)), (11, .int (nI 0))] [1, 2, 3, 4, 5, 6, 7, 8, 9, 10, 11, 0] X dL_holds_65 (Nat.le_of_ble_eq_true rfl) rfl rfl ?_
      have lp_2 : ∀ j, j ≤ 10 → ∀ (wl_2 : va_W), OJ G x K S n T P wl_2 → V E G A 12 [wl_2] 0 0 Q 67 [(0, .ref x), (1, .int (nI (sm (fun k => cnt (rh 3 S (S 46) k)) i))), (2, .int (nI (sm (fun k => cnt (S k)) i))), (3, .int (nI ((lsn (rh 3 S (S 46)) i).2))), (4, .int (nI ((lsn (rh 3 S (S 46)) i).1))), (5, .int (rN (bz (fun k => wIn (fun k => S (36 + k)) (rh 3 S (S 46) k)) i).1)), (6, .int (nI ((bz (fun k => wIn (fun k => S (36 + k)) (rh 3 S (S 46) k)) i).2))), (7, .int (nI 1)), (8, .int (nI i)), (9, .int (nI (rh 3 S (S 46) i))), (10, .int (nI (sm (fun k => bq (rh 3 S (S 46) i) k * S (36 + k)) j))), (11, .int (nI j))] [] := by
        refine loopD 10 ?_ ?_
        · intro wl_2 hl_2
          show V E G A 12 [wl_2] 0 0 Q 67 [(0, .ref x), (1, .int (nI (sm (fun k => cnt (rh 3 S (S 46) k)) i))), (2, .int (nI (sm (fun k => cnt (S k)) i))), (3, .int (nI ((lsn (rh 3 S (S 46)) i).2))), (4, .int (nI ((lsn (rh 3 S (S 46)) i).1))), (5, .int (rN (bz (fun k => wIn (fun k => S (36 + k)) (rh 3 S (S 46) k)) i).1)), (6, .int (nI ((bz (fun k => wIn (fun k => S (36 + k)) (rh 3 S (S 46) k)) i).2))), (7, .int (nI 1)), (8, .int (nI i)), (9, .int (nI (rh 3 S (S 46) i))), (10, .int (nI (sm (fun k => bq (rh 3 S (S 46) i) k * S (36 + k)) 10))), (11, .int (nI 10))] []
          refine V_iload (pc' := 69) 11 X dL_holds_67 rfl rfl ?_
          refine V_bipush (pc' := 71) (nI 10) X dL_holds_69 kb_10 rfl ?_
          refine V_icmp_ge (pc' := 74) (C := 10 ≤ 10) 99 X dL_holds_71 (by decide) rfl (nI_leI (by omega) (by omega)) (fun _ => ?_) (fun hz => absurd (by omega) hz)
          show V E G A 12 [wl_2] 0 0 Q 99 [(0, .ref x), (1, .int (nI (sm (fun k => cnt (rh 3 S (S 46) k)) i))), (2, .int (nI (sm (fun k => cnt (S k)) i))), (3, .int (nI ((lsn (rh 3 S (S 46)) i).2))), (4, .int (nI ((lsn (rh 3 S (S 46)) i).1))), (5, .int (rN (bz (fun k => wIn (fun k => S (36 + k)) (rh 3 S (S 46) k)) i).1)), (6, .int (nI ((bz (fun k => wIn (fun k => S (36 + k)) (rh 3 S (S 46) k)) i).2))), (7, .int (nI 1)), (8, .int (nI i)), (9, .int (nI (rh 3 S (S 46) i))), (10, .int (nI (wIn (fun k => S (36 + k)) (rh 3 S (S 46) i)))), (11, .int (nI 10))] []
          refine V_iload_n (pc' := 100) 2 X dL_holds_99 rfl rfl rfl ?_
          refine V_aload_n (pc' := 101) 0 X dL_holds_100 rfl rfl rfl ?_
          refine V_iload (pc' := 103) 8 X dL_holds_101 rfl rfl ?_
          refine O_pegsIn (pc' := 106) (st := [.int (nI (sm (fun k => cnt (S k)) i))]) i (by omega) hl_2 X gL_holds_X5_pegsIn (Nat.le_of_ble_eq_true rfl) ⟨Nat.le_of_ble_eq_true rfl, Nat.le_of_ble_eq_true rfl⟩ ⟨Nat.le_of_ble_eq_true rfl, Nat.le_of_ble_eq_true rfl⟩ dL_holds_103 rfl (fun w_21 hw_21 => ?_)
          refine V_callS (pc' := 109) (As := [.int (nI (S i))]) (st := [.int (nI (sm (fun k => cnt (S k)) i))]) [] [0] (List.Perm.refl _) X (c_L_count l G (S i) (Nat.lt_trans (i1 i hi_i) (by decide))) rfl gL_holds_L_count rfl rfl (Nat.le_of_ble_eq_true rfl) ⟨Nat.le_of_ble_eq_true rfl, Nat.le_of_ble_eq_true rfl⟩ ⟨Nat.le_of_ble_eq_true rfl, Nat.le_of_ble_eq_true rfl⟩ dL_holds_106 rfl (fun v_ u_ hp_ => ?_)
          obtain ⟨rfl, rfl⟩ := hp_
          show V E G A 12 [w_21] 0 0 Q 109 [(0, .ref x), (1, .int (nI (sm (fun k => cnt (rh 3 S (S 46) k)) i))), (2, .int (nI (sm (fun k => cnt (S k)) i))), (3, .int (nI ((lsn (rh 3 S (S 46)) i).2))), (4, .int (nI ((lsn (rh 3 S (S 46)) i).1))), (5, .int (rN (bz (fun k => wIn (fun k => S (36 + k)) (rh 3 S (S 46) k)) i).1)), (6, .int (nI ((bz (fun k => wIn (fun k => S (36 + k)) (rh 3 S (S 46) k)) i).2))), (7, .int (nI 1)), (8, .int (nI i)), (9, .int (nI (rh 3 S (S 46) i))), (10, .int (nI (wIn (fun k => S (36 + k)) (rh 3 S (S 46) i)))), (11, .int (nI 10))] [.int (nI (cnt (S i))), .int (nI (sm (fun k => cnt (S k)) i))]
          refine V_iadd (pc' := 110) (nI ((sm (fun k => cnt (S k)) i) + (cnt (S i)))) X dL_holds_109 (nI_add _ _) rfl ?_
          refine V_istore_n (pc' := 111) [(0, .ref x), (1, .int (nI (sm (fun k => cnt (rh 3 S (S 46) k)) i))), (2, .int (nI ((sm (fun k => cnt (S k)) i) + (cnt (S i))))), (3, .int (nI ((lsn (rh 3 S (S 46)) i).2))), (4, .int (nI ((lsn (rh 3 S (S 46)) i).1))), (5, .int (rN (bz (fun k => wIn (fun k => S (36 + k)) (rh 3 S (S 46) k)) i).1)), (6, .int (nI ((bz (fun k => wIn (fun k => S (36 + k)) (rh 3 S (S 46) k)) i).2))), (7, .int (nI 1)), (8, .int (nI i)), (9, .int (nI (rh 3 S (S 46) i))), (10, .int (nI (wIn (fun k => S (36 + k)) (rh 3 S (S 46) i)))), (11, .int (nI 10))] [1, 2, 0, 3, 4, 5, 6, 7, 8, 9, 10, 11] X dL_holds_110 rfl (Nat.le_of_ble_eq_true rfl) rfl rfl ?_
          refine V_iload_n (pc' := 112) 1 X dL_holds_111 rfl rfl rfl ?_
          refine V_iload (pc' := 114) 9 X dL_holds_112 rfl rfl ?_
          refine V_callS (pc' := 117) (As := [.int (nI (rh 3 S (S 46) i))]) (st := [.int (nI (sm (fun k => cnt (rh 3 S (S 46) k)) i))]) [] [0] (List.Perm.refl _) X (c_L_count l G (rh 3 S (S 46) i) (Nat.lt_trans (rh_lt 3 S (S 46) i) (by decide))) rfl gL_holds_L_count rfl rfl (Nat.le_of_ble_eq_true rfl) ⟨Nat.le_of_ble_eq_true rfl, Nat.le_of_ble_eq_true rfl⟩ ⟨Nat.le_of_ble_eq_true rfl, Nat.le_of_ble_eq_true rfl⟩ dL_holds_114 rfl (fun v_ u_ hp_ => ?_)
          obtain ⟨rfl, rfl⟩ := hp_
          show V E G A 12 [w_21] 0 0 Q 117 [(0, .ref x), (1, .int (nI (sm (fun k => cnt (rh 3 S (S 46) k)) i))), (2, .int (nI ((sm (fun k => cnt (S k)) i) + (cnt (S i))))), (3, .int (nI ((lsn (rh 3 S (S 46)) i).2))), (4, .int (nI ((lsn (rh 3 S (S 46)) i).1))), (5, .int (rN (bz (fun k => wIn (fun k => S (36 + k)) (rh 3 S (S 46) k)) i).1)), (6, .int (nI ((bz (fun k => wIn (fun k => S (36 + k)) (rh 3 S (S 46) k)) i).2))), (7, .int (nI 1)), (8, .int (nI i)), (9, .int (nI (rh 3 S (S 46) i))), (10, .int (nI (wIn (fun k => S (36 + k)) (rh 3 S (S 46) i)))), (11, .int (nI 10))] [.int (nI (cnt (rh 3 S (S 46) i))), .int (nI (sm (fun k => cnt (rh 3 S (S 46) k)) i))]
          refine V_iadd (pc' := 118) (nI ((sm (fun k => cnt (rh 3 S (S 46) k)) i) + (cnt (rh 3 S (S 46) i)))) X dL_holds_117 (nI_add _ _) rfl ?_
          refine V_istore_n (pc' := 119) [(0, .ref x), (1, .int (nI ((sm (fun k => cnt (rh 3 S (S 46) k)) i) + (cnt (rh 3 S (S 46) i))))), (2, .int (nI ((sm (fun k => cnt (S k)) i) + (cnt (S i))))), (3, .int (nI ((lsn (rh 3 S (S 46)) i).2))), (4, .int (nI ((lsn (rh 3 S (S 46)) i).1))), (5, .int (rN (bz (fun k => wIn (fun k => S (36 + k)) (rh 3 S (S 46) k)) i).1)), (6, .int (nI ((bz (fun k => wIn (fun k => S (36 + k)) (rh 3 S (S 46) k)) i).2))), (7, .int (nI 1)), (8, .int (nI i)), (9, .int (nI (rh 3 S (S 46) i))), (10, .int (nI (wIn (fun k => S (36 + k)) (rh 3 S (S 46) i)))), (11, .int (nI 10))] [1, 0, 2, 3, 4, 5, 6, 7, 8, 9, 10, 11] X dL_holds_118 rfl (Nat.le_of_ble_eq_true rfl) rfl rfl ?_
          refine V_iload (pc' := 121) 9 X dL_holds_119 rfl rfl ?_
          refine V_if_ne (pc' := 124) (C := (rh 3 S (S 46) i) = 0) 130 X dL_holds_121 (by decide) rfl (z_eq0 (by omega)) (fun h121 => ?_) (fun h121 => ?_)
          · refine V_iconst (pc' := 131) (nI 0) X dL_holds_130 ki_0 rfl ?_
            refine V_istore_n (pc' := 132) [(0, .ref x), (1, .int (nI ((sm (fun k => cnt (rh 3 S (S 46) k)) i) + (cnt (rh 3 S (S 46) i))))), (2, .int (nI ((sm (fun k => cnt (S k)) i) + (cnt (S i))))), (3, .int (nI 0)), (4, .int (nI ((lsn (rh 3 S (S 46)) i).1))), (5, .int (rN (bz (fun k => wIn (fun k => S (36 + k)) (rh 3 S (S 46) k)) i).1)), (6, .int (nI ((bz (fun k => wIn (fun k => S (36 + k)) (rh 3 S (S 46) k)) i).2))), (7, .int (nI 1)), (8, .int (nI i)), (9, .int (nI (rh 3 S (S 46) i))), (10, .int (nI (wIn (fun k => S (36 + k)) (rh 3 S (S 46) i)))), (11, .int (nI 10))] [1, 2, 3, 0, 4, 5, 6, 7, 8, 9, 10, 11] X dL_holds_131 rfl (Nat.le_of_ble_eq_true rfl) rfl rfl ?_
            refine V_iload_n (pc' := 133) 3 X dL_holds_132 rfl rfl rfl ?_
            refine V_iload (pc' := 135) 4 X dL_holds_133 rfl rfl ?_
            refine V_icmp_le (pc' := 138) (C := 0 ≤ ((lsn (rh 3 S (S 46)) i).1)) 142 X dL_holds_135 (by decide) rfl (nI_leI (by omega) (by omega)) (fun h135 => ?_) (fun h135 => ?_)
            · refine V_iload (pc' := 144) 4 X dL_holds_142 rfl rfl ?_
              refine V_istore (pc' := 146) [(0, .ref x), (1, .int (nI ((sm (fun k => cnt (rh 3 S (S 46) k)) i) + (cnt (rh 3 S (S 46) i))))), (2, .int (nI ((sm (fun k => cnt (S k)) i) + (cnt (S i))))), (3, .int (nI 0)), (4, .int (nI ((lsn (rh 3 S (S 46)) i).1))), (5, .int (rN (bz (fun k => wIn (fun k => S (36 + k)) (rh 3 S (S 46) k)) i).1)), (6, .int (nI ((bz (fun k => wIn (fun k => S (36 + k)) (rh 3 S (S 46) k)) i).2))), (7, .int (nI 1)), (8, .int (nI i)), (9, .int (nI (rh 3 S (S 46) i))), (10, .int (nI (wIn (fun k => S (36 + k)) (rh 3 S (S 46) i)))), (11, .int (nI 10))] [1, 2, 3, 4, 0, 5, 6, 7, 8, 9, 10, 11] X dL_holds_144 (Nat.le_of_ble_eq_true rfl) rfl rfl ?_
              refine V_iload (pc' := 148) 10 X dL_holds_146 rfl rfl ?_
              refine V_iload (pc' := 150) 6 X dL_holds_148 rfl rfl ?_
              refine V_icmp_le (pc' := 153) (C := (wIn (fun k => S (36 + k)) (rh 3 S (S 46) i)) ≤ ((bz (fun k => wIn (fun k => S (36 + k)) (rh 3 S (S 46) k)) i).2)) 158 X dL_holds_150 (by decide) rfl (nI_leI (by omega) (by omega)) (fun h150 => ?_) (fun h150 => ?_)
              · refine V_iload (pc' := 160) 5 X dL_holds_158 rfl rfl ?_
                refine V_istore (pc' := 162) [(0, .ref x), (1, .int (nI ((sm (fun k => cnt (rh 3 S (S 46) k)) i) + (cnt (rh 3 S (S 46) i))))), (2, .int (nI ((sm (fun k => cnt (S k)) i) + (cnt (S i))))), (3, .int (nI 0)), (4, .int (nI ((lsn (rh 3 S (S 46)) i).1))), (5, .int (rN (bz (fun k => wIn (fun k => S (36 + k)) (rh 3 S (S 46) k)) i).1)), (6, .int (nI ((bz (fun k => wIn (fun k => S (36 + k)) (rh 3 S (S 46) k)) i).2))), (7, .int (nI 1)), (8, .int (nI i)), (9, .int (nI (rh 3 S (S 46) i))), (10, .int (nI (wIn (fun k => S (36 + k)) (rh 3 S (S 46) i)))), (11, .int (nI 10))] [1, 2, 3, 4, 5, 0, 6, 7, 8, 9, 10, 11] X dL_holds_160 (Nat.le_of_ble_eq_true rfl) rfl rfl ?_
                refine V_iload (pc' := 164) 10 X dL_holds_162 rfl rfl ?_
                refine V_iload (pc' := 166) 6 X dL_holds_164 rfl rfl ?_
                refine V_icmp_le (pc' := 169) (C := (wIn (fun k => S (36 + k)) (rh 3 S (S 46) i)) ≤ ((bz (fun k => wIn (fun k => S (36 + k)) (rh 3 S (S 46) k)) i).2)) 174 X dL_holds_166 (by decide) rfl (nI_leI (by omega) (by omega)) (fun _ => ?_) (fun hz => absurd (h150) hz)
                refine V_iload (pc' := 176) 6 X dL_holds_174 rfl rfl ?_
                refine V_istore (pc' := 178) [(0, .ref x), (1, .int (nI ((sm (fun k => cnt (rh 3 S (S 46) k)) i) + (cnt (rh 3 S (S 46) i))))), (2, .int (nI ((sm (fun k => cnt (S k)) i) + (cnt (S i))))), (3, .int (nI 0)), (4, .int (nI ((lsn (rh 3 S (S 46)) i).1))), (5, .int (rN (bz (fun k => wIn (fun k => S (36 + k)) (rh 3 S (S 46) k)) i).1)), (6, .int (nI ((bz (fun k => wIn (fun k => S (36 + k)) (rh 3 S (S 46) k)) i).2))), (7, .int (nI 1)), (8, .int (nI i)), (9, .int (nI (rh 3 S (S 46) i))), (10, .int (nI (wIn (fun k => S (36 + k)) (rh 3 S (S 46) i)))), (11, .int (nI 10))] [1, 2, 3, 4, 5, 6, 0, 7, 8, 9, 10, 11] X dL_holds_176 (Nat.le_of_ble_eq_true rfl) rfl rfl ?_
                refine V_iload (pc' := 180) 9 X dL_holds_178 rfl rfl ?_
                refine V_aload_n (pc' := 181) 0 X dL_holds_180 rfl rfl rfl ?_
                refine V_iload (pc' := 183) 8 X dL_holds_181 rfl rfl ?_
                refine O_pegsIn (pc' := 186) (st := [.int (nI (rh 3 S (S 46) i))]) i (by omega) hw_21 X gL_holds_X5_pegsIn (Nat.le_of_ble_eq_true rfl) ⟨Nat.le_of_ble_eq_true rfl, Nat.le_of_ble_eq_true rfl⟩ ⟨Nat.le_of_ble_eq_true rfl, Nat.le_of_ble_eq_true rfl⟩ dL_holds_183 rfl (fun w_22 hw_22 => ?_)
                refine V_iconst (pc' := 187) (-1) X dL_holds_186 rfl rfl ?_
                refine V_ixor (pc' := 188) (((nI (S i)) ^^^ (-1))) X dL_holds_187 rfl rfl ?_
                refine V_iand (pc' := 189) (nI 0) X dL_holds_188 (z_andn0 (rh_bq S (S 46) i)) rfl ?_
                refine V_if_ne (pc' := 192) (C := 0 = 0) 196 X dL_holds_189 (by decide) rfl (z_eq0 (by omega)) (fun hz => absurd (by decide) hz) (fun _ => ?_)
                refine V_iconst (pc' := 193) (nI 1) X dL_holds_192 ki_1 rfl ?_
                refine V_goto (pc' := 197) X dL_holds_193 (by decide) ?_
                refine V_istore (pc' := 199) [(0, .ref x), (1, .int (nI ((sm (fun k => cnt (rh 3 S (S 46) k)) i) + (cnt (rh 3 S (S 46) i))))), (2, .int (nI ((sm (fun k => cnt (S k)) i) + (cnt (S i))))), (3, .int (nI 0)), (4, .int (nI ((lsn (rh 3 S (S 46)) i).1))), (5, .int (rN (bz (fun k => wIn (fun k => S (36 + k)) (rh 3 S (S 46) k)) i).1)), (6, .int (nI ((bz (fun k => wIn (fun k => S (36 + k)) (rh 3 S (S 46) k)) i).2))), (7, .int (nI 1)), (8, .int (nI i)), (9, .int (nI (rh 3 S (S 46) i))), (10, .int (nI (wIn (fun k => S (36 + k)) (rh 3 S (S 46) i)))), (11, .int (nI 10))] [1, 2, 3, 4, 5, 6, 7, 0, 8, 9, 10, 11] X dL_holds_197 (Nat.le_of_ble_eq_true rfl) rfl rfl ?_
                refine V_iinc (pc' := 202) [(0, .ref x), (1, .int (nI ((sm (fun k => cnt (rh 3 S (S 46) k)) i) + (cnt (rh 3 S (S 46) i))))), (2, .int (nI ((sm (fun k => cnt (S k)) i) + (cnt (S i))))), (3, .int (nI 0)), (4, .int (nI ((lsn (rh 3 S (S 46)) i).1))), (5, .int (rN (bz (fun k => wIn (fun k => S (36 + k)) (rh 3 S (S 46) k)) i).1)), (6, .int (nI ((bz (fun k => wIn (fun k => S (36 + k)) (rh 3 S (S 46) k)) i).2))), (7, .int (nI 1)), (8, .int (nI (i + 1))), (9, .int (nI (rh 3 S (S 46) i))), (10, .int (nI (wIn (fun k => S (36 + k)) (rh 3 S (S 46) i)))), (11, .int (nI 10))] 8 [1, 2, 3, 4, 5, 6, 7, 8, 0, 9, 10, 11] X dL_holds_199 rfl (nI_i1 _) (Nat.le_of_ble_eq_true rfl) rfl rfl ?_
                refine V_goto (pc' := 41) X dL_holds_202 (by decide) ?_
                refine V_lv [0, 1, 2, 3, 4, 5, 6, 7, 8] [(0, .ref x), (1, .int (nI ((sm (fun k => cnt (rh 3 S (S 46) k)) i) + (cnt (rh 3 S (S 46) i))))), (2, .int (nI ((sm (fun k => cnt (S k)) i) + (cnt (S i))))), (3, .int (nI 0)), (4, .int (nI ((lsn (rh 3 S (S 46)) i).1))), (5, .int (rN (bz (fun k => wIn (fun k => S (36 + k)) (rh 3 S (S 46) k)) i).1)), (6, .int (nI ((bz (fun k => wIn (fun k => S (36 + k)) (rh 3 S (S 46) k)) i).2))), (7, .int (nI 1)), (8, .int (nI (i + 1)))] rfl ?_
                rw [show lsn (rh 3 S (S 46)) (i + 1) = ((lsn (rh 3 S (S 46)) i).1, 0) by rw [lsn, if_neg h121, Nat.max_eq_left h135]] at ih
                rw [show bz (fun k => wIn (fun k => S (36 + k)) (rh 3 S (S 46) k)) (i + 1) = bz (fun k => wIn (fun k => S (36 + k)) (rh 3 S (S 46) k)) i by rw [bz]; exact if_neg (by omega)] at ih
                exact ih w_22 hw_22
              · refine V_iload (pc' := 155) 8 X dL_holds_153 rfl rfl ?_
                refine V_goto (pc' := 160) X dL_holds_155 (by decide) ?_
                refine V_istore (pc' := 162) [(0, .ref x), (1, .int (nI ((sm (fun k => cnt (rh 3 S (S 46) k)) i) + (cnt (rh 3 S (S 46) i))))), (2, .int (nI ((sm (fun k => cnt (S k)) i) + (cnt (S i))))), (3, .int (nI 0)), (4, .int (nI ((lsn (rh 3 S (S 46)) i).1))), (5, .int (nI i)), (6, .int (nI ((bz (fun k => wIn (fun k => S (36 + k)) (rh 3 S (S 46) k)) i).2))), (7, .int (nI 1)), (8, .int (nI i)), (9, .int (nI (rh 3 S (S 46) i))), (10, .int (nI (wIn (fun k => S (36 + k)) (rh 3 S (S 46) i)))), (11, .int (nI 10))] [1, 2, 3, 4, 5, 0, 6, 7, 8, 9, 10, 11] X dL_holds_160 (Nat.le_of_ble_eq_true rfl) rfl rfl ?_
                refine V_iload (pc' := 164) 10 X dL_holds_162 rfl rfl ?_
                refine V_iload (pc' := 166) 6 X dL_holds_164 rfl rfl ?_
                refine V_icmp_le (pc' := 169) (C := (wIn (fun k => S (36 + k)) (rh 3 S (S 46) i)) ≤ ((bz (fun k => wIn (fun k => S (36 + k)) (rh 3 S (S 46) k)) i).2)) 174 X dL_holds_166 (by decide) rfl (nI_leI (by omega) (by omega)) (fun hz => absurd hz (by omega)) (fun _ => ?_)
                refine V_iload (pc' := 171) 10 X dL_holds_169 rfl rfl ?_
                refine V_goto (pc' := 176) X dL_holds_171 (by decide) ?_
                refine V_istore (pc' := 178) [(0, .ref x), (1, .int (nI ((sm (fun k => cnt (rh 3 S (S 46) k)) i) + (cnt (rh 3 S (S 46) i))))), (2, .int (nI ((sm (fun k => cnt (S k)) i) + (cnt (S i))))), (3, .int (nI 0)), (4, .int (nI ((lsn (rh 3 S (S 46)) i).1))), (5, .int (nI i)), (6, .int (nI (wIn (fun k => S (36 + k)) (rh 3 S (S 46) i)))), (7, .int (nI 1)), (8, .int (nI i)), (9, .int (nI (rh 3 S (S 46) i))), (10, .int (nI (wIn (fun k => S (36 + k)) (rh 3 S (S 46) i)))), (11, .int (nI 10))] [1, 2, 3, 4, 5, 6, 0, 7, 8, 9, 10, 11] X dL_holds_176 (Nat.le_of_ble_eq_true rfl) rfl rfl ?_
                refine V_iload (pc' := 180) 9 X dL_holds_178 rfl rfl ?_
                refine V_aload_n (pc' := 181) 0 X dL_holds_180 rfl rfl rfl ?_
                refine V_iload (pc' := 183) 8 X dL_holds_181 rfl rfl ?_
                refine O_pegsIn (pc' := 186) (st := [.int (nI (rh 3 S (S 46) i))]) i (by omega) hw_21 X gL_holds_X5_pegsIn (Nat.le_of_ble_eq_true rfl) ⟨Nat.le_of_ble_eq_true rfl, Nat.le_of_ble_eq_true rfl⟩ ⟨Nat.le_of_ble_eq_true rfl, Nat.le_of_ble_eq_true rfl⟩ dL_holds_183 rfl (fun w_23 hw_23 => ?_)
                refine V_iconst (pc' := 187) (-1) X dL_holds_186 rfl rfl ?_
                refine V_ixor (pc' := 188) (((nI (S i)) ^^^ (-1))) X dL_holds_187 rfl rfl ?_
                refine V_iand (pc' := 189) (nI 0) X dL_holds_188 (z_andn0 (rh_bq S (S 46) i)) rfl ?_
                refine V_if_ne (pc' := 192) (C := 0 = 0) 196 X dL_holds_189 (by decide) rfl (z_eq0 (by omega)) (fun hz => absurd (by decide) hz) (fun _ => ?_)
                refine V_iconst (pc' := 193) (nI 1) X dL_holds_192 ki_1 rfl ?_
                refine V_goto (pc' := 197) X dL_holds_193 (by decide) ?_
                refine V_istore (pc' := 199) [(0, .ref x), (1, .int (nI ((sm (fun k => cnt (rh 3 S (S 46) k)) i) + (cnt (rh 3 S (S 46) i))))), (2, .int (nI ((sm (fun k => cnt (S k)) i) + (cnt (S i))))), (3, .int (nI 0)), (4, .int (nI ((lsn (rh 3 S (S 46)) i).1))), (5, .int (nI i)), (6, .int (nI (wIn (fun k => S (36 + k)) (rh 3 S (S 46) i)))), (7, .int (nI 1)), (8, .int (nI i)), (9, .int (nI (rh 3 S (S 46) i))), (10, .int (nI (wIn (fun k => S (36 + k)) (rh 3 S (S 46) i)))), (11, .int (nI 10))] [1, 2, 3, 4, 5, 6, 7, 0, 8, 9, 10, 11] X dL_holds_197 (Nat.le_of_ble_eq_true rfl) rfl rfl ?_
                refine V_iinc (pc' := 202) [(0, .ref x), (1, .int (nI ((sm (fun k => cnt (rh 3 S (S 46) k)) i) + (cnt (rh 3 S (S 46) i))))), (2, .int (nI ((sm (fun k => cnt (S k)) i) + (cnt (S i))))), (3, .int (nI 0)), (4, .int (nI ((lsn (rh 3 S (S 46)) i).1))), (5, .int (nI i)), (6, .int (nI (wIn (fun k => S (36 + k)) (rh 3 S (S 46) i)))), (7, .int (nI 1)), (8, .int (nI (i + 1))), (9, .int (nI (rh 3 S (S 46) i))), (10, .int (nI (wIn (fun k => S (36 + k)) (rh 3 S (S 46) i)))), (11, .int (nI 10))] 8 [1, 2, 3, 4, 5, 6, 7, 8, 0, 9, 10, 11] X dL_holds_199 rfl (nI_i1 _) (Nat.le_of_ble_eq_true rfl) rfl rfl ?_
                refine V_goto (pc' := 41) X dL_holds_202 (by decide) ?_
                refine V_lv [0, 1, 2, 3, 4, 5, 6, 7, 8] [(0, .ref x), (1, .int (nI ((sm (fun k => cnt (rh 3 S (S 46) k)) i) + (cnt (rh 3 S (S 46) i))))), (2, .int (nI ((sm (fun k => cnt (S k)) i) + (cnt (S i))))), (3, .int (nI 0)), (4, .int (nI ((lsn (rh 3 S (S 46)) i).1))), (5, .int (nI i)), (6, .int (nI (wIn (fun k => S (36 + k)) (rh 3 S (S 46) i)))), (7, .int (nI 1)), (8, .int (nI (i + 1)))] rfl ?_
                rw [show lsn (rh 3 S (S 46)) (i + 1) = ((lsn (rh 3 S (S 46)) i).1, 0) by rw [lsn, if_neg h121, Nat.max_eq_left h135]] at ih
                rw [show bz (fun k => wIn (fun k => S (36 + k)) (rh 3 S (S 46) k)) (i + 1) = (some i, wIn (fun k => S (36 + k)) (rh 3 S (S 46) i)) by rw [bz]; exact if_pos (by omega)] at ih
                exact ih w_23 hw_23
            · refine V_iload_n (pc' := 139) 3 X dL_holds_138 rfl rfl rfl ?_
              refine V_goto (pc' := 144) X dL_holds_139 (by decide) ?_
              refine V_istore (pc' := 146) [(0, .ref x), (1, .int (nI ((sm (fun k => cnt (rh 3 S (S 46) k)) i) + (cnt (rh 3 S (S 46) i))))), (2, .int (nI ((sm (fun k => cnt (S k)) i) + (cnt (S i))))), (3, .int (nI 0)), (4, .int (nI 0)), (5, .int (rN (bz (fun k => wIn (fun k => S (36 + k)) (rh 3 S (S 46) k)) i).1)), (6, .int (nI ((bz (fun k => wIn (fun k => S (36 + k)) (rh 3 S (S 46) k)) i).2))), (7, .int (nI 1)), (8, .int (nI i)), (9, .int (nI (rh 3 S (S 46) i))), (10, .int (nI (wIn (fun k => S (36 + k)) (rh 3 S (S 46) i)))), (11, .int (nI 10))] [1, 2, 3, 4, 0, 5, 6, 7, 8, 9, 10, 11] X dL_holds_144 (Nat.le_of_ble_eq_true rfl) rfl rfl ?_
              refine V_iload (pc' := 148) 10 X dL_holds_146 rfl rfl ?_
              refine V_iload (pc' := 150) 6 X dL_holds_148 rfl rfl ?_
              refine V_icmp_le (pc' := 153) (C := (wIn (fun k => S (36 + k)) (rh 3 S (S 46) i)) ≤ ((bz (fun k => wIn (fun k => S (36 + k)) (rh 3 S (S 46) k)) i).2)) 158 X dL_holds_150 (by decide) rfl (nI_leI (by omega) (by omega)) (fun h150 => ?_) (fun h150 => ?_)
              · refine V_iload (pc' := 160) 5 X dL_holds_158 rfl rfl ?_
                refine V_istore (pc' := 162) [(0, .ref x), (1, .int (nI ((sm (fun k => cnt (rh 3 S (S 46) k)) i) + (cnt (rh 3 S (S 46) i))))), (2, .int (nI ((sm (fun k => cnt (S k)) i) + (cnt (S i))))), (3, .int (nI 0)), (4, .int (nI 0)), (5, .int (rN (bz (fun k => wIn (fun k => S (36 + k)) (rh 3 S (S 46) k)) i).1)), (6, .int (nI ((bz (fun k => wIn (fun k => S (36 + k)) (rh 3 S (S 46) k)) i).2))), (7, .int (nI 1)), (8, .int (nI i)), (9, .int (nI (rh 3 S (S 46) i))), (10, .int (nI (wIn (fun k => S (36 + k)) (rh 3 S (S 46) i)))), (11, .int (nI 10))] [1, 2, 3, 4, 5, 0, 6, 7, 8, 9, 10, 11] X dL_holds_160 (Nat.le_of_ble_eq_true rfl) rfl rfl ?_
                refine V_iload (pc' := 164) 10 X dL_holds_162 rfl rfl ?_
                refine V_iload (pc' := 166) 6 X dL_holds_164 rfl rfl ?_
                refine V_icmp_le (pc' := 169) (C := (wIn (fun k => S (36 + k)) (rh 3 S (S 46) i)) ≤ ((bz (fun k => wIn (fun k => S (36 + k)) (rh 3 S (S 46) k)) i).2)) 174 X dL_holds_166 (by decide) rfl (nI_leI (by omega) (by omega)) (fun _ => ?_) (fun hz => absurd (h150) hz)
                refine V_iload (pc' := 176) 6 X dL_holds_174 rfl rfl ?_
                refine V_istore (pc' := 178) [(0, .ref x), (1, .int (nI ((sm (fun k => cnt (rh 3 S (S 46) k)) i) + (cnt (rh 3 S (S 46) i))))), (2, .int (nI ((sm (fun k => cnt (S k)) i) + (cnt (S i))))), (3, .int (nI 0)), (4, .int (nI 0)), (5, .int (rN (bz (fun k => wIn (fun k => S (36 + k)) (rh 3 S (S 46) k)) i).1)), (6, .int (nI ((bz (fun k => wIn (fun k => S (36 + k)) (rh 3 S (S 46) k)) i).2))), (7, .int (nI 1)), (8, .int (nI i)), (9, .int (nI (rh 3 S (S 46) i))), (10, .int (nI (wIn (fun k => S (36 + k)) (rh 3 S (S 46) i)))), (11, .int (nI 10))] [1, 2, 3, 4, 5, 6, 0, 7, 8, 9, 10, 11] X dL_holds_176 (Nat.le_of_ble_eq_true rfl) rfl rfl ?_
                refine V_iload (pc' := 180) 9 X dL_holds_178 rfl rfl ?_
                refine V_aload_n (pc' := 181) 0 X dL_holds_180 rfl rfl rfl ?_
                refine V_iload (pc' := 183) 8 X dL_holds_181 rfl rfl ?_
                refine O_pegsIn (pc' := 186) (st := [.int (nI (rh 3 S (S 46) i))]) i (by omega) hw_21 X gL_holds_X5_pegsIn (Nat.le_of_ble_eq_true rfl) ⟨Nat.le_of_ble_eq_true rfl, Nat.le_of_ble_eq_true rfl⟩ ⟨Nat.le_of_ble_eq_true rfl, Nat.le_of_ble_eq_true rfl⟩ dL_holds_183 rfl (fun w_24 hw_24 => ?_)
                refine V_iconst (pc' := 187) (-1) X dL_holds_186 rfl rfl ?_
                refine V_ixor (pc' := 188) (((nI (S i)) ^^^ (-1))) X dL_holds_187 rfl rfl ?_
                refine V_iand (pc' := 189) (nI 0) X dL_holds_188 (z_andn0 (rh_bq S (S 46) i)) rfl ?_
                refine V_if_ne (pc' := 192) (C := 0 = 0) 196 X dL_holds_189 (by decide) rfl (z_eq0 (by omega)) (fun hz => absurd (by decide) hz) (fun _ => ?_)
                refine V_iconst (pc' := 193) (nI 1) X dL_holds_192 ki_1 rfl ?_
                refine V_goto (pc' := 197) X dL_holds_193 (by decide) ?_
                refine V_istore (pc' := 199) [(0, .ref x), (1, .int (nI ((sm (fun k => cnt (rh 3 S (S 46) k)) i) + (cnt (rh 3 S (S 46) i))))), (2, .int (nI ((sm (fun k => cnt (S k)) i) + (cnt (S i))))), (3, .int (nI 0)), (4, .int (nI 0)), (5, .int (rN (bz (fun k => wIn (fun k => S (36 + k)) (rh 3 S (S 46) k)) i).1)), (6, .int (nI ((bz (fun k => wIn (fun k => S (36 + k)) (rh 3 S (S 46) k)) i).2))), (7, .int (nI 1)), (8, .int (nI i)), (9, .int (nI (rh 3 S (S 46) i))), (10, .int (nI (wIn (fun k => S (36 + k)) (rh 3 S (S 46) i)))), (11, .int (nI 10))] [1, 2, 3, 4, 5, 6, 7, 0, 8, 9, 10, 11] X dL_holds_197 (Nat.le_of_ble_eq_true rfl) rfl rfl ?_
                refine V_iinc (pc' := 202) [(0, .ref x), (1, .int (nI ((sm (fun k => cnt (rh 3 S (S 46) k)) i) + (cnt (rh 3 S (S 46) i))))), (2, .int (nI ((sm (fun k => cnt (S k)) i) + (cnt (S i))))), (3, .int (nI 0)), (4, .int (nI 0)), (5, .int (rN (bz (fun k => wIn (fun k => S (36 + k)) (rh 3 S (S 46) k)) i).1)), (6, .int (nI ((bz (fun k => wIn (fun k => S (36 + k)) (rh 3 S (S 46) k)) i).2))), (7, .int (nI 1)), (8, .int (nI (i + 1))), (9, .int (nI (rh 3 S (S 46) i))), (10, .int (nI (wIn (fun k => S (36 + k)) (rh 3 S (S 46) i)))), (11, .int (nI 10))] 8 [1, 2, 3, 4, 5, 6, 7, 8, 0, 9, 10, 11] X dL_holds_199 rfl (nI_i1 _) (Nat.le_of_ble_eq_true rfl) rfl rfl ?_
                refine V_goto (pc' := 41) X dL_holds_202 (by decide) ?_
                refine V_lv [0, 1, 2, 3, 4, 5, 6, 7, 8] [(0, .ref x), (1, .int (nI ((sm (fun k => cnt (rh 3 S (S 46) k)) i) + (cnt (rh 3 S (S 46) i))))), (2, .int (nI ((sm (fun k => cnt (S k)) i) + (cnt (S i))))), (3, .int (nI 0)), (4, .int (nI 0)), (5, .int (rN (bz (fun k => wIn (fun k => S (36 + k)) (rh 3 S (S 46) k)) i).1)), (6, .int (nI ((bz (fun k => wIn (fun k => S (36 + k)) (rh 3 S (S 46) k)) i).2))), (7, .int (nI 1)), (8, .int (nI (i + 1)))] rfl ?_
                rw [show lsn (rh 3 S (S 46)) (i + 1) = (0, 0) by rw [lsn, if_neg h121, Nat.max_eq_right (by omega)]] at ih
                rw [show bz (fun k => wIn (fun k => S (36 + k)) (rh 3 S (S 46) k)) (i + 1) = bz (fun k => wIn (fun k => S (36 + k)) (rh 3 S (S 46) k)) i by rw [bz]; exact if_neg (by omega)] at ih
                exact ih w_24 hw_24
              · refine V_iload (pc' := 155) 8 X dL_holds_153 rfl rfl ?_
                refine V_goto (pc' := 160) X dL_holds_155 (by decide) ?_
                refine V_istore (pc' := 162) [(0, .ref x), (1, .int (nI ((sm (fun k => cnt (rh 3 S (S 46) k)) i) + (cnt (rh 3 S (S 46) i))))), (2, .int (nI ((sm (fun k => cnt (S k)) i) + (cnt (S i))))), (3, .int (nI 0)), (4, .int (nI 0)), (5, .int (nI i)), (6, .int (nI ((bz (fun k => wIn (fun k => S (36 + k)) (rh 3 S (S 46) k)) i).2))), (7, .int (nI 1)), (8, .int (nI i)), (9, .int (nI (rh 3 S (S 46) i))), (10, .int (nI (wIn (fun k => S (36 + k)) (rh 3 S (S 46) i)))), (11, .int (nI 10))] [1, 2, 3, 4, 5, 0, 6, 7, 8, 9, 10, 11] X dL_holds_160 (Nat.le_of_ble_eq_true rfl) rfl rfl ?_
                refine V_iload (pc' := 164) 10 X dL_holds_162 rfl rfl ?_
                refine V_iload (pc' := 166) 6 X dL_holds_164 rfl rfl ?_
                refine V_icmp_le (pc' := 169) (C := (wIn (fun k => S (36 + k)) (rh 3 S (S 46) i)) ≤ ((bz (fun k => wIn (fun k => S (36 + k)) (rh 3 S (S 46) k)) i).2)) 174 X dL_holds_166 (by decide) rfl (nI_leI (by omega) (by omega)) (fun hz => absurd hz (by omega)) (fun _ => ?_)
                refine V_iload (pc' := 171) 10 X dL_holds_169 rfl rfl ?_
                refine V_goto (pc' := 176) X dL_holds_171 (by decide) ?_
                refine V_istore (pc' := 178) [(0, .ref x), (1, .int (nI ((sm (fun k => cnt (rh 3 S (S 46) k)) i) + (cnt (rh 3 S (S 46) i))))), (2, .int (nI ((sm (fun k => cnt (S k)) i) + (cnt (S i))))), (3, .int (nI 0)), (4, .int (nI 0)), (5, .int (nI i)), (6, .int (nI (wIn (fun k => S (36 + k)) (rh 3 S (S 46) i)))), (7, .int (nI 1)), (8, .int (nI i)), (9, .int (nI (rh 3 S (S 46) i))), (10, .int (nI (wIn (fun k => S (36 + k)) (rh 3 S (S 46) i)))), (11, .int (nI 10))] [1, 2, 3, 4, 5, 6, 0, 7, 8, 9, 10, 11] X dL_holds_176 (Nat.le_of_ble_eq_true rfl) rfl rfl ?_
                refine V_iload (pc' := 180) 9 X dL_holds_178 rfl rfl ?_
                refine V_aload_n (pc' := 181) 0 X dL_holds_180 rfl rfl rfl ?_
                refine V_iload (pc' := 183) 8 X dL_holds_181 rfl rfl ?_
                refine O_pegsIn (pc' := 186) (st := [.int (nI (rh 3 S (S 46) i))]) i (by omega) hw_21 X gL_holds_X5_pegsIn (Nat.le_of_ble_eq_true rfl) ⟨Nat.le_of_ble_eq_true rfl, Nat.le_of_ble_eq_true rfl⟩ ⟨Nat.le_of_ble_eq_true rfl, Nat.le_of_ble_eq_true rfl⟩ dL_holds_183 rfl (fun w_25 hw_25 => ?_)
                refine V_iconst (pc' := 187) (-1) X dL_holds_186 rfl rfl ?_
                refine V_ixor (pc' := 188) (((nI (S i)) ^^^ (-1))) X dL_holds_187 rfl rfl ?_
                refine V_iand (pc' := 189) (nI 0) X dL_holds_188 (z_andn0 (rh_bq S (S 46) i)) rfl ?_
                refine V_if_ne (pc' := 192) (C := 0 = 0) 196 X dL_holds_189 (by decide) rfl (z_eq0 (by omega)) (fun hz => absurd (by decide) hz) (fun _ => ?_)
                refine V_iconst (pc' := 193) (nI 1) X dL_holds_192 ki_1 rfl ?_
                refine V_goto (pc' := 197) X dL_holds_193 (by decide) ?_
                refine V_istore (pc' := 199) [(0, .ref x), (1, .int (nI ((sm (fun k => cnt (rh 3 S (S 46) k)) i) + (cnt (rh 3 S (S 46) i))))), (2, .int (nI ((sm (fun k => cnt (S k)) i) + (cnt (S i))))), (3, .int (nI 0)), (4, .int (nI 0)), (5, .int (nI i)), (6, .int (nI (wIn (fun k => S (36 + k)) (rh 3 S (S 46) i)))), (7, .int (nI 1)), (8, .int (nI i)), (9, .int (nI (rh 3 S (S 46) i))), (10, .int (nI (wIn (fun k => S (36 + k)) (rh 3 S (S 46) i)))), (11, .int (nI 10))] [1, 2, 3, 4, 5, 6, 7, 0, 8, 9, 10, 11] X dL_holds_197 (Nat.le_of_ble_eq_true rfl) rfl rfl ?_
                refine V_iinc (pc' := 202) [(0, .ref x), (1, .int (nI ((sm (fun k => cnt (rh 3 S (S 46) k)) i) + (cnt (rh 3 S (S 46) i))))), (2, .int (nI ((sm (fun k => cnt (S k)) i) + (cnt (S i))))), (3, .int (nI 0)), (4, .int (nI 0)), (5, .int (nI i)), (6, .int (nI (wIn (fun k => S (36 + k)) (rh 3 S (S 46) i)))), (7, .int (nI 1)), (8, .int (nI (i + 1))), (9, .int (nI (rh 3 S (S 46) i))), (10, .int (nI (wIn (fun k => S (36 + k)) (rh 3 S (S 46) i)))), (11, .int (nI 10))] 8 [1, 2, 3, 4, 5, 6, 7, 8, 0, 9, 10, 11] X dL_holds_199 rfl (nI_i1 _) (Nat.le_of_ble_eq_true rfl) rfl rfl ?_
                refine V_goto (pc' := 41) X dL_holds_202 (by decide) ?_
                refine V_lv [0, 1, 2, 3, 4, 5, 6, 7, 8] [(0, .ref x), (1, .int (nI ((sm (fun k => cnt (rh 3 S (S 46) k)) i) + (cnt (rh 3 S (S 46) i))))), (2, .int (nI ((sm (fun k => cnt (S k)) i) + (cnt (S i))))), (3, .int (nI 0)), (4, .int (nI 0)), (5, .int (nI i)), (6, .int (nI (wIn (fun k => S (36 + k)) (rh 3 S (S 46) i)))), (7, .int (nI 1)), (8, .int (nI (i + 1)))] rfl ?_
                rw [show lsn (rh 3 S (S 46)) (i + 1) = (0, 0) by rw [lsn, if_neg h121, Nat.max_eq_right (by omega)]] at ih
                rw [show bz (fun k => wIn (fun k => S (36 + k)) (rh 3 S (S 46) k)) (i + 1) = (some i, wIn (fun k => S (36 + k)) (rh 3 S (S 46) i)) by rw [bz]; exact if_pos (by omega)] at ih
                exact ih w_25 hw_25
          · refine V_iload_n (pc' := 125) 3 X dL_holds_124 rfl rfl rfl ?_
            refine V_iconst (pc' := 126) (nI 1) X dL_holds_125 ki_1 rfl ?_
            refine V_iadd (pc' := 127) (nI (((lsn (rh 3 S (S 46)) i).2) + 1)) X dL_holds_126 (nI_add _ _) rfl ?_
            refine V_goto (pc' := 131) X dL_holds_127 (by decide) ?_
            refine V_istore_n (pc' := 132) [(0, .ref x), (1, .int (nI ((sm (fun k => cnt (rh 3 S (S 46) k)) i) + (cnt (rh 3 S (S 46) i))))), (2, .int (nI ((sm (fun k => cnt (S k)) i) + (cnt (S i))))), (3, .int (nI (((lsn (rh 3 S (S 46)) i).2) + 1))), (4, .int (nI ((lsn (rh 3 S (S 46)) i).1))), (5, .int (rN (bz (fun k => wIn (fun k => S (36 + k)) (rh 3 S (S 46) k)) i).1)), (6, .int (nI ((bz (fun k => wIn (fun k => S (36 + k)) (rh 3 S (S 46) k)) i).2))), (7, .int (nI 1)), (8, .int (nI i)), (9, .int (nI (rh 3 S (S 46) i))), (10, .int (nI (wIn (fun k => S (36 + k)) (rh 3 S (S 46) i)))), (11, .int (nI 10))] [1, 2, 3, 0, 4, 5, 6, 7, 8, 9, 10, 11] X dL_holds_131 rfl (Nat.le_of_ble_eq_true rfl) rfl rfl ?_
            refine V_iload_n (pc' := 133) 3 X dL_holds_132 rfl rfl rfl ?_
            refine V_iload (pc' := 135) 4 X dL_holds_133 rfl rfl ?_
            refine V_icmp_le (pc' := 138) (C := (((lsn (rh 3 S (S 46)) i).2) + 1) ≤ ((lsn (rh 3 S (S 46)) i).1)) 142 X dL_holds_135 (by decide) rfl (nI_leI (by omega) (by omega)) (fun h135 => ?_) (fun h135 => ?_)
            · refine V_iload (pc' := 144) 4 X dL_holds_142 rfl rfl ?_
              refine V_istore (pc' := 146) [(0, .ref x), (1, .int (nI ((sm (fun k => cnt (rh 3 S (S 46) k)) i) + (cnt (rh 3 S (S 46) i))))), (2, .int (nI ((sm (fun k => cnt (S k)) i) + (cnt (S i))))), (3, .int (nI (((lsn (rh 3 S (S 46)) i).2) + 1))), (4, .int (nI ((lsn (rh 3 S (S 46)) i).1))), (5, .int (rN (bz (fun k => wIn (fun k => S (36 + k)) (rh 3 S (S 46) k)) i).1)), (6, .int (nI ((bz (fun k => wIn (fun k => S (36 + k)) (rh 3 S (S 46) k)) i).2))), (7, .int (nI 1)), (8, .int (nI i)), (9, .int (nI (rh 3 S (S 46) i))), (10, .int (nI (wIn (fun k => S (36 + k)) (rh 3 S (S 46) i)))), (11, .int (nI 10))] [1, 2, 3, 4, 0, 5, 6, 7, 8, 9, 10, 11] X dL_holds_144 (Nat.le_of_ble_eq_true rfl) rfl rfl ?_
              refine V_iload (pc' := 148) 10 X dL_holds_146 rfl rfl ?_
              refine V_iload (pc' := 150) 6 X dL_holds_148 rfl rfl ?_
              refine V_icmp_le (pc' := 153) (C := (wIn (fun k => S (36 + k)) (rh 3 S (S 46) i)) ≤ ((bz (fun k => wIn (fun k => S (36 + k)) (rh 3 S (S 46) k)) i).2)) 158 X dL_holds_150 (by decide) rfl (nI_leI (by omega) (by omega)) (fun h150 => ?_) (fun h150 => ?_)
              · refine V_iload (pc' := 160) 5 X dL_holds_158 rfl rfl ?_
                refine V_istore (pc' := 162) [(0, .ref x), (1, .int (nI ((sm (fun k => cnt (rh 3 S (S 46) k)) i) + (cnt (rh 3 S (S 46) i))))), (2, .int (nI ((sm (fun k => cnt (S k)) i) + (cnt (S i))))), (3, .int (nI (((lsn (rh 3 S (S 46)) i).2) + 1))), (4, .int (nI ((lsn (rh 3 S (S 46)) i).1))), (5, .int (rN (bz (fun k => wIn (fun k => S (36 + k)) (rh 3 S (S 46) k)) i).1)), (6, .int (nI ((bz (fun k => wIn (fun k => S (36 + k)) (rh 3 S (S 46) k)) i).2))), (7, .int (nI 1)), (8, .int (nI i)), (9, .int (nI (rh 3 S (S 46) i))), (10, .int (nI (wIn (fun k => S (36 + k)) (rh 3 S (S 46) i)))), (11, .int (nI 10))] [1, 2, 3, 4, 5, 0, 6, 7, 8, 9, 10, 11] X dL_holds_160 (Nat.le_of_ble_eq_true rfl) rfl rfl ?_
                refine V_iload (pc' := 164) 10 X dL_holds_162 rfl rfl ?_
                refine V_iload (pc' := 166) 6 X dL_holds_164 rfl rfl ?_
                refine V_icmp_le (pc' := 169) (C := (wIn (fun k => S (36 + k)) (rh 3 S (S 46) i)) ≤ ((bz (fun k => wIn (fun k => S (36 + k)) (rh 3 S (S 46) k)) i).2)) 174 X dL_holds_166 (by decide) rfl (nI_leI (by omega) (by omega)) (fun _ => ?_) (fun hz => absurd (h150) hz)
                refine V_iload (pc' := 176) 6 X dL_holds_174 rfl rfl ?_
                refine V_istore (pc' := 178) [(0, .ref x), (1, .int (nI ((sm (fun k => cnt (rh 3 S (S 46) k)) i) + (cnt (rh 3 S (S 46) i))))), (2, .int (nI ((sm (fun k => cnt (S k)) i) + (cnt (S i))))), (3, .int (nI (((lsn (rh 3 S (S 46)) i).2) + 1))), (4, .int (nI ((lsn (rh 3 S (S 46)) i).1))), (5, .int (rN (bz (fun k => wIn (fun k => S (36 + k)) (rh 3 S (S 46) k)) i).1)), (6, .int (nI ((bz (fun k => wIn (fun k => S (36 + k)) (rh 3 S (S 46) k)) i).2))), (7, .int (nI 1)), (8, .int (nI i)), (9, .int (nI (rh 3 S (S 46) i))), (10, .int (nI (wIn (fun k => S (36 + k)) (rh 3 S (S 46) i)))), (11, .int (nI 10))] [1, 2, 3, 4, 5, 6, 0, 7, 8, 9, 10, 11] X dL_holds_176 (Nat.le_of_ble_eq_true rfl) rfl rfl ?_
                refine V_iload (pc' := 180) 9 X dL_holds_178 rfl rfl ?_
                refine V_aload_n (pc' := 181) 0 X dL_holds_180 rfl rfl rfl ?_
                refine V_iload (pc' := 183) 8 X dL_holds_181 rfl rfl ?_
                refine O_pegsIn (pc' := 186) (st := [.int (nI (rh 3 S (S 46) i))]) i (by omega) hw_21 X gL_holds_X5_pegsIn (Nat.le_of_ble_eq_true rfl) ⟨Nat.le_of_ble_eq_true rfl, Nat.le_of_ble_eq_true rfl⟩ ⟨Nat.le_of_ble_eq_true rfl, Nat.le_of_ble_eq_true rfl⟩ dL_holds_183 rfl (fun w_26 hw_26 => ?_)
                refine V_iconst (pc' := 187) (-1) X dL_holds_186 rfl rfl ?_
                refine V_ixor (pc' := 188) (((nI (S i)) ^^^ (-1))) X dL_holds_187 rfl rfl ?_
                refine V_iand (pc' := 189) (nI 0) X dL_holds_188 (z_andn0 (rh_bq S (S 46) i)) rfl ?_
                refine V_if_ne (pc' := 192) (C := 0 = 0) 196 X dL_holds_189 (by decide) rfl (z_eq0 (by omega)) (fun hz => absurd (by decide) hz) (fun _ => ?_)
                refine V_iconst (pc' := 193) (nI 1) X dL_holds_192 ki_1 rfl ?_
                refine V_goto (pc' := 197) X dL_holds_193 (by decide) ?_
                refine V_istore (pc' := 199) [(0, .ref x), (1, .int (nI ((sm (fun k => cnt (rh 3 S (S 46) k)) i) + (cnt (rh 3 S (S 46) i))))), (2, .int (nI ((sm (fun k => cnt (S k)) i) + (cnt (S i))))), (3, .int (nI (((lsn (rh 3 S (S 46)) i).2) + 1))), (4, .int (nI ((lsn (rh 3 S (S 46)) i).1))), (5, .int (rN (bz (fun k => wIn (fun k => S (36 + k)) (rh 3 S (S 46) k)) i).1)), (6, .int (nI ((bz (fun k => wIn (fun k => S (36 + k)) (rh 3 S (S 46) k)) i).2))), (7, .int (nI 1)), (8, .int (nI i)), (9, .int (nI (rh 3 S (S 46) i))), (10, .int (nI (wIn (fun k => S (36 + k)) (rh 3 S (S 46) i)))), (11, .int (nI 10))] [1, 2, 3, 4, 5, 6, 7, 0, 8, 9, 10, 11] X dL_holds_197 (Nat.le_of_ble_eq_true rfl) rfl rfl ?_
                refine V_iinc (pc' := 202) [(0, .ref x), (1, .int (nI ((sm (fun k => cnt (rh 3 S (S 46) k)) i) + (cnt (rh 3 S (S 46) i))))), (2, .int (nI ((sm (fun k => cnt (S k)) i) + (cnt (S i))))), (3, .int (nI (((lsn (rh 3 S (S 46)) i).2) + 1))), (4, .int (nI ((lsn (rh 3 S (S 46)) i).1))), (5, .int (rN (bz (fun k => wIn (fun k => S (36 + k)) (rh 3 S (S 46) k)) i).1)), (6, .int (nI ((bz (fun k => wIn (fun k => S (36 + k)) (rh 3 S (S 46) k)) i).2))), (7, .int (nI 1)), (8, .int (nI (i + 1))), (9, .int (nI (rh 3 S (S 46) i))), (10, .int (nI (wIn (fun k => S (36 + k)) (rh 3 S (S 46) i)))), (11, .int (nI 10))] 8 [1, 2, 3, 4, 5, 6, 7, 8, 0, 9, 10, 11] X dL_holds_199 rfl (nI_i1 _) (Nat.le_of_ble_eq_true rfl) rfl rfl ?_
                refine V_goto (pc' := 41) X dL_holds_202 (by decide) ?_
                refine V_lv [0, 1, 2, 3, 4, 5, 6, 7, 8] [(0, .ref x), (1, .int (nI ((sm (fun k => cnt (rh 3 S (S 46) k)) i) + (cnt (rh 3 S (S 46) i))))), (2, .int (nI ((sm (fun k => cnt (S k)) i) + (cnt (S i))))), (3, .int (nI (((lsn (rh 3 S (S 46)) i).2) + 1))), (4, .int (nI ((lsn (rh 3 S (S 46)) i).1))), (5, .int (rN (bz (fun k => wIn (fun k => S (36 + k)) (rh 3 S (S 46) k)) i).1)), (6, .int (nI ((bz (fun k => wIn (fun k => S (36 + k)) (rh 3 S (S 46) k)) i).2))), (7, .int (nI 1)), (8, .int (nI (i + 1)))] rfl ?_
                rw [show lsn (rh 3 S (S 46)) (i + 1) = ((lsn (rh 3 S (S 46)) i).1, (lsn (rh 3 S (S 46)) i).2 + 1) by rw [lsn, if_pos h121, Nat.max_eq_left h135]] at ih
                rw [show bz (fun k => wIn (fun k => S (36 + k)) (rh 3 S (S 46) k)) (i + 1) = bz (fun k => wIn (fun k => S (36 + k)) (rh 3 S (S 46) k)) i by rw [bz]; exact if_neg (by omega)] at ih
                exact ih w_26 hw_26
              · refine V_iload (pc' := 155) 8 X dL_holds_153 rfl rfl ?_
                refine V_goto (pc' := 160) X dL_holds_155 (by decide) ?_
                refine V_istore (pc' := 162) [(0, .ref x), (1, .int (nI ((sm (fun k => cnt (rh 3 S (S 46) k)) i) + (cnt (rh 3 S (S 46) i))))), (2, .int (nI ((sm (fun k => cnt (S k)) i) + (cnt (S i))))), (3, .int (nI (((lsn (rh 3 S (S 46)) i).2) + 1))), (4, .int (nI ((lsn (rh 3 S (S 46)) i).1))), (5, .int (nI i)), (6, .int (nI ((bz (fun k => wIn (fun k => S (36 + k)) (rh 3 S (S 46) k)) i).2))), (7, .int (nI 1)), (8, .int (nI i)), (9, .int (nI (rh 3 S (S 46) i))), (10, .int (nI (wIn (fun k => S (36 + k)) (rh 3 S (S 46) i)))), (11, .int (nI 10))] [1, 2, 3, 4, 5, 0, 6, 7, 8, 9, 10, 11] X dL_holds_160 (Nat.le_of_ble_eq_true rfl) rfl rfl ?_
                refine V_iload (pc' := 164) 10 X dL_holds_162 rfl rfl ?_
                refine V_iload (pc' := 166) 6 X dL_holds_164 rfl rfl ?_
                refine V_icmp_le (pc' := 169) (C := (wIn (fun k => S (36 + k)) (rh 3 S (S 46) i)) ≤ ((bz (fun k => wIn (fun k => S (36 + k)) (rh 3 S (S 46) k)) i).2)) 174 X dL_holds_166 (by decide) rfl (nI_leI (by omega) (by omega)) (fun hz => absurd hz (by omega)) (fun _ => ?_)
                refine V_iload (pc' := 171) 10 X dL_holds_169 rfl rfl ?_
                refine V_goto (pc' := 176) X dL_holds_171 (by decide) ?_
                refine V_istore (pc' := 178) [(0, .ref x), (1, .int (nI ((sm (fun k => cnt (rh 3 S (S 46) k)) i) + (cnt (rh 3 S (S 46) i))))), (2, .int (nI ((sm (fun k => cnt (S k)) i) + (cnt (S i))))), (3, .int (nI (((lsn (rh 3 S (S 46)) i).2) + 1))), (4, .int (nI ((lsn (rh 3 S (S 46)) i).1))), (5, .int (nI i)), (6, .int (nI (wIn (fun k => S (36 + k)) (rh 3 S (S 46) i)))), (7, .int (nI 1)), (8, .int (nI i)), (9, .int (nI (rh 3 S (S 46) i))), (10, .int (nI (wIn (fun k => S (36 + k)) (rh 3 S (S 46) i)))), (11, .int (nI 10))] [1, 2, 3, 4, 5, 6, 0, 7, 8, 9, 10, 11] X dL_holds_176 (Nat.le_of_ble_eq_true rfl) rfl rfl ?_
                refine V_iload (pc' := 180) 9 X dL_holds_178 rfl rfl ?_
                refine V_aload_n (pc' := 181) 0 X dL_holds_180 rfl rfl rfl ?_
                refine V_iload (pc' := 183) 8 X dL_holds_181 rfl rfl ?_
                refine O_pegsIn (pc' := 186) (st := [.int (nI (rh 3 S (S 46) i))]) i (by omega) hw_21 X gL_holds_X5_pegsIn (Nat.le_of_ble_eq_true rfl) ⟨Nat.le_of_ble_eq_true rfl, Nat.le_of_ble_eq_true rfl⟩ ⟨Nat.le_of_ble_eq_true rfl, Nat.le_of_ble_eq_true rfl⟩ dL_holds_183 rfl (fun w_27 hw_27 => ?_)
                refine V_iconst (pc' := 187) (-1) X dL_holds_186 rfl rfl ?_
                refine V_ixor (pc' := 188) (((nI (S i)) ^^^ (-1))) X dL_holds_187 rfl rfl ?_
                refine V_iand (pc' := 189) (nI 0) X dL_holds_188 (z_andn0 (rh_bq S (S 46) i)) rfl ?_
                refine V_if_ne (pc' := 192) (C := 0 = 0) 196 X dL_holds_189 (by decide) rfl (z_eq0 (by omega)) (fun hz => absurd (by decide) hz) (fun _ => ?_)
                refine V_iconst (pc' := 193) (nI 1) X dL_holds_192 ki_1 rfl ?_
                refine V_goto (pc' := 197) X dL_holds_193 (by decide) ?_
                refine V_istore (pc' := 199) [(0, .ref x), (1, .int (nI ((sm (fun k => cnt (rh 3 S (S 46) k)) i) + (cnt (rh 3 S (S 46) i))))), (2, .int (nI ((sm (fun k => cnt (S k)) i) + (cnt (S i))))), (3, .int (nI (((lsn (rh 3 S (S 46)) i).2) + 1))), (4, .int (nI ((lsn (rh 3 S (S 46)) i).1))), (5, .int (nI i)), (6, .int (nI (wIn (fun k => S (36 + k)) (rh 3 S (S 46) i)))), (7, .int (nI 1)), (8, .int (nI i)), (9, .int (nI (rh 3 S (S 46) i))), (10, .int (nI (wIn (fun k => S (36 + k)) (rh 3 S (S 46) i)))), (11, .int (nI 10))] [1, 2, 3, 4, 5, 6, 7, 0, 8, 9, 10, 11] X dL_holds_197 (Nat.le_of_ble_eq_true rfl) rfl rfl ?_
                refine V_iinc (pc' := 202) [(0, .ref x), (1, .int (nI ((sm (fun k => cnt (rh 3 S (S 46) k)) i) + (cnt (rh 3 S (S 46) i))))), (2, .int (nI ((sm (fun k => cnt (S k)) i) + (cnt (S i))))), (3, .int (nI (((lsn (rh 3 S (S 46)) i).2) + 1))), (4, .int (nI ((lsn (rh 3 S (S 46)) i).1))), (5, .int (nI i)), (6, .int (nI (wIn (fun k => S (36 + k)) (rh 3 S (S 46) i)))), (7, .int (nI 1)), (8, .int (nI (i + 1))), (9, .int (nI (rh 3 S (S 46) i))), (10, .int (nI (wIn (fun k => S (36 + k)) (rh 3 S (S 46) i)))), (11, .int (nI 10))] 8 [1, 2, 3, 4, 5, 6, 7, 8, 0, 9, 10, 11] X dL_holds_199 rfl (nI_i1 _) (Nat.le_of_ble_eq_true rfl) rfl rfl ?_
                refine V_goto (pc' := 41) X dL_holds_202 (by decide) ?_
                refine V_lv [0, 1, 2, 3, 4, 5, 6, 7, 8] [(0, .ref x), (1, .int (nI ((sm (fun k => cnt (rh 3 S (S 46) k)) i) + (cnt (rh 3 S (S 46) i))))), (2, .int (nI ((sm (fun k => cnt (S k)) i) + (cnt (S i))))), (3, .int (nI (((lsn (rh 3 S (S 46)) i).2) + 1))), (4, .int (nI ((lsn (rh 3 S (S 46)) i).1))), (5, .int (nI i)), (6, .int (nI (wIn (fun k => S (36 + k)) (rh 3 S (S 46) i)))), (7, .int (nI 1)), (8, .int (nI (i + 1)))] rfl ?_
                rw [show lsn (rh 3 S (S 46)) (i + 1) = ((lsn (rh 3 S (S 46)) i).1, (lsn (rh 3 S (S 46)) i).2 + 1) by rw [lsn, if_pos h121, Nat.max_eq_left h135]] at ih
                rw [show bz (fun k => wIn (fun k => S (36 + k)) (rh 3 S (S 46) k)) (i + 1) = (some i, wIn (fun k => S (36 + k)) (rh 3 S (S 46) i)) by rw [bz]; exact if_pos (by omega)] at ih
                exact ih w_27 hw_27
            · refine V_iload_n (pc' := 139) 3 X dL_holds_138 rfl rfl rfl ?_
              refine V_goto (pc' := 144) X dL_holds_139 (by decide) ?_
              refine V_istore (pc' := 146) [(0, .ref x), (1, .int (nI ((sm (fun k => cnt (rh 3 S (S 46) k)) i) + (cnt (rh 3 S (S 46) i))))), (2, .int (nI ((sm (fun k => cnt (S k)) i) + (cnt (S i))))), (3, .int (nI (((lsn (rh 3 S (S 46)) i).2) + 1))), (4, .int (nI (((lsn (rh 3 S (S 46)) i).2) + 1))), (5, .int (rN (bz (fun k => wIn (fun k => S (36 + k)) (rh 3 S (S 46) k)) i).1)), (6, .int (nI ((bz (fun k => wIn (fun k => S (36 + k)) (rh 3 S (S 46) k)) i).2))), (7, .int (nI 1)), (8, .int (nI i)), (9, .int (nI (rh 3 S (S 46) i))), (10, .int (nI (wIn (fun k => S (36 + k)) (rh 3 S (S 46) i)))), (11, .int (nI 10))] [1, 2, 3, 4, 0, 5, 6, 7, 8, 9, 10, 11] X dL_holds_144 (Nat.le_of_ble_eq_true rfl) rfl rfl ?_
              refine V_iload (pc' := 148) 10 X dL_holds_146 rfl rfl ?_
              refine V_iload (pc' := 150) 6 X dL_holds_148 rfl rfl ?_
              refine V_icmp_le (pc' := 153) (C := (wIn (fun k => S (36 + k)) (rh 3 S (S 46) i)) ≤ ((bz (fun k => wIn (fun k => S (36 + k)) (rh 3 S (S 46) k)) i).2)) 158 X dL_holds_150 (by decide) rfl (nI_leI (by omega) (by omega)) (fun h150 => ?_) (fun h150 => ?_)
              · refine V_iload (pc' := 160) 5 X dL_holds_158 rfl rfl ?_
                refine V_istore (pc' := 162) [(0, .ref x), (1, .int (nI ((sm (fun k => cnt (rh 3 S (S 46) k)) i) + (cnt (rh 3 S (S 46) i))))), (2, .int (nI ((sm (fun k => cnt (S k)) i) + (cnt (S i))))), (3, .int (nI (((lsn (rh 3 S (S 46)) i).2) + 1))), (4, .int (nI (((lsn (rh 3 S (S 46)) i).2) + 1))), (5, .int (rN (bz (fun k => wIn (fun k => S (36 + k)) (rh 3 S (S 46) k)) i).1)), (6, .int (nI ((bz (fun k => wIn (fun k => S (36 + k)) (rh 3 S (S 46) k)) i).2))), (7, .int (nI 1)), (8, .int (nI i)), (9, .int (nI (rh 3 S (S 46) i))), (10, .int (nI (wIn (fun k => S (36 + k)) (rh 3 S (S 46) i)))), (11, .int (nI 10))] [1, 2, 3, 4, 5, 0, 6, 7, 8, 9, 10, 11] X dL_holds_160 (Nat.le_of_ble_eq_true rfl) rfl rfl ?_
                refine V_iload (pc' := 164) 10 X dL_holds_162 rfl rfl ?_
                refine V_iload (pc' := 166) 6 X dL_holds_164 rfl rfl ?_
                refine V_icmp_le (pc' := 169) (C := (wIn (fun k => S (36 + k)) (rh 3 S (S 46) i)) ≤ ((bz (fun k => wIn (fun k => S (36 + k)) (rh 3 S (S 46) k)) i).2)) 174 X dL_holds_166 (by decide) rfl (nI_leI (by omega) (by omega)) (fun _ => ?_) (fun hz => absurd (h150) hz)
                refine V_iload (pc' := 176) 6 X dL_holds_174 rfl rfl ?_
                refine V_istore (pc' := 178) [(0, .ref x), (1, .int (nI ((sm (fun k => cnt (rh 3 S (S 46) k)) i) + (cnt (rh 3 S (S 46) i))))), (2, .int (nI ((sm (fun k => cnt (S k)) i) + (cnt (S i))))), (3, .int (nI (((lsn (rh 3 S (S 46)) i).2) + 1))), (4, .int (nI (((lsn (rh 3 S (S 46)) i).2) + 1))), (5, .int (rN (bz (fun k => wIn (fun k => S (36 + k)) (rh 3 S (S 46) k)) i).1)), (6, .int (nI ((bz (fun k => wIn (fun k => S (36 + k)) (rh 3 S (S 46) k)) i).2))), (7, .int (nI 1)), (8, .int (nI i)), (9, .int (nI (rh 3 S (S 46) i))), (10, .int (nI (wIn (fun k => S (36 + k)) (rh 3 S (S 46) i)))), (11, .int (nI 10))] [1, 2, 3, 4, 5, 6, 0, 7, 8, 9, 10, 11] X dL_holds_176 (Nat.le_of_ble_eq_true rfl) rfl rfl ?_
                refine V_iload (pc' := 180) 9 X dL_holds_178 rfl rfl ?_
                refine V_aload_n (pc' := 181) 0 X dL_holds_180 rfl rfl rfl ?_
                refine V_iload (pc' := 183) 8 X dL_holds_181 rfl rfl ?_
                refine O_pegsIn (pc' := 186) (st := [.int (nI (rh 3 S (S 46) i))]) i (by omega) hw_21 X gL_holds_X5_pegsIn (Nat.le_of_ble_eq_true rfl) ⟨Nat.le_of_ble_eq_true rfl, Nat.le_of_ble_eq_true rfl⟩ ⟨Nat.le_of_ble_eq_true rfl, Nat.le_of_ble_eq_true rfl⟩ dL_holds_183 rfl (fun w_28 hw_28 => ?_)
                refine V_iconst (pc' := 187) (-1) X dL_holds_186 rfl rfl ?_
                refine V_ixor (pc' := 188) (((nI (S i)) ^^^ (-1))) X dL_holds_187 rfl rfl ?_
                refine V_iand (pc' := 189) (nI 0) X dL_holds_188 (z_andn0 (rh_bq S (S 46) i)) rfl ?_
                refine V_if_ne (pc' := 192) (C := 0 = 0) 196 X dL_holds_189 (by decide) rfl (z_eq0 (by omega)) (fun hz => absurd (by decide) hz) (fun _ => ?_)
                refine V_iconst (pc' := 193) (nI 1) X dL_holds_192 ki_1 rfl ?_
                refine V_goto (pc' := 197) X dL_holds_193 (by decide) ?_
                refine V_istore (pc' := 199) [(0, .ref x), (1, .int (nI ((sm (fun k => cnt (rh 3 S (S 46) k)) i) + (cnt (rh 3 S (S 46) i))))), (2, .int (nI ((sm (fun k => cnt (S k)) i) + (cnt (S i))))), (3, .int (nI (((lsn (rh 3 S (S 46)) i).2) + 1))), (4, .int (nI (((lsn (rh 3 S (S 46)) i).2) + 1))), (5, .int (rN (bz (fun k => wIn (fun k => S (36 + k)) (rh 3 S (S 46) k)) i).1)), (6, .int (nI ((bz (fun k => wIn (fun k => S (36 + k)) (rh 3 S (S 46) k)) i).2))), (7, .int (nI 1)), (8, .int (nI i)), (9, .int (nI (rh 3 S (S 46) i))), (10, .int (nI (wIn (fun k => S (36 + k)) (rh 3 S (S 46) i)))), (11, .int (nI 10))] [1, 2, 3, 4, 5, 6, 7, 0, 8, 9, 10, 11] X dL_holds_197 (Nat.le_of_ble_eq_true rfl) rfl rfl ?_
                refine V_iinc (pc' := 202) [(0, .ref x), (1, .int (nI ((sm (fun k => cnt (rh 3 S (S 46) k)) i) + (cnt (rh 3 S (S 46) i))))), (2, .int (nI ((sm (fun k => cnt (S k)) i) + (cnt (S i))))), (3, .int (nI (((lsn (rh 3 S (S 46)) i).2) + 1))), (4, .int (nI (((lsn (rh 3 S (S 46)) i).2) + 1))), (5, .int (rN (bz (fun k => wIn (fun k => S (36 + k)) (rh 3 S (S 46) k)) i).1)), (6, .int (nI ((bz (fun k => wIn (fun k => S (36 + k)) (rh 3 S (S 46) k)) i).2))), (7, .int (nI 1)), (8, .int (nI (i + 1))), (9, .int (nI (rh 3 S (S 46) i))), (10, .int (nI (wIn (fun k => S (36 + k)) (rh 3 S (S 46) i)))), (11, .int (nI 10))] 8 [1, 2, 3, 4, 5, 6, 7, 8, 0, 9, 10, 11] X dL_holds_199 rfl (nI_i1 _) (Nat.le_of_ble_eq_true rfl) rfl rfl ?_
                refine V_goto (pc' := 41) X dL_holds_202 (by decide) ?_
                refine V_lv [0, 1, 2, 3, 4, 5, 6, 7, 8] [(0, .ref x), (1, .int (nI ((sm (fun k => cnt (rh 3 S (S 46) k)) i) + (cnt (rh 3 S (S 46) i))))), (2, .int (nI ((sm (fun k => cnt (S k)) i) + (cnt (S i))))), (3, .int (nI (((lsn (rh 3 S (S 46)) i).2) + 1))), (4, .int (nI (((lsn (rh 3 S (S 46)) i).2) + 1))), (5, .int (rN (bz (fun k => wIn (fun k => S (36 + k)) (rh 3 S (S 46) k)) i).1)), (6, .int (nI ((bz (fun k => wIn (fun k => S (36 + k)) (rh 3 S (S 46) k)) i).2))), (7, .int (nI 1)), (8, .int (nI (i + 1)))] rfl ?_
                rw [show lsn (rh 3 S (S 46)) (i + 1) = ((lsn (rh 3 S (S 46)) i).2 + 1, (lsn (rh 3 S (S 46)) i).2 + 1) by rw [lsn, if_pos h121, Nat.max_eq_right (by omega)]] at ih
                rw [show bz (fun k => wIn (fun k => S (36 + k)) (rh 3 S (S 46) k)) (i + 1) = bz (fun k => wIn (fun k => S (36 + k)) (rh 3 S (S 46) k)) i by rw [bz]; exact if_neg (by omega)] at ih
                exact ih w_28 hw_28
              · refine V_iload (pc' := 155) 8 X dL_holds_153 rfl rfl ?_
                refine V_goto (pc' := 160) X dL_holds_155 (by decide) ?_
                refine V_istore (pc' := 162) [(0, .ref x), (1, .int (nI ((sm (fun k => cnt (rh 3 S (S 46) k)) i) + (cnt (rh 3 S (S 46) i))))), (2, .int (nI ((sm (fun k => cnt (S k)) i) + (cnt (S i))))), (3, .int (nI (((lsn (rh 3 S (S 46)) i).2) + 1))), (4, .int (nI (((lsn (rh 3 S (S 46)) i).2) + 1))), (5, .int (nI i)), (6, .int (nI ((bz (fun k => wIn (fun k => S (36 + k)) (rh 3 S (S 46) k)) i).2))), (7, .int (nI 1)), (8, .int (nI i)), (9, .int (nI (rh 3 S (S 46) i))), (10, .int (nI (wIn (fun k => S (36 + k)) (rh 3 S (S 46) i)))), (11, .int (nI 10))] [1, 2, 3, 4, 5, 0, 6, 7, 8, 9, 10, 11] X dL_holds_160 (Nat.le_of_ble_eq_true rfl) rfl rfl ?_
                refine V_iload (pc' := 164) 10 X dL_holds_162 rfl rfl ?_
                refine V_iload (pc' := 166) 6 X dL_holds_164 rfl rfl ?_
                refine V_icmp_le (pc' := 169) (C := (wIn (fun k => S (36 + k)) (rh 3 S (S 46) i)) ≤ ((bz (fun k => wIn (fun k => S (36 + k)) (rh 3 S (S 46) k)) i).2)) 174 X dL_holds_166 (by decide) rfl (nI_leI (by omega) (by omega)) (fun hz => absurd hz (by omega)) (fun _ => ?_)
                refine V_iload (pc' := 171) 10 X dL_holds_169 rfl rfl ?_
                refine V_goto (pc' := 176) X dL_holds_171 (by decide) ?_
                refine V_istore (pc' := 178) [(0, .ref x), (1, .int (nI ((sm (fun k => cnt (rh 3 S (S 46) k)) i) + (cnt (rh 3 S (S 46) i))))), (2, .int (nI ((sm (fun k => cnt (S k)) i) + (cnt (S i))))), (3, .int (nI (((lsn (rh 3 S (S 46)) i).2) + 1))), (4, .int (nI (((lsn (rh 3 S (S 46)) i).2) + 1))), (5, .int (nI i)), (6, .int (nI (wIn (fun k => S (36 + k)) (rh 3 S (S 46) i)))), (7, .int (nI 1)), (8, .int (nI i)), (9, .int (nI (rh 3 S (S 46) i))), (10, .int (nI (wIn (fun k => S (36 + k)) (rh 3 S (S 46) i)))), (11, .int (nI 10))] [1, 2, 3, 4, 5, 6, 0, 7, 8, 9, 10, 11] X dL_holds_176 (Nat.le_of_ble_eq_true rfl) rfl rfl ?_
                refine V_iload (pc' := 180) 9 X dL_holds_178 rfl rfl ?_
                refine V_aload_n (pc' := 181) 0 X dL_holds_180 rfl rfl rfl ?_
                refine V_iload (pc' := 183) 8 X dL_holds_181 rfl rfl ?_
                refine O_pegsIn (pc' := 186) (st := [.int (nI (rh 3 S (S 46) i))]) i (by omega) hw_21 X gL_holds_X5_pegsIn (Nat.le_of_ble_eq_true rfl) ⟨Nat.le_of_ble_eq_true rfl, Nat.le_of_ble_eq_true rfl⟩ ⟨Nat.le_of_ble_eq_true rfl, Nat.le_of_ble_eq_true rfl⟩ dL_holds_183 rfl (fun w_29 hw_29 => ?_)
                refine V_iconst (pc' := 187) (-1) X dL_holds_186 rfl rfl ?_
                refine V_ixor (pc' := 188) (((nI (S i)) ^^^ (-1))) X dL_holds_187 rfl rfl ?_
                refine V_iand (pc' := 189) (nI 0) X dL_holds_188 (z_andn0 (rh_bq S (S 46) i)) rfl ?_
                refine V_if_ne (pc' := 192) (C := 0 = 0) 196 X dL_holds_189 (by decide) rfl (z_eq0 (by omega)) (fun hz => absurd (by decide) hz) (fun _ => ?_)
                refine V_iconst (pc' := 193) (nI 1) X dL_holds_192 ki_1 rfl ?_
                refine V_goto (pc' := 197) X dL_holds_193 (by decide) ?_
                refine V_istore (pc' := 199) [(0, .ref x), (1, .int (nI ((sm (fun k => cnt (rh 3 S (S 46) k)) i) + (cnt (rh 3 S (S 46) i))))), (2, .int (nI ((sm (fun k => cnt (S k)) i) + (cnt (S i))))), (3, .int (nI (((lsn (rh 3 S (S 46)) i).2) + 1))), (4, .int (nI (((lsn (rh 3 S (S 46)) i).2) + 1))), (5, .int (nI i)), (6, .int (nI (wIn (fun k => S (36 + k)) (rh 3 S (S 46) i)))), (7, .int (nI 1)), (8, .int (nI i)), (9, .int (nI (rh 3 S (S 46) i))), (10, .int (nI (wIn (fun k => S (36 + k)) (rh 3 S (S 46) i)))), (11, .int (nI 10))] [1, 2, 3, 4, 5, 6, 7, 0, 8, 9, 10, 11] X dL_holds_197 (Nat.le_of_ble_eq_true rfl) rfl rfl ?_
                refine V_iinc (pc' := 202) [(0, .ref x), (1, .int (nI ((sm (fun k => cnt (rh 3 S (S 46) k)) i) + (cnt (rh 3 S (S 46) i))))), (2, .int (nI ((sm (fun k => cnt (S k)) i) + (cnt (S i))))), (3, .int (nI (((lsn (rh 3 S (S 46)) i).2) + 1))), (4, .int (nI (((lsn (rh 3 S (S 46)) i).2) + 1))), (5, .int (nI i)), (6, .int (nI (wIn (fun k => S (36 + k)) (rh 3 S (S 46) i)))), (7, .int (nI 1)), (8, .int (nI (i + 1))), (9, .int (nI (rh 3 S (S 46) i))), (10, .int (nI (wIn (fun k => S (36 + k)) (rh 3 S (S 46) i)))), (11, .int (nI 10))] 8 [1, 2, 3, 4, 5, 6, 7, 8, 0, 9, 10, 11] X dL_holds_199 rfl (nI_i1 _) (Nat.le_of_ble_eq_true rfl) rfl rfl ?_
                refine V_goto (pc' := 41) X dL_holds_202 (by decide) ?_
                refine V_lv [0, 1, 2, 3, 4, 5, 6, 7, 8] [(0, .ref x), (1, .int (nI ((sm (fun k => cnt (rh 3 S (S 46) k)) i) + (cnt (rh 3 S (S 46) i))))), (2, .int (nI ((sm (fun k => cnt (S k)) i) + (cnt (S i))))), (3, .int (nI (((lsn (rh 3 S (S 46)) i).2) + 1))), (4, .int (nI (((lsn (rh 3 S (S 46)) i).2) + 1))), (5, .int (nI i)), (6, .int (nI (wIn (fun k => S (36 + k)) (rh 3 S (S 46) i)))), (7, .int (nI 1)), (8, .int (nI (i + 1)))] rfl ?_
                rw [show lsn (rh 3 S (S 46)) (i + 1) = ((lsn (rh 3 S (S 46)) i).2 + 1, (lsn (rh 3 S (S 46)) i).2 + 1) by rw [lsn, if_pos h121, Nat.max_eq_right (by omega)]] at ih
                rw [show bz (fun k => wIn (fun k => S (36 + k)) (rh 3 S (S 46) k)) (i + 1) = (some i, wIn (fun k => S (36 + k)) (rh 3 S (S 46) i)) by rw [bz]; exact if_pos (by omega)] at ih
                exact ih w_29 hw_29
        · intro j hi_j ih wl_2 hl_2
          show V E G A 12 [wl_2] 0 0 Q 67 [(0, .ref x), (1, .int (nI (sm (fun k => cnt (rh 3 S (S 46) k)) i))), (2, .int (nI (sm (fun k => cnt (S k)) i))), (3, .int (nI ((lsn (rh 3 S (S 46)) i).2))), (4, .int (nI ((lsn (rh 3 S (S 46)) i).1))), (5, .int (rN (bz (fun k => wIn (fun k => S (36 + k)) (rh 3 S (S 46) k)) i).1)), (6, .int (nI ((bz (fun k => wIn (fun k => S (36 + k)) (rh 3 S (S 46) k)) i).2))), (7, .int (nI 1)), (8, .int (nI i)), (9, .int (nI (rh 3 S (S 46) i))), (10, .int (nI (sm (fun k => bq (rh 3 S (S 46) i) k * S (36 + k)) j))), (11, .int (nI j))] []
          refine V_iload (pc' := 69) 11 X dL_holds_67 rfl rfl ?_
          refine V_bipush (pc' := 71) (nI 10) X dL_holds_69 kb_10 rfl ?_
          refine V_icmp_ge (pc' := 74) (C := 10 ≤ j) 99 X dL_holds_71 (by decide) rfl (nI_leI (by omega) (by omega)) (fun hz => absurd hz (by omega)) (fun _ => ?_)
          refine V_iload (pc' := 76) 10 X dL_holds_74 rfl rfl ?_
          refine V_iload (pc' := 78) 9 X dL_holds_76 rfl rfl ?_
          refine V_iload (pc' := 80) 11 X dL_holds_78 rfl rfl ?_
          refine V_ishr (pc' := 81) (nI ((rh 3 S (S 46) i) / 2 ^ j)) X dL_holds_80 (z_shr (by omega) (by omega)) rfl ?_
          refine V_iconst (pc' := 82) (nI 1) X dL_holds_81 ki_1 rfl ?_
          refine V_iand (pc' := 83) (nI (bq (rh 3 S (S 46) i) j)) X dL_holds_82 (z_and1 _) rfl ?_
          refine V_aload_n (pc' := 84) 0 X dL_holds_83 rfl rfl rfl ?_
          refine V_iload (pc' := 86) 11 X dL_holds_84 rfl rfl ?_
          refine O_weightOf (pc' := 89) (st := [.int (nI (bq (rh 3 S (S 46) i) j)), .int (nI (sm (fun k => bq (rh 3 S (S 46) i) k * S (36 + k)) j))]) j (by omega) hl_2 X gL_holds_X5_weightOf (Nat.le_of_ble_eq_true rfl) ⟨Nat.le_of_ble_eq_true rfl, Nat.le_of_ble_eq_true rfl⟩ ⟨Nat.le_of_ble_eq_true rfl, Nat.le_of_ble_eq_true rfl⟩ dL_holds_86 rfl (fun w_30 hw_30 => ?_)
          refine V_imul (pc' := 90) (nI ((bq (rh 3 S (S 46) i) j) * (S (36 + j)))) X dL_holds_89 (pk_mul _ _) rfl ?_
          refine V_iadd (pc' := 91) (nI ((sm (fun k => bq (rh 3 S (S 46) i) k * S (36 + k)) j) + ((bq (rh 3 S (S 46) i) j) * (S (36 + j))))) X dL_holds_90 (nI_add _ _) rfl ?_
          refine V_istore (pc' := 93) [(0, .ref x), (1, .int (nI (sm (fun k => cnt (rh 3 S (S 46) k)) i))), (2, .int (nI (sm (fun k => cnt (S k)) i))), (3, .int (nI ((lsn (rh 3 S (S 46)) i).2))), (4, .int (nI ((lsn (rh 3 S (S 46)) i).1))), (5, .int (rN (bz (fun k => wIn (fun k => S (36 + k)) (rh 3 S (S 46) k)) i).1)), (6, .int (nI ((bz (fun k => wIn (fun k => S (36 + k)) (rh 3 S (S 46) k)) i).2))), (7, .int (nI 1)), (8, .int (nI i)), (9, .int (nI (rh 3 S (S 46) i))), (10, .int (nI ((sm (fun k => bq (rh 3 S (S 46) i) k * S (36 + k)) j) + ((bq (rh 3 S (S 46) i) j) * (S (36 + j)))))), (11, .int (nI j))] [1, 2, 3, 4, 5, 6, 7, 8, 9, 10, 0, 11] X dL_holds_91 (Nat.le_of_ble_eq_true rfl) rfl rfl ?_
          refine V_iinc (pc' := 96) [(0, .ref x), (1, .int (nI (sm (fun k => cnt (rh 3 S (S 46) k)) i))), (2, .int (nI (sm (fun k => cnt (S k)) i))), (3, .int (nI ((lsn (rh 3 S (S 46)) i).2))), (4, .int (nI ((lsn (rh 3 S (S 46)) i).1))), (5, .int (rN (bz (fun k => wIn (fun k => S (36 + k)) (rh 3 S (S 46) k)) i).1)), (6, .int (nI ((bz (fun k => wIn (fun k => S (36 + k)) (rh 3 S (S 46) k)) i).2))), (7, .int (nI 1)), (8, .int (nI i)), (9, .int (nI (rh 3 S (S 46) i))), (10, .int (nI ((sm (fun k => bq (rh 3 S (S 46) i) k * S (36 + k)) j) + ((bq (rh 3 S (S 46) i) j) * (S (36 + j)))))), (11, .int (nI (j + 1)))] 11 [1, 2, 3, 4, 5, 6, 7, 8, 9, 10, 11, 0] X dL_holds_93 rfl (nI_i1 _) (Nat.le_of_ble_eq_true rfl) rfl rfl ?_
          refine V_goto (pc' := 67) X dL_holds_96 (by decide) ?_
          exact ih w_30 hw_30
      exact lp_2 0 (Nat.zero_le _) w_20 hw_20
  exact lp_1 0 (Nat.zero_le _) w_2 hw_2

set_option maxHeartbeats 4000000 in
set_option maxRecDepth 100000 in
theorem c_L_round (l : Launch) (G : gT) (x K : Nat) (S : Nat → Nat) (n : Nat) (T : Nat → Nat → Nat) (P : Nat → Option (Nat → Nat)) (w : va_W) (hw : OJ G x K S n T P w) (hK : K ≤ 90000) : CM l G yL_round wsL_round 7 166 1 [.ref x] [w] 7 77 (fun v u => v = some (.int (nI 1)) ∧ ∃ (S' : Nat → Nat) (n' : Nat) (T' : Nat → Nat → Nat) (P' : Nat → Option (Nat → Nat)) (w' : va_W), OJ G x (K + 64) S' n' T' P' w' ∧ u = [w']) := by
  refine CM_of RL 6 134 rfl rfl (by decide) (by decide +kernel) (Nat.le_of_ble_eq_true rfl) (fun E A X hrt hnm => ?_)
  generalize hQ : QM E G A _ _ _ = Q
  obtain ⟨i1, i2, i3, i4, i5, i6⟩ := hw.iv
  have r47 : stkN 3 (tbk 3 S) 32 47 = 0 := (rnd_at (S := S) 32 (Nat.le_refl _)).2.1
  have r70 : stkN 3 (tbk 3 S) 32 70 - tbk 3 S 70 = sm (fun k => cnt (rh 3 S (S 46) k)) 32 := by rw [(rnd_at (S := S) 32 (Nat.le_refl _)).2.2.1]; show S 70 + _ - S 70 = _; omega
  have r59 : stkN 3 (tbk 3 S) 32 59 = tbk 3 S 59 + (pgs S - sm (fun k => cnt (rh 3 S (S 46) k)) 32) := by rw [(rnd_at (S := S) 32 (Nat.le_refl _)).2.2.2.1, (sm_sub (f := fun k => cnt (S k)) (g := fun k => cnt (rh 3 S (S 46) k)) (fun k _ => rh_cnt S (S 46) k)).1]; rfl
  have r48 : stkN 3 (tbk 3 S) 32 48 = tbk 3 S 48 + tks S := by rw [(rnd_at (S := S) 32 (Nat.le_refl _)).2.2.2.2, tks_eq]; rfl
  have r46 : stkN 3 (tbk 3 S) 32 46 = S 46 := by rw [stkN_lo (by decide), tbk_lo (by decide)]
  have j46 := hw.2.1.2.1
  show V E G A 13 [w] 0 0 Q 0 [(0, .ref x)] []
  refine V_aload_n (pc' := 1) 0 X dL_round_0 rfl rfl rfl ?_
  refine V_iconst (pc' := 2) (nI 0) X dL_round_1 ki_0 rfl ?_
  refine O_save0 (pc' := 5) (st := []) hw X gL_round_X5_save (Nat.le_of_ble_eq_true rfl) ⟨Nat.le_of_ble_eq_true rfl, Nat.le_of_ble_eq_true rfl⟩ ⟨Nat.le_of_ble_eq_true rfl, Nat.le_of_ble_eq_true rfl⟩ dL_round_2 rfl (fun w_1 hw_1 => ?_)
  refine V_istore_n (pc' := 6) [(0, .ref x), (1, .int (nI (pgs S)))] [1, 0] X dL_round_5 rfl (Nat.le_of_ble_eq_true rfl) rfl rfl ?_
  refine V_aload_n (pc' := 7) 0 X dL_round_6 rfl rfl rfl ?_
  refine V_iconst (pc' := 8) (nI 0) X dL_round_7 ki_0 rfl ?_
  refine O_heardInRound (pc' := 11) (st := []) 0 (by decide) hw_1 X gL_round_X5_heardInRound (Nat.le_of_ble_eq_true rfl) ⟨Nat.le_of_ble_eq_true rfl, Nat.le_of_ble_eq_true rfl⟩ ⟨Nat.le_of_ble_eq_true rfl, Nat.le_of_ble_eq_true rfl⟩ dL_round_8 rfl (fun w_2 hw_2 => ?_)
  refine V_istore_n (pc' := 12) [(0, .ref x), (1, .int (nI (pgs S))), (2, .int (nI (sm (fun k => cnt (rh 3 S (S 46) k)) 32)))] [1, 2, 0] X dL_round_11 rfl (Nat.le_of_ble_eq_true rfl) rfl rfl ?_
  refine V_aload_n (pc' := 13) 0 X dL_round_12 rfl rfl rfl ?_
  refine O_missedInRound (pc' := 16) (st := []) hw_2 X gL_round_X5_missedInRound (Nat.le_of_ble_eq_true rfl) ⟨Nat.le_of_ble_eq_true rfl, Nat.le_of_ble_eq_true rfl⟩ ⟨Nat.le_of_ble_eq_true rfl, Nat.le_of_ble_eq_true rfl⟩ dL_round_13 rfl (fun w_3 hw_3 => ?_)
  refine V_istore_n (pc' := 17) [(0, .ref x), (1, .int (nI (pgs S))), (2, .int (nI (sm (fun k => cnt (rh 3 S (S 46) k)) 32))), (3, .int (nI (pgs S - sm (fun k => cnt (rh 3 S (S 46) k)) 32)))] [1, 2, 3, 0] X dL_round_16 rfl (Nat.le_of_ble_eq_true rfl) rfl rfl ?_
  refine V_aload_n (pc' := 18) 0 X dL_round_17 rfl rfl rfl ?_
  refine V_iconst (pc' := 19) (nI 0) X dL_round_18 ki_0 rfl ?_
  refine O_ticksOfRound (pc' := 22) (st := []) 0 (by decide) hw_3 X gL_round_X5_ticksOfRound (Nat.le_of_ble_eq_true rfl) ⟨Nat.le_of_ble_eq_true rfl, Nat.le_of_ble_eq_true rfl⟩ ⟨Nat.le_of_ble_eq_true rfl, Nat.le_of_ble_eq_true rfl⟩ dL_round_19 rfl (fun w_4 hw_4 => ?_)
  refine V_istore (pc' := 24) [(0, .ref x), (1, .int (nI (pgs S))), (2, .int (nI (sm (fun k => cnt (rh 3 S (S 46) k)) 32))), (3, .int (nI (pgs S - sm (fun k => cnt (rh 3 S (S 46) k)) 32))), (4, .int (nI (tks S)))] [1, 2, 3, 4, 0] X dL_round_22 (Nat.le_of_ble_eq_true rfl) rfl rfl ?_
  refine V_aload_n (pc' := 25) 0 X dL_round_24 rfl rfl rfl ?_
  refine O_turnBack (pc' := 28) (st := []) hw_4 X gL_round_X5_turnBack (Nat.le_of_ble_eq_true rfl) ⟨Nat.le_of_ble_eq_true rfl, Nat.le_of_ble_eq_true rfl⟩ ⟨Nat.le_of_ble_eq_true rfl, Nat.le_of_ble_eq_true rfl⟩ dL_round_25 rfl (fun w_5 hw_5 => ?_)
  refine V_istore (pc' := 30) [(0, .ref x), (1, .int (nI (pgs S))), (2, .int (nI (sm (fun k => cnt (rh 3 S (S 46) k)) 32))), (3, .int (nI (pgs S - sm (fun k => cnt (rh 3 S (S 46) k)) 32))), (4, .int (nI (tks S))), (5, .int (nI (S 47)))] [1, 2, 3, 4, 5, 0] X dL_round_28 (Nat.le_of_ble_eq_true rfl) rfl rfl ?_
  refine V_aload_n (pc' := 31) 0 X dL_round_30 rfl rfl rfl ?_
  refine O_missed (pc' := 34) (st := []) hw_5 X gL_round_X5_missed (Nat.le_of_ble_eq_true rfl) ⟨Nat.le_of_ble_eq_true rfl, Nat.le_of_ble_eq_true rfl⟩ ⟨Nat.le_of_ble_eq_true rfl, Nat.le_of_ble_eq_true rfl⟩ dL_round_31 rfl (fun w_6 hw_6 => ?_)
  refine V_istore (pc' := 36) [(0, .ref x), (1, .int (nI (pgs S))), (2, .int (nI (sm (fun k => cnt (rh 3 S (S 46) k)) 32))), (3, .int (nI (pgs S - sm (fun k => cnt (rh 3 S (S 46) k)) 32))), (4, .int (nI (tks S))), (5, .int (nI (S 47))), (6, .int (nI ((tbk 3 S) 59)))] [1, 2, 3, 4, 5, 6, 0] X dL_round_34 (Nat.le_of_ble_eq_true rfl) rfl rfl ?_
  refine V_aload_n (pc' := 37) 0 X dL_round_36 rfl rfl rfl ?_
  refine O_time (pc' := 40) (st := []) hw_6 X gL_round_X5_time (Nat.le_of_ble_eq_true rfl) ⟨Nat.le_of_ble_eq_true rfl, Nat.le_of_ble_eq_true rfl⟩ ⟨Nat.le_of_ble_eq_true rfl, Nat.le_of_ble_eq_true rfl⟩ dL_round_37 rfl (fun w_7 hw_7 => ?_)
  refine V_istore (pc' := 42) [(0, .ref x), (1, .int (nI (pgs S))), (2, .int (nI (sm (fun k => cnt (rh 3 S (S 46) k)) 32))), (3, .int (nI (pgs S - sm (fun k => cnt (rh 3 S (S 46) k)) 32))), (4, .int (nI (tks S))), (5, .int (nI (S 47))), (6, .int (nI ((tbk 3 S) 59))), (7, .int (nI ((tbk 3 S) 48)))] [1, 2, 3, 4, 5, 6, 7, 0] X dL_round_40 (Nat.le_of_ble_eq_true rfl) rfl rfl ?_
  refine V_aload_n (pc' := 43) 0 X dL_round_42 rfl rfl rfl ?_
  refine V_bipush (pc' := 45) (nI 32) X dL_round_43 kb_32 rfl ?_
  refine O_crank (pc' := 48) (st := []) 32 (by decide) (by decide) hw_7 X gL_round_X5_crank (Nat.le_of_ble_eq_true rfl) ⟨Nat.le_of_ble_eq_true rfl, Nat.le_of_ble_eq_true rfl⟩ ⟨Nat.le_of_ble_eq_true rfl, Nat.le_of_ble_eq_true rfl⟩ dL_round_45 rfl (fun w_8 hw_8 => ?_)
  refine V_iload_n (pc' := 49) 2 X dL_round_48 rfl rfl rfl ?_
  refine V_icmp_ne (pc' := 52) (C := (nI (stkN 3 (tbk 3 S) 32 70 - (tbk 3 S) 70)) = (nI (sm (fun k => cnt (rh 3 S (S 46) k)) 32))) 86 X dL_round_49 (by decide) rfl Iff.rfl (fun hz => absurd (congrArg nI r70) hz) (fun _ => ?_)
  refine V_aload_n (pc' := 53) 0 X dL_round_52 rfl rfl rfl ?_
  refine O_missed (pc' := 56) (st := []) hw_8 X gL_round_X5_missed (Nat.le_of_ble_eq_true rfl) ⟨Nat.le_of_ble_eq_true rfl, Nat.le_of_ble_eq_true rfl⟩ ⟨Nat.le_of_ble_eq_true rfl, Nat.le_of_ble_eq_true rfl⟩ dL_round_53 rfl (fun w_9 hw_9 => ?_)
  refine V_iload (pc' := 58) 6 X dL_round_56 rfl rfl ?_
  refine V_iload_n (pc' := 59) 3 X dL_round_58 rfl rfl rfl ?_
  refine V_iadd (pc' := 60) (nI (((tbk 3 S) 59) + (pgs S - sm (fun k => cnt (rh 3 S (S 46) k)) 32))) X dL_round_59 (nI_add _ _) rfl ?_
  refine V_icmp_ne (pc' := 63) (C := (nI ((stkN 3 (tbk 3 S) 32) 59)) = (nI (((tbk 3 S) 59) + (pgs S - sm (fun k => cnt (rh 3 S (S 46) k)) 32)))) 86 X dL_round_60 (by decide) rfl Iff.rfl (fun hz => absurd (congrArg nI r59) hz) (fun _ => ?_)
  refine V_aload_n (pc' := 64) 0 X dL_round_63 rfl rfl rfl ?_
  refine O_time (pc' := 67) (st := []) hw_9 X gL_round_X5_time (Nat.le_of_ble_eq_true rfl) ⟨Nat.le_of_ble_eq_true rfl, Nat.le_of_ble_eq_true rfl⟩ ⟨Nat.le_of_ble_eq_true rfl, Nat.le_of_ble_eq_true rfl⟩ dL_round_64 rfl (fun w_10 hw_10 => ?_)
  refine V_iload (pc' := 69) 7 X dL_round_67 rfl rfl ?_
  refine V_iload (pc' := 71) 4 X dL_round_69 rfl rfl ?_
  refine V_iadd (pc' := 72) (nI (((tbk 3 S) 48) + (tks S))) X dL_round_71 (nI_add _ _) rfl ?_
  refine V_icmp_ne (pc' := 75) (C := (nI ((stkN 3 (tbk 3 S) 32) 48)) = (nI (((tbk 3 S) 48) + (tks S)))) 86 X dL_round_72 (by decide) rfl Iff.rfl (fun hz => absurd (congrArg nI r48) hz) (fun _ => ?_)
  refine V_aload_n (pc' := 76) 0 X dL_round_75 rfl rfl rfl ?_
  refine O_column (pc' := 79) (st := []) hw_10 X gL_round_X5_column (Nat.le_of_ble_eq_true rfl) ⟨Nat.le_of_ble_eq_true rfl, Nat.le_of_ble_eq_true rfl⟩ ⟨Nat.le_of_ble_eq_true rfl, Nat.le_of_ble_eq_true rfl⟩ dL_round_76 rfl (fun w_11 hw_11 => ?_)
  refine V_if_ne (pc' := 82) (C := ((stkN 3 (tbk 3 S) 32) 47) = 0) 86 X dL_round_79 (by decide) rfl (z_eq0 (by rw [r47]; decide)) (fun hz => absurd (r47) hz) (fun _ => ?_)
  refine V_iconst (pc' := 83) (nI 1) X dL_round_82 ki_1 rfl ?_
  refine V_goto (pc' := 87) X dL_round_83 (by decide) ?_
  refine V_istore (pc' := 89) [(0, .ref x), (1, .int (nI (pgs S))), (2, .int (nI (sm (fun k => cnt (rh 3 S (S 46) k)) 32))), (3, .int (nI (pgs S - sm (fun k => cnt (rh 3 S (S 46) k)) 32))), (4, .int (nI (tks S))), (5, .int (nI (S 47))), (6, .int (nI ((tbk 3 S) 59))), (7, .int (nI ((tbk 3 S) 48))), (8, .int (nI 1))] [1, 2, 3, 4, 5, 6, 7, 8, 0] X dL_round_87 (Nat.le_of_ble_eq_true rfl) rfl rfl ?_
  refine V_aload_n (pc' := 90) 0 X dL_round_89 rfl rfl rfl ?_
  refine O_enoughBound (pc' := 93) (st := []) hw_11 X gL_round_X5_enoughBound (Nat.le_of_ble_eq_true rfl) ⟨Nat.le_of_ble_eq_true rfl, Nat.le_of_ble_eq_true rfl⟩ ⟨Nat.le_of_ble_eq_true rfl, Nat.le_of_ble_eq_true rfl⟩ dL_round_90 rfl (fun w_12 hw_12 => ?_)
  by_cases hE : mxs (fun k => wIn (fun k => stkN 3 (tbk 3 S) 32 (36 + k)) (rh 3 (stkN 3 (tbk 3 S) 32) 601 k)) 32 ≤ 300
  · rw [if_pos hE]
    show V E G A 13 [w_12] 7 77 Q 93 [(0, .ref x), (1, .int (nI (pgs S))), (2, .int (nI (sm (fun k => cnt (rh 3 S (S 46) k)) 32))), (3, .int (nI (pgs S - sm (fun k => cnt (rh 3 S (S 46) k)) 32))), (4, .int (nI (tks S))), (5, .int (nI (S 47))), (6, .int (nI ((tbk 3 S) 59))), (7, .int (nI ((tbk 3 S) 48))), (8, .int (nI 1))] [.int (nI (mxs (fun k => wIn (fun k => stkN 3 (tbk 3 S) 32 (36 + k)) (rh 3 (stkN 3 (tbk 3 S) 32) 601 k)) 32))]
    have hI2 := hw_12.iv
    have hE1 := mxs_1 (t := (fun k => wIn (fun k => stkN 3 (tbk 3 S) 32 (36 + k)) (rh 3 (stkN 3 (tbk 3 S) 32) 601 k))) 32
    refine V_istore (pc' := 95) [(0, .ref x), (1, .int (nI (pgs S))), (2, .int (nI (sm (fun k => cnt (rh 3 S (S 46) k)) 32))), (3, .int (nI (pgs S - sm (fun k => cnt (rh 3 S (S 46) k)) 32))), (4, .int (nI (tks S))), (5, .int (nI (S 47))), (6, .int (nI ((tbk 3 S) 59))), (7, .int (nI ((tbk 3 S) 48))), (8, .int (nI 1)), (9, .int (nI (mxs (fun k => wIn (fun k => stkN 3 (tbk 3 S) 32 (36 + k)) (rh 3 (stkN 3 (tbk 3 S) 32) 601 k)) 32)))] [1, 2, 3, 4, 5, 6, 7, 8, 9, 0] X dL_round_93 (Nat.le_of_ble_eq_true rfl) rfl rfl ?_
    refine V_iload (pc' := 97) 8 X dL_round_95 rfl rfl ?_
    refine V_if_eq (pc' := 100) (C := 1 = 0) 198 X dL_round_97 (by decide) rfl (z_eq0 (by omega)) (fun hz => absurd hz (by decide)) (fun _ => ?_)
    refine V_iload (pc' := 102) 9 X dL_round_100 rfl rfl ?_
    refine V_iconst (pc' := 103) (-1) X dL_round_102 rfl rfl ?_
    refine V_icmp_eq (pc' := 106) (C := (nI (mxs (fun k => wIn (fun k => stkN 3 (tbk 3 S) 32 (36 + k)) (rh 3 (stkN 3 (tbk 3 S) 32) 601 k)) 32)) = (-1)) 198 X dL_round_103 (by decide) rfl Iff.rfl (fun hz => absurd hz (rN_m1 (by omega))) (fun _ => ?_)
    refine V_aload_n (pc' := 107) 0 X dL_round_106 rfl rfl rfl ?_
    refine V_iload (pc' := 109) 9 X dL_round_107 rfl rfl ?_
    refine O_setBound (pc' := 112) (st := []) (mxs (fun k => wIn (fun k => stkN 3 (tbk 3 S) 32 (36 + k)) (rh 3 (stkN 3 (tbk 3 S) 32) 601 k)) 32) hE1 hE hw_12 X gL_round_X5_setBound (Nat.le_of_ble_eq_true rfl) ⟨Nat.le_of_ble_eq_true rfl, Nat.le_of_ble_eq_true rfl⟩ ⟨Nat.le_of_ble_eq_true rfl, Nat.le_of_ble_eq_true rfl⟩ dL_round_109 rfl (fun w_13 hw_13 => ?_)
    refine V_istore (pc' := 114) [(0, .ref x), (1, .int (nI (pgs S))), (2, .int (nI (sm (fun k => cnt (rh 3 S (S 46) k)) 32))), (3, .int (nI (pgs S - sm (fun k => cnt (rh 3 S (S 46) k)) 32))), (4, .int (nI (tks S))), (5, .int (nI (S 47))), (6, .int (nI ((tbk 3 S) 59))), (7, .int (nI ((tbk 3 S) 48))), (8, .int (nI 1)), (9, .int (nI (mxs (fun k => wIn (fun k => stkN 3 (tbk 3 S) 32 (36 + k)) (rh 3 (stkN 3 (tbk 3 S) 32) 601 k)) 32))), (10, .int (nI ((stkN 3 (tbk 3 S) 32) 46)))] [1, 2, 3, 4, 5, 6, 7, 8, 9, 10, 0] X dL_round_112 (Nat.le_of_ble_eq_true rfl) rfl rfl ?_
    refine V_aload_n (pc' := 115) 0 X dL_round_114 rfl rfl rfl ?_
    refine O_turnBack (pc' := 118) (st := []) hw_13 X gL_round_X5_turnBack (Nat.le_of_ble_eq_true rfl) ⟨Nat.le_of_ble_eq_true rfl, Nat.le_of_ble_eq_true rfl⟩ ⟨Nat.le_of_ble_eq_true rfl, Nat.le_of_ble_eq_true rfl⟩ dL_round_115 rfl (fun w_14 hw_14 => ?_)
    refine V_istore (pc' := 120) [(0, .ref x), (1, .int (nI (pgs S))), (2, .int (nI (sm (fun k => cnt (rh 3 S (S 46) k)) 32))), (3, .int (nI (pgs S - sm (fun k => cnt (rh 3 S (S 46) k)) 32))), (4, .int (nI (tks S))), (5, .int (nI ((va_up (stkN 3 (tbk 3 S) 32) 46 (mxs (fun k => wIn (fun k => stkN 3 (tbk 3 S) 32 (36 + k)) (rh 3 (stkN 3 (tbk 3 S) 32) 601 k)) 32)) 47))), (6, .int (nI ((tbk 3 S) 59))), (7, .int (nI ((tbk 3 S) 48))), (8, .int (nI 1)), (9, .int (nI (mxs (fun k => wIn (fun k => stkN 3 (tbk 3 S) 32 (36 + k)) (rh 3 (stkN 3 (tbk 3 S) 32) 601 k)) 32))), (10, .int (nI ((stkN 3 (tbk 3 S) 32) 46)))] [1, 2, 3, 4, 5, 0, 6, 7, 8, 9, 10] X dL_round_118 (Nat.le_of_ble_eq_true rfl) rfl rfl ?_
    refine V_iload (pc' := 122) 10 X dL_round_120 rfl rfl ?_
    refine V_if_le (pc' := 125) (C := ((stkN 3 (tbk 3 S) 32) 46) = 0) 129 X dL_round_122 (by decide) rfl (z_le0 (by omega)) (fun hz => absurd hz (by omega)) (fun _ => ?_)
    refine V_iconst (pc' := 126) (nI 1) X dL_round_125 ki_1 rfl ?_
    refine V_goto (pc' := 130) X dL_round_126 (by decide) ?_
    refine V_istore (pc' := 132) [(0, .ref x), (1, .int (nI (pgs S))), (2, .int (nI (sm (fun k => cnt (rh 3 S (S 46) k)) 32))), (3, .int (nI (pgs S - sm (fun k => cnt (rh 3 S (S 46) k)) 32))), (4, .int (nI (tks S))), (5, .int (nI ((va_up (stkN 3 (tbk 3 S) 32) 46 (mxs (fun k => wIn (fun k => stkN 3 (tbk 3 S) 32 (36 + k)) (rh 3 (stkN 3 (tbk 3 S) 32) 601 k)) 32)) 47))), (6, .int (nI ((tbk 3 S) 59))), (7, .int (nI ((tbk 3 S) 48))), (8, .int (nI 1)), (9, .int (nI (mxs (fun k => wIn (fun k => stkN 3 (tbk 3 S) 32 (36 + k)) (rh 3 (stkN 3 (tbk 3 S) 32) 601 k)) 32))), (10, .int (nI ((stkN 3 (tbk 3 S) 32) 46)))] [1, 2, 3, 4, 5, 6, 7, 8, 0, 9, 10] X dL_round_130 (Nat.le_of_ble_eq_true rfl) rfl rfl ?_
    refine V_iconst (pc' := 133) (nI 0) X dL_round_132 ki_0 rfl ?_
    refine V_istore (pc' := 135) [(0, .ref x), (1, .int (nI (pgs S))), (2, .int (nI (sm (fun k => cnt (rh 3 S (S 46) k)) 32))), (3, .int (nI (pgs S - sm (fun k => cnt (rh 3 S (S 46) k)) 32))), (4, .int (nI (tks S))), (5, .int (nI ((va_up (stkN 3 (tbk 3 S) 32) 46 (mxs (fun k => wIn (fun k => stkN 3 (tbk 3 S) 32 (36 + k)) (rh 3 (stkN 3 (tbk 3 S) 32) 601 k)) 32)) 47))), (6, .int (nI ((tbk 3 S) 59))), (7, .int (nI ((tbk 3 S) 48))), (8, .int (nI 1)), (9, .int (nI (mxs (fun k => wIn (fun k => stkN 3 (tbk 3 S) 32 (36 + k)) (rh 3 (stkN 3 (tbk 3 S) 32) 601 k)) 32))), (10, .int (nI ((stkN 3 (tbk 3 S) 32) 46))), (11, .int (nI 0))] [1, 2, 3, 4, 5, 6, 7, 8, 9, 10, 11, 0] X dL_round_133 (Nat.le_of_ble_eq_true rfl) rfl rfl ?_
    have lp_1 : ∀ i, i ≤ 32 → ∀ (n' : Nat) (T' : Nat → Nat → Nat) (wl_1 : va_W), OJ G x (K + 32 + i) (stkN 3 (tbk 3 (va_up (stkN 3 (tbk 3 S) 32) 46 (mxs (fun k => wIn (fun k => stkN 3 (tbk 3 S) 32 (36 + k)) (rh 3 (stkN 3 (tbk 3 S) 32) 601 k)) 32))) i) n' T' (va_up P 0 (some S)) wl_1 → V E G A 13 [wl_1] 7 77 Q 135 [(0, .ref x), (1, .int (nI (pgs S))), (8, .int (nI 1)), (11, .int (nI i))] [] := by
      refine loopD 32 ?_ ?_
      · intro n' T' wl_1 hl_1
        show V E G A 13 [wl_1] 7 77 Q 135 [(0, .ref x), (1, .int (nI (pgs S))), (8, .int (nI 1)), (11, .int (nI 32))] []
        refine V_iload (pc' := 137) 3 X dL_round_135 rfl rfl ?_
        refine V_bipush (pc' := 139) (nI 32) X dL_round_137 kb_32 rfl ?_
        refine V_icmp_ge (pc' := 142) (C := 32 ≤ 32) 198 X dL_round_139 (by decide) rfl (nI_leI (by omega) (by omega)) (fun _ => ?_) (fun hz => absurd (by omega) hz)
        refine V_iload (pc' := 200) 2 X dL_round_198 rfl rfl ?_
        refine V_if_eq (pc' := 203) (C := 1 = 0) 216 X dL_round_200 (by decide) rfl (z_eq0 (by omega)) (fun hz => absurd hz (by decide)) (fun _ => ?_)
        refine V_aload_n (pc' := 204) 0 X dL_round_203 rfl rfl rfl ?_
        refine V_iconst (pc' := 205) (nI 0) X dL_round_204 ki_0 rfl ?_
        refine O_restore0 (pc' := 208) (st := []) S (va_up_self _ _ _) hl_1 X gL_round_X5_restore (Nat.le_of_ble_eq_true rfl) ⟨Nat.le_of_ble_eq_true rfl, Nat.le_of_ble_eq_true rfl⟩ ⟨Nat.le_of_ble_eq_true rfl, Nat.le_of_ble_eq_true rfl⟩ dL_round_205 rfl (fun w_15 hw_15 => ?_)
        refine V_iload_n (pc' := 209) 1 X dL_round_208 rfl rfl rfl ?_
        refine V_icmp_ne (pc' := 212) (C := (nI (pgs S)) = (nI (pgs S))) 216 X dL_round_209 (by decide) rfl Iff.rfl (fun hz => absurd (rfl) hz) (fun _ => ?_)
        refine V_iconst (pc' := 213) (nI 1) X dL_round_212 ki_1 rfl ?_
        refine V_goto (pc' := 217) X dL_round_213 (by decide) ?_
        exact V_ireturn (v := nI 1) [w_15] hQ X hrt rfl dL_round_217 (Nat.le_of_ble_eq_true rfl) (Nat.le_of_ble_eq_true rfl) (List.Perm.refl _) ⟨rfl, _, _, _, _, w_15, hw_15.mono (by omega), rfl⟩
      · intro i hi_i ih n' T' wl_1 hl_1
        show V E G A 13 [wl_1] 7 77 Q 135 [(0, .ref x), (1, .int (nI (pgs S))), (8, .int (nI 1)), (11, .int (nI i))] []
        refine V_iload (pc' := 137) 3 X dL_round_135 rfl rfl ?_
        refine V_bipush (pc' := 139) (nI 32) X dL_round_137 kb_32 rfl ?_
        refine V_icmp_ge (pc' := 142) (C := 32 ≤ i) 198 X dL_round_139 (by decide) rfl (nI_leI (by omega) (by omega)) (fun hz => absurd hz (by omega)) (fun _ => ?_)
        refine V_iload (pc' := 144) 2 X dL_round_142 rfl rfl ?_
        refine V_if_eq (pc' := 147) (C := 1 = 0) 198 X dL_round_144 (by decide) rfl (z_eq0 (by omega)) (fun hz => absurd hz (by decide)) (fun _ => ?_)
        refine V_iconst (pc' := 148) (nI 0) X dL_round_147 ki_0 rfl ?_
        refine V_istore (pc' := 150) [(0, .ref x), (1, .int (nI (pgs S))), (8, .int (nI 1)), (11, .int (nI i)), (12, .int (nI 0))] [1, 2, 3, 4, 0] X dL_round_148 (Nat.le_of_ble_eq_true rfl) rfl rfl ?_
        have lp_2 : ∀ j, j ≤ 10 → ∀ (wl_2 : va_W), OJ G x (K + 32 + i) (stkN 3 (tbk 3 (va_up (stkN 3 (tbk 3 S) 32) 46 (mxs (fun k => wIn (fun k => stkN 3 (tbk 3 S) 32 (36 + k)) (rh 3 (stkN 3 (tbk 3 S) 32) 601 k)) 32))) i) n' T' (va_up P 0 (some S)) wl_2 → V E G A 13 [wl_2] 7 77 Q 150 [(0, .ref x), (1, .int (nI (pgs S))), (8, .int (nI 1)), (11, .int (nI i)), (12, .int (nI j))] [] := by
          refine loopD 10 ?_ ?_
          · intro wl_2 hl_2
            show V E G A 13 [wl_2] 7 77 Q 150 [(0, .ref x), (1, .int (nI (pgs S))), (8, .int (nI 1)), (11, .int (nI i)), (12, .int (nI 10))] []
            refine V_iload (pc' := 152) 4 X dL_round_150 rfl rfl ?_
            refine V_bipush (pc' := 154) (nI 10) X dL_round_152 kb_10 rfl ?_
            refine V_icmp_ge (pc' := 157) (C := 10 ≤ 10) 185 X dL_round_154 (by decide) rfl (nI_leI (by omega) (by omega)) (fun _ => ?_) (fun hz => absurd (by omega) hz)
            refine V_aload_n (pc' := 186) 0 X dL_round_185 rfl rfl rfl ?_
            refine V_iconst (pc' := 187) (nI 1) X dL_round_186 ki_1 rfl ?_
            refine O_crank (pc' := 190) (st := []) 1 (by decide) (by decide) hl_2 X gL_round_X5_crank (Nat.le_of_ble_eq_true rfl) ⟨Nat.le_of_ble_eq_true rfl, Nat.le_of_ble_eq_true rfl⟩ ⟨Nat.le_of_ble_eq_true rfl, Nat.le_of_ble_eq_true rfl⟩ dL_round_187 rfl (fun w_16 hw_16 => ?_)
            refine V_istore (pc' := 192) [(0, .ref x), (1, .int (nI (pgs S))), (5, .int (nI (stkN 3 (stkN 3 (tbk 3 (va_up (stkN 3 (tbk 3 S) 32) 46 (mxs (fun k => wIn (fun k => stkN 3 (tbk 3 S) 32 (36 + k)) (rh 3 (stkN 3 (tbk 3 S) 32) 601 k)) 32))) i) 1 70 - (stkN 3 (tbk 3 (va_up (stkN 3 (tbk 3 S) 32) 46 (mxs (fun k => wIn (fun k => stkN 3 (tbk 3 S) 32 (36 + k)) (rh 3 (stkN 3 (tbk 3 S) 32) 601 k)) 32))) i) 70))), (8, .int (nI 1)), (11, .int (nI i)), (12, .int (nI 10))] [1, 2, 0, 3, 4, 5] X dL_round_190 (Nat.le_of_ble_eq_true rfl) rfl rfl ?_
            refine V_iinc (pc' := 195) [(0, .ref x), (1, .int (nI (pgs S))), (5, .int (nI (stkN 3 (stkN 3 (tbk 3 (va_up (stkN 3 (tbk 3 S) 32) 46 (mxs (fun k => wIn (fun k => stkN 3 (tbk 3 S) 32 (36 + k)) (rh 3 (stkN 3 (tbk 3 S) 32) 601 k)) 32))) i) 1 70 - (stkN 3 (tbk 3 (va_up (stkN 3 (tbk 3 S) 32) 46 (mxs (fun k => wIn (fun k => stkN 3 (tbk 3 S) 32 (36 + k)) (rh 3 (stkN 3 (tbk 3 S) 32) 601 k)) 32))) i) 70))), (8, .int (nI 1)), (11, .int (nI (i + 1))), (12, .int (nI 10))] 4 [1, 2, 3, 4, 0, 5] X dL_round_192 rfl (nI_i1 _) (Nat.le_of_ble_eq_true rfl) rfl rfl ?_
            refine V_goto (pc' := 135) X dL_round_195 (by decide) ?_
            refine V_lv [0, 1, 3, 4] [(0, .ref x), (1, .int (nI (pgs S))), (8, .int (nI 1)), (11, .int (nI (i + 1)))] rfl ?_
            exact ih _ _ w_16 hw_16
          · intro j hi_j ih wl_2 hl_2
            show V E G A 13 [wl_2] 7 77 Q 150 [(0, .ref x), (1, .int (nI (pgs S))), (8, .int (nI 1)), (11, .int (nI i)), (12, .int (nI j))] []
            refine V_iload (pc' := 152) 4 X dL_round_150 rfl rfl ?_
            refine V_bipush (pc' := 154) (nI 10) X dL_round_152 kb_10 rfl ?_
            refine V_icmp_ge (pc' := 157) (C := 10 ≤ j) 185 X dL_round_154 (by decide) rfl (nI_leI (by omega) (by omega)) (fun hz => absurd hz (by omega)) (fun _ => ?_)
            refine V_iload (pc' := 159) 2 X dL_round_157 rfl rfl ?_
            refine V_if_eq (pc' := 162) (C := 1 = 0) 176 X dL_round_159 (by decide) rfl (z_eq0 (by omega)) (fun hz => absurd hz (by decide)) (fun _ => ?_)
            refine V_aload_n (pc' := 163) 0 X dL_round_162 rfl rfl rfl ?_
            refine V_iload (pc' := 165) 4 X dL_round_163 rfl rfl ?_
            refine O_whyMissed (pc' := 168) (st := []) j (by omega) hl_2 X gL_round_X5_whyMissed (Nat.le_of_ble_eq_true rfl) ⟨Nat.le_of_ble_eq_true rfl, Nat.le_of_ble_eq_true rfl⟩ ⟨Nat.le_of_ble_eq_true rfl, Nat.le_of_ble_eq_true rfl⟩ dL_round_165 rfl (fun w_17 hw_17 => ?_)
            refine V_iconst (pc' := 169) (nI 2) X dL_round_168 ki_2 rfl ?_
            refine V_icmp_eq (pc' := 172) (C := (why (stkN 3 (tbk 3 (va_up (stkN 3 (tbk 3 S) 32) 46 (mxs (fun k => wIn (fun k => stkN 3 (tbk 3 S) 32 (36 + k)) (rh 3 (stkN 3 (tbk 3 S) 32) 601 k)) 32))) i) j) = 2) 176 X dL_round_169 (by decide) rfl (nI_eq (Nat.lt_of_lt_of_le (why_lt _ _) (by decide)) (by decide)) (fun hz => absurd hz (no2 hI2.2.2.1 hE (Nat.le_refl _) hi_i hi_j)) (fun _ => ?_)
            refine V_iconst (pc' := 173) (nI 1) X dL_round_172 ki_1 rfl ?_
            refine V_goto (pc' := 177) X dL_round_173 (by decide) ?_
            refine V_istore (pc' := 179) [(0, .ref x), (1, .int (nI (pgs S))), (8, .int (nI 1)), (11, .int (nI i)), (12, .int (nI j))] [1, 2, 0, 3, 4] X dL_round_177 (Nat.le_of_ble_eq_true rfl) rfl rfl ?_
            refine V_iinc (pc' := 182) [(0, .ref x), (1, .int (nI (pgs S))), (8, .int (nI 1)), (11, .int (nI i)), (12, .int (nI (j + 1)))] 4 [1, 2, 3, 4, 0] X dL_round_179 rfl (nI_i1 _) (Nat.le_of_ble_eq_true rfl) rfl rfl ?_
            refine V_goto (pc' := 150) X dL_round_182 (by decide) ?_
            exact ih w_17 hw_17
        exact lp_2 0 (Nat.zero_le _) wl_1 hl_1
    refine V_lv [0, 1, 8, 11] [(0, .ref x), (1, .int (nI (pgs S))), (8, .int (nI 1)), (11, .int (nI 0))] rfl ?_
    exact lp_1 0 (Nat.zero_le _) _ _ w_14 hw_14
  · rw [if_neg hE]
    show V E G A 13 [w_12] 7 77 Q 93 [(0, .ref x), (1, .int (nI (pgs S))), (2, .int (nI (sm (fun k => cnt (rh 3 S (S 46) k)) 32))), (3, .int (nI (pgs S - sm (fun k => cnt (rh 3 S (S 46) k)) 32))), (4, .int (nI (tks S))), (5, .int (nI (S 47))), (6, .int (nI ((tbk 3 S) 59))), (7, .int (nI ((tbk 3 S) 48))), (8, .int (nI 1))] [.int (-1)]
    refine V_istore (pc' := 95) [(0, .ref x), (1, .int (nI (pgs S))), (2, .int (nI (sm (fun k => cnt (rh 3 S (S 46) k)) 32))), (3, .int (nI (pgs S - sm (fun k => cnt (rh 3 S (S 46) k)) 32))), (4, .int (nI (tks S))), (5, .int (nI (S 47))), (6, .int (nI ((tbk 3 S) 59))), (7, .int (nI ((tbk 3 S) 48))), (8, .int (nI 1)), (9, .int (-1))] [1, 2, 3, 4, 5, 6, 7, 8, 9, 0] X dL_round_93 (Nat.le_of_ble_eq_true rfl) rfl rfl ?_
    refine V_iload (pc' := 97) 8 X dL_round_95 rfl rfl ?_
    refine V_if_eq (pc' := 100) (C := 1 = 0) 198 X dL_round_97 (by decide) rfl (z_eq0 (by omega)) (fun hz => absurd hz (by decide)) (fun _ => ?_)
    refine V_iload (pc' := 102) 9 X dL_round_100 rfl rfl ?_
    refine V_iconst (pc' := 103) (-1) X dL_round_102 rfl rfl ?_
    refine V_icmp_eq (pc' := 106) (C := (-1) = (-1)) 198 X dL_round_103 (by decide) rfl Iff.rfl (fun _ => ?_) (fun hz => absurd (rfl) hz)
    refine V_iload (pc' := 200) 8 X dL_round_198 rfl rfl ?_
    refine V_if_eq (pc' := 203) (C := 1 = 0) 216 X dL_round_200 (by decide) rfl (z_eq0 (by omega)) (fun hz => absurd hz (by decide)) (fun _ => ?_)
    refine V_aload_n (pc' := 204) 0 X dL_round_203 rfl rfl rfl ?_
    refine V_iconst (pc' := 205) (nI 0) X dL_round_204 ki_0 rfl ?_
    refine O_restore0 (pc' := 208) (st := []) S (va_up_self _ _ _) hw_12 X gL_round_X5_restore (Nat.le_of_ble_eq_true rfl) ⟨Nat.le_of_ble_eq_true rfl, Nat.le_of_ble_eq_true rfl⟩ ⟨Nat.le_of_ble_eq_true rfl, Nat.le_of_ble_eq_true rfl⟩ dL_round_205 rfl (fun w_18 hw_18 => ?_)
    refine V_iload_n (pc' := 209) 1 X dL_round_208 rfl rfl rfl ?_
    refine V_icmp_ne (pc' := 212) (C := (nI (pgs S)) = (nI (pgs S))) 216 X dL_round_209 (by decide) rfl Iff.rfl (fun hz => absurd (rfl) hz) (fun _ => ?_)
    refine V_iconst (pc' := 213) (nI 1) X dL_round_212 ki_1 rfl ?_
    refine V_goto (pc' := 217) X dL_round_213 (by decide) ?_
    exact V_ireturn (v := nI 1) [w_18] hQ X hrt rfl dL_round_217 (Nat.le_of_ble_eq_true rfl) (Nat.le_of_ble_eq_true rfl) (List.Perm.refl _) ⟨rfl, _, _, _, _, w_18, hw_18.mono (by omega), rfl⟩
