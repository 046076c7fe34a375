set_option maxHeartbeats 4000000 in
set_option maxRecDepth 100000 in
theorem lc_put_b1 {E : EE} {G : gT} {A : Nat → Prop} {Q : State → Prop} {l : Launch} {b0 L : Nat} {xs : Nat → Int32} (X : Cx E G A 7 cL_law RL wsL_law room_1 l) (hX : va_X b0 L xs (e_s E) (e_s E).heap) (hbl : b0 < (e_s E).heap.size) (hbA : ¬ A b0) (hL : L ≤ 1536) (x q w : Nat) (a r H g p f h : Nat → Nat) (n kn : Nat) (d T : Nat → Nat → Nat) (fo : Nat → Int64) (o : Nat → Option (Nat → Nat)) (O : Nat → Nat → Nat) (y : Nat → Nat) (t th : Nat) (s sl z hh g6 d7 : Nat → Nat) (kc ks i : Nat) (hn : n ≤ 60) (hf : ∀ k, k < n → f k < 128) (v : Nat) (hu : v < 2 ^ 64) (u1 u2 : Int32) (hlv : (u1.toInt64 <<< ((nI 32).toInt64 &&& 63)) ||| (u2.toInt64 &&& lN 4294967295) = lN v) (hu1 : xs (i + 1) = u1) (hu2 : xs (i + 2) = u2) (hx : cin v = 0) (hkc : kc + 8 ≤ 604766) (hks : ks + 83 ≤ 7281805) (hi : i + 3 ≤ L) (K : V E G A 7 [XB x (a 0) (r 0) (p 0) (h 0) q, DW G a (c3 s), RN G r H g, PD G p f n, HI G h kn d, HD G d T, SA G q o, MO y 1 kn n th, RW G (y 1) 70 s, RW G (y 2) 140 sl, RZ G (y 3) 2 z, RW G (y 4) 420 hh, RW G (y 5) 60 f, RW G (y 6) 10 g6, RW G (y 7) 32 d7, OU G w fo, SQ G o O 0, SQ G o O 1] (kc + 1) (ks + 6) Q 1602 [(0, .ref b0), (1, .ref x), (2, .ref (y 0)), (3, .ref w), (4, .int (nI i))] []) : V E G A 7 [XB x (a 0) (r 0) (p 0) (h 0) q, DW G a (c3 s), RN G r H g, PD G p f n, HI G h kn d, HD G d T, SA G q o, MO y t kn n th, RW G (y 1) 70 s, RW G (y 2) 140 sl, RZ G (y 3) 2 z, RW G (y 4) 420 hh, RW G (y 5) 60 f, RW G (y 6) 10 g6, RW G (y 7) 32 d7, OU G w fo, SQ G o O 0, SQ G o O 1] kc ks Q 1306 [(0, .ref b0), (1, .ref x), (2, .ref (y 0)), (3, .ref w), (4, .int (nI i))] [] := by
  show V E G A 7 [XB x (a 0) (r 0) (p 0) (h 0) q, DW G a (c3 s), RN G r H g, PD G p f n, HI G h kn d, HD G d T, SA G q o, MO y t kn n th, RW G (y 1) 70 s, RW G (y 2) 140 sl, RZ G (y 3) 2 z, RW G (y 4) 420 hh, RW G (y 5) 60 f, RW G (y 6) 10 g6, RW G (y 7) 32 d7, OU G w fo, SQ G o O 0, SQ G o O 1] kc ks Q 1306 [(0, .ref b0), (1, .ref x), (2, .ref (y 0)), (3, .ref w), (4, .int (nI i))] []
  refine V_aload_n (pc' := 1307) 1 X dL_law_1306 rfl rfl rfl ?_
  refine V_aload_n (pc' := 1308) 0 X dL_law_1307 rfl rfl rfl ?_
  refine V_iload (pc' := 1310) 4 X dL_law_1308 rfl rfl ?_
  refine V_iconst (pc' := 1311) (nI 1) X dL_law_1310 ki_1 rfl ?_
  refine V_iadd (pc' := 1312) (nI (i + 1)) X dL_law_1311 (nI_add _ _) rfl ?_
  refine V_sld (pc' := 1313) (v := u1) X hX hbl hbA (j := i + 1) (by omega) (by omega) hu1 dL_law_1312 rfl ?_
  refine V_i2l (pc' := 1314) ((u1).toInt64) X dL_law_1313 rfl rfl ?_
  refine V_bipush (pc' := 1316) (nI 32) X dL_law_1314 kb_32 rfl ?_
  refine V_lshl (pc' := 1317) ((u1.toInt64 <<< ((nI 32).toInt64 &&& 63))) X dL_law_1316 rfl rfl ?_
  refine V_aload_n (pc' := 1318) 0 X dL_law_1317 rfl rfl rfl ?_
  refine V_iload (pc' := 1320) 4 X dL_law_1318 rfl rfl ?_
  refine V_iconst (pc' := 1321) (nI 2) X dL_law_1320 ki_2 rfl ?_
  refine V_iadd (pc' := 1322) (nI (i + 2)) X dL_law_1321 (nI_add _ _) rfl ?_
  refine V_sld (pc' := 1323) (v := u2) X hX hbl hbA (j := i + 2) (by omega) (by omega) hu2 dL_law_1322 rfl ?_
  refine V_i2l (pc' := 1324) ((u2).toInt64) X dL_law_1323 rfl rfl ?_
  refine V_ldc2 (pc' := 1327) (v := 4294967295) (lN 4294967295) X (by decide +kernel) (by decide +kernel) dL_law_1324 rfl ?_
  refine V_land (pc' := 1328) ((u2.toInt64 &&& lN 4294967295)) X dL_law_1327 rfl rfl ?_
  refine V_lor (pc' := 1329) (lN v) X dL_law_1328 hlv rfl ?_
  refine V_aload_n (pc' := 1330) 3 X dL_law_1329 rfl rfl rfl ?_
  refine V_callSW (pc' := 1333) (As := [.ref x, .long (lN v), .ref w]) (st := []) [0, 3, 15] [1, 2, 4, 5, 6, 7, 8, 9, 10, 11, 12, 13, 14, 16, 17] pm_20 X (c_L_put_b1 l G x q w a (c3 s) r H g p f h n kn d T fo hn hf v hu hx) rfl gL_law_L_put rfl rfl (Nat.le_of_ble_eq_true rfl) ⟨Nat.le_of_ble_eq_true rfl, Nat.le_of_ble_eq_true rfl⟩ ⟨show kc + 1 ≤ 604766 by omega, show ks + 6 ≤ 7281805 by omega⟩ dL_law_1330 rfl (fun v_ u_ hp_ => ?_)
  obtain ⟨rfl, rfl⟩ := hp_
  show V E G A 7 [DW G a (c3 s), RN G r H g, HI G h kn d, HD G d T, SA G q o, MO y t kn n th, RW G (y 1) 70 s, RW G (y 2) 140 sl, RZ G (y 3) 2 z, RW G (y 4) 420 hh, RW G (y 5) 60 f, RW G (y 6) 10 g6, RW G (y 7) 32 d7, SQ G o O 0, SQ G o O 1, XB x (a 0) (r 0) (p 0) (h 0) q, PD G p f n, OU G w fo] (kc + 1) (ks + 6) Q 1333 [(0, .ref b0), (1, .ref x), (2, .ref (y 0)), (3, .ref w), (4, .int (nI i))] [.int (nI 1)]
  refine V_ord [15, 0, 1, 16, 2, 3, 4, 5, 6, 7, 8, 9, 10, 11, 12, 17, 13, 14] [XB x (a 0) (r 0) (p 0) (h 0) q, DW G a (c3 s), RN G r H g, PD G p f n, HI G h kn d, HD G d T, SA G q o, MO y t kn n th, RW G (y 1) 70 s, RW G (y 2) 140 sl, RZ G (y 3) 2 z, RW G (y 4) 420 hh, RW G (y 5) 60 f, RW G (y 6) 10 g6, RW G (y 7) 32 d7, OU G w fo, SQ G o O 0, SQ G o O 1] pm_21 rfl ?_
  refine V_istore (pc' := 1335) [(0, .ref b0), (1, .ref x), (2, .ref (y 0)), (3, .ref w), (4, .int (nI i)), (5, .int (nI 1))] [1, 2, 3, 4, 5, 0] X dL_law_1333 (Nat.le_of_ble_eq_true rfl) rfl rfl ?_
  refine V_aload_n (pc' := 1336) 2 X dL_law_1335 rfl rfl rfl ?_
  refine V_aload_n (pc' := 1337) 0 X dL_law_1336 rfl rfl rfl ?_
  refine V_iload (pc' := 1339) 4 X dL_law_1337 rfl rfl ?_
  refine V_iconst (pc' := 1340) (nI 1) X dL_law_1339 ki_1 rfl ?_
  refine V_iadd (pc' := 1341) (nI (i + 1)) X dL_law_1340 (nI_add _ _) rfl ?_
  refine V_sld (pc' := 1342) (v := u1) X hX hbl hbA (j := i + 1) (by omega) (by omega) hu1 dL_law_1341 rfl ?_
  refine V_i2l (pc' := 1343) ((u1).toInt64) X dL_law_1342 rfl rfl ?_
  refine V_bipush (pc' := 1345) (nI 32) X dL_law_1343 kb_32 rfl ?_
  refine V_lshl (pc' := 1346) ((u1.toInt64 <<< ((nI 32).toInt64 &&& 63))) X dL_law_1345 rfl rfl ?_
  refine V_aload_n (pc' := 1347) 0 X dL_law_1346 rfl rfl rfl ?_
  refine V_iload (pc' := 1349) 4 X dL_law_1347 rfl rfl ?_
  refine V_iconst (pc' := 1350) (nI 2) X dL_law_1349 ki_2 rfl ?_
  refine V_iadd (pc' := 1351) (nI (i + 2)) X dL_law_1350 (nI_add _ _) rfl ?_
  refine V_sld (pc' := 1352) (v := u2) X hX hbl hbA (j := i + 2) (by omega) (by omega) hu2 dL_law_1351 rfl ?_
  refine V_i2l (pc' := 1353) ((u2).toInt64) X dL_law_1352 rfl rfl ?_
  refine V_ldc2 (pc' := 1356) (v := 4294967295) (lN 4294967295) X (by decide +kernel) (by decide +kernel) dL_law_1353 rfl ?_
  refine V_land (pc' := 1357) ((u2.toInt64 &&& lN 4294967295)) X dL_law_1356 rfl rfl ?_
  refine V_lor (pc' := 1358) (lN v) X dL_law_1357 hlv rfl ?_
  refine V_callV (pc' := 1361) (As := [.long (lN v)]) (st := []) 6 59 [7, 12] [0, 1, 2, 3, 4, 5, 6, 8, 9, 10, 11, 13, 14, 15, 16, 17] pm_22 X (c_X6_put_b1 l G y t kn n th f hn v hu hx) rfl gL_law_X6_put rfl (by decide) rfl rfl rfl (Nat.le_of_ble_eq_true rfl) ⟨Nat.le_of_ble_eq_true rfl, Nat.le_of_ble_eq_true rfl⟩ ⟨show kc + 1 + 0 ≤ 604766 by omega, show ks + 6 + 0 ≤ 7281805 by omega⟩ dL_law_1358 rfl (fun v_ u_ hp_ => ?_)
  obtain ⟨rfl, rfl⟩ := hp_
  show V E G A 7 [XB x (a 0) (r 0) (p 0) (h 0) q, DW G a (c3 s), RN G r H g, PD G p f n, HI G h kn d, HD G d T, SA G q o, RW G (y 1) 70 s, RW G (y 2) 140 sl, RZ G (y 3) 2 z, RW G (y 4) 420 hh, RW G (y 6) 10 g6, RW G (y 7) 32 d7, OU G w fo, SQ G o O 0, SQ G o O 1, MO y 1 kn n th, RW G (y 5) 60 f] (kc + 1) (ks + 6) Q 1361 [(0, .ref b0), (1, .ref x), (2, .ref (y 0)), (3, .ref w), (4, .int (nI i)), (5, .int (nI 1))] [.int (nI 0)]
  refine V_ord [0, 1, 2, 3, 4, 5, 6, 16, 7, 8, 9, 10, 17, 11, 12, 13, 14, 15] [XB x (a 0) (r 0) (p 0) (h 0) q, DW G a (c3 s), RN G r H g, PD G p f n, HI G h kn d, HD G d T, SA G q o, MO y 1 kn n th, RW G (y 1) 70 s, RW G (y 2) 140 sl, RZ G (y 3) 2 z, RW G (y 4) 420 hh, RW G (y 5) 60 f, RW G (y 6) 10 g6, RW G (y 7) 32 d7, OU G w fo, SQ G o O 0, SQ G o O 1] pm_23 rfl ?_
  refine V_istore (pc' := 1363) [(0, .ref b0), (1, .ref x), (2, .ref (y 0)), (3, .ref w), (4, .int (nI i)), (5, .int (nI 1)), (6, .int (nI 0))] [1, 2, 3, 4, 5, 6, 0] X dL_law_1361 (Nat.le_of_ble_eq_true rfl) rfl rfl ?_
  refine V_aload_n (pc' := 1364) 2 X dL_law_1363 rfl rfl rfl ?_
  refine V_callV (pc' := 1367) (As := []) (st := []) 6 59 [7] [0, 1, 2, 3, 4, 5, 6, 8, 9, 10, 11, 12, 13, 14, 15, 16, 17] pm_4 X (c_X6_thrown l G y 1 kn n th) rfl gL_law_X6_thrown rfl (by decide) rfl rfl rfl (Nat.le_of_ble_eq_true rfl) ⟨Nat.le_of_ble_eq_true rfl, Nat.le_of_ble_eq_true rfl⟩ ⟨show kc + 1 + 0 ≤ 604766 by omega, show ks + 6 + 0 ≤ 7281805 by omega⟩ dL_law_1364 rfl (fun v_ u_ hp_ => ?_)
  obtain ⟨rfl, rfl⟩ := hp_
  show V E G A 7 [XB x (a 0) (r 0) (p 0) (h 0) q, DW G a (c3 s), RN G r H g, PD G p f n, HI G h kn d, HD G d T, SA G q o, RW G (y 1) 70 s, RW G (y 2) 140 sl, RZ G (y 3) 2 z, RW G (y 4) 420 hh, RW G (y 5) 60 f, RW G (y 6) 10 g6, RW G (y 7) 32 d7, OU G w fo, SQ G o O 0, SQ G o O 1, MO y 1 kn n th] (kc + 1) (ks + 6) Q 1367 [(0, .ref b0), (1, .ref x), (2, .ref (y 0)), (3, .ref w), (4, .int (nI i)), (5, .int (nI 1)), (6, .int (nI 0))] [.int (nI 1)]
  refine V_ord [0, 1, 2, 3, 4, 5, 6, 17, 7, 8, 9, 10, 11, 12, 13, 14, 15, 16] [XB x (a 0) (r 0) (p 0) (h 0) q, DW G a (c3 s), RN G r H g, PD G p f n, HI G h kn d, HD G d T, SA G q o, MO y 1 kn n th, RW G (y 1) 70 s, RW G (y 2) 140 sl, RZ G (y 3) 2 z, RW G (y 4) 420 hh, RW G (y 5) 60 f, RW G (y 6) 10 g6, RW G (y 7) 32 d7, OU G w fo, SQ G o O 0, SQ G o O 1] pm_5 rfl ?_
  refine V_iload (pc' := 1369) 5 X dL_law_1367 rfl rfl ?_
  refine V_icmp_eq (pc' := 1372) (C := 1 = 1) 1374 X dL_law_1369 (by decide) rfl (nI_eq (by omega) (by omega)) (fun _ => ?_) (fun hz => absurd (by decide) hz)
  refine V_iload (pc' := 1376) 5 X dL_law_1374 rfl rfl ?_
  refine V_if_ne (pc' := 1379) (C := 1 = 0) 1391 X dL_law_1376 (by decide) rfl (z_eq0 (by omega)) (fun _ => ?_) (fun hz => absurd hz (by decide))
  refine V_goto (pc' := 1602) X dL_law_1391 (by decide) ?_
  refine V_lv [0, 1, 2, 3, 4] [(0, .ref b0), (1, .ref x), (2, .ref (y 0)), (3, .ref w), (4, .int (nI i))] rfl ?_
  exact K

set_option maxHeartbeats 4000000 in
set_option maxRecDepth 100000 in
theorem lc_put_b2 {E : EE} {G : gT} {A : Nat → Prop} {Q : State → Prop} {l : Launch} {b0 L : Nat} {xs : Nat → Int32} (X : Cx E G A 7 cL_law RL wsL_law room_1 l) (hX : va_X b0 L xs (e_s E) (e_s E).heap) (hbl : b0 < (e_s E).heap.size) (hbA : ¬ A b0) (hL : L ≤ 1536) (x q w : Nat) (a r H g p f h : Nat → Nat) (n kn : Nat) (d T : Nat → Nat → Nat) (fo : Nat → Int64) (o : Nat → Option (Nat → Nat)) (O : Nat → Nat → Nat) (y : Nat → Nat) (t th : Nat) (s sl z hh g6 d7 : Nat → Nat) (kc ks i : Nat) (hn : n ≤ 60) (hf : ∀ k, k < n → f k < 128) (v : Nat) (hu : v < 2 ^ 64) (u1 u2 : Int32) (hlv : (u1.toInt64 <<< ((nI 32).toInt64 &&& 63)) ||| (u2.toInt64 &&& lN 4294967295) = lN v) (hu1 : xs (i + 1) = u1) (hu2 : xs (i + 2) = u2) (hc : ¬ cin v = 0) (hx : ¬ n + cin v ≤ 60) (hkc : kc + 8 ≤ 604766) (hks : ks + 83 ≤ 7281805) (hi : i + 3 ≤ L) (K : V E G A 7 [XB x (a 0) (r 0) (p 0) (h 0) q, DW G a (c3 s), RN G r H g, PD G p f n, HI G h kn d, HD G d T, SA G q o, MO y 2 kn n th, RW G (y 1) 70 s, RW G (y 2) 140 sl, RZ G (y 3) 2 z, RW G (y 4) 420 hh, RW G (y 5) 60 f, RW G (y 6) 10 g6, RW G (y 7) 32 d7, OU G w fo, SQ G o O 0, SQ G o O 1] (kc + 1) (ks + 6) Q 1602 [(0, .ref b0), (1, .ref x), (2, .ref (y 0)), (3, .ref w), (4, .int (nI i))] []) : V E G A 7 [XB x (a 0) (r 0) (p 0) (h 0) q, DW G a (c3 s), RN G r H g, PD G p f n, HI G h kn d, HD G d T, SA G q o, MO y t kn n th, RW G (y 1) 70 s, RW G (y 2) 140 sl, RZ G (y 3) 2 z, RW G (y 4) 420 hh, RW G (y 5) 60 f, RW G (y 6) 10 g6, RW G (y 7) 32 d7, OU G w fo, SQ G o O 0, SQ G o O 1] kc ks Q 1306 [(0, .ref b0), (1, .ref x), (2, .ref (y 0)), (3, .ref w), (4, .int (nI i))] [] := by
  show V E G A 7 [XB x (a 0) (r 0) (p 0) (h 0) q, DW G a (c3 s), RN G r H g, PD G p f n, HI G h kn d, HD G d T, SA G q o, MO y t kn n th, RW G (y 1) 70 s, RW G (y 2) 140 sl, RZ G (y 3) 2 z, RW G (y 4) 420 hh, RW G (y 5) 60 f, RW G (y 6) 10 g6, RW G (y 7) 32 d7, OU G w fo, SQ G o O 0, SQ G o O 1] kc ks Q 1306 [(0, .ref b0), (1, .ref x), (2, .ref (y 0)), (3, .ref w), (4, .int (nI i))] []
  refine V_aload_n (pc' := 1307) 1 X dL_law_1306 rfl rfl rfl ?_
  refine V_aload_n (pc' := 1308) 0 X dL_law_1307 rfl rfl rfl ?_
  refine V_iload (pc' := 1310) 4 X dL_law_1308 rfl rfl ?_
  refine V_iconst (pc' := 1311) (nI 1) X dL_law_1310 ki_1 rfl ?_
  refine V_iadd (pc' := 1312) (nI (i + 1)) X dL_law_1311 (nI_add _ _) rfl ?_
  refine V_sld (pc' := 1313) (v := u1) X hX hbl hbA (j := i + 1) (by omega) (by omega) hu1 dL_law_1312 rfl ?_
  refine V_i2l (pc' := 1314) ((u1).toInt64) X dL_law_1313 rfl rfl ?_
  refine V_bipush (pc' := 1316) (nI 32) X dL_law_1314 kb_32 rfl ?_
  refine V_lshl (pc' := 1317) ((u1.toInt64 <<< ((nI 32).toInt64 &&& 63))) X dL_law_1316 rfl rfl ?_
  refine V_aload_n (pc' := 1318) 0 X dL_law_1317 rfl rfl rfl ?_
  refine V_iload (pc' := 1320) 4 X dL_law_1318 rfl rfl ?_
  refine V_iconst (pc' := 1321) (nI 2) X dL_law_1320 ki_2 rfl ?_
  refine V_iadd (pc' := 1322) (nI (i + 2)) X dL_law_1321 (nI_add _ _) rfl ?_
  refine V_sld (pc' := 1323) (v := u2) X hX hbl hbA (j := i + 2) (by omega) (by omega) hu2 dL_law_1322 rfl ?_
  refine V_i2l (pc' := 1324) ((u2).toInt64) X dL_law_1323 rfl rfl ?_
  refine V_ldc2 (pc' := 1327) (v := 4294967295) (lN 4294967295) X (by decide +kernel) (by decide +kernel) dL_law_1324 rfl ?_
  refine V_land (pc' := 1328) ((u2.toInt64 &&& lN 4294967295)) X dL_law_1327 rfl rfl ?_
  refine V_lor (pc' := 1329) (lN v) X dL_law_1328 hlv rfl ?_
  refine V_aload_n (pc' := 1330) 3 X dL_law_1329 rfl rfl rfl ?_
  refine V_callSW (pc' := 1333) (As := [.ref x, .long (lN v), .ref w]) (st := []) [0, 3, 15] [1, 2, 4, 5, 6, 7, 8, 9, 10, 11, 12, 13, 14, 16, 17] pm_20 X (c_L_put_b2 l G x q w a (c3 s) r H g p f h n kn d T fo hn hf v hu hc hx) rfl gL_law_L_put rfl rfl (Nat.le_of_ble_eq_true rfl) ⟨Nat.le_of_ble_eq_true rfl, Nat.le_of_ble_eq_true rfl⟩ ⟨show kc + 1 ≤ 604766 by omega, show ks + 6 ≤ 7281805 by omega⟩ dL_law_1330 rfl (fun v_ u_ hp_ => ?_)
  obtain ⟨rfl, rfl⟩ := hp_
  show V E G A 7 [DW G a (c3 s), RN G r H g, HI G h kn d, HD G d T, SA G q o, MO y t kn n th, RW G (y 1) 70 s, RW G (y 2) 140 sl, RZ G (y 3) 2 z, RW G (y 4) 420 hh, RW G (y 5) 60 f, RW G (y 6) 10 g6, RW G (y 7) 32 d7, SQ G o O 0, SQ G o O 1, XB x (a 0) (r 0) (p 0) (h 0) q, PD G p f n, OU G w fo] (kc + 1) (ks + 6) Q 1333 [(0, .ref b0), (1, .ref x), (2, .ref (y 0)), (3, .ref w), (4, .int (nI i))] [.int (nI 2)]
  refine V_ord [15, 0, 1, 16, 2, 3, 4, 5, 6, 7, 8, 9, 10, 11, 12, 17, 13, 14] [XB x (a 0) (r 0) (p 0) (h 0) q, DW G a (c3 s), RN G r H g, PD G p f n, HI G h kn d, HD G d T, SA G q o, MO y t kn n th, RW G (y 1) 70 s, RW G (y 2) 140 sl, RZ G (y 3) 2 z, RW G (y 4) 420 hh, RW G (y 5) 60 f, RW G (y 6) 10 g6, RW G (y 7) 32 d7, OU G w fo, SQ G o O 0, SQ G o O 1] pm_21 rfl ?_
  refine V_istore (pc' := 1335) [(0, .ref b0), (1, .ref x), (2, .ref (y 0)), (3, .ref w), (4, .int (nI i)), (5, .int (nI 2))] [1, 2, 3, 4, 5, 0] X dL_law_1333 (Nat.le_of_ble_eq_true rfl) rfl rfl ?_
  refine V_aload_n (pc' := 1336) 2 X dL_law_1335 rfl rfl rfl ?_
  refine V_aload_n (pc' := 1337) 0 X dL_law_1336 rfl rfl rfl ?_
  refine V_iload (pc' := 1339) 4 X dL_law_1337 rfl rfl ?_
  refine V_iconst (pc' := 1340) (nI 1) X dL_law_1339 ki_1 rfl ?_
  refine V_iadd (pc' := 1341) (nI (i + 1)) X dL_law_1340 (nI_add _ _) rfl ?_
  refine V_sld (pc' := 1342) (v := u1) X hX hbl hbA (j := i + 1) (by omega) (by omega) hu1 dL_law_1341 rfl ?_
  refine V_i2l (pc' := 1343) ((u1).toInt64) X dL_law_1342 rfl rfl ?_
  refine V_bipush (pc' := 1345) (nI 32) X dL_law_1343 kb_32 rfl ?_
  refine V_lshl (pc' := 1346) ((u1.toInt64 <<< ((nI 32).toInt64 &&& 63))) X dL_law_1345 rfl rfl ?_
  refine V_aload_n (pc' := 1347) 0 X dL_law_1346 rfl rfl rfl ?_
  refine V_iload (pc' := 1349) 4 X dL_law_1347 rfl rfl ?_
  refine V_iconst (pc' := 1350) (nI 2) X dL_law_1349 ki_2 rfl ?_
  refine V_iadd (pc' := 1351) (nI (i + 2)) X dL_law_1350 (nI_add _ _) rfl ?_
  refine V_sld (pc' := 1352) (v := u2) X hX hbl hbA (j := i + 2) (by omega) (by omega) hu2 dL_law_1351 rfl ?_
  refine V_i2l (pc' := 1353) ((u2).toInt64) X dL_law_1352 rfl rfl ?_
  refine V_ldc2 (pc' := 1356) (v := 4294967295) (lN 4294967295) X (by decide +kernel) (by decide +kernel) dL_law_1353 rfl ?_
  refine V_land (pc' := 1357) ((u2.toInt64 &&& lN 4294967295)) X dL_law_1356 rfl rfl ?_
  refine V_lor (pc' := 1358) (lN v) X dL_law_1357 hlv rfl ?_
  refine V_callV (pc' := 1361) (As := [.long (lN v)]) (st := []) 6 59 [7, 12] [0, 1, 2, 3, 4, 5, 6, 8, 9, 10, 11, 13, 14, 15, 16, 17] pm_22 X (c_X6_put_b2 l G y t kn n th f hn v hu hc hx) rfl gL_law_X6_put rfl (by decide) rfl rfl rfl (Nat.le_of_ble_eq_true rfl) ⟨Nat.le_of_ble_eq_true rfl, Nat.le_of_ble_eq_true rfl⟩ ⟨show kc + 1 + 0 ≤ 604766 by omega, show ks + 6 + 0 ≤ 7281805 by omega⟩ dL_law_1358 rfl (fun v_ u_ hp_ => ?_)
  obtain ⟨rfl, rfl⟩ := hp_
  show V E G A 7 [XB x (a 0) (r 0) (p 0) (h 0) q, DW G a (c3 s), RN G r H g, PD G p f n, HI G h kn d, HD G d T, SA G q o, RW G (y 1) 70 s, RW G (y 2) 140 sl, RZ G (y 3) 2 z, RW G (y 4) 420 hh, RW G (y 6) 10 g6, RW G (y 7) 32 d7, OU G w fo, SQ G o O 0, SQ G o O 1, MO y 2 kn n th, RW G (y 5) 60 f] (kc + 1) (ks + 6) Q 1361 [(0, .ref b0), (1, .ref x), (2, .ref (y 0)), (3, .ref w), (4, .int (nI i)), (5, .int (nI 2))] [.int (nI 0)]
  refine V_ord [0, 1, 2, 3, 4, 5, 6, 16, 7, 8, 9, 10, 17, 11, 12, 13, 14, 15] [XB x (a 0) (r 0) (p 0) (h 0) q, DW G a (c3 s), RN G r H g, PD G p f n, HI G h kn d, HD G d T, SA G q o, MO y 2 kn n th, RW G (y 1) 70 s, RW G (y 2) 140 sl, RZ G (y 3) 2 z, RW G (y 4) 420 hh, RW G (y 5) 60 f, RW G (y 6) 10 g6, RW G (y 7) 32 d7, OU G w fo, SQ G o O 0, SQ G o O 1] pm_23 rfl ?_
  refine V_istore (pc' := 1363) [(0, .ref b0), (1, .ref x), (2, .ref (y 0)), (3, .ref w), (4, .int (nI i)), (5, .int (nI 2)), (6, .int (nI 0))] [1, 2, 3, 4, 5, 6, 0] X dL_law_1361 (Nat.le_of_ble_eq_true rfl) rfl rfl ?_
  refine V_aload_n (pc' := 1364) 2 X dL_law_1363 rfl rfl rfl ?_
  refine V_callV (pc' := 1367) (As := []) (st := []) 6 59 [7] [0, 1, 2, 3, 4, 5, 6, 8, 9, 10, 11, 12, 13, 14, 15, 16, 17] pm_4 X (c_X6_thrown l G y 2 kn n th) rfl gL_law_X6_thrown rfl (by decide) rfl rfl rfl (Nat.le_of_ble_eq_true rfl) ⟨Nat.le_of_ble_eq_true rfl, Nat.le_of_ble_eq_true rfl⟩ ⟨show kc + 1 + 0 ≤ 604766 by omega, show ks + 6 + 0 ≤ 7281805 by omega⟩ dL_law_1364 rfl (fun v_ u_ hp_ => ?_)
  obtain ⟨rfl, rfl⟩ := hp_
  show V E G A 7 [XB x (a 0) (r 0) (p 0) (h 0) q, DW G a (c3 s), RN G r H g, PD G p f n, HI G h kn d, HD G d T, SA G q o, RW G (y 1) 70 s, RW G (y 2) 140 sl, RZ G (y 3) 2 z, RW G (y 4) 420 hh, RW G (y 5) 60 f, RW G (y 6) 10 g6, RW G (y 7) 32 d7, OU G w fo, SQ G o O 0, SQ G o O 1, MO y 2 kn n th] (kc + 1) (ks + 6) Q 1367 [(0, .ref b0), (1, .ref x), (2, .ref (y 0)), (3, .ref w), (4, .int (nI i)), (5, .int (nI 2)), (6, .int (nI 0))] [.int (nI 2)]
  refine V_ord [0, 1, 2, 3, 4, 5, 6, 17, 7, 8, 9, 10, 11, 12, 13, 14, 15, 16] [XB x (a 0) (r 0) (p 0) (h 0) q, DW G a (c3 s), RN G r H g, PD G p f n, HI G h kn d, HD G d T, SA G q o, MO y 2 kn n th, RW G (y 1) 70 s, RW G (y 2) 140 sl, RZ G (y 3) 2 z, RW G (y 4) 420 hh, RW G (y 5) 60 f, RW G (y 6) 10 g6, RW G (y 7) 32 d7, OU G w fo, SQ G o O 0, SQ G o O 1] pm_5 rfl ?_
  refine V_iload (pc' := 1369) 5 X dL_law_1367 rfl rfl ?_
  refine V_icmp_eq (pc' := 1372) (C := 2 = 2) 1374 X dL_law_1369 (by decide) rfl (nI_eq (by omega) (by omega)) (fun _ => ?_) (fun hz => absurd (by decide) hz)
  refine V_iload (pc' := 1376) 5 X dL_law_1374 rfl rfl ?_
  refine V_if_ne (pc' := 1379) (C := 2 = 0) 1391 X dL_law_1376 (by decide) rfl (z_eq0 (by omega)) (fun _ => ?_) (fun hz => absurd hz (by decide))
  refine V_goto (pc' := 1602) X dL_law_1391 (by decide) ?_
  refine V_lv [0, 1, 2, 3, 4] [(0, .ref b0), (1, .ref x), (2, .ref (y 0)), (3, .ref w), (4, .int (nI i))] rfl ?_
  exact K

set_option maxHeartbeats 4000000 in
set_option maxRecDepth 100000 in
theorem lc_undo {E : EE} {G : gT} {A : Nat → Prop} {Q : State → Prop} {l : Launch} {b0 L : Nat} {xs : Nat → Int32} (X : Cx E G A 7 cL_law RL wsL_law room_1 l) (hX : va_X b0 L xs (e_s E) (e_s E).heap) (hbl : b0 < (e_s E).heap.size) (hbA : ¬ A b0) (hL : L ≤ 1536) (x q w : Nat) (a r H g p f h : Nat → Nat) (n kn : Nat) (d T : Nat → Nat → Nat) (fo : Nat → Int64) (o : Nat → Option (Nat → Nat)) (O : Nat → Nat → Nat) (y : Nat → Nat) (t th : Nat) (s sl z hh g6 d7 : Nat → Nat) (kc ks i : Nat) (m : Nat) (hm : m < 6) (s9 : Nat → Nat) (hT1 : T m = c3 s9) (hT2 : ∀ j, j < 70 → hh (70 * m + j) = s9 j) (hkc : kc + 8 ≤ 604766) (hks : ks + 83 ≤ 7281805) (hi : i + 3 ≤ L) (K : V E G A 7 [XB x (a 0) (r 0) (p 0) (h 0) q, DW G a (c3 s9), RN G r H g, PD G p f n, HI G h m d, HD G d T, SA G q o, MO y 0 m n th, RW G (y 1) 70 s9, RW G (y 2) 140 sl, RZ G (y 3) 2 z, RW G (y 4) 420 hh, RW G (y 5) 60 f, RW G (y 6) 10 g6, RW G (y 7) 32 d7, OU G w (vp_updL fo 0 (((nI m)).toInt64)), SQ G o O 0, SQ G o O 1] kc ks Q 1602 [(0, .ref b0), (1, .ref x), (2, .ref (y 0)), (3, .ref w), (4, .int (nI i))] []) : V E G A 7 [XB x (a 0) (r 0) (p 0) (h 0) q, DW G a (c3 s), RN G r H g, PD G p f n, HI G h (m + 1) d, HD G d T, SA G q o, MO y t (m + 1) n th, RW G (y 1) 70 s, RW G (y 2) 140 sl, RZ G (y 3) 2 z, RW G (y 4) 420 hh, RW G (y 5) 60 f, RW G (y 6) 10 g6, RW G (y 7) 32 d7, OU G w fo, SQ G o O 0, SQ G o O 1] kc ks Q 1433 [(0, .ref b0), (1, .ref x), (2, .ref (y 0)), (3, .ref w), (4, .int (nI i))] [] := by
  show V E G A 7 [XB x (a 0) (r 0) (p 0) (h 0) q, DW G a (c3 s), RN G r H g, PD G p f n, HI G h (m + 1) d, HD G d T, SA G q o, MO y t (m + 1) n th, RW G (y 1) 70 s, RW G (y 2) 140 sl, RZ G (y 3) 2 z, RW G (y 4) 420 hh, RW G (y 5) 60 f, RW G (y 6) 10 g6, RW G (y 7) 32 d7, OU G w fo, SQ G o O 0, SQ G o O 1] kc ks Q 1433 [(0, .ref b0), (1, .ref x), (2, .ref (y 0)), (3, .ref w), (4, .int (nI i))] []
  refine V_aload_n (pc' := 1434) 1 X dL_law_1433 rfl rfl rfl ?_
  refine V_aload_n (pc' := 1435) 3 X dL_law_1434 rfl rfl rfl ?_
  refine V_callSW (pc' := 1438) (As := [.ref x, .ref w]) (st := []) [0, 1, 4, 5, 15] [2, 3, 6, 7, 8, 9, 10, 11, 12, 13, 14, 16, 17] pm_0 X (c_L_undo l G x q w a (c3 s) r H g p f h n kn d T fo m hm) rfl gL_law_L_undo rfl rfl (Nat.le_of_ble_eq_true rfl) ⟨Nat.le_of_ble_eq_true rfl, Nat.le_of_ble_eq_true rfl⟩ ⟨show kc + 0 ≤ 604766 by omega, show ks + 0 ≤ 7281805 by omega⟩ dL_law_1435 rfl (fun v_ u_ hp_ => ?_)
  obtain ⟨rfl, rfl⟩ := hp_
  show V E G A 7 [RN G r H g, PD G p f n, SA G q o, MO y t (m + 1) n th, RW G (y 1) 70 s, RW G (y 2) 140 sl, RZ G (y 3) 2 z, RW G (y 4) 420 hh, RW G (y 5) 60 f, RW G (y 6) 10 g6, RW G (y 7) 32 d7, SQ G o O 0, SQ G o O 1, XB x (a 0) (r 0) (p 0) (h 0) q, DW G a (T m), HI G h m d, HD G d T, OU G w (vp_updL fo 0 (((nI m)).toInt64))] kc ks Q 1438 [(0, .ref b0), (1, .ref x), (2, .ref (y 0)), (3, .ref w), (4, .int (nI i))] [.int (nI 0)]
  refine V_ord [13, 14, 0, 1, 15, 16, 2, 3, 4, 5, 6, 7, 8, 9, 10, 17, 11, 12] [XB x (a 0) (r 0) (p 0) (h 0) q, DW G a (T m), RN G r H g, PD G p f n, HI G h m d, HD G d T, SA G q o, MO y t (m + 1) n th, RW G (y 1) 70 s, RW G (y 2) 140 sl, RZ G (y 3) 2 z, RW G (y 4) 420 hh, RW G (y 5) 60 f, RW G (y 6) 10 g6, RW G (y 7) 32 d7, OU G w (vp_updL fo 0 (((nI m)).toInt64)), SQ G o O 0, SQ G o O 1] pm_1 rfl ?_
  refine V_istore (pc' := 1440) [(0, .ref b0), (1, .ref x), (2, .ref (y 0)), (3, .ref w), (4, .int (nI i)), (5, .int (nI 0))] [1, 2, 3, 4, 5, 0] X dL_law_1438 (Nat.le_of_ble_eq_true rfl) rfl rfl ?_
  refine V_aload_n (pc' := 1441) 2 X dL_law_1440 rfl rfl rfl ?_
  refine V_callV (pc' := 1444) (As := []) (st := []) 6 59 [7, 8, 11] [0, 1, 2, 3, 4, 5, 6, 9, 10, 12, 13, 14, 15, 16, 17] pm_2 X (c_X6_undo l G y t n th s hh m hm) rfl gL_law_X6_undo rfl (by decide) rfl rfl rfl (Nat.le_of_ble_eq_true rfl) ⟨Nat.le_of_ble_eq_true rfl, Nat.le_of_ble_eq_true rfl⟩ ⟨show kc + 0 ≤ 604766 by omega, show ks + 0 ≤ 7281805 by omega⟩ dL_law_1441 rfl (fun v_ u_ hp_ => ?_)
  obtain ⟨rfl, rfl⟩ := hp_
  show V E G A 7 [XB x (a 0) (r 0) (p 0) (h 0) q, DW G a (T m), RN G r H g, PD G p f n, HI G h m d, HD G d T, SA G q o, RW G (y 2) 140 sl, RZ G (y 3) 2 z, RW G (y 5) 60 f, RW G (y 6) 10 g6, RW G (y 7) 32 d7, OU G w (vp_updL fo 0 (((nI m)).toInt64)), SQ G o O 0, SQ G o O 1, MO y 0 m n th, RW G (y 1) 70 (fun k => hh (70 * m + k)), RW G (y 4) 420 hh] kc ks Q 1444 [(0, .ref b0), (1, .ref x), (2, .ref (y 0)), (3, .ref w), (4, .int (nI i)), (5, .int (nI 0))] [.int (nI m)]
  refine V_ord [0, 1, 2, 3, 4, 5, 6, 15, 16, 7, 8, 17, 9, 10, 11, 12, 13, 14] [XB x (a 0) (r 0) (p 0) (h 0) q, DW G a (T m), RN G r H g, PD G p f n, HI G h m d, HD G d T, SA G q o, MO y 0 m n th, RW G (y 1) 70 (fun k => hh (70 * m + k)), RW G (y 2) 140 sl, RZ G (y 3) 2 z, RW G (y 4) 420 hh, RW G (y 5) 60 f, RW G (y 6) 10 g6, RW G (y 7) 32 d7, OU G w (vp_updL fo 0 (((nI m)).toInt64)), SQ G o O 0, SQ G o O 1] pm_3 rfl ?_
  refine V_istore (pc' := 1446) [(0, .ref b0), (1, .ref x), (2, .ref (y 0)), (3, .ref w), (4, .int (nI i)), (5, .int (nI 0)), (6, .int (nI m))] [1, 2, 3, 4, 5, 6, 0] X dL_law_1444 (Nat.le_of_ble_eq_true rfl) rfl rfl ?_
  refine V_aload_n (pc' := 1447) 2 X dL_law_1446 rfl rfl rfl ?_
  refine V_callV (pc' := 1450) (As := []) (st := []) 6 59 [7] [0, 1, 2, 3, 4, 5, 6, 8, 9, 10, 11, 12, 13, 14, 15, 16, 17] pm_4 X (c_X6_thrown l G y 0 m n th) rfl gL_law_X6_thrown rfl (by decide) rfl rfl rfl (Nat.le_of_ble_eq_true rfl) ⟨Nat.le_of_ble_eq_true rfl, Nat.le_of_ble_eq_true rfl⟩ ⟨show kc + 0 ≤ 604766 by omega, show ks + 0 ≤ 7281805 by omega⟩ dL_law_1447 rfl (fun v_ u_ hp_ => ?_)
  obtain ⟨rfl, rfl⟩ := hp_
  show V E G A 7 [XB x (a 0) (r 0) (p 0) (h 0) q, DW G a (T m), RN G r H g, PD G p f n, HI G h m d, HD G d T, SA G q o, RW G (y 1) 70 (fun k => hh (70 * m + k)), RW G (y 2) 140 sl, RZ G (y 3) 2 z, RW G (y 4) 420 hh, RW G (y 5) 60 f, RW G (y 6) 10 g6, RW G (y 7) 32 d7, OU G w (vp_updL fo 0 (((nI m)).toInt64)), SQ G o O 0, SQ G o O 1, MO y 0 m n th] kc ks Q 1450 [(0, .ref b0), (1, .ref x), (2, .ref (y 0)), (3, .ref w), (4, .int (nI i)), (5, .int (nI 0)), (6, .int (nI m))] [.int (nI 0)]
  refine V_ord [0, 1, 2, 3, 4, 5, 6, 17, 7, 8, 9, 10, 11, 12, 13, 14, 15, 16] [XB x (a 0) (r 0) (p 0) (h 0) q, DW G a (T m), RN G r H g, PD G p f n, HI G h m d, HD G d T, SA G q o, MO y 0 m n th, RW G (y 1) 70 (fun k => hh (70 * m + k)), RW G (y 2) 140 sl, RZ G (y 3) 2 z, RW G (y 4) 420 hh, RW G (y 5) 60 f, RW G (y 6) 10 g6, RW G (y 7) 32 d7, OU G w (vp_updL fo 0 (((nI m)).toInt64)), SQ G o O 0, SQ G o O 1] pm_5 rfl ?_
  refine V_iload (pc' := 1452) 5 X dL_law_1450 rfl rfl ?_
  refine V_icmp_eq (pc' := 1455) (C := 0 = 0) 1457 X dL_law_1452 (by decide) rfl (nI_eq (by omega) (by omega)) (fun _ => ?_) (fun hz => absurd (by decide) hz)
  refine V_iload (pc' := 1459) 5 X dL_law_1457 rfl rfl ?_
  refine V_if_ne (pc' := 1462) (C := 0 = 0) 1474 X dL_law_1459 (by decide) rfl (z_eq0 (by omega)) (fun hz => absurd (by decide) hz) (fun _ => ?_)
  refine V_aload_n (pc' := 1463) 3 X dL_law_1462 rfl rfl rfl ?_
  refine V_iconst (pc' := 1464) (nI 0) X dL_law_1463 ki_0 rfl ?_
  refine V_lald (pc' := 1465) (v := (((nI m)).toInt64)) 67 0 X rfl (by omega) (by decide) pk_uLs dL_law_1464 rfl ?_
  refine V_iload (pc' := 1467) 6 X dL_law_1465 rfl rfl ?_
  refine V_i2l (pc' := 1468) (((nI m)).toInt64) X dL_law_1467 rfl rfl ?_
  refine V_lcmp (pc' := 1469) (lg_cmp (((nI m)).toInt64) (((nI m)).toInt64)) X dL_law_1468 rfl rfl ?_
  refine V_if_eq (pc' := 1472) (C := (lg_cmp (((nI m)).toInt64) (((nI m)).toInt64)) = 0) 1474 X dL_law_1469 (by decide) rfl Iff.rfl (fun _ => ?_) (fun hz => absurd (lgc_eq (congrArg (fun z_ => Int32.toInt64 (nI z_)) (rfl : m = m))) hz)
  refine V_goto (pc' := 1602) X dL_law_1474 (by decide) ?_
  refine V_ws [XB x (a 0) (r 0) (p 0) (h 0) q, DW G a (c3 s9), RN G r H g, PD G p f n, HI G h m d, HD G d T, SA G q o, MO y 0 m n th, RW G (y 1) 70 (fun k => hh (70 * m + k)), RW G (y 2) 140 sl, RZ G (y 3) 2 z, RW G (y 4) 420 hh, RW G (y 5) 60 f, RW G (y 6) 10 g6, RW G (y 7) 32 d7, OU G w (vp_updL fo 0 (((nI m)).toInt64)), SQ G o O 0, SQ G o O 1] (by rw [show (T m) = c3 s9 from hT1]) ?_
  refine V_ws [XB x (a 0) (r 0) (p 0) (h 0) q, DW G a (c3 s9), RN G r H g, PD G p f n, HI G h m d, HD G d T, SA G q o, MO y 0 m n th, [((y 1), .inl (G.2 0, 70, .inl (nf (fun k => hh (70 * m + k)))))], RW G (y 2) 140 sl, RZ G (y 3) 2 z, RW G (y 4) 420 hh, RW G (y 5) 60 f, RW G (y 6) 10 g6, RW G (y 7) 32 d7, OU G w (vp_updL fo 0 (((nI m)).toInt64)), SQ G o O 0, SQ G o O 1] rfl ?_
  refine V_wsq [XB x (a 0) (r 0) (p 0) (h 0) q, DW G a (c3 s9), RN G r H g, PD G p f n, HI G h m d, HD G d T, SA G q o, MO y 0 m n th, [((y 1), .inl (G.2 0, 70, .inl (nf s9)))], RW G (y 2) 140 sl, RZ G (y 3) 2 z, RW G (y 4) 420 hh, RW G (y 5) 60 f, RW G (y 6) 10 g6, RW G (y 7) 32 d7, OU G w (vp_updL fo 0 (((nI m)).toInt64)), SQ G o O 0, SQ G o O 1] (wsq.app (wsq.rf _) (wsq.app (wsq.rf _) (wsq.app (wsq.rf _) (wsq.app (wsq.rf _) (wsq.app (wsq.rf _) (wsq.app (wsq.rf _) (wsq.app (wsq.rf _) (wsq.app (wsq.rf _) (wsq.app (wsq.cons (weq.row (fun k hk => congrArg nI (hT2 k hk))) (wsq.rf _)) (wsq.rf _)))))))))) ?_
  refine V_ws [XB x (a 0) (r 0) (p 0) (h 0) q, DW G a (c3 s9), RN G r H g, PD G p f n, HI G h m d, HD G d T, SA G q o, MO y 0 m n th, RW G (y 1) 70 s9, RW G (y 2) 140 sl, RZ G (y 3) 2 z, RW G (y 4) 420 hh, RW G (y 5) 60 f, RW G (y 6) 10 g6, RW G (y 7) 32 d7, OU G w (vp_updL fo 0 (((nI m)).toInt64)), SQ G o O 0, SQ G o O 1] rfl ?_
  refine V_lv [0, 1, 2, 3, 4] [(0, .ref b0), (1, .ref x), (2, .ref (y 0)), (3, .ref w), (4, .int (nI i))] rfl ?_
  exact K

set_option maxHeartbeats 4000000 in
set_option maxRecDepth 100000 in
theorem lc_undo_b1 {E : EE} {G : gT} {A : Nat → Prop} {Q : State → Prop} {l : Launch} {b0 L : Nat} {xs : Nat → Int32} (X : Cx E G A 7 cL_law RL wsL_law room_1 l) (hX : va_X b0 L xs (e_s E) (e_s E).heap) (hbl : b0 < (e_s E).heap.size) (hbA : ¬ A b0) (hL : L ≤ 1536) (x q w : Nat) (a r H g p f h : Nat → Nat) (n kn : Nat) (d T : Nat → Nat → Nat) (fo : Nat → Int64) (o : Nat → Option (Nat → Nat)) (O : Nat → Nat → Nat) (y : Nat → Nat) (t th : Nat) (s sl z hh g6 d7 : Nat → Nat) (kc ks i : Nat) (hkc : kc + 8 ≤ 604766) (hks : ks + 83 ≤ 7281805) (hi : i + 3 ≤ L) (K : V E G A 7 [XB x (a 0) (r 0) (p 0) (h 0) q, DW G a (c3 s), RN G r H g, PD G p f n, HI G h 0 d, HD G d T, SA G q o, MO y 1 0 n th, RW G (y 1) 70 s, RW G (y 2) 140 sl, RZ G (y 3) 2 z, RW G (y 4) 420 hh, RW G (y 5) 60 f, RW G (y 6) 10 g6, RW G (y 7) 32 d7, OU G w fo, SQ G o O 0, SQ G o O 1] (kc + 1) (ks + 6) Q 1602 [(0, .ref b0), (1, .ref x), (2, .ref (y 0)), (3, .ref w), (4, .int (nI i))] []) : V E G A 7 [XB x (a 0) (r 0) (p 0) (h 0) q, DW G a (c3 s), RN G r H g, PD G p f n, HI G h 0 d, HD G d T, SA G q o, MO y t 0 n th, RW G (y 1) 70 s, RW G (y 2) 140 sl, RZ G (y 3) 2 z, RW G (y 4) 420 hh, RW G (y 5) 60 f, RW G (y 6) 10 g6, RW G (y 7) 32 d7, OU G w fo, SQ G o O 0, SQ G o O 1] kc ks Q 1433 [(0, .ref b0), (1, .ref x), (2, .ref (y 0)), (3, .ref w), (4, .int (nI i))] [] := by
  show V E G A 7 [XB x (a 0) (r 0) (p 0) (h 0) q, DW G a (c3 s), RN G r H g, PD G p f n, HI G h 0 d, HD G d T, SA G q o, MO y t 0 n th, RW G (y 1) 70 s, RW G (y 2) 140 sl, RZ G (y 3) 2 z, RW G (y 4) 420 hh, RW G (y 5) 60 f, RW G (y 6) 10 g6, RW G (y 7) 32 d7, OU G w fo, SQ G o O 0, SQ G o O 1] kc ks Q 1433 [(0, .ref b0), (1, .ref x), (2, .ref (y 0)), (3, .ref w), (4, .int (nI i))] []
  refine V_aload_n (pc' := 1434) 1 X dL_law_1433 rfl rfl rfl ?_
  refine V_aload_n (pc' := 1435) 3 X dL_law_1434 rfl rfl rfl ?_
  refine V_callSW (pc' := 1438) (As := [.ref x, .ref w]) (st := []) [0, 4, 15] [1, 2, 3, 5, 6, 7, 8, 9, 10, 11, 12, 13, 14, 16, 17] pm_24 X (c_L_undo_b1 l G x q w a (c3 s) r H g p f h n kn d T fo) rfl gL_law_L_undo rfl rfl (Nat.le_of_ble_eq_true rfl) ⟨Nat.le_of_ble_eq_true rfl, Nat.le_of_ble_eq_true rfl⟩ ⟨show kc + 1 ≤ 604766 by omega, show ks + 6 ≤ 7281805 by omega⟩ dL_law_1435 rfl (fun v_ u_ hp_ => ?_)
  obtain ⟨rfl, rfl⟩ := hp_
  show V E G A 7 [DW G a (c3 s), RN G r H g, PD G p f n, HD G d T, SA G q o, MO y t 0 n th, RW G (y 1) 70 s, RW G (y 2) 140 sl, RZ G (y 3) 2 z, RW G (y 4) 420 hh, RW G (y 5) 60 f, RW G (y 6) 10 g6, RW G (y 7) 32 d7, SQ G o O 0, SQ G o O 1, XB x (a 0) (r 0) (p 0) (h 0) q, HI G h 0 d, OU G w fo] (kc + 1) (ks + 6) Q 1438 [(0, .ref b0), (1, .ref x), (2, .ref (y 0)), (3, .ref w), (4, .int (nI i))] [.int (nI 1)]
  refine V_ord [15, 0, 1, 2, 16, 3, 4, 5, 6, 7, 8, 9, 10, 11, 12, 17, 13, 14] [XB x (a 0) (r 0) (p 0) (h 0) q, DW G a (c3 s), RN G r H g, PD G p f n, HI G h 0 d, HD G d T, SA G q o, MO y t 0 n th, RW G (y 1) 70 s, RW G (y 2) 140 sl, RZ G (y 3) 2 z, RW G (y 4) 420 hh, RW G (y 5) 60 f, RW G (y 6) 10 g6, RW G (y 7) 32 d7, OU G w fo, SQ G o O 0, SQ G o O 1] pm_25 rfl ?_
  refine V_istore (pc' := 1440) [(0, .ref b0), (1, .ref x), (2, .ref (y 0)), (3, .ref w), (4, .int (nI i)), (5, .int (nI 1))] [1, 2, 3, 4, 5, 0] X dL_law_1438 (Nat.le_of_ble_eq_true rfl) rfl rfl ?_
  refine V_aload_n (pc' := 1441) 2 X dL_law_1440 rfl rfl rfl ?_
  refine V_callV (pc' := 1444) (As := []) (st := []) 6 59 [7] [0, 1, 2, 3, 4, 5, 6, 8, 9, 10, 11, 12, 13, 14, 15, 16, 17] pm_4 X (c_X6_undo_b1 l G y t n th) rfl gL_law_X6_undo rfl (by decide) rfl rfl rfl (Nat.le_of_ble_eq_true rfl) ⟨Nat.le_of_ble_eq_true rfl, Nat.le_of_ble_eq_true rfl⟩ ⟨show kc + 1 + 0 ≤ 604766 by omega, show ks + 6 + 0 ≤ 7281805 by omega⟩ dL_law_1441 rfl (fun v_ u_ hp_ => ?_)
  obtain ⟨rfl, rfl⟩ := hp_
  show V E G A 7 [XB x (a 0) (r 0) (p 0) (h 0) q, DW G a (c3 s), RN G r H g, PD G p f n, HI G h 0 d, HD G d T, SA G q o, RW G (y 1) 70 s, RW G (y 2) 140 sl, RZ G (y 3) 2 z, RW G (y 4) 420 hh, RW G (y 5) 60 f, RW G (y 6) 10 g6, RW G (y 7) 32 d7, OU G w fo, SQ G o O 0, SQ G o O 1, MO y 1 0 n th] (kc + 1) (ks + 6) Q 1444 [(0, .ref b0), (1, .ref x), (2, .ref (y 0)), (3, .ref w), (4, .int (nI i)), (5, .int (nI 1))] [.int (nI 0)]
  refine V_ord [0, 1, 2, 3, 4, 5, 6, 17, 7, 8, 9, 10, 11, 12, 13, 14, 15, 16] [XB x (a 0) (r 0) (p 0) (h 0) q, DW G a (c3 s), RN G r H g, PD G p f n, HI G h 0 d, HD G d T, SA G q o, MO y 1 0 n th, RW G (y 1) 70 s, RW G (y 2) 140 sl, RZ G (y 3) 2 z, RW G (y 4) 420 hh, RW G (y 5) 60 f, RW G (y 6) 10 g6, RW G (y 7) 32 d7, OU G w fo, SQ G o O 0, SQ G o O 1] pm_5 rfl ?_
  refine V_istore (pc' := 1446) [(0, .ref b0), (1, .ref x), (2, .ref (y 0)), (3, .ref w), (4, .int (nI i)), (5, .int (nI 1)), (6, .int (nI 0))] [1, 2, 3, 4, 5, 6, 0] X dL_law_1444 (Nat.le_of_ble_eq_true rfl) rfl rfl ?_
  refine V_aload_n (pc' := 1447) 2 X dL_law_1446 rfl rfl rfl ?_
  refine V_callV (pc' := 1450) (As := []) (st := []) 6 59 [7] [0, 1, 2, 3, 4, 5, 6, 8, 9, 10, 11, 12, 13, 14, 15, 16, 17] pm_4 X (c_X6_thrown l G y 1 0 n th) rfl gL_law_X6_thrown rfl (by decide) rfl rfl rfl (Nat.le_of_ble_eq_true rfl) ⟨Nat.le_of_ble_eq_true rfl, Nat.le_of_ble_eq_true rfl⟩ ⟨show kc + 1 + 0 ≤ 604766 by omega, show ks + 6 + 0 ≤ 7281805 by omega⟩ dL_law_1447 rfl (fun v_ u_ hp_ => ?_)
  obtain ⟨rfl, rfl⟩ := hp_
  show V E G A 7 [XB x (a 0) (r 0) (p 0) (h 0) q, DW G a (c3 s), RN G r H g, PD G p f n, HI G h 0 d, HD G d T, SA G q o, RW G (y 1) 70 s, RW G (y 2) 140 sl, RZ G (y 3) 2 z, RW G (y 4) 420 hh, RW G (y 5) 60 f, RW G (y 6) 10 g6, RW G (y 7) 32 d7, OU G w fo, SQ G o O 0, SQ G o O 1, MO y 1 0 n th] (kc + 1) (ks + 6) Q 1450 [(0, .ref b0), (1, .ref x), (2, .ref (y 0)), (3, .ref w), (4, .int (nI i)), (5, .int (nI 1)), (6, .int (nI 0))] [.int (nI 1)]
  refine V_ord [0, 1, 2, 3, 4, 5, 6, 17, 7, 8, 9, 10, 11, 12, 13, 14, 15, 16] [XB x (a 0) (r 0) (p 0) (h 0) q, DW G a (c3 s), RN G r H g, PD G p f n, HI G h 0 d, HD G d T, SA G q o, MO y 1 0 n th, RW G (y 1) 70 s, RW G (y 2) 140 sl, RZ G (y 3) 2 z, RW G (y 4) 420 hh, RW G (y 5) 60 f, RW G (y 6) 10 g6, RW G (y 7) 32 d7, OU G w fo, SQ G o O 0, SQ G o O 1] pm_5 rfl ?_
  refine V_iload (pc' := 1452) 5 X dL_law_1450 rfl rfl ?_
  refine V_icmp_eq (pc' := 1455) (C := 1 = 1) 1457 X dL_law_1452 (by decide) rfl (nI_eq (by omega) (by omega)) (fun _ => ?_) (fun hz => absurd (by decide) hz)
  refine V_iload (pc' := 1459) 5 X dL_law_1457 rfl rfl ?_
  refine V_if_ne (pc' := 1462) (C := 1 = 0) 1474 X dL_law_1459 (by decide) rfl (z_eq0 (by omega)) (fun _ => ?_) (fun hz => absurd hz (by decide))
  refine V_goto (pc' := 1602) X dL_law_1474 (by decide) ?_
  refine V_lv [0, 1, 2, 3, 4] [(0, .ref b0), (1, .ref x), (2, .ref (y 0)), (3, .ref w), (4, .int (nI i))] rfl ?_
  exact K

set_option maxHeartbeats 4000000 in
set_option maxRecDepth 100000 in
theorem lc_save_some {E : EE} {G : gT} {A : Nat → Prop} {Q : State → Prop} {l : Launch} {b0 L : Nat} {xs : Nat → Int32} (X : Cx E G A 7 cL_law RL wsL_law room_1 l) (hX : va_X b0 L xs (e_s E) (e_s E).heap) (hbl : b0 < (e_s E).heap.size) (hbA : ¬ A b0) (hL : L ≤ 1536) (x q w : Nat) (a r H g p f h : Nat → Nat) (n kn : Nat) (d T : Nat → Nat → Nat) (fo : Nat → Int64) (o : Nat → Option (Nat → Nat)) (O : Nat → Nat → Nat) (y : Nat → Nat) (t th : Nat) (s sl z hh g6 d7 : Nat → Nat) (kc ks i : Nat) (hI : IV s) (c : Nat) (hc : c < 2) (hu1 : xs (i + 1) = nI c) (b : Nat → Nat) (ho : o c = some b) (hkc : kc + 8 ≤ 604766) (hks : ks + 83 ≤ 7281805) (hi : i + 3 ≤ L) (K : V E G A 7 [XB x (a 0) (r 0) (p 0) (h 0) q, DW G a (c3 s), RN G r H g, PD G p f n, HI G h kn d, HD G d T, SA G q o, MO y 0 kn n th, RW G (y 1) 70 s, RW G (y 2) 140 (wrH sl (70 * c) s 70), RZ G (y 3) 2 (va_up z c 1), RW G (y 4) 420 hh, RW G (y 5) 60 f, RW G (y 6) 10 g6, RW G (y 7) 32 d7, OU G w (vp_updL fo 0 (((nI (sm (fun k => cnt ((c3 s) k)) 32))).toInt64)), SQ G o (va_up O c (c3 s)) c, SQ G o (va_up O c (c3 s)) (1 - c)] kc ks Q 1602 [(0, .ref b0), (1, .ref x), (2, .ref (y 0)), (3, .ref w), (4, .int (nI i))] []) : V E G A 7 [XB x (a 0) (r 0) (p 0) (h 0) q, DW G a (c3 s), RN G r H g, PD G p f n, HI G h kn d, HD G d T, SA G q o, MO y t kn n th, RW G (y 1) 70 s, RW G (y 2) 140 sl, RZ G (y 3) 2 z, RW G (y 4) 420 hh, RW G (y 5) 60 f, RW G (y 6) 10 g6, RW G (y 7) 32 d7, OU G w fo, SQ G o O c, SQ G o O (1 - c)] kc ks Q 1490 [(0, .ref b0), (1, .ref x), (2, .ref (y 0)), (3, .ref w), (4, .int (nI i))] [] := by
  show V E G A 7 [XB x (a 0) (r 0) (p 0) (h 0) q, DW G a (c3 s), RN G r H g, PD G p f n, HI G h kn d, HD G d T, SA G q o, MO y t kn n th, RW G (y 1) 70 s, RW G (y 2) 140 sl, RZ G (y 3) 2 z, RW G (y 4) 420 hh, RW G (y 5) 60 f, RW G (y 6) 10 g6, RW G (y 7) 32 d7, OU G w fo, SQ G o O c, SQ G o O (1 - c)] kc ks Q 1490 [(0, .ref b0), (1, .ref x), (2, .ref (y 0)), (3, .ref w), (4, .int (nI i))] []
  refine V_ws [XB x (a 0) (r 0) (p 0) (h 0) q, DW G a (c3 s), RN G r H g, PD G p f n, HI G h kn d, HD G d T, SA G q o, MO y t kn n th, RW G (y 1) 70 s, RW G (y 2) 140 sl, RZ G (y 3) 2 z, RW G (y 4) 420 hh, RW G (y 5) 60 f, RW G (y 6) 10 g6, RW G (y 7) 32 d7, OU G w fo, DW G b (O c), SQ G o O (1 - c)] (by rw [SQ_some ho]) ?_
  refine V_aload_n (pc' := 1491) 1 X dL_law_1490 rfl rfl rfl ?_
  refine V_aload_n (pc' := 1492) 0 X dL_law_1491 rfl rfl rfl ?_
  refine V_iload (pc' := 1494) 4 X dL_law_1492 rfl rfl ?_
  refine V_iconst (pc' := 1495) (nI 1) X dL_law_1494 ki_1 rfl ?_
  refine V_iadd (pc' := 1496) (nI (i + 1)) X dL_law_1495 (nI_add _ _) rfl ?_
  refine V_sld (pc' := 1497) (v := nI c) X hX hbl hbA (j := i + 1) (by omega) (by omega) hu1 dL_law_1496 rfl ?_
  refine V_aload_n (pc' := 1498) 3 X dL_law_1497 rfl rfl rfl ?_
  refine V_callSW (pc' := 1501) (As := [.ref x, .int (nI c), .ref w]) (st := []) [0, 1, 6, 16, 15] [2, 3, 4, 5, 7, 8, 9, 10, 11, 12, 13, 14, 17] pm_26 X (c_L_save_some l G x q w a (c3 s) r H g p f h n kn d T fo o c hc (IV_c3 hI) b (O c) ho) rfl gL_law_L_save rfl rfl (Nat.le_of_ble_eq_true rfl) ⟨Nat.le_of_ble_eq_true rfl, Nat.le_of_ble_eq_true rfl⟩ ⟨show kc + 0 ≤ 604766 by omega, show ks + 0 ≤ 7281805 by omega⟩ dL_law_1498 rfl (fun v_ u_ hp_ => ?_)
  obtain ⟨rfl, rfl⟩ := hp_
  show V E G A 7 [RN G r H g, PD G p f n, HI G h kn d, HD G d T, MO y t kn n th, RW G (y 1) 70 s, RW G (y 2) 140 sl, RZ G (y 3) 2 z, RW G (y 4) 420 hh, RW G (y 5) 60 f, RW G (y 6) 10 g6, RW G (y 7) 32 d7, SQ G o O (1 - c), XB x (a 0) (r 0) (p 0) (h 0) q, DW G a (c3 s), SA G q o, DW G b (c3 s), OU G w (vp_updL fo 0 (((nI (sm (fun k => cnt ((c3 s) k)) 32))).toInt64))] kc ks Q 1501 [(0, .ref b0), (1, .ref x), (2, .ref (y 0)), (3, .ref w), (4, .int (nI i))] [.int (nI 0)]
  refine V_ord [13, 14, 0, 1, 2, 3, 15, 4, 5, 6, 7, 8, 9, 10, 11, 17, 16, 12] [XB x (a 0) (r 0) (p 0) (h 0) q, DW G a (c3 s), RN G r H g, PD G p f n, HI G h kn d, HD G d T, SA G q o, MO y t kn n th, RW G (y 1) 70 s, RW G (y 2) 140 sl, RZ G (y 3) 2 z, RW G (y 4) 420 hh, RW G (y 5) 60 f, RW G (y 6) 10 g6, RW G (y 7) 32 d7, OU G w (vp_updL fo 0 (((nI (sm (fun k => cnt ((c3 s) k)) 32))).toInt64)), DW G b (c3 s), SQ G o O (1 - c)] pm_27 rfl ?_
  refine V_istore (pc' := 1503) [(0, .ref b0), (1, .ref x), (2, .ref (y 0)), (3, .ref w), (4, .int (nI i)), (5, .int (nI 0))] [1, 2, 3, 4, 5, 0] X dL_law_1501 (Nat.le_of_ble_eq_true rfl) rfl rfl ?_
  refine V_aload_n (pc' := 1504) 2 X dL_law_1503 rfl rfl rfl ?_
  refine V_aload_n (pc' := 1505) 0 X dL_law_1504 rfl rfl rfl ?_
  refine V_iload (pc' := 1507) 4 X dL_law_1505 rfl rfl ?_
  refine V_iconst (pc' := 1508) (nI 1) X dL_law_1507 ki_1 rfl ?_
  refine V_iadd (pc' := 1509) (nI (i + 1)) X dL_law_1508 (nI_add _ _) rfl ?_
  refine V_sld (pc' := 1510) (v := nI c) X hX hbl hbA (j := i + 1) (by omega) (by omega) hu1 dL_law_1509 rfl ?_
  refine V_callV (pc' := 1513) (As := [.int (nI c)]) (st := []) 6 59 [7, 8, 9, 10] [0, 1, 2, 3, 4, 5, 6, 11, 12, 13, 14, 15, 16, 17] pm_28 X (c_X6_save l G y t kn n th s hI sl z c hc) rfl gL_law_X6_save rfl (by decide) rfl rfl rfl (Nat.le_of_ble_eq_true rfl) ⟨Nat.le_of_ble_eq_true rfl, Nat.le_of_ble_eq_true rfl⟩ ⟨show kc + 0 ≤ 604766 by omega, show ks + 0 ≤ 7281805 by omega⟩ dL_law_1510 rfl (fun v_ u_ hp_ => ?_)
  obtain ⟨rfl, rfl⟩ := hp_
  show V E G A 7 [XB x (a 0) (r 0) (p 0) (h 0) q, DW G a (c3 s), RN G r H g, PD G p f n, HI G h kn d, HD G d T, SA G q o, RW G (y 4) 420 hh, RW G (y 5) 60 f, RW G (y 6) 10 g6, RW G (y 7) 32 d7, OU G w (vp_updL fo 0 (((nI (sm (fun k => cnt ((c3 s) k)) 32))).toInt64)), DW G b (c3 s), SQ G o O (1 - c), MO y 0 kn n th, RW G (y 1) 70 s, RW G (y 2) 140 (wrH sl (70 * c) s 70), RZ G (y 3) 2 (va_up z c 1)] kc ks Q 1513 [(0, .ref b0), (1, .ref x), (2, .ref (y 0)), (3, .ref w), (4, .int (nI i)), (5, .int (nI 0))] [.int (nI (sm (fun k => cnt (s k)) 32))]
  refine V_ord [0, 1, 2, 3, 4, 5, 6, 14, 15, 16, 17, 7, 8, 9, 10, 11, 12, 13] [XB x (a 0) (r 0) (p 0) (h 0) q, DW G a (c3 s), RN G r H g, PD G p f n, HI G h kn d, HD G d T, SA G q o, MO y 0 kn n th, RW G (y 1) 70 s, RW G (y 2) 140 (wrH sl (70 * c) s 70), RZ G (y 3) 2 (va_up z c 1), RW G (y 4) 420 hh, RW G (y 5) 60 f, RW G (y 6) 10 g6, RW G (y 7) 32 d7, OU G w (vp_updL fo 0 (((nI (sm (fun k => cnt ((c3 s) k)) 32))).toInt64)), DW G b (c3 s), SQ G o O (1 - c)] pm_29 rfl ?_
  refine V_istore (pc' := 1515) [(0, .ref b0), (1, .ref x), (2, .ref (y 0)), (3, .ref w), (4, .int (nI i)), (5, .int (nI 0)), (6, .int (nI (sm (fun k => cnt (s k)) 32)))] [1, 2, 3, 4, 5, 6, 0] X dL_law_1513 (Nat.le_of_ble_eq_true rfl) rfl rfl ?_
  refine V_aload_n (pc' := 1516) 2 X dL_law_1515 rfl rfl rfl ?_
  refine V_callV (pc' := 1519) (As := []) (st := []) 6 59 [7] [0, 1, 2, 3, 4, 5, 6, 8, 9, 10, 11, 12, 13, 14, 15, 16, 17] pm_4 X (c_X6_thrown l G y 0 kn n th) rfl gL_law_X6_thrown rfl (by decide) rfl rfl rfl (Nat.le_of_ble_eq_true rfl) ⟨Nat.le_of_ble_eq_true rfl, Nat.le_of_ble_eq_true rfl⟩ ⟨show kc + 0 ≤ 604766 by omega, show ks + 0 ≤ 7281805 by omega⟩ dL_law_1516 rfl (fun v_ u_ hp_ => ?_)
  obtain ⟨rfl, rfl⟩ := hp_
  show V E G A 7 [XB x (a 0) (r 0) (p 0) (h 0) q, DW G a (c3 s), RN G r H g, PD G p f n, HI G h kn d, HD G d T, SA G q o, RW G (y 1) 70 s, RW G (y 2) 140 (wrH sl (70 * c) s 70), RZ G (y 3) 2 (va_up z c 1), RW G (y 4) 420 hh, RW G (y 5) 60 f, RW G (y 6) 10 g6, RW G (y 7) 32 d7, OU G w (vp_updL fo 0 (((nI (sm (fun k => cnt ((c3 s) k)) 32))).toInt64)), DW G b (c3 s), SQ G o O (1 - c), MO y 0 kn n th] kc ks Q 1519 [(0, .ref b0), (1, .ref x), (2, .ref (y 0)), (3, .ref w), (4, .int (nI i)), (5, .int (nI 0)), (6, .int (nI (sm (fun k => cnt (s k)) 32)))] [.int (nI 0)]
  refine V_ord [0, 1, 2, 3, 4, 5, 6, 17, 7, 8, 9, 10, 11, 12, 13, 14, 15, 16] [XB x (a 0) (r 0) (p 0) (h 0) q, DW G a (c3 s), RN G r H g, PD G p f n, HI G h kn d, HD G d T, SA G q o, MO y 0 kn n th, RW G (y 1) 70 s, RW G (y 2) 140 (wrH sl (70 * c) s 70), RZ G (y 3) 2 (va_up z c 1), RW G (y 4) 420 hh, RW G (y 5) 60 f, RW G (y 6) 10 g6, RW G (y 7) 32 d7, OU G w (vp_updL fo 0 (((nI (sm (fun k => cnt ((c3 s) k)) 32))).toInt64)), DW G b (c3 s), SQ G o O (1 - c)] pm_5 rfl ?_
  refine V_iload (pc' := 1521) 5 X dL_law_1519 rfl rfl ?_
  refine V_icmp_eq (pc' := 1524) (C := 0 = 0) 1526 X dL_law_1521 (by decide) rfl (nI_eq (by omega) (by omega)) (fun _ => ?_) (fun hz => absurd (by decide) hz)
  refine V_iload (pc' := 1528) 5 X dL_law_1526 rfl rfl ?_
  refine V_if_ne (pc' := 1531) (C := 0 = 0) 1543 X dL_law_1528 (by decide) rfl (z_eq0 (by omega)) (fun hz => absurd (by decide) hz) (fun _ => ?_)
  refine V_aload_n (pc' := 1532) 3 X dL_law_1531 rfl rfl rfl ?_
  refine V_iconst (pc' := 1533) (nI 0) X dL_law_1532 ki_0 rfl ?_
  refine V_lald (pc' := 1534) (v := (((nI (sm (fun k => cnt ((c3 s) k)) 32))).toInt64)) 67 0 X rfl (by omega) (by decide) pk_uLs dL_law_1533 rfl ?_
  refine V_iload (pc' := 1536) 6 X dL_law_1534 rfl rfl ?_
  refine V_i2l (pc' := 1537) (((nI (sm (fun k => cnt (s k)) 32))).toInt64) X dL_law_1536 rfl rfl ?_
  refine V_lcmp (pc' := 1538) (lg_cmp (((nI (sm (fun k => cnt ((c3 s) k)) 32))).toInt64) (((nI (sm (fun k => cnt (s k)) 32))).toInt64)) X dL_law_1537 rfl rfl ?_
  refine V_if_eq (pc' := 1541) (C := (lg_cmp (((nI (sm (fun k => cnt ((c3 s) k)) 32))).toInt64) (((nI (sm (fun k => cnt (s k)) 32))).toInt64)) = 0) 1543 X dL_law_1538 (by decide) rfl Iff.rfl (fun _ => ?_) (fun hz => absurd (lgc_eq (congrArg (fun z_ => Int32.toInt64 (nI z_)) (eq_pegs s))) hz)
  refine V_goto (pc' := 1602) X dL_law_1543 (by decide) ?_
  refine V_ws [XB x (a 0) (r 0) (p 0) (h 0) q, DW G a (c3 s), RN G r H g, PD G p f n, HI G h kn d, HD G d T, SA G q o, MO y 0 kn n th, RW G (y 1) 70 s, RW G (y 2) 140 (wrH sl (70 * c) s 70), RZ G (y 3) 2 (va_up z c 1), RW G (y 4) 420 hh, RW G (y 5) 60 f, RW G (y 6) 10 g6, RW G (y 7) 32 d7, OU G w (vp_updL fo 0 (((nI (sm (fun k => cnt ((c3 s) k)) 32))).toInt64)), SQ G o (va_up O c (c3 s)) c, SQ G o (va_up O c (c3 s)) (1 - c)] (by rw [SQ_some (O := va_up O c (c3 s)) ho, va_up_self, SQ_ne' (show ¬ 1 - c = c by omega)]) ?_
  refine V_lv [0, 1, 2, 3, 4] [(0, .ref b0), (1, .ref x), (2, .ref (y 0)), (3, .ref w), (4, .int (nI i))] rfl ?_
  exact K

set_option maxHeartbeats 4000000 in
set_option maxRecDepth 100000 in
theorem lc_save_none {E : EE} {G : gT} {A : Nat → Prop} {Q : State → Prop} {l : Launch} {b0 L : Nat} {xs : Nat → Int32} (X : Cx E G A 7 cL_law RL wsL_law room_1 l) (hX : va_X b0 L xs (e_s E) (e_s E).heap) (hbl : b0 < (e_s E).heap.size) (hbA : ¬ A b0) (hL : L ≤ 1536) (x q w : Nat) (a r H g p f h : Nat → Nat) (n kn : Nat) (d T : Nat → Nat → Nat) (fo : Nat → Int64) (o : Nat → Option (Nat → Nat)) (O : Nat → Nat → Nat) (y : Nat → Nat) (t th : Nat) (s sl z hh g6 d7 : Nat → Nat) (kc ks i : Nat) (hI : IV s) (c : Nat) (hc : c < 2) (hu1 : xs (i + 1) = nI c) (ho : o c = none) (hkc : kc + 8 ≤ 604766) (hks : ks + 83 ≤ 7281805) (hi : i + 3 ≤ L) (K : ∀ (b : Nat → Nat), V E G A 7 [XB x (a 0) (r 0) (p 0) (h 0) q, DW G a (c3 s), RN G r H g, PD G p f n, HI G h kn d, HD G d T, SA G q (va_up o c (some b)), MO y 0 kn n th, RW G (y 1) 70 s, RW G (y 2) 140 (wrH sl (70 * c) s 70), RZ G (y 3) 2 (va_up z c 1), RW G (y 4) 420 hh, RW G (y 5) 60 f, RW G (y 6) 10 g6, RW G (y 7) 32 d7, OU G w (vp_updL fo 0 (((nI (sm (fun k => cnt ((c3 s) k)) 32))).toInt64)), SQ G (va_up o c (some b)) (va_up O c (c3 s)) c, SQ G (va_up o c (some b)) (va_up O c (c3 s)) (1 - c)] (kc + 7) (ks + 77) Q 1602 [(0, .ref b0), (1, .ref x), (2, .ref (y 0)), (3, .ref w), (4, .int (nI i))] []) : V E G A 7 [XB x (a 0) (r 0) (p 0) (h 0) q, DW G a (c3 s), RN G r H g, PD G p f n, HI G h kn d, HD G d T, SA G q o, MO y t kn n th, RW G (y 1) 70 s, RW G (y 2) 140 sl, RZ G (y 3) 2 z, RW G (y 4) 420 hh, RW G (y 5) 60 f, RW G (y 6) 10 g6, RW G (y 7) 32 d7, OU G w fo, SQ G o O c, SQ G o O (1 - c)] kc ks Q 1490 [(0, .ref b0), (1, .ref x), (2, .ref (y 0)), (3, .ref w), (4, .int (nI i))] [] := by
  show V E G A 7 [XB x (a 0) (r 0) (p 0) (h 0) q, DW G a (c3 s), RN G r H g, PD G p f n, HI G h kn d, HD G d T, SA G q o, MO y t kn n th, RW G (y 1) 70 s, RW G (y 2) 140 sl, RZ G (y 3) 2 z, RW G (y 4) 420 hh, RW G (y 5) 60 f, RW G (y 6) 10 g6, RW G (y 7) 32 d7, OU G w fo, SQ G o O c, SQ G o O (1 - c)] kc ks Q 1490 [(0, .ref b0), (1, .ref x), (2, .ref (y 0)), (3, .ref w), (4, .int (nI i))] []
  refine V_aload_n (pc' := 1491) 1 X dL_law_1490 rfl rfl rfl ?_
  refine V_aload_n (pc' := 1492) 0 X dL_law_1491 rfl rfl rfl ?_
  refine V_iload (pc' := 1494) 4 X dL_law_1492 rfl rfl ?_
  refine V_iconst (pc' := 1495) (nI 1) X dL_law_1494 ki_1 rfl ?_
  refine V_iadd (pc' := 1496) (nI (i + 1)) X dL_law_1495 (nI_add _ _) rfl ?_
  refine V_sld (pc' := 1497) (v := nI c) X hX hbl hbA (j := i + 1) (by omega) (by omega) hu1 dL_law_1496 rfl ?_
  refine V_aload_n (pc' := 1498) 3 X dL_law_1497 rfl rfl rfl ?_
  refine V_callSW (pc' := 1501) (As := [.ref x, .int (nI c), .ref w]) (st := []) [0, 1, 6, 15] [2, 3, 4, 5, 7, 8, 9, 10, 11, 12, 13, 14, 16, 17] pm_30 X (c_L_save_none l G x q w a (c3 s) r H g p f h n kn d T fo o c hc (IV_c3 hI) ho) rfl gL_law_L_save rfl rfl (Nat.le_of_ble_eq_true rfl) ⟨Nat.le_of_ble_eq_true rfl, Nat.le_of_ble_eq_true rfl⟩ ⟨show kc + 7 ≤ 604766 by omega, show ks + 77 ≤ 7281805 by omega⟩ dL_law_1498 rfl (fun v_ u_ hp_ => ?_)
  obtain ⟨b, rfl, rfl⟩ := hp_
  show V E G A 7 [RN G r H g, PD G p f n, HI G h kn d, HD G d T, MO y t kn n th, RW G (y 1) 70 s, RW G (y 2) 140 sl, RZ G (y 3) 2 z, RW G (y 4) 420 hh, RW G (y 5) 60 f, RW G (y 6) 10 g6, RW G (y 7) 32 d7, SQ G o O c, SQ G o O (1 - c), XB x (a 0) (r 0) (p 0) (h 0) q, DW G a (c3 s), SA G q (va_up o c (some b)), DW G b (c3 s), OU G w (vp_updL fo 0 (((nI (sm (fun k => cnt ((c3 s) k)) 32))).toInt64))] (kc + 7) (ks + 77) Q 1501 [(0, .ref b0), (1, .ref x), (2, .ref (y 0)), (3, .ref w), (4, .int (nI i))] [.int (nI 0)]
  refine V_ord [0, 1, 2, 3, 4, 5, 6, 7, 8, 9, 10, 11, 14, 15, 16, 17, 18, 12, 13] [RN G r H g, PD G p f n, HI G h kn d, HD G d T, MO y t kn n th, RW G (y 1) 70 s, RW G (y 2) 140 sl, RZ G (y 3) 2 z, RW G (y 4) 420 hh, RW G (y 5) 60 f, RW G (y 6) 10 g6, RW G (y 7) 32 d7, XB x (a 0) (r 0) (p 0) (h 0) q, DW G a (c3 s), SA G q (va_up o c (some b)), DW G b (c3 s), OU G w (vp_updL fo 0 (((nI (sm (fun k => cnt ((c3 s) k)) 32))).toInt64)), SQ G o O c, SQ G o O (1 - c)] pm_31 rfl ?_
  refine V_istore (pc' := 1503) [(0, .ref b0), (1, .ref x), (2, .ref (y 0)), (3, .ref w), (4, .int (nI i)), (5, .int (nI 0))] [1, 2, 3, 4, 5, 0] X dL_law_1501 (Nat.le_of_ble_eq_true rfl) rfl rfl ?_
  refine V_aload_n (pc' := 1504) 2 X dL_law_1503 rfl rfl rfl ?_
  refine V_aload_n (pc' := 1505) 0 X dL_law_1504 rfl rfl rfl ?_
  refine V_iload (pc' := 1507) 4 X dL_law_1505 rfl rfl ?_
  refine V_iconst (pc' := 1508) (nI 1) X dL_law_1507 ki_1 rfl ?_
  refine V_iadd (pc' := 1509) (nI (i + 1)) X dL_law_1508 (nI_add _ _) rfl ?_
  refine V_sld (pc' := 1510) (v := nI c) X hX hbl hbA (j := i + 1) (by omega) (by omega) hu1 dL_law_1509 rfl ?_
  refine V_callV (pc' := 1513) (As := [.int (nI c)]) (st := []) 6 50 [4, 5, 6, 7] [0, 1, 2, 3, 8, 9, 10, 11, 12, 13, 14, 15, 16, 17, 18] pm_32 X (c_X6_save l G y t kn n th s hI sl z c hc) rfl gL_law_X6_save rfl (by decide) rfl rfl rfl (Nat.le_of_ble_eq_true rfl) ⟨Nat.le_of_ble_eq_true rfl, Nat.le_of_ble_eq_true rfl⟩ ⟨show kc + 7 + 0 ≤ 604766 by omega, show ks + 77 + 0 ≤ 7281805 by omega⟩ dL_law_1510 rfl (fun v_ u_ hp_ => ?_)
  obtain ⟨rfl, rfl⟩ := hp_
  show V E G A 7 [RN G r H g, PD G p f n, HI G h kn d, HD G d T, RW G (y 4) 420 hh, RW G (y 5) 60 f, RW G (y 6) 10 g6, RW G (y 7) 32 d7, XB x (a 0) (r 0) (p 0) (h 0) q, DW G a (c3 s), SA G q (va_up o c (some b)), DW G b (c3 s), OU G w (vp_updL fo 0 (((nI (sm (fun k => cnt ((c3 s) k)) 32))).toInt64)), SQ G o O c, SQ G o O (1 - c), MO y 0 kn n th, RW G (y 1) 70 s, RW G (y 2) 140 (wrH sl (70 * c) s 70), RZ G (y 3) 2 (va_up z c 1)] (kc + 7) (ks + 77) Q 1513 [(0, .ref b0), (1, .ref x), (2, .ref (y 0)), (3, .ref w), (4, .int (nI i)), (5, .int (nI 0))] [.int (nI (sm (fun k => cnt (s k)) 32))]
  refine V_ord [0, 1, 2, 3, 15, 16, 17, 18, 4, 5, 6, 7, 8, 9, 10, 11, 12, 13, 14] [RN G r H g, PD G p f n, HI G h kn d, HD G d T, MO y 0 kn n th, RW G (y 1) 70 s, RW G (y 2) 140 (wrH sl (70 * c) s 70), RZ G (y 3) 2 (va_up z c 1), RW G (y 4) 420 hh, RW G (y 5) 60 f, RW G (y 6) 10 g6, RW G (y 7) 32 d7, XB x (a 0) (r 0) (p 0) (h 0) q, DW G a (c3 s), SA G q (va_up o c (some b)), DW G b (c3 s), OU G w (vp_updL fo 0 (((nI (sm (fun k => cnt ((c3 s) k)) 32))).toInt64)), SQ G o O c, SQ G o O (1 - c)] pm_33 rfl ?_
  refine V_istore (pc' := 1515) [(0, .ref b0), (1, .ref x), (2, .ref (y 0)), (3, .ref w), (4, .int (nI i)), (5, .int (nI 0)), (6, .int (nI (sm (fun k => cnt (s k)) 32)))] [1, 2, 3, 4, 5, 6, 0] X dL_law_1513 (Nat.le_of_ble_eq_true rfl) rfl rfl ?_
  refine V_aload_n (pc' := 1516) 2 X dL_law_1515 rfl rfl rfl ?_
  refine V_callV (pc' := 1519) (As := []) (st := []) 6 50 [4] [0, 1, 2, 3, 5, 6, 7, 8, 9, 10, 11, 12, 13, 14, 15, 16, 17, 18] pm_34 X (c_X6_thrown l G y 0 kn n th) rfl gL_law_X6_thrown rfl (by decide) rfl rfl rfl (Nat.le_of_ble_eq_true rfl) ⟨Nat.le_of_ble_eq_true rfl, Nat.le_of_ble_eq_true rfl⟩ ⟨show kc + 7 + 0 ≤ 604766 by omega, show ks + 77 + 0 ≤ 7281805 by omega⟩ dL_law_1516 rfl (fun v_ u_ hp_ => ?_)
  obtain ⟨rfl, rfl⟩ := hp_
  show V E G A 7 [RN G r H g, PD G p f n, HI G h kn d, HD G d T, RW G (y 1) 70 s, RW G (y 2) 140 (wrH sl (70 * c) s 70), RZ G (y 3) 2 (va_up z c 1), RW G (y 4) 420 hh, RW G (y 5) 60 f, RW G (y 6) 10 g6, RW G (y 7) 32 d7, XB x (a 0) (r 0) (p 0) (h 0) q, DW G a (c3 s), SA G q (va_up o c (some b)), DW G b (c3 s), OU G w (vp_updL fo 0 (((nI (sm (fun k => cnt ((c3 s) k)) 32))).toInt64)), SQ G o O c, SQ G o O (1 - c), MO y 0 kn n th] (kc + 7) (ks + 77) Q 1519 [(0, .ref b0), (1, .ref x), (2, .ref (y 0)), (3, .ref w), (4, .int (nI i)), (5, .int (nI 0)), (6, .int (nI (sm (fun k => cnt (s k)) 32)))] [.int (nI 0)]
  refine V_ord [0, 1, 2, 3, 18, 4, 5, 6, 7, 8, 9, 10, 11, 12, 13, 14, 15, 16, 17] [RN G r H g, PD G p f n, HI G h kn d, HD G d T, MO y 0 kn n th, RW G (y 1) 70 s, RW G (y 2) 140 (wrH sl (70 * c) s 70), RZ G (y 3) 2 (va_up z c 1), RW G (y 4) 420 hh, RW G (y 5) 60 f, RW G (y 6) 10 g6, RW G (y 7) 32 d7, XB x (a 0) (r 0) (p 0) (h 0) q, DW G a (c3 s), SA G q (va_up o c (some b)), DW G b (c3 s), OU G w (vp_updL fo 0 (((nI (sm (fun k => cnt ((c3 s) k)) 32))).toInt64)), SQ G o O c, SQ G o O (1 - c)] pm_35 rfl ?_
  refine V_iload (pc' := 1521) 5 X dL_law_1519 rfl rfl ?_
  refine V_icmp_eq (pc' := 1524) (C := 0 = 0) 1526 X dL_law_1521 (by decide) rfl (nI_eq (by omega) (by omega)) (fun _ => ?_) (fun hz => absurd (by decide) hz)
  refine V_iload (pc' := 1528) 5 X dL_law_1526 rfl rfl ?_
  refine V_if_ne (pc' := 1531) (C := 0 = 0) 1543 X dL_law_1528 (by decide) rfl (z_eq0 (by omega)) (fun hz => absurd (by decide) hz) (fun _ => ?_)
  refine V_aload_n (pc' := 1532) 3 X dL_law_1531 rfl rfl rfl ?_
  refine V_iconst (pc' := 1533) (nI 0) X dL_law_1532 ki_0 rfl ?_
  refine V_lald (pc' := 1534) (v := (((nI (sm (fun k => cnt ((c3 s) k)) 32))).toInt64)) 74 0 X rfl (by omega) (by decide) pk_uLs dL_law_1533 rfl ?_
  refine V_iload (pc' := 1536) 6 X dL_law_1534 rfl rfl ?_
  refine V_i2l (pc' := 1537) (((nI (sm (fun k => cnt (s k)) 32))).toInt64) X dL_law_1536 rfl rfl ?_
  refine V_lcmp (pc' := 1538) (lg_cmp (((nI (sm (fun k => cnt ((c3 s) k)) 32))).toInt64) (((nI (sm (fun k => cnt (s k)) 32))).toInt64)) X dL_law_1537 rfl rfl ?_
  refine V_if_eq (pc' := 1541) (C := (lg_cmp (((nI (sm (fun k => cnt ((c3 s) k)) 32))).toInt64) (((nI (sm (fun k => cnt (s k)) 32))).toInt64)) = 0) 1543 X dL_law_1538 (by decide) rfl Iff.rfl (fun _ => ?_) (fun hz => absurd (lgc_eq (congrArg (fun z_ => Int32.toInt64 (nI z_)) (eq_pegs s))) hz)
  refine V_goto (pc' := 1602) X dL_law_1543 (by decide) ?_
  refine V_ord [0, 1, 2, 3, 4, 5, 6, 7, 8, 9, 10, 11, 12, 13, 14, 16, 15, 17, 18] [RN G r H g, PD G p f n, HI G h kn d, HD G d T, MO y 0 kn n th, RW G (y 1) 70 s, RW G (y 2) 140 (wrH sl (70 * c) s 70), RZ G (y 3) 2 (va_up z c 1), RW G (y 4) 420 hh, RW G (y 5) 60 f, RW G (y 6) 10 g6, RW G (y 7) 32 d7, XB x (a 0) (r 0) (p 0) (h 0) q, DW G a (c3 s), SA G q (va_up o c (some b)), OU G w (vp_updL fo 0 (((nI (sm (fun k => cnt ((c3 s) k)) 32))).toInt64)), DW G b (c3 s), SQ G o O c, SQ G o O (1 - c)] pm_36 rfl ?_
  refine V_ws [RN G r H g, PD G p f n, HI G h kn d, HD G d T, MO y 0 kn n th, RW G (y 1) 70 s, RW G (y 2) 140 (wrH sl (70 * c) s 70), RZ G (y 3) 2 (va_up z c 1), RW G (y 4) 420 hh, RW G (y 5) 60 f, RW G (y 6) 10 g6, RW G (y 7) 32 d7, XB x (a 0) (r 0) (p 0) (h 0) q, DW G a (c3 s), SA G q (va_up o c (some b)), OU G w (vp_updL fo 0 (((nI (sm (fun k => cnt ((c3 s) k)) 32))).toInt64)), SQ G (va_up o c (some b)) (va_up O c (c3 s)) c, SQ G (va_up o c (some b)) (va_up O c (c3 s)) (1 - c)] (by simp only [List.flatten_cons, List.flatten_nil]; rw [SQ_none ho, SQ_some (o := va_up o c (some b)) (O := va_up O c (c3 s)) (va_up_self _ _ _), va_up_self, SQ_ne (show ¬ 1 - c = c by omega), List.nil_append]) ?_
  refine V_ord [12, 13, 0, 1, 2, 3, 14, 4, 5, 6, 7, 8, 9, 10, 11, 15, 16, 17] [XB x (a 0) (r 0) (p 0) (h 0) q, DW G a (c3 s), RN G r H g, PD G p f n, HI G h kn d, HD G d T, SA G q (va_up o c (some b)), MO y 0 kn n th, RW G (y 1) 70 s, RW G (y 2) 140 (wrH sl (70 * c) s 70), RZ G (y 3) 2 (va_up z c 1), RW G (y 4) 420 hh, RW G (y 5) 60 f, RW G (y 6) 10 g6, RW G (y 7) 32 d7, OU G w (vp_updL fo 0 (((nI (sm (fun k => cnt ((c3 s) k)) 32))).toInt64)), SQ G (va_up o c (some b)) (va_up O c (c3 s)) c, SQ G (va_up o c (some b)) (va_up O c (c3 s)) (1 - c)] pm_37 rfl ?_
  refine V_lv [0, 1, 2, 3, 4] [(0, .ref b0), (1, .ref x), (2, .ref (y 0)), (3, .ref w), (4, .int (nI i))] rfl ?_
  exact K b

set_option maxHeartbeats 4000000 in
set_option maxRecDepth 100000 in
theorem lc_restore {E : EE} {G : gT} {A : Nat → Prop} {Q : State → Prop} {l : Launch} {b0 L : Nat} {xs : Nat → Int32} (X : Cx E G A 7 cL_law RL wsL_law room_1 l) (hX : va_X b0 L xs (e_s E) (e_s E).heap) (hbl : b0 < (e_s E).heap.size) (hbA : ¬ A b0) (hL : L ≤ 1536) (x q w : Nat) (a r H g p f h : Nat → Nat) (n kn : Nat) (d T : Nat → Nat → Nat) (fo : Nat → Int64) (o : Nat → Option (Nat → Nat)) (O : Nat → Nat → Nat) (y : Nat → Nat) (t th : Nat) (s sl z hh g6 d7 : Nat → Nat) (kc ks i : Nat) (hI : IV s) (hkn : kn ≤ 6) (c : Nat) (hc : c < 2) (hu1 : xs (i + 1) = nI c) (b : Nat → Nat) (ho : o c = some b) (hz : z c = 1) (s9 : Nat → Nat) (h9 : IV s9) (hO1 : O c = c3 s9) (hO2 : ∀ j, j < 70 → sl (70 * c + j) = s9 j) (hkc : kc + 8 ≤ 604766) (hks : ks + 83 ≤ 7281805) (hi : i + 3 ≤ L) (K : V E G A 7 [XB x (a 0) (r 0) (p 0) (h 0) q, DW G a (c3 s9), RN G r H g, PD G p f n, HI G h (aM kn + 1) (aD kn d), HD G (aD kn d) (hT kn (c3 s) T), SA G q o, MO y 0 (aM kn + 1) n th, RW G (y 1) 70 s9, RW G (y 2) 140 sl, RZ G (y 3) 2 z, RW G (y 4) 420 (rcH kn s hh), RW G (y 5) 60 f, RW G (y 6) 10 g6, RW G (y 7) 32 d7, OU G w (vp_updL fo 0 (((nI (sm (fun k => cnt (O c k)) 32))).toInt64)), SQ G o O c, SQ G o O (1 - c)] kc ks Q 1602 [(0, .ref b0), (1, .ref x), (2, .ref (y 0)), (3, .ref w), (4, .int (nI i))] []) : V E G A 7 [XB x (a 0) (r 0) (p 0) (h 0) q, DW G a (c3 s), RN G r H g, PD G p f n, HI G h kn d, HD G d T, SA G q o, MO y t kn n th, RW G (y 1) 70 s, RW G (y 2) 140 sl, RZ G (y 3) 2 z, RW G (y 4) 420 hh, RW G (y 5) 60 f, RW G (y 6) 10 g6, RW G (y 7) 32 d7, OU G w fo, SQ G o O c, SQ G o O (1 - c)] kc ks Q 1546 [(0, .ref b0), (1, .ref x), (2, .ref (y 0)), (3, .ref w), (4, .int (nI i))] [] := by
  show V E G A 7 [XB x (a 0) (r 0) (p 0) (h 0) q, DW G a (c3 s), RN G r H g, PD G p f n, HI G h kn d, HD G d T, SA G q o, MO y t kn n th, RW G (y 1) 70 s, RW G (y 2) 140 sl, RZ G (y 3) 2 z, RW G (y 4) 420 hh, RW G (y 5) 60 f, RW G (y 6) 10 g6, RW G (y 7) 32 d7, OU G w fo, SQ G o O c, SQ G o O (1 - c)] kc ks Q 1546 [(0, .ref b0), (1, .ref x), (2, .ref (y 0)), (3, .ref w), (4, .int (nI i))] []
  refine V_ws [XB x (a 0) (r 0) (p 0) (h 0) q, DW G a (c3 s), RN G r H g, PD G p f n, HI G h kn d, HD G d T, SA G q o, MO y t kn n th, RW G (y 1) 70 s, RW G (y 2) 140 sl, RZ G (y 3) 2 z, RW G (y 4) 420 hh, RW G (y 5) 60 f, RW G (y 6) 10 g6, RW G (y 7) 32 d7, OU G w fo, DW G b (O c), SQ G o O (1 - c)] (by rw [SQ_some ho]) ?_
  refine V_aload_n (pc' := 1547) 1 X dL_law_1546 rfl rfl rfl ?_
  refine V_aload_n (pc' := 1548) 0 X dL_law_1547 rfl rfl rfl ?_
  refine V_iload (pc' := 1550) 4 X dL_law_1548 rfl rfl ?_
  refine V_iconst (pc' := 1551) (nI 1) X dL_law_1550 ki_1 rfl ?_
  refine V_iadd (pc' := 1552) (nI (i + 1)) X dL_law_1551 (nI_add _ _) rfl ?_
  refine V_sld (pc' := 1553) (v := nI c) X hX hbl hbA (j := i + 1) (by omega) (by omega) hu1 dL_law_1552 rfl ?_
  refine V_aload_n (pc' := 1554) 3 X dL_law_1553 rfl rfl rfl ?_
  refine V_callSW (pc' := 1557) (As := [.ref x, .int (nI c), .ref w]) (st := []) [0, 1, 4, 5, 6, 16, 15] [2, 3, 7, 8, 9, 10, 11, 12, 13, 14, 17] pm_38 X (c_L_restore l G x q w a (c3 s) r H g p f h n kn d T fo o c hc hkn b (O c) ho (hO1 ▸ IV_c3 h9)) rfl gL_law_L_restore rfl rfl (Nat.le_of_ble_eq_true rfl) ⟨Nat.le_of_ble_eq_true rfl, Nat.le_of_ble_eq_true rfl⟩ ⟨show kc + 0 ≤ 604766 by omega, show ks + 0 ≤ 7281805 by omega⟩ dL_law_1554 rfl (fun v_ u_ hp_ => ?_)
  obtain ⟨rfl, rfl⟩ := hp_
  show V E G A 7 [RN G r H g, PD G p f n, MO y t kn n th, RW G (y 1) 70 s, RW G (y 2) 140 sl, RZ G (y 3) 2 z, RW G (y 4) 420 hh, RW G (y 5) 60 f, RW G (y 6) 10 g6, RW G (y 7) 32 d7, SQ G o O (1 - c), XB x (a 0) (r 0) (p 0) (h 0) q, DW G a (O c), HI G h (aM kn + 1) (aD kn d), HD G (aD kn d) (hT kn (c3 s) T), SA G q o, DW G b (O c), OU G w (vp_updL fo 0 (((nI (sm (fun k => cnt (O c k)) 32))).toInt64))] kc ks Q 1557 [(0, .ref b0), (1, .ref x), (2, .ref (y 0)), (3, .ref w), (4, .int (nI i))] [.int (nI 0)]
  refine V_ord [11, 12, 0, 1, 13, 14, 15, 2, 3, 4, 5, 6, 7, 8, 9, 17, 16, 10] [XB x (a 0) (r 0) (p 0) (h 0) q, DW G a (O c), RN G r H g, PD G p f n, HI G h (aM kn + 1) (aD kn d), HD G (aD kn d) (hT kn (c3 s) T), SA G q o, MO y t kn n th, RW G (y 1) 70 s, RW G (y 2) 140 sl, RZ G (y 3) 2 z, RW G (y 4) 420 hh, RW G (y 5) 60 f, RW G (y 6) 10 g6, RW G (y 7) 32 d7, OU G w (vp_updL fo 0 (((nI (sm (fun k => cnt (O c k)) 32))).toInt64)), DW G b (O c), SQ G o O (1 - c)] pm_39 rfl ?_
  refine V_istore (pc' := 1559) [(0, .ref b0), (1, .ref x), (2, .ref (y 0)), (3, .ref w), (4, .int (nI i)), (5, .int (nI 0))] [1, 2, 3, 4, 5, 0] X dL_law_1557 (Nat.le_of_ble_eq_true rfl) rfl rfl ?_
  refine V_aload_n (pc' := 1560) 2 X dL_law_1559 rfl rfl rfl ?_
  refine V_aload_n (pc' := 1561) 0 X dL_law_1560 rfl rfl rfl ?_
  refine V_iload (pc' := 1563) 4 X dL_law_1561 rfl rfl ?_
  refine V_iconst (pc' := 1564) (nI 1) X dL_law_1563 ki_1 rfl ?_
  refine V_iadd (pc' := 1565) (nI (i + 1)) X dL_law_1564 (nI_add _ _) rfl ?_
  refine V_sld (pc' := 1566) (v := nI c) X hX hbl hbA (j := i + 1) (by omega) (by omega) hu1 dL_law_1565 rfl ?_
  refine V_callV (pc' := 1569) (As := [.int (nI c)]) (st := []) 6 59 [7, 8, 11, 9, 10] [0, 1, 2, 3, 4, 5, 6, 12, 13, 14, 15, 16, 17] pm_40 X (c_X6_restore l G y t kn n th s hh sl z hkn c hc hz (IV_row hO2 h9)) rfl gL_law_X6_restore rfl (by decide) rfl rfl rfl (Nat.le_of_ble_eq_true rfl) ⟨Nat.le_of_ble_eq_true rfl, Nat.le_of_ble_eq_true rfl⟩ ⟨show kc + 0 ≤ 604766 by omega, show ks + 0 ≤ 7281805 by omega⟩ dL_law_1566 rfl (fun v_ u_ hp_ => ?_)
  obtain ⟨rfl, rfl⟩ := hp_
  show V E G A 7 [XB x (a 0) (r 0) (p 0) (h 0) q, DW G a (O c), RN G r H g, PD G p f n, HI G h (aM kn + 1) (aD kn d), HD G (aD kn d) (hT kn (c3 s) T), SA G q o, RW G (y 5) 60 f, RW G (y 6) 10 g6, RW G (y 7) 32 d7, OU G w (vp_updL fo 0 (((nI (sm (fun k => cnt (O c k)) 32))).toInt64)), DW G b (O c), SQ G o O (1 - c), MO y 0 (aM kn + 1) n th, RW G (y 1) 70 (fun k => sl (70 * c + k)), RW G (y 4) 420 (rcH kn s hh), RW G (y 2) 140 sl, RZ G (y 3) 2 z] kc ks Q 1569 [(0, .ref b0), (1, .ref x), (2, .ref (y 0)), (3, .ref w), (4, .int (nI i)), (5, .int (nI 0))] [.int (nI (sm (fun k => cnt (sl (70 * c + k))) 32))]
  refine V_ord [0, 1, 2, 3, 4, 5, 6, 13, 14, 16, 17, 15, 7, 8, 9, 10, 11, 12] [XB x (a 0) (r 0) (p 0) (h 0) q, DW G a (O c), RN G r H g, PD G p f n, HI G h (aM kn + 1) (aD kn d), HD G (aD kn d) (hT kn (c3 s) T), SA G q o, MO y 0 (aM kn + 1) n th, RW G (y 1) 70 (fun k => sl (70 * c + k)), RW G (y 2) 140 sl, RZ G (y 3) 2 z, RW G (y 4) 420 (rcH kn s hh), RW G (y 5) 60 f, RW G (y 6) 10 g6, RW G (y 7) 32 d7, OU G w (vp_updL fo 0 (((nI (sm (fun k => cnt (O c k)) 32))).toInt64)), DW G b (O c), SQ G o O (1 - c)] pm_41 rfl ?_
  refine V_istore (pc' := 1571) [(0, .ref b0), (1, .ref x), (2, .ref (y 0)), (3, .ref w), (4, .int (nI i)), (5, .int (nI 0)), (6, .int (nI (sm (fun k => cnt (sl (70 * c + k))) 32)))] [1, 2, 3, 4, 5, 6, 0] X dL_law_1569 (Nat.le_of_ble_eq_true rfl) rfl rfl ?_
  refine V_aload_n (pc' := 1572) 2 X dL_law_1571 rfl rfl rfl ?_
  refine V_callV (pc' := 1575) (As := []) (st := []) 6 59 [7] [0, 1, 2, 3, 4, 5, 6, 8, 9, 10, 11, 12, 13, 14, 15, 16, 17] pm_4 X (c_X6_thrown l G y 0 (aM kn + 1) n th) rfl gL_law_X6_thrown rfl (by decide) rfl rfl rfl (Nat.le_of_ble_eq_true rfl) ⟨Nat.le_of_ble_eq_true rfl, Nat.le_of_ble_eq_true rfl⟩ ⟨show kc + 0 ≤ 604766 by omega, show ks + 0 ≤ 7281805 by omega⟩ dL_law_1572 rfl (fun v_ u_ hp_ => ?_)
  obtain ⟨rfl, rfl⟩ := hp_
  show V E G A 7 [XB x (a 0) (r 0) (p 0) (h 0) q, DW G a (O c), RN G r H g, PD G p f n, HI G h (aM kn + 1) (aD kn d), HD G (aD kn d) (hT kn (c3 s) T), SA G q o, RW G (y 1) 70 (fun k => sl (70 * c + k)), RW G (y 2) 140 sl, RZ G (y 3) 2 z, RW G (y 4) 420 (rcH kn s hh), RW G (y 5) 60 f, RW G (y 6) 10 g6, RW G (y 7) 32 d7, OU G w (vp_updL fo 0 (((nI (sm (fun k => cnt (O c k)) 32))).toInt64)), DW G b (O c), SQ G o O (1 - c), MO y 0 (aM kn + 1) n th] kc ks Q 1575 [(0, .ref b0), (1, .ref x), (2, .ref (y 0)), (3, .ref w), (4, .int (nI i)), (5, .int (nI 0)), (6, .int (nI (sm (fun k => cnt (sl (70 * c + k))) 32)))] [.int (nI 0)]
  refine V_ord [0, 1, 2, 3, 4, 5, 6, 17, 7, 8, 9, 10, 11, 12, 13, 14, 15, 16] [XB x (a 0) (r 0) (p 0) (h 0) q, DW G a (O c), RN G r H g, PD G p f n, HI G h (aM kn + 1) (aD kn d), HD G (aD kn d) (hT kn (c3 s) T), SA G q o, MO y 0 (aM kn + 1) n th, RW G (y 1) 70 (fun k => sl (70 * c + k)), RW G (y 2) 140 sl, RZ G (y 3) 2 z, RW G (y 4) 420 (rcH kn s hh), RW G (y 5) 60 f, RW G (y 6) 10 g6, RW G (y 7) 32 d7, OU G w (vp_updL fo 0 (((nI (sm (fun k => cnt (O c k)) 32))).toInt64)), DW G b (O c), SQ G o O (1 - c)] pm_5 rfl ?_
  refine V_iload (pc' := 1577) 5 X dL_law_1575 rfl rfl ?_
  refine V_icmp_eq (pc' := 1580) (C := 0 = 0) 1582 X dL_law_1577 (by decide) rfl (nI_eq (by omega) (by omega)) (fun _ => ?_) (fun hz => absurd (by decide) hz)
  refine V_iload (pc' := 1584) 5 X dL_law_1582 rfl rfl ?_
  refine V_if_ne (pc' := 1587) (C := 0 = 0) 1599 X dL_law_1584 (by decide) rfl (z_eq0 (by omega)) (fun hz => absurd (by decide) hz) (fun _ => ?_)
  refine V_aload_n (pc' := 1588) 3 X dL_law_1587 rfl rfl rfl ?_
  refine V_iconst (pc' := 1589) (nI 0) X dL_law_1588 ki_0 rfl ?_
  refine V_lald (pc' := 1590) (v := (((nI (sm (fun k => cnt (O c k)) 32))).toInt64)) 67 0 X rfl (by omega) (by decide) pk_uLs dL_law_1589 rfl ?_
  refine V_iload (pc' := 1592) 6 X dL_law_1590 rfl rfl ?_
  refine V_i2l (pc' := 1593) (((nI (sm (fun k => cnt (sl (70 * c + k))) 32))).toInt64) X dL_law_1592 rfl rfl ?_
  refine V_lcmp (pc' := 1594) (lg_cmp (((nI (sm (fun k => cnt (O c k)) 32))).toInt64) (((nI (sm (fun k => cnt (sl (70 * c + k))) 32))).toInt64)) X dL_law_1593 rfl rfl ?_
  refine V_if_eq (pc' := 1597) (C := (lg_cmp (((nI (sm (fun k => cnt (O c k)) 32))).toInt64) (((nI (sm (fun k => cnt (sl (70 * c + k))) 32))).toInt64)) = 0) 1599 X dL_law_1594 (by decide) rfl Iff.rfl (fun _ => ?_) (fun hz => absurd (lgc_eq (congrArg (fun z_ => Int32.toInt64 (nI z_)) (show sm (fun k => cnt (O c k)) 32 = sm (fun k => cnt (sl (70 * c + k))) 32 from sm_congr (fun k hk => by show cnt (O c k) = cnt (sl (70 * c + k)); rw [hO1, c3_p hk, hO2 k (by omega)])))) hz)
  refine V_goto (pc' := 1602) X dL_law_1599 (by decide) ?_
  refine V_ws [XB x (a 0) (r 0) (p 0) (h 0) q, DW G a (c3 s9), RN G r H g, PD G p f n, HI G h (aM kn + 1) (aD kn d), HD G (aD kn d) (hT kn (c3 s) T), SA G q o, MO y 0 (aM kn + 1) n th, RW G (y 1) 70 (fun k => sl (70 * c + k)), RW G (y 2) 140 sl, RZ G (y 3) 2 z, RW G (y 4) 420 (rcH kn s hh), RW G (y 5) 60 f, RW G (y 6) 10 g6, RW G (y 7) 32 d7, OU G w (vp_updL fo 0 (((nI (sm (fun k => cnt (O c k)) 32))).toInt64)), DW G b (O c), SQ G o O (1 - c)] (by rw [show (O c) = c3 s9 from hO1]) ?_
  refine V_ws [XB x (a 0) (r 0) (p 0) (h 0) q, DW G a (c3 s9), RN G r H g, PD G p f n, HI G h (aM kn + 1) (aD kn d), HD G (aD kn d) (hT kn (c3 s) T), SA G q o, MO y 0 (aM kn + 1) n th, [((y 1), .inl (G.2 0, 70, .inl (nf (fun k => sl (70 * c + k)))))], RW G (y 2) 140 sl, RZ G (y 3) 2 z, RW G (y 4) 420 (rcH kn s hh), RW G (y 5) 60 f, RW G (y 6) 10 g6, RW G (y 7) 32 d7, OU G w (vp_updL fo 0 (((nI (sm (fun k => cnt (O c k)) 32))).toInt64)), DW G b (O c), SQ G o O (1 - c)] rfl ?_
  refine V_wsq [XB x (a 0) (r 0) (p 0) (h 0) q, DW G a (c3 s9), RN G r H g, PD G p f n, HI G h (aM kn + 1) (aD kn d), HD G (aD kn d) (hT kn (c3 s) T), SA G q o, MO y 0 (aM kn + 1) n th, [((y 1), .inl (G.2 0, 70, .inl (nf s9)))], RW G (y 2) 140 sl, RZ G (y 3) 2 z, RW G (y 4) 420 (rcH kn s hh), RW G (y 5) 60 f, RW G (y 6) 10 g6, RW G (y 7) 32 d7, OU G w (vp_updL fo 0 (((nI (sm (fun k => cnt (O c k)) 32))).toInt64)), DW G b (O c), SQ G o O (1 - c)] (wsq.app (wsq.rf _) (wsq.app (wsq.rf _) (wsq.app (wsq.rf _) (wsq.app (wsq.rf _) (wsq.app (wsq.rf _) (wsq.app (wsq.rf _) (wsq.app (wsq.rf _) (wsq.app (wsq.rf _) (wsq.app (wsq.cons (weq.row (fun k hk => congrArg nI (hO2 k hk))) (wsq.rf _)) (wsq.rf _)))))))))) ?_
  refine V_ws [XB x (a 0) (r 0) (p 0) (h 0) q, DW G a (c3 s9), RN G r H g, PD G p f n, HI G h (aM kn + 1) (aD kn d), HD G (aD kn d) (hT kn (c3 s) T), SA G q o, MO y 0 (aM kn + 1) n th, [((y 1), .inl (G.2 0, 70, .inl (nf s9)))], RW G (y 2) 140 sl, RZ G (y 3) 2 z, RW G (y 4) 420 (rcH kn s hh), RW G (y 5) 60 f, RW G (y 6) 10 g6, RW G (y 7) 32 d7, OU G w (vp_updL fo 0 (((nI (sm (fun k => cnt (O c k)) 32))).toInt64)), SQ G o O c, SQ G o O (1 - c)] (by rw [SQ_some ho]) ?_
  refine V_ws [XB x (a 0) (r 0) (p 0) (h 0) q, DW G a (c3 s9), RN G r H g, PD G p f n, HI G h (aM kn + 1) (aD kn d), HD G (aD kn d) (hT kn (c3 s) T), SA G q o, MO y 0 (aM kn + 1) n th, RW G (y 1) 70 s9, RW G (y 2) 140 sl, RZ G (y 3) 2 z, RW G (y 4) 420 (rcH kn s hh), RW G (y 5) 60 f, RW G (y 6) 10 g6, RW G (y 7) 32 d7, OU G w (vp_updL fo 0 (((nI (sm (fun k => cnt (O c k)) 32))).toInt64)), SQ G o O c, SQ G o O (1 - c)] rfl ?_
  refine V_lv [0, 1, 2, 3, 4] [(0, .ref b0), (1, .ref x), (2, .ref (y 0)), (3, .ref w), (4, .int (nI i))] rfl ?_
  exact K

set_option maxHeartbeats 4000000 in
set_option maxRecDepth 100000 in
theorem lc_restore_b2 {E : EE} {G : gT} {A : Nat → Prop} {Q : State → Prop} {l : Launch} {b0 L : Nat} {xs : Nat → Int32} (X : Cx E G A 7 cL_law RL wsL_law room_1 l) (hX : va_X b0 L xs (e_s E) (e_s E).heap) (hbl : b0 < (e_s E).heap.size) (hbA : ¬ A b0) (hL : L ≤ 1536) (x q w : Nat) (a r H g p f h : Nat → Nat) (n kn : Nat) (d T : Nat → Nat → Nat) (fo : Nat → Int64) (o : Nat → Option (Nat → Nat)) (O : Nat → Nat → Nat) (y : Nat → Nat) (t th : Nat) (s sl z hh g6 d7 : Nat → Nat) (kc ks i : Nat) (c : Nat) (hc : c < 2) (hu1 : xs (i + 1) = nI c) (ho : o c = none) (hz : z c = 0) (hkc : kc + 8 ≤ 604766) (hks : ks + 83 ≤ 7281805) (hi : i + 3 ≤ L) (K : V E G A 7 [XB x (a 0) (r 0) (p 0) (h 0) q, DW G a (c3 s), RN G r H g, PD G p f n, HI G h kn d, HD G d T, SA G q o, MO y 2 kn n th, RW G (y 1) 70 s, RW G (y 2) 140 sl, RZ G (y 3) 2 z, RW G (y 4) 420 hh, RW G (y 5) 60 f, RW G (y 6) 10 g6, RW G (y 7) 32 d7, OU G w fo, SQ G o O 0, SQ G o O 1] (kc + 1) (ks + 6) Q 1602 [(0, .ref b0), (1, .ref x), (2, .ref (y 0)), (3, .ref w), (4, .int (nI i))] []) : V E G A 7 [XB x (a 0) (r 0) (p 0) (h 0) q, DW G a (c3 s), RN G r H g, PD G p f n, HI G h kn d, HD G d T, SA G q o, MO y t kn n th, RW G (y 1) 70 s, RW G (y 2) 140 sl, RZ G (y 3) 2 z, RW G (y 4) 420 hh, RW G (y 5) 60 f, RW G (y 6) 10 g6, RW G (y 7) 32 d7, OU G w fo, SQ G o O 0, SQ G o O 1] kc ks Q 1546 [(0, .ref b0), (1, .ref x), (2, .ref (y 0)), (3, .ref w), (4, .int (nI i))] [] := by
  show V E G A 7 [XB x (a 0) (r 0) (p 0) (h 0) q, DW G a (c3 s), RN G r H g, PD G p f n, HI G h kn d, HD G d T, SA G q o, MO y t kn n th, RW G (y 1) 70 s, RW G (y 2) 140 sl, RZ G (y 3) 2 z, RW G (y 4) 420 hh, RW G (y 5) 60 f, RW G (y 6) 10 g6, RW G (y 7) 32 d7, OU G w fo, SQ G o O 0, SQ G o O 1] kc ks Q 1546 [(0, .ref b0), (1, .ref x), (2, .ref (y 0)), (3, .ref w), (4, .int (nI i))] []
  refine V_aload_n (pc' := 1547) 1 X dL_law_1546 rfl rfl rfl ?_
  refine V_aload_n (pc' := 1548) 0 X dL_law_1547 rfl rfl rfl ?_
  refine V_iload (pc' := 1550) 4 X dL_law_1548 rfl rfl ?_
  refine V_iconst (pc' := 1551) (nI 1) X dL_law_1550 ki_1 rfl ?_
  refine V_iadd (pc' := 1552) (nI (i + 1)) X dL_law_1551 (nI_add _ _) rfl ?_
  refine V_sld (pc' := 1553) (v := nI c) X hX hbl hbA (j := i + 1) (by omega) (by omega) hu1 dL_law_1552 rfl ?_
  refine V_aload_n (pc' := 1554) 3 X dL_law_1553 rfl rfl rfl ?_
  refine V_callSW (pc' := 1557) (As := [.ref x, .int (nI c), .ref w]) (st := []) [0, 6, 15] [1, 2, 3, 4, 5, 7, 8, 9, 10, 11, 12, 13, 14, 16, 17] pm_42 X (c_L_restore_b2 l G x q w a (c3 s) r H g p f h n kn d T fo o c hc ho) rfl gL_law_L_restore rfl rfl (Nat.le_of_ble_eq_true rfl) ⟨Nat.le_of_ble_eq_true rfl, Nat.le_of_ble_eq_true rfl⟩ ⟨show kc + 1 ≤ 604766 by omega, show ks + 6 ≤ 7281805 by omega⟩ dL_law_1554 rfl (fun v_ u_ hp_ => ?_)
  obtain ⟨rfl, rfl⟩ := hp_
  show V E G A 7 [DW G a (c3 s), RN G r H g, PD G p f n, HI G h kn d, HD G d T, MO y t kn n th, RW G (y 1) 70 s, RW G (y 2) 140 sl, RZ G (y 3) 2 z, RW G (y 4) 420 hh, RW G (y 5) 60 f, RW G (y 6) 10 g6, RW G (y 7) 32 d7, SQ G o O 0, SQ G o O 1, XB x (a 0) (r 0) (p 0) (h 0) q, SA G q o, OU G w fo] (kc + 1) (ks + 6) Q 1557 [(0, .ref b0), (1, .ref x), (2, .ref (y 0)), (3, .ref w), (4, .int (nI i))] [.int (nI 2)]
  refine V_ord [15, 0, 1, 2, 3, 4, 16, 5, 6, 7, 8, 9, 10, 11, 12, 17, 13, 14] [XB x (a 0) (r 0) (p 0) (h 0) q, DW G a (c3 s), RN G r H g, PD G p f n, HI G h kn d, HD G d T, SA G q o, MO y t kn n th, RW G (y 1) 70 s, RW G (y 2) 140 sl, RZ G (y 3) 2 z, RW G (y 4) 420 hh, RW G (y 5) 60 f, RW G (y 6) 10 g6, RW G (y 7) 32 d7, OU G w fo, SQ G o O 0, SQ G o O 1] pm_43 rfl ?_
  refine V_istore (pc' := 1559) [(0, .ref b0), (1, .ref x), (2, .ref (y 0)), (3, .ref w), (4, .int (nI i)), (5, .int (nI 2))] [1, 2, 3, 4, 5, 0] X dL_law_1557 (Nat.le_of_ble_eq_true rfl) rfl rfl ?_
  refine V_aload_n (pc' := 1560) 2 X dL_law_1559 rfl rfl rfl ?_
  refine V_aload_n (pc' := 1561) 0 X dL_law_1560 rfl rfl rfl ?_
  refine V_iload (pc' := 1563) 4 X dL_law_1561 rfl rfl ?_
  refine V_iconst (pc' := 1564) (nI 1) X dL_law_1563 ki_1 rfl ?_
  refine V_iadd (pc' := 1565) (nI (i + 1)) X dL_law_1564 (nI_add _ _) rfl ?_
  refine V_sld (pc' := 1566) (v := nI c) X hX hbl hbA (j := i + 1) (by omega) (by omega) hu1 dL_law_1565 rfl ?_
  refine V_callV (pc' := 1569) (As := [.int (nI c)]) (st := []) 6 59 [7, 10] [0, 1, 2, 3, 4, 5, 6, 8, 9, 11, 12, 13, 14, 15, 16, 17] pm_44 X (c_X6_restore_b2 l G y t kn n th z c hc hz) rfl gL_law_X6_restore rfl (by decide) rfl rfl rfl (Nat.le_of_ble_eq_true rfl) ⟨Nat.le_of_ble_eq_true rfl, Nat.le_of_ble_eq_true rfl⟩ ⟨show kc + 1 + 0 ≤ 604766 by omega, show ks + 6 + 0 ≤ 7281805 by omega⟩ dL_law_1566 rfl (fun v_ u_ hp_ => ?_)
  obtain ⟨rfl, rfl⟩ := hp_
  show V E G A 7 [XB x (a 0) (r 0) (p 0) (h 0) q, DW G a (c3 s), RN G r H g, PD G p f n, HI G h kn d, HD G d T, SA G q o, RW G (y 1) 70 s, RW G (y 2) 140 sl, RW G (y 4) 420 hh, RW G (y 5) 60 f, RW G (y 6) 10 g6, RW G (y 7) 32 d7, OU G w fo, SQ G o O 0, SQ G o O 1, MO y 2 kn n th, RZ G (y 3) 2 z] (kc + 1) (ks + 6) Q 1569 [(0, .ref b0), (1, .ref x), (2, .ref (y 0)), (3, .ref w), (4, .int (nI i)), (5, .int (nI 2))] [.int (nI 0)]
  refine V_ord [0, 1, 2, 3, 4, 5, 6, 16, 7, 8, 17, 9, 10, 11, 12, 13, 14, 15] [XB x (a 0) (r 0) (p 0) (h 0) q, DW G a (c3 s), RN G r H g, PD G p f n, HI G h kn d, HD G d T, SA G q o, MO y 2 kn n th, RW G (y 1) 70 s, RW G (y 2) 140 sl, RZ G (y 3) 2 z, RW G (y 4) 420 hh, RW G (y 5) 60 f, RW G (y 6) 10 g6, RW G (y 7) 32 d7, OU G w fo, SQ G o O 0, SQ G o O 1] pm_45 rfl ?_
  refine V_istore (pc' := 1571) [(0, .ref b0), (1, .ref x), (2, .ref (y 0)), (3, .ref w), (4, .int (nI i)), (5, .int (nI 2)), (6, .int (nI 0))] [1, 2, 3, 4, 5, 6, 0] X dL_law_1569 (Nat.le_of_ble_eq_true rfl) rfl rfl ?_
  refine V_aload_n (pc' := 1572) 2 X dL_law_1571 rfl rfl rfl ?_
  refine V_callV (pc' := 1575) (As := []) (st := []) 6 59 [7] [0, 1, 2, 3, 4, 5, 6, 8, 9, 10, 11, 12, 13, 14, 15, 16, 17] pm_4 X (c_X6_thrown l G y 2 kn n th) rfl gL_law_X6_thrown rfl (by decide) rfl rfl rfl (Nat.le_of_ble_eq_true rfl) ⟨Nat.le_of_ble_eq_true rfl, Nat.le_of_ble_eq_true rfl⟩ ⟨show kc + 1 + 0 ≤ 604766 by omega, show ks + 6 + 0 ≤ 7281805 by omega⟩ dL_law_1572 rfl (fun v_ u_ hp_ => ?_)
  obtain ⟨rfl, rfl⟩ := hp_
  show V E G A 7 [XB x (a 0) (r 0) (p 0) (h 0) q, DW G a (c3 s), RN G r H g, PD G p f n, HI G h kn d, HD G d T, SA G q o, RW G (y 1) 70 s, RW G (y 2) 140 sl, RZ G (y 3) 2 z, RW G (y 4) 420 hh, RW G (y 5) 60 f, RW G (y 6) 10 g6, RW G (y 7) 32 d7, OU G w fo, SQ G o O 0, SQ G o O 1, MO y 2 kn n th] (kc + 1) (ks + 6) Q 1575 [(0, .ref b0), (1, .ref x), (2, .ref (y 0)), (3, .ref w), (4, .int (nI i)), (5, .int (nI 2)), (6, .int (nI 0))] [.int (nI 2)]
  refine V_ord [0, 1, 2, 3, 4, 5, 6, 17, 7, 8, 9, 10, 11, 12, 13, 14, 15, 16] [XB x (a 0) (r 0) (p 0) (h 0) q, DW G a (c3 s), RN G r H g, PD G p f n, HI G h kn d, HD G d T, SA G q o, MO y 2 kn n th, RW G (y 1) 70 s, RW G (y 2) 140 sl, RZ G (y 3) 2 z, RW G (y 4) 420 hh, RW G (y 5) 60 f, RW G (y 6) 10 g6, RW G (y 7) 32 d7, OU G w fo, SQ G o O 0, SQ G o O 1] pm_5 rfl ?_
  refine V_iload (pc' := 1577) 5 X dL_law_1575 rfl rfl ?_
  refine V_icmp_eq (pc' := 1580) (C := 2 = 2) 1582 X dL_law_1577 (by decide) rfl (nI_eq (by omega) (by omega)) (fun _ => ?_) (fun hz => absurd (by decide) hz)
  refine V_iload (pc' := 1584) 5 X dL_law_1582 rfl rfl ?_
  refine V_if_ne (pc' := 1587) (C := 2 = 0) 1599 X dL_law_1584 (by decide) rfl (z_eq0 (by omega)) (fun _ => ?_) (fun hz => absurd hz (by decide))
  refine V_goto (pc' := 1602) X dL_law_1599 (by decide) ?_
  refine V_lv [0, 1, 2, 3, 4] [(0, .ref b0), (1, .ref x), (2, .ref (y 0)), (3, .ref w), (4, .int (nI i))] rfl ?_
  exact K

set_option maxHeartbeats 4000000 in
set_option maxRecDepth 100000 in
theorem lc_turnPeg_b1 {E : EE} {G : gT} {A : Nat → Prop} {Q : State → Prop} {l : Launch} {b0 L : Nat} {xs : Nat → Int32} (X : Cx E G A 7 cL_law RL wsL_law room_1 l) (hX : va_X b0 L xs (e_s E) (e_s E).heap) (hbl : b0 < (e_s E).heap.size) (hbA : ¬ A b0) (hL : L ≤ 1536) (x q w : Nat) (a r H g p f h : Nat → Nat) (n kn : Nat) (d T : Nat → Nat → Nat) (fo : Nat → Int64) (o : Nat → Option (Nat → Nat)) (O : Nat → Nat → Nat) (y : Nat → Nat) (t th : Nat) (s sl z hh g6 d7 : Nat → Nat) (kc ks i : Nat) (u1 u2 : Int32) (hx : ¬ okr 0 31 u1) (hu1 : xs (i + 1) = u1) (hu2 : xs (i + 2) = u2) (hkc : kc + 8 ≤ 604766) (hks : ks + 83 ≤ 7281805) (hi : i + 3 ≤ L) (K : V E G A 7 [XB x (a 0) (r 0) (p 0) (h 0) q, DW G a (c3 s), RN G r H g, PD G p f n, HI G h kn d, HD G d T, SA G q o, MO y 1 kn n th, RW G (y 1) 70 s, RW G (y 2) 140 sl, RZ G (y 3) 2 z, RW G (y 4) 420 hh, RW G (y 5) 60 f, RW G (y 6) 10 g6, RW G (y 7) 32 d7, OU G w fo, SQ G o O 0, SQ G o O 1] (kc + 1) (ks + 6) Q 1602 [(0, .ref b0), (1, .ref x), (2, .ref (y 0)), (3, .ref w), (4, .int (nI i))] []) : V E G A 7 [XB x (a 0) (r 0) (p 0) (h 0) q, DW G a (c3 s), RN G r H g, PD G p f n, HI G h kn d, HD G d T, SA G q o, MO y t kn n th, RW G (y 1) 70 s, RW G (y 2) 140 sl, RZ G (y 3) 2 z, RW G (y 4) 420 hh, RW G (y 5) 60 f, RW G (y 6) 10 g6, RW G (y 7) 32 d7, OU G w fo, SQ G o O 0, SQ G o O 1] kc ks Q 200 [(0, .ref b0), (1, .ref x), (2, .ref (y 0)), (3, .ref w), (4, .int (nI i))] [] := by
  show V E G A 7 [XB x (a 0) (r 0) (p 0) (h 0) q, DW G a (c3 s), RN G r H g, PD G p f n, HI G h kn d, HD G d T, SA G q o, MO y t kn n th, RW G (y 1) 70 s, RW G (y 2) 140 sl, RZ G (y 3) 2 z, RW G (y 4) 420 hh, RW G (y 5) 60 f, RW G (y 6) 10 g6, RW G (y 7) 32 d7, OU G w fo, SQ G o O 0, SQ G o O 1] kc ks Q 200 [(0, .ref b0), (1, .ref x), (2, .ref (y 0)), (3, .ref w), (4, .int (nI i))] []
  refine V_aload_n (pc' := 201) 1 X dL_law_200 rfl rfl rfl ?_
  refine V_aload_n (pc' := 202) 0 X dL_law_201 rfl rfl rfl ?_
  refine V_iload (pc' := 204) 4 X dL_law_202 rfl rfl ?_
  refine V_iconst (pc' := 205) (nI 1) X dL_law_204 ki_1 rfl ?_
  refine V_iadd (pc' := 206) (nI (i + 1)) X dL_law_205 (nI_add _ _) rfl ?_
  refine V_sld (pc' := 207) (v := u1) X hX hbl hbA (j := i + 1) (by omega) (by omega) hu1 dL_law_206 rfl ?_
  refine V_aload_n (pc' := 208) 0 X dL_law_207 rfl rfl rfl ?_
  refine V_iload (pc' := 210) 4 X dL_law_208 rfl rfl ?_
  refine V_iconst (pc' := 211) (nI 2) X dL_law_210 ki_2 rfl ?_
  refine V_iadd (pc' := 212) (nI (i + 2)) X dL_law_211 (nI_add _ _) rfl ?_
  refine V_sld (pc' := 213) (v := u2) X hX hbl hbA (j := i + 2) (by omega) (by omega) hu2 dL_law_212 rfl ?_
  refine V_aload_n (pc' := 214) 3 X dL_law_213 rfl rfl rfl ?_
  refine V_callSW (pc' := 217) (As := [.ref x, .int u1, .int u2, .ref w]) (st := []) [0, 15] [1, 2, 3, 4, 5, 6, 7, 8, 9, 10, 11, 12, 13, 14, 16, 17] pm_46 X (c_L_turnPeg_b1 l G x q w a (c3 s) r H g p f h n kn d T fo u1 u2 hx) rfl gL_law_L_turnPeg rfl rfl (Nat.le_of_ble_eq_true rfl) ⟨Nat.le_of_ble_eq_true rfl, Nat.le_of_ble_eq_true rfl⟩ ⟨show kc + 1 ≤ 604766 by omega, show ks + 6 ≤ 7281805 by omega⟩ dL_law_214 rfl (fun v_ u_ hp_ => ?_)
  obtain ⟨rfl, rfl⟩ := hp_
  show V E G A 7 [DW G a (c3 s), RN G r H g, PD G p f n, HI G h kn d, HD G d T, SA G q o, MO y t kn n th, RW G (y 1) 70 s, RW G (y 2) 140 sl, RZ G (y 3) 2 z, RW G (y 4) 420 hh, RW G (y 5) 60 f, RW G (y 6) 10 g6, RW G (y 7) 32 d7, SQ G o O 0, SQ G o O 1, XB x (a 0) (r 0) (p 0) (h 0) q, OU G w fo] (kc + 1) (ks + 6) Q 217 [(0, .ref b0), (1, .ref x), (2, .ref (y 0)), (3, .ref w), (4, .int (nI i))] [.int (nI 1)]
  refine V_ord [16, 0, 1, 2, 3, 4, 5, 6, 7, 8, 9, 10, 11, 12, 13, 17, 14, 15] [XB x (a 0) (r 0) (p 0) (h 0) q, DW G a (c3 s), RN G r H g, PD G p f n, HI G h kn d, HD G d T, SA G q o, MO y t kn n th, RW G (y 1) 70 s, RW G (y 2) 140 sl, RZ G (y 3) 2 z, RW G (y 4) 420 hh, RW G (y 5) 60 f, RW G (y 6) 10 g6, RW G (y 7) 32 d7, OU G w fo, SQ G o O 0, SQ G o O 1] pm_47 rfl ?_
  refine V_istore (pc' := 219) [(0, .ref b0), (1, .ref x), (2, .ref (y 0)), (3, .ref w), (4, .int (nI i)), (5, .int (nI 1))] [1, 2, 3, 4, 5, 0] X dL_law_217 (Nat.le_of_ble_eq_true rfl) rfl rfl ?_
  refine V_aload_n (pc' := 220) 2 X dL_law_219 rfl rfl rfl ?_
  refine V_aload_n (pc' := 221) 0 X dL_law_220 rfl rfl rfl ?_
  refine V_iload (pc' := 223) 4 X dL_law_221 rfl rfl ?_
  refine V_iconst (pc' := 224) (nI 1) X dL_law_223 ki_1 rfl ?_
  refine V_iadd (pc' := 225) (nI (i + 1)) X dL_law_224 (nI_add _ _) rfl ?_
  refine V_sld (pc' := 226) (v := u1) X hX hbl hbA (j := i + 1) (by omega) (by omega) hu1 dL_law_225 rfl ?_
  refine V_aload_n (pc' := 227) 0 X dL_law_226 rfl rfl rfl ?_
  refine V_iload (pc' := 229) 4 X dL_law_227 rfl rfl ?_
  refine V_iconst (pc' := 230) (nI 2) X dL_law_229 ki_2 rfl ?_
  refine V_iadd (pc' := 231) (nI (i + 2)) X dL_law_230 (nI_add _ _) rfl ?_
  refine V_sld (pc' := 232) (v := u2) X hX hbl hbA (j := i + 2) (by omega) (by omega) hu2 dL_law_231 rfl ?_
  refine V_callV (pc' := 235) (As := [.int u1, .int u2]) (st := []) 6 59 [7] [0, 1, 2, 3, 4, 5, 6, 8, 9, 10, 11, 12, 13, 14, 15, 16, 17] pm_4 X (c_X6_turnPeg_b1 l G y t kn n th u1 u2 hx) rfl gL_law_X6_turnPeg rfl (by decide) rfl rfl rfl (Nat.le_of_ble_eq_true rfl) ⟨Nat.le_of_ble_eq_true rfl, Nat.le_of_ble_eq_true rfl⟩ ⟨show kc + 1 + 0 ≤ 604766 by omega, show ks + 6 + 0 ≤ 7281805 by omega⟩ dL_law_232 rfl (fun v_ u_ hp_ => ?_)
  obtain ⟨rfl, rfl⟩ := hp_
  show V E G A 7 [XB x (a 0) (r 0) (p 0) (h 0) q, DW G a (c3 s), RN G r H g, PD G p f n, HI G h kn d, HD G d T, SA G q o, RW G (y 1) 70 s, RW G (y 2) 140 sl, RZ G (y 3) 2 z, RW G (y 4) 420 hh, RW G (y 5) 60 f, RW G (y 6) 10 g6, RW G (y 7) 32 d7, OU G w fo, SQ G o O 0, SQ G o O 1, MO y 1 kn n th] (kc + 1) (ks + 6) Q 235 [(0, .ref b0), (1, .ref x), (2, .ref (y 0)), (3, .ref w), (4, .int (nI i)), (5, .int (nI 1))] [.int (nI 0)]
  refine V_ord [0, 1, 2, 3, 4, 5, 6, 17, 7, 8, 9, 10, 11, 12, 13, 14, 15, 16] [XB x (a 0) (r 0) (p 0) (h 0) q, DW G a (c3 s), RN G r H g, PD G p f n, HI G h kn d, HD G d T, SA G q o, MO y 1 kn n th, RW G (y 1) 70 s, RW G (y 2) 140 sl, RZ G (y 3) 2 z, RW G (y 4) 420 hh, RW G (y 5) 60 f, RW G (y 6) 10 g6, RW G (y 7) 32 d7, OU G w fo, SQ G o O 0, SQ G o O 1] pm_5 rfl ?_
  refine V_istore (pc' := 237) [(0, .ref b0), (1, .ref x), (2, .ref (y 0)), (3, .ref w), (4, .int (nI i)), (5, .int (nI 1)), (6, .int (nI 0))] [1, 2, 3, 4, 5, 6, 0] X dL_law_235 (Nat.le_of_ble_eq_true rfl) rfl rfl ?_
  refine V_aload_n (pc' := 238) 2 X dL_law_237 rfl rfl rfl ?_
  refine V_callV (pc' := 241) (As := []) (st := []) 6 59 [7] [0, 1, 2, 3, 4, 5, 6, 8, 9, 10, 11, 12, 13, 14, 15, 16, 17] pm_4 X (c_X6_thrown l G y 1 kn n th) rfl gL_law_X6_thrown rfl (by decide) rfl rfl rfl (Nat.le_of_ble_eq_true rfl) ⟨Nat.le_of_ble_eq_true rfl, Nat.le_of_ble_eq_true rfl⟩ ⟨show kc + 1 + 0 ≤ 604766 by omega, show ks + 6 + 0 ≤ 7281805 by omega⟩ dL_law_238 rfl (fun v_ u_ hp_ => ?_)
  obtain ⟨rfl, rfl⟩ := hp_
  show V E G A 7 [XB x (a 0) (r 0) (p 0) (h 0) q, DW G a (c3 s), RN G r H g, PD G p f n, HI G h kn d, HD G d T, SA G q o, RW G (y 1) 70 s, RW G (y 2) 140 sl, RZ G (y 3) 2 z, RW G (y 4) 420 hh, RW G (y 5) 60 f, RW G (y 6) 10 g6, RW G (y 7) 32 d7, OU G w fo, SQ G o O 0, SQ G o O 1, MO y 1 kn n th] (kc + 1) (ks + 6) Q 241 [(0, .ref b0), (1, .ref x), (2, .ref (y 0)), (3, .ref w), (4, .int (nI i)), (5, .int (nI 1)), (6, .int (nI 0))] [.int (nI 1)]
  refine V_ord [0, 1, 2, 3, 4, 5, 6, 17, 7, 8, 9, 10, 11, 12, 13, 14, 15, 16] [XB x (a 0) (r 0) (p 0) (h 0) q, DW G a (c3 s), RN G r H g, PD G p f n, HI G h kn d, HD G d T, SA G q o, MO y 1 kn n th, RW G (y 1) 70 s, RW G (y 2) 140 sl, RZ G (y 3) 2 z, RW G (y 4) 420 hh, RW G (y 5) 60 f, RW G (y 6) 10 g6, RW G (y 7) 32 d7, OU G w fo, SQ G o O 0, SQ G o O 1] pm_5 rfl ?_
  refine V_iload (pc' := 243) 5 X dL_law_241 rfl rfl ?_
  refine V_icmp_eq (pc' := 246) (C := 1 = 1) 248 X dL_law_243 (by decide) rfl (nI_eq (by omega) (by omega)) (fun _ => ?_) (fun hz => absurd (by decide) hz)
  refine V_iload (pc' := 250) 5 X dL_law_248 rfl rfl ?_
  refine V_if_ne (pc' := 253) (C := 1 = 0) 272 X dL_law_250 (by decide) rfl (z_eq0 (by omega)) (fun _ => ?_) (fun hz => absurd hz (by decide))
  refine V_goto (pc' := 1602) X dL_law_272 (by decide) ?_
  refine V_lv [0, 1, 2, 3, 4] [(0, .ref b0), (1, .ref x), (2, .ref (y 0)), (3, .ref w), (4, .int (nI i))] rfl ?_
  exact K

set_option maxHeartbeats 4000000 in
set_option maxRecDepth 100000 in
theorem lc_turnPeg_b2 {E : EE} {G : gT} {A : Nat → Prop} {Q : State → Prop} {l : Launch} {b0 L : Nat} {xs : Nat → Int32} (X : Cx E G A 7 cL_law RL wsL_law room_1 l) (hX : va_X b0 L xs (e_s E) (e_s E).heap) (hbl : b0 < (e_s E).heap.size) (hbA : ¬ A b0) (hL : L ≤ 1536) (x q w : Nat) (a r H g p f h : Nat → Nat) (n kn : Nat) (d T : Nat → Nat → Nat) (fo : Nat → Int64) (o : Nat → Option (Nat → Nat)) (O : Nat → Nat → Nat) (y : Nat → Nat) (t th : Nat) (s sl z hh g6 d7 : Nat → Nat) (kc ks i : Nat) (c : Nat) (hc : c < 32) (u2 : Int32) (hx : ¬ okr 0 9 u2) (hu1 : xs (i + 1) = nI c) (hu2 : xs (i + 2) = u2) (hkc : kc + 8 ≤ 604766) (hks : ks + 83 ≤ 7281805) (hi : i + 3 ≤ L) (K : V E G A 7 [XB x (a 0) (r 0) (p 0) (h 0) q, DW G a (c3 s), RN G r H g, PD G p f n, HI G h kn d, HD G d T, SA G q o, MO y 1 kn n th, RW G (y 1) 70 s, RW G (y 2) 140 sl, RZ G (y 3) 2 z, RW G (y 4) 420 hh, RW G (y 5) 60 f, RW G (y 6) 10 g6, RW G (y 7) 32 d7, OU G w fo, SQ G o O 0, SQ G o O 1] (kc + 1) (ks + 6) Q 1602 [(0, .ref b0), (1, .ref x), (2, .ref (y 0)), (3, .ref w), (4, .int (nI i))] []) : V E G A 7 [XB x (a 0) (r 0) (p 0) (h 0) q, DW G a (c3 s), RN G r H g, PD G p f n, HI G h kn d, HD G d T, SA G q o, MO y t kn n th, RW G (y 1) 70 s, RW G (y 2) 140 sl, RZ G (y 3) 2 z, RW G (y 4) 420 hh, RW G (y 5) 60 f, RW G (y 6) 10 g6, RW G (y 7) 32 d7, OU G w fo, SQ G o O 0, SQ G o O 1] kc ks Q 200 [(0, .ref b0), (1, .ref x), (2, .ref (y 0)), (3, .ref w), (4, .int (nI i))] [] := by
  show V E G A 7 [XB x (a 0) (r 0) (p 0) (h 0) q, DW G a (c3 s), RN G r H g, PD G p f n, HI G h kn d, HD G d T, SA G q o, MO y t kn n th, RW G (y 1) 70 s, RW G (y 2) 140 sl, RZ G (y 3) 2 z, RW G (y 4) 420 hh, RW G (y 5) 60 f, RW G (y 6) 10 g6, RW G (y 7) 32 d7, OU G w fo, SQ G o O 0, SQ G o O 1] kc ks Q 200 [(0, .ref b0), (1, .ref x), (2, .ref (y 0)), (3, .ref w), (4, .int (nI i))] []
  refine V_aload_n (pc' := 201) 1 X dL_law_200 rfl rfl rfl ?_
  refine V_aload_n (pc' := 202) 0 X dL_law_201 rfl rfl rfl ?_
  refine V_iload (pc' := 204) 4 X dL_law_202 rfl rfl ?_
  refine V_iconst (pc' := 205) (nI 1) X dL_law_204 ki_1 rfl ?_
  refine V_iadd (pc' := 206) (nI (i + 1)) X dL_law_205 (nI_add _ _) rfl ?_
  refine V_sld (pc' := 207) (v := nI c) X hX hbl hbA (j := i + 1) (by omega) (by omega) hu1 dL_law_206 rfl ?_
  refine V_aload_n (pc' := 208) 0 X dL_law_207 rfl rfl rfl ?_
  refine V_iload (pc' := 210) 4 X dL_law_208 rfl rfl ?_
  refine V_iconst (pc' := 211) (nI 2) X dL_law_210 ki_2 rfl ?_
  refine V_iadd (pc' := 212) (nI (i + 2)) X dL_law_211 (nI_add _ _) rfl ?_
  refine V_sld (pc' := 213) (v := u2) X hX hbl hbA (j := i + 2) (by omega) (by omega) hu2 dL_law_212 rfl ?_
  refine V_aload_n (pc' := 214) 3 X dL_law_213 rfl rfl rfl ?_
  refine V_callSW (pc' := 217) (As := [.ref x, .int (nI c), .int u2, .ref w]) (st := []) [0, 15] [1, 2, 3, 4, 5, 6, 7, 8, 9, 10, 11, 12, 13, 14, 16, 17] pm_46 X (c_L_turnPeg_b2 l G x q w a (c3 s) r H g p f h n kn d T fo c hc u2 hx) rfl gL_law_L_turnPeg rfl rfl (Nat.le_of_ble_eq_true rfl) ⟨Nat.le_of_ble_eq_true rfl, Nat.le_of_ble_eq_true rfl⟩ ⟨show kc + 1 ≤ 604766 by omega, show ks + 6 ≤ 7281805 by omega⟩ dL_law_214 rfl (fun v_ u_ hp_ => ?_)
  obtain ⟨rfl, rfl⟩ := hp_
  show V E G A 7 [DW G a (c3 s), RN G r H g, PD G p f n, HI G h kn d, HD G d T, SA G q o, MO y t kn n th, RW G (y 1) 70 s, RW G (y 2) 140 sl, RZ G (y 3) 2 z, RW G (y 4) 420 hh, RW G (y 5) 60 f, RW G (y 6) 10 g6, RW G (y 7) 32 d7, SQ G o O 0, SQ G o O 1, XB x (a 0) (r 0) (p 0) (h 0) q, OU G w fo] (kc + 1) (ks + 6) Q 217 [(0, .ref b0), (1, .ref x), (2, .ref (y 0)), (3, .ref w), (4, .int (nI i))] [.int (nI 1)]
  refine V_ord [16, 0, 1, 2, 3, 4, 5, 6, 7, 8, 9, 10, 11, 12, 13, 17, 14, 15] [XB x (a 0) (r 0) (p 0) (h 0) q, DW G a (c3 s), RN G r H g, PD G p f n, HI G h kn d, HD G d T, SA G q o, MO y t kn n th, RW G (y 1) 70 s, RW G (y 2) 140 sl, RZ G (y 3) 2 z, RW G (y 4) 420 hh, RW G (y 5) 60 f, RW G (y 6) 10 g6, RW G (y 7) 32 d7, OU G w fo, SQ G o O 0, SQ G o O 1] pm_47 rfl ?_
  refine V_istore (pc' := 219) [(0, .ref b0), (1, .ref x), (2, .ref (y 0)), (3, .ref w), (4, .int (nI i)), (5, .int (nI 1))] [1, 2, 3, 4, 5, 0] X dL_law_217 (Nat.le_of_ble_eq_true rfl) rfl rfl ?_
  refine V_aload_n (pc' := 220) 2 X dL_law_219 rfl rfl rfl ?_
  refine V_aload_n (pc' := 221) 0 X dL_law_220 rfl rfl rfl ?_
  refine V_iload (pc' := 223) 4 X dL_law_221 rfl rfl ?_
  refine V_iconst (pc' := 224) (nI 1) X dL_law_223 ki_1 rfl ?_
  refine V_iadd (pc' := 225) (nI (i + 1)) X dL_law_224 (nI_add _ _) rfl ?_
  refine V_sld (pc' := 226) (v := nI c) X hX hbl hbA (j := i + 1) (by omega) (by omega) hu1 dL_law_225 rfl ?_
  refine V_aload_n (pc' := 227) 0 X dL_law_226 rfl rfl rfl ?_
  refine V_iload (pc' := 229) 4 X dL_law_227 rfl rfl ?_
  refine V_iconst (pc' := 230) (nI 2) X dL_law_229 ki_2 rfl ?_
  refine V_iadd (pc' := 231) (nI (i + 2)) X dL_law_230 (nI_add _ _) rfl ?_
  refine V_sld (pc' := 232) (v := u2) X hX hbl hbA (j := i + 2) (by omega) (by omega) hu2 dL_law_231 rfl ?_
  refine V_callV (pc' := 235) (As := [.int (nI c), .int u2]) (st := []) 6 59 [7] [0, 1, 2, 3, 4, 5, 6, 8, 9, 10, 11, 12, 13, 14, 15, 16, 17] pm_4 X (c_X6_turnPeg_b2 l G y t kn n th c hc u2 hx) rfl gL_law_X6_turnPeg rfl (by decide) rfl rfl rfl (Nat.le_of_ble_eq_true rfl) ⟨Nat.le_of_ble_eq_true rfl, Nat.le_of_ble_eq_true rfl⟩ ⟨show kc + 1 + 0 ≤ 604766 by omega, show ks + 6 + 0 ≤ 7281805 by omega⟩ dL_law_232 rfl (fun v_ u_ hp_ => ?_)
  obtain ⟨rfl, rfl⟩ := hp_
  show V E G A 7 [XB x (a 0) (r 0) (p 0) (h 0) q, DW G a (c3 s), RN G r H g, PD G p f n, HI G h kn d, HD G d T, SA G q o, RW G (y 1) 70 s, RW G (y 2) 140 sl, RZ G (y 3) 2 z, RW G (y 4) 420 hh, RW G (y 5) 60 f, RW G (y 6) 10 g6, RW G (y 7) 32 d7, OU G w fo, SQ G o O 0, SQ G o O 1, MO y 1 kn n th] (kc + 1) (ks + 6) Q 235 [(0, .ref b0), (1, .ref x), (2, .ref (y 0)), (3, .ref w), (4, .int (nI i)), (5, .int (nI 1))] [.int (nI 0)]
  refine V_ord [0, 1, 2, 3, 4, 5, 6, 17, 7, 8, 9, 10, 11, 12, 13, 14, 15, 16] [XB x (a 0) (r 0) (p 0) (h 0) q, DW G a (c3 s), RN G r H g, PD G p f n, HI G h kn d, HD G d T, SA G q o, MO y 1 kn n th, RW G (y 1) 70 s, RW G (y 2) 140 sl, RZ G (y 3) 2 z, RW G (y 4) 420 hh, RW G (y 5) 60 f, RW G (y 6) 10 g6, RW G (y 7) 32 d7, OU G w fo, SQ G o O 0, SQ G o O 1] pm_5 rfl ?_
  refine V_istore (pc' := 237) [(0, .ref b0), (1, .ref x), (2, .ref (y 0)), (3, .ref w), (4, .int (nI i)), (5, .int (nI 1)), (6, .int (nI 0))] [1, 2, 3, 4, 5, 6, 0] X dL_law_235 (Nat.le_of_ble_eq_true rfl) rfl rfl ?_
  refine V_aload_n (pc' := 238) 2 X dL_law_237 rfl rfl rfl ?_
  refine V_callV (pc' := 241) (As := []) (st := []) 6 59 [7] [0, 1, 2, 3, 4, 5, 6, 8, 9, 10, 11, 12, 13, 14, 15, 16, 17] pm_4 X (c_X6_thrown l G y 1 kn n th) rfl gL_law_X6_thrown rfl (by decide) rfl rfl rfl (Nat.le_of_ble_eq_true rfl) ⟨Nat.le_of_ble_eq_true rfl, Nat.le_of_ble_eq_true rfl⟩ ⟨show kc + 1 + 0 ≤ 604766 by omega, show ks + 6 + 0 ≤ 7281805 by omega⟩ dL_law_238 rfl (fun v_ u_ hp_ => ?_)
  obtain ⟨rfl, rfl⟩ := hp_
  show V E G A 7 [XB x (a 0) (r 0) (p 0) (h 0) q, DW G a (c3 s), RN G r H g, PD G p f n, HI G h kn d, HD G d T, SA G q o, RW G (y 1) 70 s, RW G (y 2) 140 sl, RZ G (y 3) 2 z, RW G (y 4) 420 hh, RW G (y 5) 60 f, RW G (y 6) 10 g6, RW G (y 7) 32 d7, OU G w fo, SQ G o O 0, SQ G o O 1, MO y 1 kn n th] (kc + 1) (ks + 6) Q 241 [(0, .ref b0), (1, .ref x), (2, .ref (y 0)), (3, .ref w), (4, .int (nI i)), (5, .int (nI 1)), (6, .int (nI 0))] [.int (nI 1)]
  refine V_ord [0, 1, 2, 3, 4, 5, 6, 17, 7, 8, 9, 10, 11, 12, 13, 14, 15, 16] [XB x (a 0) (r 0) (p 0) (h 0) q, DW G a (c3 s), RN G r H g, PD G p f n, HI G h kn d, HD G d T, SA G q o, MO y 1 kn n th, RW G (y 1) 70 s, RW G (y 2) 140 sl, RZ G (y 3) 2 z, RW G (y 4) 420 hh, RW G (y 5) 60 f, RW G (y 6) 10 g6, RW G (y 7) 32 d7, OU G w fo, SQ G o O 0, SQ G o O 1] pm_5 rfl ?_
  refine V_iload (pc' := 243) 5 X dL_law_241 rfl rfl ?_
  refine V_icmp_eq (pc' := 246) (C := 1 = 1) 248 X dL_law_243 (by decide) rfl (nI_eq (by omega) (by omega)) (fun _ => ?_) (fun hz => absurd (by decide) hz)
  refine V_iload (pc' := 250) 5 X dL_law_248 rfl rfl ?_
  refine V_if_ne (pc' := 253) (C := 1 = 0) 272 X dL_law_250 (by decide) rfl (z_eq0 (by omega)) (fun _ => ?_) (fun hz => absurd hz (by decide))
  refine V_goto (pc' := 1602) X dL_law_272 (by decide) ?_
  refine V_lv [0, 1, 2, 3, 4] [(0, .ref b0), (1, .ref x), (2, .ref (y 0)), (3, .ref w), (4, .int (nI i))] rfl ?_
  exact K

set_option maxHeartbeats 4000000 in
set_option maxRecDepth 100000 in
theorem lc_setColumn_b1 {E : EE} {G : gT} {A : Nat → Prop} {Q : State → Prop} {l : Launch} {b0 L : Nat} {xs : Nat → Int32} (X : Cx E G A 7 cL_law RL wsL_law room_1 l) (hX : va_X b0 L xs (e_s E) (e_s E).heap) (hbl : b0 < (e_s E).heap.size) (hbA : ¬ A b0) (hL : L ≤ 1536) (x q w : Nat) (a r H g p f h : Nat → Nat) (n kn : Nat) (d T : Nat → Nat → Nat) (fo : Nat → Int64) (o : Nat → Option (Nat → Nat)) (O : Nat → Nat → Nat) (y : Nat → Nat) (t th : Nat) (s sl z hh g6 d7 : Nat → Nat) (kc ks i : Nat) (u1 u2 : Int32) (hx : ¬ okr 0 31 u1) (hu1 : xs (i + 1) = u1) (hu2 : xs (i + 2) = u2) (hkc : kc + 8 ≤ 604766) (hks : ks + 83 ≤ 7281805) (hi : i + 3 ≤ L) (K : V E G A 7 [XB x (a 0) (r 0) (p 0) (h 0) q, DW G a (c3 s), RN G r H g, PD G p f n, HI G h kn d, HD G d T, SA G q o, MO y 1 kn n th, RW G (y 1) 70 s, RW G (y 2) 140 sl, RZ G (y 3) 2 z, RW G (y 4) 420 hh, RW G (y 5) 60 f, RW G (y 6) 10 g6, RW G (y 7) 32 d7, OU G w fo, SQ G o O 0, SQ G o O 1] (kc + 1) (ks + 6) Q 1602 [(0, .ref b0), (1, .ref x), (2, .ref (y 0)), (3, .ref w), (4, .int (nI i))] []) : V E G A 7 [XB x (a 0) (r 0) (p 0) (h 0) q, DW G a (c3 s), RN G r H g, PD G p f n, HI G h kn d, HD G d T, SA G q o, MO y t kn n th, RW G (y 1) 70 s, RW G (y 2) 140 sl, RZ G (y 3) 2 z, RW G (y 4) 420 hh, RW G (y 5) 60 f, RW G (y 6) 10 g6, RW G (y 7) 32 d7, OU G w fo, SQ G o O 0, SQ G o O 1] kc ks Q 275 [(0, .ref b0), (1, .ref x), (2, .ref (y 0)), (3, .ref w), (4, .int (nI i))] [] := by
  show V E G A 7 [XB x (a 0) (r 0) (p 0) (h 0) q, DW G a (c3 s), RN G r H g, PD G p f n, HI G h kn d, HD G d T, SA G q o, MO y t kn n th, RW G (y 1) 70 s, RW G (y 2) 140 sl, RZ G (y 3) 2 z, RW G (y 4) 420 hh, RW G (y 5) 60 f, RW G (y 6) 10 g6, RW G (y 7) 32 d7, OU G w fo, SQ G o O 0, SQ G o O 1] kc ks Q 275 [(0, .ref b0), (1, .ref x), (2, .ref (y 0)), (3, .ref w), (4, .int (nI i))] []
  refine V_aload_n (pc' := 276) 1 X dL_law_275 rfl rfl rfl ?_
  refine V_aload_n (pc' := 277) 0 X dL_law_276 rfl rfl rfl ?_
  refine V_iload (pc' := 279) 4 X dL_law_277 rfl rfl ?_
  refine V_iconst (pc' := 280) (nI 1) X dL_law_279 ki_1 rfl ?_
  refine V_iadd (pc' := 281) (nI (i + 1)) X dL_law_280 (nI_add _ _) rfl ?_
  refine V_sld (pc' := 282) (v := u1) X hX hbl hbA (j := i + 1) (by omega) (by omega) hu1 dL_law_281 rfl ?_
  refine V_aload_n (pc' := 283) 0 X dL_law_282 rfl rfl rfl ?_
  refine V_iload (pc' := 285) 4 X dL_law_283 rfl rfl ?_
  refine V_iconst (pc' := 286) (nI 2) X dL_law_285 ki_2 rfl ?_
  refine V_iadd (pc' := 287) (nI (i + 2)) X dL_law_286 (nI_add _ _) rfl ?_
  refine V_sld (pc' := 288) (v := u2) X hX hbl hbA (j := i + 2) (by omega) (by omega) hu2 dL_law_287 rfl ?_
  refine V_aload_n (pc' := 289) 3 X dL_law_288 rfl rfl rfl ?_
  refine V_callSW (pc' := 292) (As := [.ref x, .int u1, .int u2, .ref w]) (st := []) [0, 15] [1, 2, 3, 4, 5, 6, 7, 8, 9, 10, 11, 12, 13, 14, 16, 17] pm_46 X (c_L_setColumn_b1 l G x q w a (c3 s) r H g p f h n kn d T fo u1 u2 hx) rfl gL_law_L_setColumn rfl rfl (Nat.le_of_ble_eq_true rfl) ⟨Nat.le_of_ble_eq_true rfl, Nat.le_of_ble_eq_true rfl⟩ ⟨show kc + 1 ≤ 604766 by omega, show ks + 6 ≤ 7281805 by omega⟩ dL_law_289 rfl (fun v_ u_ hp_ => ?_)
  obtain ⟨rfl, rfl⟩ := hp_
  show V E G A 7 [DW G a (c3 s), RN G r H g, PD G p f n, HI G h kn d, HD G d T, SA G q o, MO y t kn n th, RW G (y 1) 70 s, RW G (y 2) 140 sl, RZ G (y 3) 2 z, RW G (y 4) 420 hh, RW G (y 5) 60 f, RW G (y 6) 10 g6, RW G (y 7) 32 d7, SQ G o O 0, SQ G o O 1, XB x (a 0) (r 0) (p 0) (h 0) q, OU G w fo] (kc + 1) (ks + 6) Q 292 [(0, .ref b0), (1, .ref x), (2, .ref (y 0)), (3, .ref w), (4, .int (nI i))] [.int (nI 1)]
  refine V_ord [16, 0, 1, 2, 3, 4, 5, 6, 7, 8, 9, 10, 11, 12, 13, 17, 14, 15] [XB x (a 0) (r 0) (p 0) (h 0) q, DW G a (c3 s), RN G r H g, PD G p f n, HI G h kn d, HD G d T, SA G q o, MO y t kn n th, RW G (y 1) 70 s, RW G (y 2) 140 sl, RZ G (y 3) 2 z, RW G (y 4) 420 hh, RW G (y 5) 60 f, RW G (y 6) 10 g6, RW G (y 7) 32 d7, OU G w fo, SQ G o O 0, SQ G o O 1] pm_47 rfl ?_
  refine V_istore (pc' := 294) [(0, .ref b0), (1, .ref x), (2, .ref (y 0)), (3, .ref w), (4, .int (nI i)), (5, .int (nI 1))] [1, 2, 3, 4, 5, 0] X dL_law_292 (Nat.le_of_ble_eq_true rfl) rfl rfl ?_
  refine V_aload_n (pc' := 295) 2 X dL_law_294 rfl rfl rfl ?_
  refine V_aload_n (pc' := 296) 0 X dL_law_295 rfl rfl rfl ?_
  refine V_iload (pc' := 298) 4 X dL_law_296 rfl rfl ?_
  refine V_iconst (pc' := 299) (nI 1) X dL_law_298 ki_1 rfl ?_
  refine V_iadd (pc' := 300) (nI (i + 1)) X dL_law_299 (nI_add _ _) rfl ?_
  refine V_sld (pc' := 301) (v := u1) X hX hbl hbA (j := i + 1) (by omega) (by omega) hu1 dL_law_300 rfl ?_
  refine V_aload_n (pc' := 302) 0 X dL_law_301 rfl rfl rfl ?_
  refine V_iload (pc' := 304) 4 X dL_law_302 rfl rfl ?_
  refine V_iconst (pc' := 305) (nI 2) X dL_law_304 ki_2 rfl ?_
  refine V_iadd (pc' := 306) (nI (i + 2)) X dL_law_305 (nI_add _ _) rfl ?_
  refine V_sld (pc' := 307) (v := u2) X hX hbl hbA (j := i + 2) (by omega) (by omega) hu2 dL_law_306 rfl ?_
  refine V_callV (pc' := 310) (As := [.int u1, .int u2]) (st := []) 6 59 [7] [0, 1, 2, 3, 4, 5, 6, 8, 9, 10, 11, 12, 13, 14, 15, 16, 17] pm_4 X (c_X6_setColumn_b1 l G y t kn n th u1 u2 hx) rfl gL_law_X6_setColumn rfl (by decide) rfl rfl rfl (Nat.le_of_ble_eq_true rfl) ⟨Nat.le_of_ble_eq_true rfl, Nat.le_of_ble_eq_true rfl⟩ ⟨show kc + 1 + 0 ≤ 604766 by omega, show ks + 6 + 0 ≤ 7281805 by omega⟩ dL_law_307 rfl (fun v_ u_ hp_ => ?_)
  obtain ⟨rfl, rfl⟩ := hp_
  show V E G A 7 [XB x (a 0) (r 0) (p 0) (h 0) q, DW G a (c3 s), RN G r H g, PD G p f n, HI G h kn d, HD G d T, SA G q o, RW G (y 1) 70 s, RW G (y 2) 140 sl, RZ G (y 3) 2 z, RW G (y 4) 420 hh, RW G (y 5) 60 f, RW G (y 6) 10 g6, RW G (y 7) 32 d7, OU G w fo, SQ G o O 0, SQ G o O 1, MO y 1 kn n th] (kc + 1) (ks + 6) Q 310 [(0, .ref b0), (1, .ref x), (2, .ref (y 0)), (3, .ref w), (4, .int (nI i)), (5, .int (nI 1))] [.int (nI 0)]
  refine V_ord [0, 1, 2, 3, 4, 5, 6, 17, 7, 8, 9, 10, 11, 12, 13, 14, 15, 16] [XB x (a 0) (r 0) (p 0) (h 0) q, DW G a (c3 s), RN G r H g, PD G p f n, HI G h kn d, HD G d T, SA G q o, MO y 1 kn n th, RW G (y 1) 70 s, RW G (y 2) 140 sl, RZ G (y 3) 2 z, RW G (y 4) 420 hh, RW G (y 5) 60 f, RW G (y 6) 10 g6, RW G (y 7) 32 d7, OU G w fo, SQ G o O 0, SQ G o O 1] pm_5 rfl ?_
  refine V_istore (pc' := 312) [(0, .ref b0), (1, .ref x), (2, .ref (y 0)), (3, .ref w), (4, .int (nI i)), (5, .int (nI 1)), (6, .int (nI 0))] [1, 2, 3, 4, 5, 6, 0] X dL_law_310 (Nat.le_of_ble_eq_true rfl) rfl rfl ?_
  refine V_aload_n (pc' := 313) 2 X dL_law_312 rfl rfl rfl ?_
  refine V_callV (pc' := 316) (As := []) (st := []) 6 59 [7] [0, 1, 2, 3, 4, 5, 6, 8, 9, 10, 11, 12, 13, 14, 15, 16, 17] pm_4 X (c_X6_thrown l G y 1 kn n th) rfl gL_law_X6_thrown rfl (by decide) rfl rfl rfl (Nat.le_of_ble_eq_true rfl) ⟨Nat.le_of_ble_eq_true rfl, Nat.le_of_ble_eq_true rfl⟩ ⟨show kc + 1 + 0 ≤ 604766 by omega, show ks + 6 + 0 ≤ 7281805 by omega⟩ dL_law_313 rfl (fun v_ u_ hp_ => ?_)
  obtain ⟨rfl, rfl⟩ := hp_
  show V E G A 7 [XB x (a 0) (r 0) (p 0) (h 0) q, DW G a (c3 s), RN G r H g, PD G p f n, HI G h kn d, HD G d T, SA G q o, RW G (y 1) 70 s, RW G (y 2) 140 sl, RZ G (y 3) 2 z, RW G (y 4) 420 hh, RW G (y 5) 60 f, RW G (y 6) 10 g6, RW G (y 7) 32 d7, OU G w fo, SQ G o O 0, SQ G o O 1, MO y 1 kn n th] (kc + 1) (ks + 6) Q 316 [(0, .ref b0), (1, .ref x), (2, .ref (y 0)), (3, .ref w), (4, .int (nI i)), (5, .int (nI 1)), (6, .int (nI 0))] [.int (nI 1)]
  refine V_ord [0, 1, 2, 3, 4, 5, 6, 17, 7, 8, 9, 10, 11, 12, 13, 14, 15, 16] [XB x (a 0) (r 0) (p 0) (h 0) q, DW G a (c3 s), RN G r H g, PD G p f n, HI G h kn d, HD G d T, SA G q o, MO y 1 kn n th, RW G (y 1) 70 s, RW G (y 2) 140 sl, RZ G (y 3) 2 z, RW G (y 4) 420 hh, RW G (y 5) 60 f, RW G (y 6) 10 g6, RW G (y 7) 32 d7, OU G w fo, SQ G o O 0, SQ G o O 1] pm_5 rfl ?_
  refine V_iload (pc' := 318) 5 X dL_law_316 rfl rfl ?_
  refine V_icmp_eq (pc' := 321) (C := 1 = 1) 323 X dL_law_318 (by decide) rfl (nI_eq (by omega) (by omega)) (fun _ => ?_) (fun hz => absurd (by decide) hz)
  refine V_iload (pc' := 325) 5 X dL_law_323 rfl rfl ?_
  refine V_if_ne (pc' := 328) (C := 1 = 0) 340 X dL_law_325 (by decide) rfl (z_eq0 (by omega)) (fun _ => ?_) (fun hz => absurd hz (by decide))
  refine V_goto (pc' := 1602) X dL_law_340 (by decide) ?_
  refine V_lv [0, 1, 2, 3, 4] [(0, .ref b0), (1, .ref x), (2, .ref (y 0)), (3, .ref w), (4, .int (nI i))] rfl ?_
  exact K

set_option maxHeartbeats 4000000 in
set_option maxRecDepth 100000 in
theorem lc_setColumn_b2 {E : EE} {G : gT} {A : Nat → Prop} {Q : State → Prop} {l : Launch} {b0 L : Nat} {xs : Nat → Int32} (X : Cx E G A 7 cL_law RL wsL_law room_1 l) (hX : va_X b0 L xs (e_s E) (e_s E).heap) (hbl : b0 < (e_s E).heap.size) (hbA : ¬ A b0) (hL : L ≤ 1536) (x q w : Nat) (a r H g p f h : Nat → Nat) (n kn : Nat) (d T : Nat → Nat → Nat) (fo : Nat → Int64) (o : Nat → Option (Nat → Nat)) (O : Nat → Nat → Nat) (y : Nat → Nat) (t th : Nat) (s sl z hh g6 d7 : Nat → Nat) (kc ks i : Nat) (c : Nat) (hc : c < 32) (u2 : Int32) (hx : ¬ okr 0 1023 u2) (hu1 : xs (i + 1) = nI c) (hu2 : xs (i + 2) = u2) (hkc : kc + 8 ≤ 604766) (hks : ks + 83 ≤ 7281805) (hi : i + 3 ≤ L) (K : V E G A 7 [XB x (a 0) (r 0) (p 0) (h 0) q, DW G a (c3 s), RN G r H g, PD G p f n, HI G h kn d, HD G d T, SA G q o, MO y 2 kn n th, RW G (y 1) 70 s, RW G (y 2) 140 sl, RZ G (y 3) 2 z, RW G (y 4) 420 hh, RW G (y 5) 60 f, RW G (y 6) 10 g6, RW G (y 7) 32 d7, OU G w fo, SQ G o O 0, SQ G o O 1] (kc + 1) (ks + 6) Q 1602 [(0, .ref b0), (1, .ref x), (2, .ref (y 0)), (3, .ref w), (4, .int (nI i))] []) : V E G A 7 [XB x (a 0) (r 0) (p 0) (h 0) q, DW G a (c3 s), RN G r H g, PD G p f n, HI G h kn d, HD G d T, SA G q o, MO y t kn n th, RW G (y 1) 70 s, RW G (y 2) 140 sl, RZ G (y 3) 2 z, RW G (y 4) 420 hh, RW G (y 5) 60 f, RW G (y 6) 10 g6, RW G (y 7) 32 d7, OU G w fo, SQ G o O 0, SQ G o O 1] kc ks Q 275 [(0, .ref b0), (1, .ref x), (2, .ref (y 0)), (3, .ref w), (4, .int (nI i))] [] := by
  show V E G A 7 [XB x (a 0) (r 0) (p 0) (h 0) q, DW G a (c3 s), RN G r H g, PD G p f n, HI G h kn d, HD G d T, SA G q o, MO y t kn n th, RW G (y 1) 70 s, RW G (y 2) 140 sl, RZ G (y 3) 2 z, RW G (y 4) 420 hh, RW G (y 5) 60 f, RW G (y 6) 10 g6, RW G (y 7) 32 d7, OU G w fo, SQ G o O 0, SQ G o O 1] kc ks Q 275 [(0, .ref b0), (1, .ref x), (2, .ref (y 0)), (3, .ref w), (4, .int (nI i))] []
  refine V_aload_n (pc' := 276) 1 X dL_law_275 rfl rfl rfl ?_
  refine V_aload_n (pc' := 277) 0 X dL_law_276 rfl rfl rfl ?_
  refine V_iload (pc' := 279) 4 X dL_law_277 rfl rfl ?_
  refine V_iconst (pc' := 280) (nI 1) X dL_law_279 ki_1 rfl ?_
  refine V_iadd (pc' := 281) (nI (i + 1)) X dL_law_280 (nI_add _ _) rfl ?_
  refine V_sld (pc' := 282) (v := nI c) X hX hbl hbA (j := i + 1) (by omega) (by omega) hu1 dL_law_281 rfl ?_
  refine V_aload_n (pc' := 283) 0 X dL_law_282 rfl rfl rfl ?_
  refine V_iload (pc' := 285) 4 X dL_law_283 rfl rfl ?_
  refine V_iconst (pc' := 286) (nI 2) X dL_law_285 ki_2 rfl ?_
  refine V_iadd (pc' := 287) (nI (i + 2)) X dL_law_286 (nI_add _ _) rfl ?_
  refine V_sld (pc' := 288) (v := u2) X hX hbl hbA (j := i + 2) (by omega) (by omega) hu2 dL_law_287 rfl ?_
  refine V_aload_n (pc' := 289) 3 X dL_law_288 rfl rfl rfl ?_
  refine V_callSW (pc' := 292) (As := [.ref x, .int (nI c), .int u2, .ref w]) (st := []) [0, 15] [1, 2, 3, 4, 5, 6, 7, 8, 9, 10, 11, 12, 13, 14, 16, 17] pm_46 X (c_L_setColumn_b2 l G x q w a (c3 s) r H g p f h n kn d T fo c hc u2 hx) rfl gL_law_L_setColumn rfl rfl (Nat.le_of_ble_eq_true rfl) ⟨Nat.le_of_ble_eq_true rfl, Nat.le_of_ble_eq_true rfl⟩ ⟨show kc + 1 ≤ 604766 by omega, show ks + 6 ≤ 7281805 by omega⟩ dL_law_289 rfl (fun v_ u_ hp_ => ?_)
  obtain ⟨rfl, rfl⟩ := hp_
  show V E G A 7 [DW G a (c3 s), RN G r H g, PD G p f n, HI G h kn d, HD G d T, SA G q o, MO y t kn n th, RW G (y 1) 70 s, RW G (y 2) 140 sl, RZ G (y 3) 2 z, RW G (y 4) 420 hh, RW G (y 5) 60 f, RW G (y 6) 10 g6, RW G (y 7) 32 d7, SQ G o O 0, SQ G o O 1, XB x (a 0) (r 0) (p 0) (h 0) q, OU G w fo] (kc + 1) (ks + 6) Q 292 [(0, .ref b0), (1, .ref x), (2, .ref (y 0)), (3, .ref w), (4, .int (nI i))] [.int (nI 2)]
  refine V_ord [16, 0, 1, 2, 3, 4, 5, 6, 7, 8, 9, 10, 11, 12, 13, 17, 14, 15] [XB x (a 0) (r 0) (p 0) (h 0) q, DW G a (c3 s), RN G r H g, PD G p f n, HI G h kn d, HD G d T, SA G q o, MO y t kn n th, RW G (y 1) 70 s, RW G (y 2) 140 sl, RZ G (y 3) 2 z, RW G (y 4) 420 hh, RW G (y 5) 60 f, RW G (y 6) 10 g6, RW G (y 7) 32 d7, OU G w fo, SQ G o O 0, SQ G o O 1] pm_47 rfl ?_
  refine V_istore (pc' := 294) [(0, .ref b0), (1, .ref x), (2, .ref (y 0)), (3, .ref w), (4, .int (nI i)), (5, .int (nI 2))] [1, 2, 3, 4, 5, 0] X dL_law_292 (Nat.le_of_ble_eq_true rfl) rfl rfl ?_
  refine V_aload_n (pc' := 295) 2 X dL_law_294 rfl rfl rfl ?_
  refine V_aload_n (pc' := 296) 0 X dL_law_295 rfl rfl rfl ?_
  refine V_iload (pc' := 298) 4 X dL_law_296 rfl rfl ?_
  refine V_iconst (pc' := 299) (nI 1) X dL_law_298 ki_1 rfl ?_
  refine V_iadd (pc' := 300) (nI (i + 1)) X dL_law_299 (nI_add _ _) rfl ?_
  refine V_sld (pc' := 301) (v := nI c) X hX hbl hbA (j := i + 1) (by omega) (by omega) hu1 dL_law_300 rfl ?_
  refine V_aload_n (pc' := 302) 0 X dL_law_301 rfl rfl rfl ?_
  refine V_iload (pc' := 304) 4 X dL_law_302 rfl rfl ?_
  refine V_iconst (pc' := 305) (nI 2) X dL_law_304 ki_2 rfl ?_
  refine V_iadd (pc' := 306) (nI (i + 2)) X dL_law_305 (nI_add _ _) rfl ?_
  refine V_sld (pc' := 307) (v := u2) X hX hbl hbA (j := i + 2) (by omega) (by omega) hu2 dL_law_306 rfl ?_
  refine V_callV (pc' := 310) (As := [.int (nI c), .int u2]) (st := []) 6 59 [7] [0, 1, 2, 3, 4, 5, 6, 8, 9, 10, 11, 12, 13, 14, 15, 16, 17] pm_4 X (c_X6_setColumn_b2 l G y t kn n th c (by omega) u2 hx) rfl gL_law_X6_setColumn rfl (by decide) rfl rfl rfl (Nat.le_of_ble_eq_true rfl) ⟨Nat.le_of_ble_eq_true rfl, Nat.le_of_ble_eq_true rfl⟩ ⟨show kc + 1 + 0 ≤ 604766 by omega, show ks + 6 + 0 ≤ 7281805 by omega⟩ dL_law_307 rfl (fun v_ u_ hp_ => ?_)
  obtain ⟨rfl, rfl⟩ := hp_
  show V E G A 7 [XB x (a 0) (r 0) (p 0) (h 0) q, DW G a (c3 s), RN G r H g, PD G p f n, HI G h kn d, HD G d T, SA G q o, RW G (y 1) 70 s, RW G (y 2) 140 sl, RZ G (y 3) 2 z, RW G (y 4) 420 hh, RW G (y 5) 60 f, RW G (y 6) 10 g6, RW G (y 7) 32 d7, OU G w fo, SQ G o O 0, SQ G o O 1, MO y 2 kn n th] (kc + 1) (ks + 6) Q 310 [(0, .ref b0), (1, .ref x), (2, .ref (y 0)), (3, .ref w), (4, .int (nI i)), (5, .int (nI 2))] [.int (nI 0)]
  refine V_ord [0, 1, 2, 3, 4, 5, 6, 17, 7, 8, 9, 10, 11, 12, 13, 14, 15, 16] [XB x (a 0) (r 0) (p 0) (h 0) q, DW G a (c3 s), RN G r H g, PD G p f n, HI G h kn d, HD G d T, SA G q o, MO y 2 kn n th, RW G (y 1) 70 s, RW G (y 2) 140 sl, RZ G (y 3) 2 z, RW G (y 4) 420 hh, RW G (y 5) 60 f, RW G (y 6) 10 g6, RW G (y 7) 32 d7, OU G w fo, SQ G o O 0, SQ G o O 1] pm_5 rfl ?_
  refine V_istore (pc' := 312) [(0, .ref b0), (1, .ref x), (2, .ref (y 0)), (3, .ref w), (4, .int (nI i)), (5, .int (nI 2)), (6, .int (nI 0))] [1, 2, 3, 4, 5, 6, 0] X dL_law_310 (Nat.le_of_ble_eq_true rfl) rfl rfl ?_
  refine V_aload_n (pc' := 313) 2 X dL_law_312 rfl rfl rfl ?_
  refine V_callV (pc' := 316) (As := []) (st := []) 6 59 [7] [0, 1, 2, 3, 4, 5, 6, 8, 9, 10, 11, 12, 13, 14, 15, 16, 17] pm_4 X (c_X6_thrown l G y 2 kn n th) rfl gL_law_X6_thrown rfl (by decide) rfl rfl rfl (Nat.le_of_ble_eq_true rfl) ⟨Nat.le_of_ble_eq_true rfl, Nat.le_of_ble_eq_true rfl⟩ ⟨show kc + 1 + 0 ≤ 604766 by omega, show ks + 6 + 0 ≤ 7281805 by omega⟩ dL_law_313 rfl (fun v_ u_ hp_ => ?_)
  obtain ⟨rfl, rfl⟩ := hp_
  show V E G A 7 [XB x (a 0) (r 0) (p 0) (h 0) q, DW G a (c3 s), RN G r H g, PD G p f n, HI G h kn d, HD G d T, SA G q o, RW G (y 1) 70 s, RW G (y 2) 140 sl, RZ G (y 3) 2 z, RW G (y 4) 420 hh, RW G (y 5) 60 f, RW G (y 6) 10 g6, RW G (y 7) 32 d7, OU G w fo, SQ G o O 0, SQ G o O 1, MO y 2 kn n th] (kc + 1) (ks + 6) Q 316 [(0, .ref b0), (1, .ref x), (2, .ref (y 0)), (3, .ref w), (4, .int (nI i)), (5, .int (nI 2)), (6, .int (nI 0))] [.int (nI 2)]
  refine V_ord [0, 1, 2, 3, 4, 5, 6, 17, 7, 8, 9, 10, 11, 12, 13, 14, 15, 16] [XB x (a 0) (r 0) (p 0) (h 0) q, DW G a (c3 s), RN G r H g, PD G p f n, HI G h kn d, HD G d T, SA G q o, MO y 2 kn n th, RW G (y 1) 70 s, RW G (y 2) 140 sl, RZ G (y 3) 2 z, RW G (y 4) 420 hh, RW G (y 5) 60 f, RW G (y 6) 10 g6, RW G (y 7) 32 d7, OU G w fo, SQ G o O 0, SQ G o O 1] pm_5 rfl ?_
  refine V_iload (pc' := 318) 5 X dL_law_316 rfl rfl ?_
  refine V_icmp_eq (pc' := 321) (C := 2 = 2) 323 X dL_law_318 (by decide) rfl (nI_eq (by omega) (by omega)) (fun _ => ?_) (fun hz => absurd (by decide) hz)
  refine V_iload (pc' := 325) 5 X dL_law_323 rfl rfl ?_
  refine V_if_ne (pc' := 328) (C := 2 = 0) 340 X dL_law_325 (by decide) rfl (z_eq0 (by omega)) (fun _ => ?_) (fun hz => absurd hz (by decide))
  refine V_goto (pc' := 1602) X dL_law_340 (by decide) ?_
  refine V_lv [0, 1, 2, 3, 4] [(0, .ref b0), (1, .ref x), (2, .ref (y 0)), (3, .ref w), (4, .int (nI i))] rfl ?_
  exact K

set_option maxHeartbeats 4000000 in
set_option maxRecDepth 100000 in
theorem lc_setTempo_b1 {E : EE} {G : gT} {A : Nat → Prop} {Q : State → Prop} {l : Launch} {b0 L : Nat} {xs : Nat → Int32} (X : Cx E G A 7 cL_law RL wsL_law room_1 l) (hX : va_X b0 L xs (e_s E) (e_s E).heap) (hbl : b0 < (e_s E).heap.size) (hbA : ¬ A b0) (hL : L ≤ 1536) (x q w : Nat) (a r H g p f h : Nat → Nat) (n kn : Nat) (d T : Nat → Nat → Nat) (fo : Nat → Int64) (o : Nat → Option (Nat → Nat)) (O : Nat → Nat → Nat) (y : Nat → Nat) (t th : Nat) (s sl z hh g6 d7 : Nat → Nat) (kc ks i : Nat) (u1 u2 : Int32) (hx : ¬ okr 0 3 u1) (hu1 : xs (i + 1) = u1) (hu2 : xs (i + 2) = u2) (hkc : kc + 8 ≤ 604766) (hks : ks + 83 ≤ 7281805) (hi : i + 3 ≤ L) (K : V E G A 7 [XB x (a 0) (r 0) (p 0) (h 0) q, DW G a (c3 s), RN G r H g, PD G p f n, HI G h kn d, HD G d T, SA G q o, MO y 1 kn n th, RW G (y 1) 70 s, RW G (y 2) 140 sl, RZ G (y 3) 2 z, RW G (y 4) 420 hh, RW G (y 5) 60 f, RW G (y 6) 10 g6, RW G (y 7) 32 d7, OU G w fo, SQ G o O 0, SQ G o O 1] (kc + 1) (ks + 6) Q 1602 [(0, .ref b0), (1, .ref x), (2, .ref (y 0)), (3, .ref w), (4, .int (nI i))] []) : V E G A 7 [XB x (a 0) (r 0) (p 0) (h 0) q, DW G a (c3 s), RN G r H g, PD G p f n, HI G h kn d, HD G d T, SA G q o, MO y t kn n th, RW G (y 1) 70 s, RW G (y 2) 140 sl, RZ G (y 3) 2 z, RW G (y 4) 420 hh, RW G (y 5) 60 f, RW G (y 6) 10 g6, RW G (y 7) 32 d7, OU G w fo, SQ G o O 0, SQ G o O 1] kc ks Q 343 [(0, .ref b0), (1, .ref x), (2, .ref (y 0)), (3, .ref w), (4, .int (nI i))] [] := by
  show V E G A 7 [XB x (a 0) (r 0) (p 0) (h 0) q, DW G a (c3 s), RN G r H g, PD G p f n, HI G h kn d, HD G d T, SA G q o, MO y t kn n th, RW G (y 1) 70 s, RW G (y 2) 140 sl, RZ G (y 3) 2 z, RW G (y 4) 420 hh, RW G (y 5) 60 f, RW G (y 6) 10 g6, RW G (y 7) 32 d7, OU G w fo, SQ G o O 0, SQ G o O 1] kc ks Q 343 [(0, .ref b0), (1, .ref x), (2, .ref (y 0)), (3, .ref w), (4, .int (nI i))] []
  refine V_aload_n (pc' := 344) 1 X dL_law_343 rfl rfl rfl ?_
  refine V_aload_n (pc' := 345) 0 X dL_law_344 rfl rfl rfl ?_
  refine V_iload (pc' := 347) 4 X dL_law_345 rfl rfl ?_
  refine V_iconst (pc' := 348) (nI 1) X dL_law_347 ki_1 rfl ?_
  refine V_iadd (pc' := 349) (nI (i + 1)) X dL_law_348 (nI_add _ _) rfl ?_
  refine V_sld (pc' := 350) (v := u1) X hX hbl hbA (j := i + 1) (by omega) (by omega) hu1 dL_law_349 rfl ?_
  refine V_aload_n (pc' := 351) 0 X dL_law_350 rfl rfl rfl ?_
  refine V_iload (pc' := 353) 4 X dL_law_351 rfl rfl ?_
  refine V_iconst (pc' := 354) (nI 2) X dL_law_353 ki_2 rfl ?_
  refine V_iadd (pc' := 355) (nI (i + 2)) X dL_law_354 (nI_add _ _) rfl ?_
  refine V_sld (pc' := 356) (v := u2) X hX hbl hbA (j := i + 2) (by omega) (by omega) hu2 dL_law_355 rfl ?_
  refine V_aload_n (pc' := 357) 3 X dL_law_356 rfl rfl rfl ?_
  refine V_callSW (pc' := 360) (As := [.ref x, .int u1, .int u2, .ref w]) (st := []) [0, 15] [1, 2, 3, 4, 5, 6, 7, 8, 9, 10, 11, 12, 13, 14, 16, 17] pm_46 X (c_L_setTempo_b1 l G x q w a (c3 s) r H g p f h n kn d T fo u1 u2 hx) rfl gL_law_L_setTempo rfl rfl (Nat.le_of_ble_eq_true rfl) ⟨Nat.le_of_ble_eq_true rfl, Nat.le_of_ble_eq_true rfl⟩ ⟨show kc + 1 ≤ 604766 by omega, show ks + 6 ≤ 7281805 by omega⟩ dL_law_357 rfl (fun v_ u_ hp_ => ?_)
  obtain ⟨rfl, rfl⟩ := hp_
  show V E G A 7 [DW G a (c3 s), RN G r H g, PD G p f n, HI G h kn d, HD G d T, SA G q o, MO y t kn n th, RW G (y 1) 70 s, RW G (y 2) 140 sl, RZ G (y 3) 2 z, RW G (y 4) 420 hh, RW G (y 5) 60 f, RW G (y 6) 10 g6, RW G (y 7) 32 d7, SQ G o O 0, SQ G o O 1, XB x (a 0) (r 0) (p 0) (h 0) q, OU G w fo] (kc + 1) (ks + 6) Q 360 [(0, .ref b0), (1, .ref x), (2, .ref (y 0)), (3, .ref w), (4, .int (nI i))] [.int (nI 1)]
  refine V_ord [16, 0, 1, 2, 3, 4, 5, 6, 7, 8, 9, 10, 11, 12, 13, 17, 14, 15] [XB x (a 0) (r 0) (p 0) (h 0) q, DW G a (c3 s), RN G r H g, PD G p f n, HI G h kn d, HD G d T, SA G q o, MO y t kn n th, RW G (y 1) 70 s, RW G (y 2) 140 sl, RZ G (y 3) 2 z, RW G (y 4) 420 hh, RW G (y 5) 60 f, RW G (y 6) 10 g6, RW G (y 7) 32 d7, OU G w fo, SQ G o O 0, SQ G o O 1] pm_47 rfl ?_
  refine V_istore (pc' := 362) [(0, .ref b0), (1, .ref x), (2, .ref (y 0)), (3, .ref w), (4, .int (nI i)), (5, .int (nI 1))] [1, 2, 3, 4, 5, 0] X dL_law_360 (Nat.le_of_ble_eq_true rfl) rfl rfl ?_
  refine V_aload_n (pc' := 363) 2 X dL_law_362 rfl rfl rfl ?_
  refine V_aload_n (pc' := 364) 0 X dL_law_363 rfl rfl rfl ?_
  refine V_iload (pc' := 366) 4 X dL_law_364 rfl rfl ?_
  refine V_iconst (pc' := 367) (nI 1) X dL_law_366 ki_1 rfl ?_
  refine V_iadd (pc' := 368) (nI (i + 1)) X dL_law_367 (nI_add _ _) rfl ?_
  refine V_sld (pc' := 369) (v := u1) X hX hbl hbA (j := i + 1) (by omega) (by omega) hu1 dL_law_368 rfl ?_
  refine V_aload_n (pc' := 370) 0 X dL_law_369 rfl rfl rfl ?_
  refine V_iload (pc' := 372) 4 X dL_law_370 rfl rfl ?_
  refine V_iconst (pc' := 373) (nI 2) X dL_law_372 ki_2 rfl ?_
  refine V_iadd (pc' := 374) (nI (i + 2)) X dL_law_373 (nI_add _ _) rfl ?_
  refine V_sld (pc' := 375) (v := u2) X hX hbl hbA (j := i + 2) (by omega) (by omega) hu2 dL_law_374 rfl ?_
  refine V_callV (pc' := 378) (As := [.int u1, .int u2]) (st := []) 6 59 [7] [0, 1, 2, 3, 4, 5, 6, 8, 9, 10, 11, 12, 13, 14, 15, 16, 17] pm_4 X (c_X6_setTempo_b1 l G y t kn n th u1 u2 hx) rfl gL_law_X6_setTempo rfl (by decide) rfl rfl rfl (Nat.le_of_ble_eq_true rfl) ⟨Nat.le_of_ble_eq_true rfl, Nat.le_of_ble_eq_true rfl⟩ ⟨show kc + 1 + 0 ≤ 604766 by omega, show ks + 6 + 0 ≤ 7281805 by omega⟩ dL_law_375 rfl (fun v_ u_ hp_ => ?_)
  obtain ⟨rfl, rfl⟩ := hp_
  show V E G A 7 [XB x (a 0) (r 0) (p 0) (h 0) q, DW G a (c3 s), RN G r H g, PD G p f n, HI G h kn d, HD G d T, SA G q o, RW G (y 1) 70 s, RW G (y 2) 140 sl, RZ G (y 3) 2 z, RW G (y 4) 420 hh, RW G (y 5) 60 f, RW G (y 6) 10 g6, RW G (y 7) 32 d7, OU G w fo, SQ G o O 0, SQ G o O 1, MO y 1 kn n th] (kc + 1) (ks + 6) Q 378 [(0, .ref b0), (1, .ref x), (2, .ref (y 0)), (3, .ref w), (4, .int (nI i)), (5, .int (nI 1))] [.int (nI 0)]
  refine V_ord [0, 1, 2, 3, 4, 5, 6, 17, 7, 8, 9, 10, 11, 12, 13, 14, 15, 16] [XB x (a 0) (r 0) (p 0) (h 0) q, DW G a (c3 s), RN G r H g, PD G p f n, HI G h kn d, HD G d T, SA G q o, MO y 1 kn n th, RW G (y 1) 70 s, RW G (y 2) 140 sl, RZ G (y 3) 2 z, RW G (y 4) 420 hh, RW G (y 5) 60 f, RW G (y 6) 10 g6, RW G (y 7) 32 d7, OU G w fo, SQ G o O 0, SQ G o O 1] pm_5 rfl ?_
  refine V_istore (pc' := 380) [(0, .ref b0), (1, .ref x), (2, .ref (y 0)), (3, .ref w), (4, .int (nI i)), (5, .int (nI 1)), (6, .int (nI 0))] [1, 2, 3, 4, 5, 6, 0] X dL_law_378 (Nat.le_of_ble_eq_true rfl) rfl rfl ?_
  refine V_aload_n (pc' := 381) 2 X dL_law_380 rfl rfl rfl ?_
  refine V_callV (pc' := 384) (As := []) (st := []) 6 59 [7] [0, 1, 2, 3, 4, 5, 6, 8, 9, 10, 11, 12, 13, 14, 15, 16, 17] pm_4 X (c_X6_thrown l G y 1 kn n th) rfl gL_law_X6_thrown rfl (by decide) rfl rfl rfl (Nat.le_of_ble_eq_true rfl) ⟨Nat.le_of_ble_eq_true rfl, Nat.le_of_ble_eq_true rfl⟩ ⟨show kc + 1 + 0 ≤ 604766 by omega, show ks + 6 + 0 ≤ 7281805 by omega⟩ dL_law_381 rfl (fun v_ u_ hp_ => ?_)
  obtain ⟨rfl, rfl⟩ := hp_
  show V E G A 7 [XB x (a 0) (r 0) (p 0) (h 0) q, DW G a (c3 s), RN G r H g, PD G p f n, HI G h kn d, HD G d T, SA G q o, RW G (y 1) 70 s, RW G (y 2) 140 sl, RZ G (y 3) 2 z, RW G (y 4) 420 hh, RW G (y 5) 60 f, RW G (y 6) 10 g6, RW G (y 7) 32 d7, OU G w fo, SQ G o O 0, SQ G o O 1, MO y 1 kn n th] (kc + 1) (ks + 6) Q 384 [(0, .ref b0), (1, .ref x), (2, .ref (y 0)), (3, .ref w), (4, .int (nI i)), (5, .int (nI 1)), (6, .int (nI 0))] [.int (nI 1)]
  refine V_ord [0, 1, 2, 3, 4, 5, 6, 17, 7, 8, 9, 10, 11, 12, 13, 14, 15, 16] [XB x (a 0) (r 0) (p 0) (h 0) q, DW G a (c3 s), RN G r H g, PD G p f n, HI G h kn d, HD G d T, SA G q o, MO y 1 kn n th, RW G (y 1) 70 s, RW G (y 2) 140 sl, RZ G (y 3) 2 z, RW G (y 4) 420 hh, RW G (y 5) 60 f, RW G (y 6) 10 g6, RW G (y 7) 32 d7, OU G w fo, SQ G o O 0, SQ G o O 1] pm_5 rfl ?_
  refine V_iload (pc' := 386) 5 X dL_law_384 rfl rfl ?_
  refine V_icmp_eq (pc' := 389) (C := 1 = 1) 391 X dL_law_386 (by decide) rfl (nI_eq (by omega) (by omega)) (fun _ => ?_) (fun hz => absurd (by decide) hz)
  refine V_iload (pc' := 393) 5 X dL_law_391 rfl rfl ?_
  refine V_if_ne (pc' := 396) (C := 1 = 0) 408 X dL_law_393 (by decide) rfl (z_eq0 (by omega)) (fun _ => ?_) (fun hz => absurd hz (by decide))
  refine V_goto (pc' := 1602) X dL_law_408 (by decide) ?_
  refine V_lv [0, 1, 2, 3, 4] [(0, .ref b0), (1, .ref x), (2, .ref (y 0)), (3, .ref w), (4, .int (nI i))] rfl ?_
  exact K

set_option maxHeartbeats 4000000 in
set_option maxRecDepth 100000 in
theorem lc_setTempo_b2 {E : EE} {G : gT} {A : Nat → Prop} {Q : State → Prop} {l : Launch} {b0 L : Nat} {xs : Nat → Int32} (X : Cx E G A 7 cL_law RL wsL_law room_1 l) (hX : va_X b0 L xs (e_s E) (e_s E).heap) (hbl : b0 < (e_s E).heap.size) (hbA : ¬ A b0) (hL : L ≤ 1536) (x q w : Nat) (a r H g p f h : Nat → Nat) (n kn : Nat) (d T : Nat → Nat → Nat) (fo : Nat → Int64) (o : Nat → Option (Nat → Nat)) (O : Nat → Nat → Nat) (y : Nat → Nat) (t th : Nat) (s sl z hh g6 d7 : Nat → Nat) (kc ks i : Nat) (c : Nat) (hc : c < 4) (u2 : Int32) (hx : ¬ okr 1 9 u2) (hu1 : xs (i + 1) = nI c) (hu2 : xs (i + 2) = u2) (hkc : kc + 8 ≤ 604766) (hks : ks + 83 ≤ 7281805) (hi : i + 3 ≤ L) (K : V E G A 7 [XB x (a 0) (r 0) (p 0) (h 0) q, DW G a (c3 s), RN G r H g, PD G p f n, HI G h kn d, HD G d T, SA G q o, MO y 2 kn n th, RW G (y 1) 70 s, RW G (y 2) 140 sl, RZ G (y 3) 2 z, RW G (y 4) 420 hh, RW G (y 5) 60 f, RW G (y 6) 10 g6, RW G (y 7) 32 d7, OU G w fo, SQ G o O 0, SQ G o O 1] (kc + 1) (ks + 6) Q 1602 [(0, .ref b0), (1, .ref x), (2, .ref (y 0)), (3, .ref w), (4, .int (nI i))] []) : V E G A 7 [XB x (a 0) (r 0) (p 0) (h 0) q, DW G a (c3 s), RN G r H g, PD G p f n, HI G h kn d, HD G d T, SA G q o, MO y t kn n th, RW G (y 1) 70 s, RW G (y 2) 140 sl, RZ G (y 3) 2 z, RW G (y 4) 420 hh, RW G (y 5) 60 f, RW G (y 6) 10 g6, RW G (y 7) 32 d7, OU G w fo, SQ G o O 0, SQ G o O 1] kc ks Q 343 [(0, .ref b0), (1, .ref x), (2, .ref (y 0)), (3, .ref w), (4, .int (nI i))] [] := by
  show V E G A 7 [XB x (a 0) (r 0) (p 0) (h 0) q, DW G a (c3 s), RN G r H g, PD G p f n, HI G h kn d, HD G d T, SA G q o, MO y t kn n th, RW G (y 1) 70 s, RW G (y 2) 140 sl, RZ G (y 3) 2 z, RW G (y 4) 420 hh, RW G (y 5) 60 f, RW G (y 6) 10 g6, RW G (y 7) 32 d7, OU G w fo, SQ G o O 0, SQ G o O 1] kc ks Q 343 [(0, .ref b0), (1, .ref x), (2, .ref (y 0)), (3, .ref w), (4, .int (nI i))] []
  refine V_aload_n (pc' := 344) 1 X dL_law_343 rfl rfl rfl ?_
  refine V_aload_n (pc' := 345) 0 X dL_law_344 rfl rfl rfl ?_
  refine V_iload (pc' := 347) 4 X dL_law_345 rfl rfl ?_
  refine V_iconst (pc' := 348) (nI 1) X dL_law_347 ki_1 rfl ?_
  refine V_iadd (pc' := 349) (nI (i + 1)) X dL_law_348 (nI_add _ _) rfl ?_
  refine V_sld (pc' := 350) (v := nI c) X hX hbl hbA (j := i + 1) (by omega) (by omega) hu1 dL_law_349 rfl ?_
  refine V_aload_n (pc' := 351) 0 X dL_law_350 rfl rfl rfl ?_
  refine V_iload (pc' := 353) 4 X dL_law_351 rfl rfl ?_
  refine V_iconst (pc' := 354) (nI 2) X dL_law_353 ki_2 rfl ?_
  refine V_iadd (pc' := 355) (nI (i + 2)) X dL_law_354 (nI_add _ _) rfl ?_
  refine V_sld (pc' := 356) (v := u2) X hX hbl hbA (j := i + 2) (by omega) (by omega) hu2 dL_law_355 rfl ?_
  refine V_aload_n (pc' := 357) 3 X dL_law_356 rfl rfl rfl ?_
  refine V_callSW (pc' := 360) (As := [.ref x, .int (nI c), .int u2, .ref w]) (st := []) [0, 15] [1, 2, 3, 4, 5, 6, 7, 8, 9, 10, 11, 12, 13, 14, 16, 17] pm_46 X (c_L_setTempo_b2 l G x q w a (c3 s) r H g p f h n kn d T fo c hc u2 hx) rfl gL_law_L_setTempo rfl rfl (Nat.le_of_ble_eq_true rfl) ⟨Nat.le_of_ble_eq_true rfl, Nat.le_of_ble_eq_true rfl⟩ ⟨show kc + 1 ≤ 604766 by omega, show ks + 6 ≤ 7281805 by omega⟩ dL_law_357 rfl (fun v_ u_ hp_ => ?_)
  obtain ⟨rfl, rfl⟩ := hp_
  show V E G A 7 [DW G a (c3 s), RN G r H g, PD G p f n, HI G h kn d, HD G d T, SA G q o, MO y t kn n th, RW G (y 1) 70 s, RW G (y 2) 140 sl, RZ G (y 3) 2 z, RW G (y 4) 420 hh, RW G (y 5) 60 f, RW G (y 6) 10 g6, RW G (y 7) 32 d7, SQ G o O 0, SQ G o O 1, XB x (a 0) (r 0) (p 0) (h 0) q, OU G w fo] (kc + 1) (ks + 6) Q 360 [(0, .ref b0), (1, .ref x), (2, .ref (y 0)), (3, .ref w), (4, .int (nI i))] [.int (nI 2)]
  refine V_ord [16, 0, 1, 2, 3, 4, 5, 6, 7, 8, 9, 10, 11, 12, 13, 17, 14, 15] [XB x (a 0) (r 0) (p 0) (h 0) q, DW G a (c3 s), RN G r H g, PD G p f n, HI G h kn d, HD G d T, SA G q o, MO y t kn n th, RW G (y 1) 70 s, RW G (y 2) 140 sl, RZ G (y 3) 2 z, RW G (y 4) 420 hh, RW G (y 5) 60 f, RW G (y 6) 10 g6, RW G (y 7) 32 d7, OU G w fo, SQ G o O 0, SQ G o O 1] pm_47 rfl ?_
  refine V_istore (pc' := 362) [(0, .ref b0), (1, .ref x), (2, .ref (y 0)), (3, .ref w), (4, .int (nI i)), (5, .int (nI 2))] [1, 2, 3, 4, 5, 0] X dL_law_360 (Nat.le_of_ble_eq_true rfl) rfl rfl ?_
  refine V_aload_n (pc' := 363) 2 X dL_law_362 rfl rfl rfl ?_
  refine V_aload_n (pc' := 364) 0 X dL_law_363 rfl rfl rfl ?_
  refine V_iload (pc' := 366) 4 X dL_law_364 rfl rfl ?_
  refine V_iconst (pc' := 367) (nI 1) X dL_law_366 ki_1 rfl ?_
  refine V_iadd (pc' := 368) (nI (i + 1)) X dL_law_367 (nI_add _ _) rfl ?_
  refine V_sld (pc' := 369) (v := nI c) X hX hbl hbA (j := i + 1) (by omega) (by omega) hu1 dL_law_368 rfl ?_
  refine V_aload_n (pc' := 370) 0 X dL_law_369 rfl rfl rfl ?_
  refine V_iload (pc' := 372) 4 X dL_law_370 rfl rfl ?_
  refine V_iconst (pc' := 373) (nI 2) X dL_law_372 ki_2 rfl ?_
  refine V_iadd (pc' := 374) (nI (i + 2)) X dL_law_373 (nI_add _ _) rfl ?_
  refine V_sld (pc' := 375) (v := u2) X hX hbl hbA (j := i + 2) (by omega) (by omega) hu2 dL_law_374 rfl ?_
  refine V_callV (pc' := 378) (As := [.int (nI c), .int u2]) (st := []) 6 59 [7] [0, 1, 2, 3, 4, 5, 6, 8, 9, 10, 11, 12, 13, 14, 15, 16, 17] pm_4 X (c_X6_setTempo_b2 l G y t kn n th c (by omega) u2 hx) rfl gL_law_X6_setTempo rfl (by decide) rfl rfl rfl (Nat.le_of_ble_eq_true rfl) ⟨Nat.le_of_ble_eq_true rfl, Nat.le_of_ble_eq_true rfl⟩ ⟨show kc + 1 + 0 ≤ 604766 by omega, show ks + 6 + 0 ≤ 7281805 by omega⟩ dL_law_375 rfl (fun v_ u_ hp_ => ?_)
  obtain ⟨rfl, rfl⟩ := hp_
  show V E G A 7 [XB x (a 0) (r 0) (p 0) (h 0) q, DW G a (c3 s), RN G r H g, PD G p f n, HI G h kn d, HD G d T, SA G q o, RW G (y 1) 70 s, RW G (y 2) 140 sl, RZ G (y 3) 2 z, RW G (y 4) 420 hh, RW G (y 5) 60 f, RW G (y 6) 10 g6, RW G (y 7) 32 d7, OU G w fo, SQ G o O 0, SQ G o O 1, MO y 2 kn n th] (kc + 1) (ks + 6) Q 378 [(0, .ref b0), (1, .ref x), (2, .ref (y 0)), (3, .ref w), (4, .int (nI i)), (5, .int (nI 2))] [.int (nI 0)]
  refine V_ord [0, 1, 2, 3, 4, 5, 6, 17, 7, 8, 9, 10, 11, 12, 13, 14, 15, 16] [XB x (a 0) (r 0) (p 0) (h 0) q, DW G a (c3 s), RN G r H g, PD G p f n, HI G h kn d, HD G d T, SA G q o, MO y 2 kn n th, RW G (y 1) 70 s, RW G (y 2) 140 sl, RZ G (y 3) 2 z, RW G (y 4) 420 hh, RW G (y 5) 60 f, RW G (y 6) 10 g6, RW G (y 7) 32 d7, OU G w fo, SQ G o O 0, SQ G o O 1] pm_5 rfl ?_
  refine V_istore (pc' := 380) [(0, .ref b0), (1, .ref x), (2, .ref (y 0)), (3, .ref w), (4, .int (nI i)), (5, .int (nI 2)), (6, .int (nI 0))] [1, 2, 3, 4, 5, 6, 0] X dL_law_378 (Nat.le_of_ble_eq_true rfl) rfl rfl ?_
  refine V_aload_n (pc' := 381) 2 X dL_law_380 rfl rfl rfl ?_
  refine V_callV (pc' := 384) (As := []) (st := []) 6 59 [7] [0, 1, 2, 3, 4, 5, 6, 8, 9, 10, 11, 12, 13, 14, 15, 16, 17] pm_4 X (c_X6_thrown l G y 2 kn n th) rfl gL_law_X6_thrown rfl (by decide) rfl rfl rfl (Nat.le_of_ble_eq_true rfl) ⟨Nat.le_of_ble_eq_true rfl, Nat.le_of_ble_eq_true rfl⟩ ⟨show kc + 1 + 0 ≤ 604766 by omega, show ks + 6 + 0 ≤ 7281805 by omega⟩ dL_law_381 rfl (fun v_ u_ hp_ => ?_)
  obtain ⟨rfl, rfl⟩ := hp_
  show V E G A 7 [XB x (a 0) (r 0) (p 0) (h 0) q, DW G a (c3 s), RN G r H g, PD G p f n, HI G h kn d, HD G d T, SA G q o, RW G (y 1) 70 s, RW G (y 2) 140 sl, RZ G (y 3) 2 z, RW G (y 4) 420 hh, RW G (y 5) 60 f, RW G (y 6) 10 g6, RW G (y 7) 32 d7, OU G w fo, SQ G o O 0, SQ G o O 1, MO y 2 kn n th] (kc + 1) (ks + 6) Q 384 [(0, .ref b0), (1, .ref x), (2, .ref (y 0)), (3, .ref w), (4, .int (nI i)), (5, .int (nI 2)), (6, .int (nI 0))] [.int (nI 2)]
  refine V_ord [0, 1, 2, 3, 4, 5, 6, 17, 7, 8, 9, 10, 11, 12, 13, 14, 15, 16] [XB x (a 0) (r 0) (p 0) (h 0) q, DW G a (c3 s), RN G r H g, PD G p f n, HI G h kn d, HD G d T, SA G q o, MO y 2 kn n th, RW G (y 1) 70 s, RW G (y 2) 140 sl, RZ G (y 3) 2 z, RW G (y 4) 420 hh, RW G (y 5) 60 f, RW G (y 6) 10 g6, RW G (y 7) 32 d7, OU G w fo, SQ G o O 0, SQ G o O 1] pm_5 rfl ?_
  refine V_iload (pc' := 386) 5 X dL_law_384 rfl rfl ?_
  refine V_icmp_eq (pc' := 389) (C := 2 = 2) 391 X dL_law_386 (by decide) rfl (nI_eq (by omega) (by omega)) (fun _ => ?_) (fun hz => absurd (by decide) hz)
  refine V_iload (pc' := 393) 5 X dL_law_391 rfl rfl ?_
  refine V_if_ne (pc' := 396) (C := 2 = 0) 408 X dL_law_393 (by decide) rfl (z_eq0 (by omega)) (fun _ => ?_) (fun hz => absurd hz (by decide))
  refine V_goto (pc' := 1602) X dL_law_408 (by decide) ?_
  refine V_lv [0, 1, 2, 3, 4] [(0, .ref b0), (1, .ref x), (2, .ref (y 0)), (3, .ref w), (4, .int (nI i))] rfl ?_
  exact K

set_option maxHeartbeats 4000000 in
set_option maxRecDepth 100000 in
theorem lc_setWeight_b1 {E : EE} {G : gT} {A : Nat → Prop} {Q : State → Prop} {l : Launch} {b0 L : Nat} {xs : Nat → Int32} (X : Cx E G A 7 cL_law RL wsL_law room_1 l) (hX : va_X b0 L xs (e_s E) (e_s E).heap) (hbl : b0 < (e_s E).heap.size) (hbA : ¬ A b0) (hL : L ≤ 1536) (x q w : Nat) (a r H g p f h : Nat → Nat) (n kn : Nat) (d T : Nat → Nat → Nat) (fo : Nat → Int64) (o : Nat → Option (Nat → Nat)) (O : Nat → Nat → Nat) (y : Nat → Nat) (t th : Nat) (s sl z hh g6 d7 : Nat → Nat) (kc ks i : Nat) (u1 u2 : Int32) (hx : ¬ okr 0 9 u1) (hu1 : xs (i + 1) = u1) (hu2 : xs (i + 2) = u2) (hkc : kc + 8 ≤ 604766) (hks : ks + 83 ≤ 7281805) (hi : i + 3 ≤ L) (K : V E G A 7 [XB x (a 0) (r 0) (p 0) (h 0) q, DW G a (c3 s), RN G r H g, PD G p f n, HI G h kn d, HD G d T, SA G q o, MO y 1 kn n th, RW G (y 1) 70 s, RW G (y 2) 140 sl, RZ G (y 3) 2 z, RW G (y 4) 420 hh, RW G (y 5) 60 f, RW G (y 6) 10 g6, RW G (y 7) 32 d7, OU G w fo, SQ G o O 0, SQ G o O 1] (kc + 1) (ks + 6) Q 1602 [(0, .ref b0), (1, .ref x), (2, .ref (y 0)), (3, .ref w), (4, .int (nI i))] []) : V E G A 7 [XB x (a 0) (r 0) (p 0) (h 0) q, DW G a (c3 s), RN G r H g, PD G p f n, HI G h kn d, HD G d T, SA G q o, MO y t kn n th, RW G (y 1) 70 s, RW G (y 2) 140 sl, RZ G (y 3) 2 z, RW G (y 4) 420 hh, RW G (y 5) 60 f, RW G (y 6) 10 g6, RW G (y 7) 32 d7, OU G w fo, SQ G o O 0, SQ G o O 1] kc ks Q 411 [(0, .ref b0), (1, .ref x), (2, .ref (y 0)), (3, .ref w), (4, .int (nI i))] [] := by
  show V E G A 7 [XB x (a 0) (r 0) (p 0) (h 0) q, DW G a (c3 s), RN G r H g, PD G p f n, HI G h kn d, HD G d T, SA G q o, MO y t kn n th, RW G (y 1) 70 s, RW G (y 2) 140 sl, RZ G (y 3) 2 z, RW G (y 4) 420 hh, RW G (y 5) 60 f, RW G (y 6) 10 g6, RW G (y 7) 32 d7, OU G w fo, SQ G o O 0, SQ G o O 1] kc ks Q 411 [(0, .ref b0), (1, .ref x), (2, .ref (y 0)), (3, .ref w), (4, .int (nI i))] []
  refine V_aload_n (pc' := 412) 1 X dL_law_411 rfl rfl rfl ?_
  refine V_aload_n (pc' := 413) 0 X dL_law_412 rfl rfl rfl ?_
  refine V_iload (pc' := 415) 4 X dL_law_413 rfl rfl ?_
  refine V_iconst (pc' := 416) (nI 1) X dL_law_415 ki_1 rfl ?_
  refine V_iadd (pc' := 417) (nI (i + 1)) X dL_law_416 (nI_add _ _) rfl ?_
  refine V_sld (pc' := 418) (v := u1) X hX hbl hbA (j := i + 1) (by omega) (by omega) hu1 dL_law_417 rfl ?_
  refine V_aload_n (pc' := 419) 0 X dL_law_418 rfl rfl rfl ?_
  refine V_iload (pc' := 421) 4 X dL_law_419 rfl rfl ?_
  refine V_iconst (pc' := 422) (nI 2) X dL_law_421 ki_2 rfl ?_
  refine V_iadd (pc' := 423) (nI (i + 2)) X dL_law_422 (nI_add _ _) rfl ?_
  refine V_sld (pc' := 424) (v := u2) X hX hbl hbA (j := i + 2) (by omega) (by omega) hu2 dL_law_423 rfl ?_
  refine V_aload_n (pc' := 425) 3 X dL_law_424 rfl rfl rfl ?_
  refine V_callSW (pc' := 428) (As := [.ref x, .int u1, .int u2, .ref w]) (st := []) [0, 15] [1, 2, 3, 4, 5, 6, 7, 8, 9, 10, 11, 12, 13, 14, 16, 17] pm_46 X (c_L_setWeight_b1 l G x q w a (c3 s) r H g p f h n kn d T fo u1 u2 hx) rfl gL_law_L_setWeight rfl rfl (Nat.le_of_ble_eq_true rfl) ⟨Nat.le_of_ble_eq_true rfl, Nat.le_of_ble_eq_true rfl⟩ ⟨show kc + 1 ≤ 604766 by omega, show ks + 6 ≤ 7281805 by omega⟩ dL_law_425 rfl (fun v_ u_ hp_ => ?_)
  obtain ⟨rfl, rfl⟩ := hp_
  show V E G A 7 [DW G a (c3 s), RN G r H g, PD G p f n, HI G h kn d, HD G d T, SA G q o, MO y t kn n th, RW G (y 1) 70 s, RW G (y 2) 140 sl, RZ G (y 3) 2 z, RW G (y 4) 420 hh, RW G (y 5) 60 f, RW G (y 6) 10 g6, RW G (y 7) 32 d7, SQ G o O 0, SQ G o O 1, XB x (a 0) (r 0) (p 0) (h 0) q, OU G w fo] (kc + 1) (ks + 6) Q 428 [(0, .ref b0), (1, .ref x), (2, .ref (y 0)), (3, .ref w), (4, .int (nI i))] [.int (nI 1)]
  refine V_ord [16, 0, 1, 2, 3, 4, 5, 6, 7, 8, 9, 10, 11, 12, 13, 17, 14, 15] [XB x (a 0) (r 0) (p 0) (h 0) q, DW G a (c3 s), RN G r H g, PD G p f n, HI G h kn d, HD G d T, SA G q o, MO y t kn n th, RW G (y 1) 70 s, RW G (y 2) 140 sl, RZ G (y 3) 2 z, RW G (y 4) 420 hh, RW G (y 5) 60 f, RW G (y 6) 10 g6, RW G (y 7) 32 d7, OU G w fo, SQ G o O 0, SQ G o O 1] pm_47 rfl ?_
  refine V_istore (pc' := 430) [(0, .ref b0), (1, .ref x), (2, .ref (y 0)), (3, .ref w), (4, .int (nI i)), (5, .int (nI 1))] [1, 2, 3, 4, 5, 0] X dL_law_428 (Nat.le_of_ble_eq_true rfl) rfl rfl ?_
  refine V_aload_n (pc' := 431) 2 X dL_law_430 rfl rfl rfl ?_
  refine V_aload_n (pc' := 432) 0 X dL_law_431 rfl rfl rfl ?_
  refine V_iload (pc' := 434) 4 X dL_law_432 rfl rfl ?_
  refine V_iconst (pc' := 435) (nI 1) X dL_law_434 ki_1 rfl ?_
  refine V_iadd (pc' := 436) (nI (i + 1)) X dL_law_435 (nI_add _ _) rfl ?_
  refine V_sld (pc' := 437) (v := u1) X hX hbl hbA (j := i + 1) (by omega) (by omega) hu1 dL_law_436 rfl ?_
  refine V_aload_n (pc' := 438) 0 X dL_law_437 rfl rfl rfl ?_
  refine V_iload (pc' := 440) 4 X dL_law_438 rfl rfl ?_
  refine V_iconst (pc' := 441) (nI 2) X dL_law_440 ki_2 rfl ?_
  refine V_iadd (pc' := 442) (nI (i + 2)) X dL_law_441 (nI_add _ _) rfl ?_
  refine V_sld (pc' := 443) (v := u2) X hX hbl hbA (j := i + 2) (by omega) (by omega) hu2 dL_law_442 rfl ?_
  refine V_callV (pc' := 446) (As := [.int u1, .int u2]) (st := []) 6 59 [7] [0, 1, 2, 3, 4, 5, 6, 8, 9, 10, 11, 12, 13, 14, 15, 16, 17] pm_4 X (c_X6_setWeight_b1 l G y t kn n th u1 u2 hx) rfl gL_law_X6_setWeight rfl (by decide) rfl rfl rfl (Nat.le_of_ble_eq_true rfl) ⟨Nat.le_of_ble_eq_true rfl, Nat.le_of_ble_eq_true rfl⟩ ⟨show kc + 1 + 0 ≤ 604766 by omega, show ks + 6 + 0 ≤ 7281805 by omega⟩ dL_law_443 rfl (fun v_ u_ hp_ => ?_)
  obtain ⟨rfl, rfl⟩ := hp_
  show V E G A 7 [XB x (a 0) (r 0) (p 0) (h 0) q, DW G a (c3 s), RN G r H g, PD G p f n, HI G h kn d, HD G d T, SA G q o, RW G (y 1) 70 s, RW G (y 2) 140 sl, RZ G (y 3) 2 z, RW G (y 4) 420 hh, RW G (y 5) 60 f, RW G (y 6) 10 g6, RW G (y 7) 32 d7, OU G w fo, SQ G o O 0, SQ G o O 1, MO y 1 kn n th] (kc + 1) (ks + 6) Q 446 [(0, .ref b0), (1, .ref x), (2, .ref (y 0)), (3, .ref w), (4, .int (nI i)), (5, .int (nI 1))] [.int (nI 0)]
  refine V_ord [0, 1, 2, 3, 4, 5, 6, 17, 7, 8, 9, 10, 11, 12, 13, 14, 15, 16] [XB x (a 0) (r 0) (p 0) (h 0) q, DW G a (c3 s), RN G r H g, PD G p f n, HI G h kn d, HD G d T, SA G q o, MO y 1 kn n th, RW G (y 1) 70 s, RW G (y 2) 140 sl, RZ G (y 3) 2 z, RW G (y 4) 420 hh, RW G (y 5) 60 f, RW G (y 6) 10 g6, RW G (y 7) 32 d7, OU G w fo, SQ G o O 0, SQ G o O 1] pm_5 rfl ?_
  refine V_istore (pc' := 448) [(0, .ref b0), (1, .ref x), (2, .ref (y 0)), (3, .ref w), (4, .int (nI i)), (5, .int (nI 1)), (6, .int (nI 0))] [1, 2, 3, 4, 5, 6, 0] X dL_law_446 (Nat.le_of_ble_eq_true rfl) rfl rfl ?_
  refine V_aload_n (pc' := 449) 2 X dL_law_448 rfl rfl rfl ?_
  refine V_callV (pc' := 452) (As := []) (st := []) 6 59 [7] [0, 1, 2, 3, 4, 5, 6, 8, 9, 10, 11, 12, 13, 14, 15, 16, 17] pm_4 X (c_X6_thrown l G y 1 kn n th) rfl gL_law_X6_thrown rfl (by decide) rfl rfl rfl (Nat.le_of_ble_eq_true rfl) ⟨Nat.le_of_ble_eq_true rfl, Nat.le_of_ble_eq_true rfl⟩ ⟨show kc + 1 + 0 ≤ 604766 by omega, show ks + 6 + 0 ≤ 7281805 by omega⟩ dL_law_449 rfl (fun v_ u_ hp_ => ?_)
  obtain ⟨rfl, rfl⟩ := hp_
  show V E G A 7 [XB x (a 0) (r 0) (p 0) (h 0) q, DW G a (c3 s), RN G r H g, PD G p f n, HI G h kn d, HD G d T, SA G q o, RW G (y 1) 70 s, RW G (y 2) 140 sl, RZ G (y 3) 2 z, RW G (y 4) 420 hh, RW G (y 5) 60 f, RW G (y 6) 10 g6, RW G (y 7) 32 d7, OU G w fo, SQ G o O 0, SQ G o O 1, MO y 1 kn n th] (kc + 1) (ks + 6) Q 452 [(0, .ref b0), (1, .ref x), (2, .ref (y 0)), (3, .ref w), (4, .int (nI i)), (5, .int (nI 1)), (6, .int (nI 0))] [.int (nI 1)]
  refine V_ord [0, 1, 2, 3, 4, 5, 6, 17, 7, 8, 9, 10, 11, 12, 13, 14, 15, 16] [XB x (a 0) (r 0) (p 0) (h 0) q, DW G a (c3 s), RN G r H g, PD G p f n, HI G h kn d, HD G d T, SA G q o, MO y 1 kn n th, RW G (y 1) 70 s, RW G (y 2) 140 sl, RZ G (y 3) 2 z, RW G (y 4) 420 hh, RW G (y 5) 60 f, RW G (y 6) 10 g6, RW G (y 7) 32 d7, OU G w fo, SQ G o O 0, SQ G o O 1] pm_5 rfl ?_
  refine V_iload (pc' := 454) 5 X dL_law_452 rfl rfl ?_
  refine V_icmp_eq (pc' := 457) (C := 1 = 1) 459 X dL_law_454 (by decide) rfl (nI_eq (by omega) (by omega)) (fun _ => ?_) (fun hz => absurd (by decide) hz)
  refine V_iload (pc' := 461) 5 X dL_law_459 rfl rfl ?_
  refine V_if_ne (pc' := 464) (C := 1 = 0) 476 X dL_law_461 (by decide) rfl (z_eq0 (by omega)) (fun _ => ?_) (fun hz => absurd hz (by decide))
  refine V_goto (pc' := 1602) X dL_law_476 (by decide) ?_
  refine V_lv [0, 1, 2, 3, 4] [(0, .ref b0), (1, .ref x), (2, .ref (y 0)), (3, .ref w), (4, .int (nI i))] rfl ?_
  exact K

set_option maxHeartbeats 4000000 in
set_option maxRecDepth 100000 in
theorem lc_setWeight_b2 {E : EE} {G : gT} {A : Nat → Prop} {Q : State → Prop} {l : Launch} {b0 L : Nat} {xs : Nat → Int32} (X : Cx E G A 7 cL_law RL wsL_law room_1 l) (hX : va_X b0 L xs (e_s E) (e_s E).heap) (hbl : b0 < (e_s E).heap.size) (hbA : ¬ A b0) (hL : L ≤ 1536) (x q w : Nat) (a r H g p f h : Nat → Nat) (n kn : Nat) (d T : Nat → Nat → Nat) (fo : Nat → Int64) (o : Nat → Option (Nat → Nat)) (O : Nat → Nat → Nat) (y : Nat → Nat) (t th : Nat) (s sl z hh g6 d7 : Nat → Nat) (kc ks i : Nat) (c : Nat) (hc : c < 10) (u2 : Int32) (hx : ¬ okr 1 60 u2) (hu1 : xs (i + 1) = nI c) (hu2 : xs (i + 2) = u2) (hkc : kc + 8 ≤ 604766) (hks : ks + 83 ≤ 7281805) (hi : i + 3 ≤ L) (K : V E G A 7 [XB x (a 0) (r 0) (p 0) (h 0) q, DW G a (c3 s), RN G r H g, PD G p f n, HI G h kn d, HD G d T, SA G q o, MO y 2 kn n th, RW G (y 1) 70 s, RW G (y 2) 140 sl, RZ G (y 3) 2 z, RW G (y 4) 420 hh, RW G (y 5) 60 f, RW G (y 6) 10 g6, RW G (y 7) 32 d7, OU G w fo, SQ G o O 0, SQ G o O 1] (kc + 1) (ks + 6) Q 1602 [(0, .ref b0), (1, .ref x), (2, .ref (y 0)), (3, .ref w), (4, .int (nI i))] []) : V E G A 7 [XB x (a 0) (r 0) (p 0) (h 0) q, DW G a (c3 s), RN G r H g, PD G p f n, HI G h kn d, HD G d T, SA G q o, MO y t kn n th, RW G (y 1) 70 s, RW G (y 2) 140 sl, RZ G (y 3) 2 z, RW G (y 4) 420 hh, RW G (y 5) 60 f, RW G (y 6) 10 g6, RW G (y 7) 32 d7, OU G w fo, SQ G o O 0, SQ G o O 1] kc ks Q 411 [(0, .ref b0), (1, .ref x), (2, .ref (y 0)), (3, .ref w), (4, .int (nI i))] [] := by
  show V E G A 7 [XB x (a 0) (r 0) (p 0) (h 0) q, DW G a (c3 s), RN G r H g, PD G p f n, HI G h kn d, HD G d T, SA G q o, MO y t kn n th, RW G (y 1) 70 s, RW G (y 2) 140 sl, RZ G (y 3) 2 z, RW G (y 4) 420 hh, RW G (y 5) 60 f, RW G (y 6) 10 g6, RW G (y 7) 32 d7, OU G w fo, SQ G o O 0, SQ G o O 1] kc ks Q 411 [(0, .ref b0), (1, .ref x), (2, .ref (y 0)), (3, .ref w), (4, .int (nI i))] []
  refine V_aload_n (pc' := 412) 1 X dL_law_411 rfl rfl rfl ?_
  refine V_aload_n (pc' := 413) 0 X dL_law_412 rfl rfl rfl ?_
  refine V_iload (pc' := 415) 4 X dL_law_413 rfl rfl ?_
  refine V_iconst (pc' := 416) (nI 1) X dL_law_415 ki_1 rfl ?_
  refine V_iadd (pc' := 417) (nI (i + 1)) X dL_law_416 (nI_add _ _) rfl ?_
  refine V_sld (pc' := 418) (v := nI c) X hX hbl hbA (j := i + 1) (by omega) (by omega) hu1 dL_law_417 rfl ?_
  refine V_aload_n (pc' := 419) 0 X dL_law_418 rfl rfl rfl ?_
  refine V_iload (pc' := 421) 4 X dL_law_419 rfl rfl ?_
  refine V_iconst (pc' := 422) (nI 2) X dL_law_421 ki_2 rfl ?_
  refine V_iadd (pc' := 423) (nI (i + 2)) X dL_law_422 (nI_add _ _) rfl ?_
  refine V_sld (pc' := 424) (v := u2) X hX hbl hbA (j := i + 2) (by omega) (by omega) hu2 dL_law_423 rfl ?_
  refine V_aload_n (pc' := 425) 3 X dL_law_424 rfl rfl rfl ?_
  refine V_callSW (pc' := 428) (As := [.ref x, .int (nI c), .int u2, .ref w]) (st := []) [0, 15] [1, 2, 3, 4, 5, 6, 7, 8, 9, 10, 11, 12, 13, 14, 16, 17] pm_46 X (c_L_setWeight_b2 l G x q w a (c3 s) r H g p f h n kn d T fo c hc u2 hx) rfl gL_law_L_setWeight rfl rfl (Nat.le_of_ble_eq_true rfl) ⟨Nat.le_of_ble_eq_true rfl, Nat.le_of_ble_eq_true rfl⟩ ⟨show kc + 1 ≤ 604766 by omega, show ks + 6 ≤ 7281805 by omega⟩ dL_law_425 rfl (fun v_ u_ hp_ => ?_)
  obtain ⟨rfl, rfl⟩ := hp_
  show V E G A 7 [DW G a (c3 s), RN G r H g, PD G p f n, HI G h kn d, HD G d T, SA G q o, MO y t kn n th, RW G (y 1) 70 s, RW G (y 2) 140 sl, RZ G (y 3) 2 z, RW G (y 4) 420 hh, RW G (y 5) 60 f, RW G (y 6) 10 g6, RW G (y 7) 32 d7, SQ G o O 0, SQ G o O 1, XB x (a 0) (r 0) (p 0) (h 0) q, OU G w fo] (kc + 1) (ks + 6) Q 428 [(0, .ref b0), (1, .ref x), (2, .ref (y 0)), (3, .ref w), (4, .int (nI i))] [.int (nI 2)]
  refine V_ord [16, 0, 1, 2, 3, 4, 5, 6, 7, 8, 9, 10, 11, 12, 13, 17, 14, 15] [XB x (a 0) (r 0) (p 0) (h 0) q, DW G a (c3 s), RN G r H g, PD G p f n, HI G h kn d, HD G d T, SA G q o, MO y t kn n th, RW G (y 1) 70 s, RW G (y 2) 140 sl, RZ G (y 3) 2 z, RW G (y 4) 420 hh, RW G (y 5) 60 f, RW G (y 6) 10 g6, RW G (y 7) 32 d7, OU G w fo, SQ G o O 0, SQ G o O 1] pm_47 rfl ?_
  refine V_istore (pc' := 430) [(0, .ref b0), (1, .ref x), (2, .ref (y 0)), (3, .ref w), (4, .int (nI i)), (5, .int (nI 2))] [1, 2, 3, 4, 5, 0] X dL_law_428 (Nat.le_of_ble_eq_true rfl) rfl rfl ?_
  refine V_aload_n (pc' := 431) 2 X dL_law_430 rfl rfl rfl ?_
  refine V_aload_n (pc' := 432) 0 X dL_law_431 rfl rfl rfl ?_
  refine V_iload (pc' := 434) 4 X dL_law_432 rfl rfl ?_
  refine V_iconst (pc' := 435) (nI 1) X dL_law_434 ki_1 rfl ?_
  refine V_iadd (pc' := 436) (nI (i + 1)) X dL_law_435 (nI_add _ _) rfl ?_
  refine V_sld (pc' := 437) (v := nI c) X hX hbl hbA (j := i + 1) (by omega) (by omega) hu1 dL_law_436 rfl ?_
  refine V_aload_n (pc' := 438) 0 X dL_law_437 rfl rfl rfl ?_
  refine V_iload (pc' := 440) 4 X dL_law_438 rfl rfl ?_
  refine V_iconst (pc' := 441) (nI 2) X dL_law_440 ki_2 rfl ?_
  refine V_iadd (pc' := 442) (nI (i + 2)) X dL_law_441 (nI_add _ _) rfl ?_
  refine V_sld (pc' := 443) (v := u2) X hX hbl hbA (j := i + 2) (by omega) (by omega) hu2 dL_law_442 rfl ?_
  refine V_callV (pc' := 446) (As := [.int (nI c), .int u2]) (st := []) 6 59 [7] [0, 1, 2, 3, 4, 5, 6, 8, 9, 10, 11, 12, 13, 14, 15, 16, 17] pm_4 X (c_X6_setWeight_b2 l G y t kn n th c (by omega) u2 hx) rfl gL_law_X6_setWeight rfl (by decide) rfl rfl rfl (Nat.le_of_ble_eq_true rfl) ⟨Nat.le_of_ble_eq_true rfl, Nat.le_of_ble_eq_true rfl⟩ ⟨show kc + 1 + 0 ≤ 604766 by omega, show ks + 6 + 0 ≤ 7281805 by omega⟩ dL_law_443 rfl (fun v_ u_ hp_ => ?_)
  obtain ⟨rfl, rfl⟩ := hp_
  show V E G A 7 [XB x (a 0) (r 0) (p 0) (h 0) q, DW G a (c3 s), RN G r H g, PD G p f n, HI G h kn d, HD G d T, SA G q o, RW G (y 1) 70 s, RW G (y 2) 140 sl, RZ G (y 3) 2 z, RW G (y 4) 420 hh, RW G (y 5) 60 f, RW G (y 6) 10 g6, RW G (y 7) 32 d7, OU G w fo, SQ G o O 0, SQ G o O 1, MO y 2 kn n th] (kc + 1) (ks + 6) Q 446 [(0, .ref b0), (1, .ref x), (2, .ref (y 0)), (3, .ref w), (4, .int (nI i)), (5, .int (nI 2))] [.int (nI 0)]
  refine V_ord [0, 1, 2, 3, 4, 5, 6, 17, 7, 8, 9, 10, 11, 12, 13, 14, 15, 16] [XB x (a 0) (r 0) (p 0) (h 0) q, DW G a (c3 s), RN G r H g, PD G p f n, HI G h kn d, HD G d T, SA G q o, MO y 2 kn n th, RW G (y 1) 70 s, RW G (y 2) 140 sl, RZ G (y 3) 2 z, RW G (y 4) 420 hh, RW G (y 5) 60 f, RW G (y 6) 10 g6, RW G (y 7) 32 d7, OU G w fo, SQ G o O 0, SQ G o O 1] pm_5 rfl ?_
  refine V_istore (pc' := 448) [(0, .ref b0), (1, .ref x), (2, .ref (y 0)), (3, .ref w), (4, .int (nI i)), (5, .int (nI 2)), (6, .int (nI 0))] [1, 2, 3, 4, 5, 6, 0] X dL_law_446 (Nat.le_of_ble_eq_true rfl) rfl rfl ?_
  refine V_aload_n (pc' := 449) 2 X dL_law_448 rfl rfl rfl ?_
  refine V_callV (pc' := 452) (As := []) (st := []) 6 59 [7] [0, 1, 2, 3, 4, 5, 6, 8, 9, 10, 11, 12, 13, 14, 15, 16, 17] pm_4 X (c_X6_thrown l G y 2 kn n th) rfl gL_law_X6_thrown rfl (by decide) rfl rfl rfl (Nat.le_of_ble_eq_true rfl) ⟨Nat.le_of_ble_eq_true rfl, Nat.le_of_ble_eq_true rfl⟩ ⟨show kc + 1 + 0 ≤ 604766 by omega, show ks + 6 + 0 ≤ 7281805 by omega⟩ dL_law_449 rfl (fun v_ u_ hp_ => ?_)
  obtain ⟨rfl, rfl⟩ := hp_
  show V E G A 7 [XB x (a 0) (r 0) (p 0) (h 0) q, DW G a (c3 s), RN G r H g, PD G p f n, HI G h kn d, HD G d T, SA G q o, RW G (y 1) 70 s, RW G (y 2) 140 sl, RZ G (y 3) 2 z, RW G (y 4) 420 hh, RW G (y 5) 60 f, RW G (y 6) 10 g6, RW G (y 7) 32 d7, OU G w fo, SQ G o O 0, SQ G o O 1, MO y 2 kn n th] (kc + 1) (ks + 6) Q 452 [(0, .ref b0), (1, .ref x), (2, .ref (y 0)), (3, .ref w), (4, .int (nI i)), (5, .int (nI 2)), (6, .int (nI 0))] [.int (nI 2)]
  refine V_ord [0, 1, 2, 3, 4, 5, 6, 17, 7, 8, 9, 10, 11, 12, 13, 14, 15, 16] [XB x (a 0) (r 0) (p 0) (h 0) q, DW G a (c3 s), RN G r H g, PD G p f n, HI G h kn d, HD G d T, SA G q o, MO y 2 kn n th, RW G (y 1) 70 s, RW G (y 2) 140 sl, RZ G (y 3) 2 z, RW G (y 4) 420 hh, RW G (y 5) 60 f, RW G (y 6) 10 g6, RW G (y 7) 32 d7, OU G w fo, SQ G o O 0, SQ G o O 1] pm_5 rfl ?_
  refine V_iload (pc' := 454) 5 X dL_law_452 rfl rfl ?_
  refine V_icmp_eq (pc' := 457) (C := 2 = 2) 459 X dL_law_454 (by decide) rfl (nI_eq (by omega) (by omega)) (fun _ => ?_) (fun hz => absurd (by decide) hz)
  refine V_iload (pc' := 461) 5 X dL_law_459 rfl rfl ?_
  refine V_if_ne (pc' := 464) (C := 2 = 0) 476 X dL_law_461 (by decide) rfl (z_eq0 (by omega)) (fun _ => ?_) (fun hz => absurd hz (by decide))
  refine V_goto (pc' := 1602) X dL_law_476 (by decide) ?_
  refine V_lv [0, 1, 2, 3, 4] [(0, .ref b0), (1, .ref x), (2, .ref (y 0)), (3, .ref w), (4, .int (nI i))] rfl ?_
  exact K

