/-! the law: its cases -/
def SQ (G : gT) (o : Nat → Option (Nat → Nat)) (O : Nat → Nat → Nat) (k : Nat) : va_W := match o k with | none => [] | some b => DW G b (O k)
theorem SQ_some {G : gT} {o : Nat → Option (Nat → Nat)} {O : Nat → Nat → Nat} {k : Nat} {b : Nat → Nat} (h : o k = some b) : SQ G o O k = DW G b (O k) := by unfold SQ; rw [h]
theorem SQ_none {G : gT} {o : Nat → Option (Nat → Nat)} {O : Nat → Nat → Nat} {k : Nat} (h : o k = none) : SQ G o O k = [] := by unfold SQ; rw [h]
theorem SQ_ne {G : gT} {o : Nat → Option (Nat → Nat)} {O : Nat → Nat → Nat} {k c : Nat} {v : Option (Nat → Nat)} {u : Nat → Nat} (h : ¬ k = c) : SQ G (va_up o c v) (va_up O c u) k = SQ G o O k := by
  unfold SQ; rw [va_up_ne _ _ h, va_up_ne _ _ h]
theorem SQ_ne' {G : gT} {o : Nat → Option (Nat → Nat)} {O : Nat → Nat → Nat} {k c : Nat} {u : Nat → Nat} (h : ¬ k = c) : SQ G o (va_up O c u) k = SQ G o O k := by
  unfold SQ; rw [va_up_ne _ _ h]
theorem lgc_eq {a b : Int64} (h : a = b) : lg_cmp a b = 0 := by
  subst h; unfold lg_cmp
  rw [if_neg (Int64.lt_irrefl (a := a)), if_pos rfl]
abbrev LW (G : gT) (x q w : Nat) (a S r H g p f h : Nat → Nat) (n kn : Nat) (d T : Nat → Nat → Nat) (fo : Nat → Int64) (o : Nat → Option (Nat → Nat)) (O : Nat → Nat → Nat) (y : Nat → Nat) (t th : Nat) (s sl z hh g6 d7 : Nat → Nat) : List va_W :=
  [XB x (a 0) (r 0) (p 0) (h 0) q, DW G a S, RN G r H g, PD G p f n, HI G h kn d, HD G d T, SA G q o, MO y t kn n th, RW G (y 1) 70 s, RW G (y 2) 140 sl, RZ G (y 3) 2 z, RW G (y 4) 420 hh, RW G (y 5) 60 f, RW G (y 6) 10 g6, RW G (y 7) 32 d7, OU G w fo, SQ G o O 0, SQ G o O 1]

set_option maxHeartbeats 4000000 in
set_option maxRecDepth 100000 in
theorem lc_turnPeg {E : EE} {G : gT} {A : Nat → Prop} {Q : State → Prop} {l : Launch} {b0 L : Nat} {xs : Nat → Int32} (X : Cx E G A 7 cL_law RL wsL_law room_1 l) (hX : va_X b0 L xs (e_s E) (e_s E).heap) (hbl : b0 < (e_s E).heap.size) (hbA : ¬ A b0) (hL : L ≤ 1536) (x q w : Nat) (a r H g p f h : Nat → Nat) (n kn : Nat) (d T : Nat → Nat → Nat) (fo : Nat → Int64) (o : Nat → Option (Nat → Nat)) (O : Nat → Nat → Nat) (y : Nat → Nat) (t th : Nat) (s sl z hh g6 d7 : Nat → Nat) (kc ks i : Nat) (hI : IV s) (hkn : kn ≤ 6) (c b : Nat) (hc : c < 32) (hb : b < 10) (hu1 : xs (i + 1) = nI c) (hu2 : xs (i + 2) = nI b) (hkc : kc + 8 ≤ 604766) (hks : ks + 83 ≤ 7281805) (hi : i + 3 ≤ L) (K : V E G A 7 [XB x (a 0) (r 0) (p 0) (h 0) q, DW G a (c3 (va_up s c (s c ^^^ 2 ^ b))), RN G r H g, PD G p f n, HI G h (aM kn + 1) (aD kn d), HD G (aD kn d) (hT kn (c3 s) T), SA G q o, MO y 0 (aM kn + 1) n th, RW G (y 1) 70 (va_up s c (s c ^^^ 2 ^ b)), RW G (y 2) 140 sl, RZ G (y 3) 2 z, RW G (y 4) 420 (rcH kn s hh), RW G (y 5) 60 f, RW G (y 6) 10 g6, RW G (y 7) 32 d7, OU G w (vp_updL fo 0 (lN (bq ((c3 s) c ^^^ 2 ^ b) b))), SQ G o O 0, SQ G o O 1] kc ks Q 1602 [(0, .ref b0), (1, .ref x), (2, .ref (y 0)), (3, .ref w), (4, .int (nI i))] []) : V E G A 7 [XB x (a 0) (r 0) (p 0) (h 0) q, DW G a (c3 s), RN G r H g, PD G p f n, HI G h kn d, HD G d T, SA G q o, MO y t kn n th, RW G (y 1) 70 s, RW G (y 2) 140 sl, RZ G (y 3) 2 z, RW G (y 4) 420 hh, RW G (y 5) 60 f, RW G (y 6) 10 g6, RW G (y 7) 32 d7, OU G w fo, SQ G o O 0, SQ G o O 1] kc ks Q 200 [(0, .ref b0), (1, .ref x), (2, .ref (y 0)), (3, .ref w), (4, .int (nI i))] [] := by
  show V E G A 7 [XB x (a 0) (r 0) (p 0) (h 0) q, DW G a (c3 s), RN G r H g, PD G p f n, HI G h kn d, HD G d T, SA G q o, MO y t kn n th, RW G (y 1) 70 s, RW G (y 2) 140 sl, RZ G (y 3) 2 z, RW G (y 4) 420 hh, RW G (y 5) 60 f, RW G (y 6) 10 g6, RW G (y 7) 32 d7, OU G w fo, SQ G o O 0, SQ G o O 1] kc ks Q 200 [(0, .ref b0), (1, .ref x), (2, .ref (y 0)), (3, .ref w), (4, .int (nI i))] []
  refine V_aload_n (pc' := 201) 1 X dL_law_200 rfl rfl rfl ?_
  refine V_aload_n (pc' := 202) 0 X dL_law_201 rfl rfl rfl ?_
  refine V_iload (pc' := 204) 4 X dL_law_202 rfl rfl ?_
  refine V_iconst (pc' := 205) (nI 1) X dL_law_204 ki_1 rfl ?_
  refine V_iadd (pc' := 206) (nI (i + 1)) X dL_law_205 (nI_add _ _) rfl ?_
  refine V_sld (pc' := 207) (v := nI c) X hX hbl hbA (j := i + 1) (by omega) (by omega) hu1 dL_law_206 rfl ?_
  refine V_aload_n (pc' := 208) 0 X dL_law_207 rfl rfl rfl ?_
  refine V_iload (pc' := 210) 4 X dL_law_208 rfl rfl ?_
  refine V_iconst (pc' := 211) (nI 2) X dL_law_210 ki_2 rfl ?_
  refine V_iadd (pc' := 212) (nI (i + 2)) X dL_law_211 (nI_add _ _) rfl ?_
  refine V_sld (pc' := 213) (v := nI b) X hX hbl hbA (j := i + 2) (by omega) (by omega) hu2 dL_law_212 rfl ?_
  refine V_aload_n (pc' := 214) 3 X dL_law_213 rfl rfl rfl ?_
  refine V_callSW (pc' := 217) (As := [.ref x, .int (nI c), .int (nI b), .ref w]) (st := []) [0, 1, 4, 5, 15] [2, 3, 6, 7, 8, 9, 10, 11, 12, 13, 14, 16, 17] (show (List.range 18).Perm ([0, 1, 4, 5, 15] ++ [2, 3, 6, 7, 8, 9, 10, 11, 12, 13, 14, 16, 17]) by decide) X (c_L_turnPeg l G x q w a (c3 s) r H g p f h n kn d T fo hkn (IV_c3 hI) c b hc hb) rfl gL_law_L_turnPeg rfl rfl (Nat.le_of_ble_eq_true rfl) ⟨Nat.le_of_ble_eq_true rfl, Nat.le_of_ble_eq_true rfl⟩ ⟨show kc + 0 ≤ 604766 by omega, show ks + 0 ≤ 7281805 by omega⟩ dL_law_214 rfl (fun v_ u_ hp_ => ?_)
  obtain ⟨rfl, rfl⟩ := hp_
  show V E G A 7 [RN G r H g, PD G p f n, SA G q o, MO y t kn n th, RW G (y 1) 70 s, RW G (y 2) 140 sl, RZ G (y 3) 2 z, RW G (y 4) 420 hh, RW G (y 5) 60 f, RW G (y 6) 10 g6, RW G (y 7) 32 d7, SQ G o O 0, SQ G o O 1, XB x (a 0) (r 0) (p 0) (h 0) q, DW G a (va_up (c3 s) c ((c3 s) c ^^^ 2 ^ b)), HI G h (aM kn + 1) (aD kn d), HD G (aD kn d) (hT kn (c3 s) T), OU G w (vp_updL fo 0 (lN (bq ((c3 s) c ^^^ 2 ^ b) b)))] kc ks Q 217 [(0, .ref b0), (1, .ref x), (2, .ref (y 0)), (3, .ref w), (4, .int (nI i))] [.int (nI 0)]
  refine V_ord [13, 14, 0, 1, 15, 16, 2, 3, 4, 5, 6, 7, 8, 9, 10, 17, 11, 12] [XB x (a 0) (r 0) (p 0) (h 0) q, DW G a (va_up (c3 s) c ((c3 s) c ^^^ 2 ^ b)), RN G r H g, PD G p f n, HI G h (aM kn + 1) (aD kn d), HD G (aD kn d) (hT kn (c3 s) T), SA G q o, MO y t kn n th, RW G (y 1) 70 s, RW G (y 2) 140 sl, RZ G (y 3) 2 z, RW G (y 4) 420 hh, RW G (y 5) 60 f, RW G (y 6) 10 g6, RW G (y 7) 32 d7, OU G w (vp_updL fo 0 (lN (bq ((c3 s) c ^^^ 2 ^ b) b))), SQ G o O 0, SQ G o O 1] (show (List.range 18).Perm [13, 14, 0, 1, 15, 16, 2, 3, 4, 5, 6, 7, 8, 9, 10, 17, 11, 12] by decide) rfl ?_
  refine V_istore (pc' := 219) [(0, .ref b0), (1, .ref x), (2, .ref (y 0)), (3, .ref w), (4, .int (nI i)), (5, .int (nI 0))] [1, 2, 3, 4, 5, 0] X dL_law_217 (Nat.le_of_ble_eq_true rfl) rfl rfl ?_
  refine V_aload_n (pc' := 220) 2 X dL_law_219 rfl rfl rfl ?_
  refine V_aload_n (pc' := 221) 0 X dL_law_220 rfl rfl rfl ?_
  refine V_iload (pc' := 223) 4 X dL_law_221 rfl rfl ?_
  refine V_iconst (pc' := 224) (nI 1) X dL_law_223 ki_1 rfl ?_
  refine V_iadd (pc' := 225) (nI (i + 1)) X dL_law_224 (nI_add _ _) rfl ?_
  refine V_sld (pc' := 226) (v := nI c) X hX hbl hbA (j := i + 1) (by omega) (by omega) hu1 dL_law_225 rfl ?_
  refine V_aload_n (pc' := 227) 0 X dL_law_226 rfl rfl rfl ?_
  refine V_iload (pc' := 229) 4 X dL_law_227 rfl rfl ?_
  refine V_iconst (pc' := 230) (nI 2) X dL_law_229 ki_2 rfl ?_
  refine V_iadd (pc' := 231) (nI (i + 2)) X dL_law_230 (nI_add _ _) rfl ?_
  refine V_sld (pc' := 232) (v := nI b) X hX hbl hbA (j := i + 2) (by omega) (by omega) hu2 dL_law_231 rfl ?_
  refine V_callV (pc' := 235) (As := [.int (nI c), .int (nI b)]) (st := []) 6 59 [7, 8, 11] [0, 1, 2, 3, 4, 5, 6, 9, 10, 12, 13, 14, 15, 16, 17] (show (List.range 18).Perm ([7, 8, 11] ++ [0, 1, 2, 3, 4, 5, 6, 9, 10, 12, 13, 14, 15, 16, 17]) by decide) X (c_X6_turnPeg l G y t kn n th s hI hh hkn c b hc hb) rfl gL_law_X6_turnPeg rfl (by decide) rfl rfl rfl (Nat.le_of_ble_eq_true rfl) ⟨Nat.le_of_ble_eq_true rfl, Nat.le_of_ble_eq_true rfl⟩ ⟨show kc + 0 ≤ 604766 by omega, show ks + 0 ≤ 7281805 by omega⟩ dL_law_232 rfl (fun v_ u_ hp_ => ?_)
  obtain ⟨rfl, rfl⟩ := hp_
  show V E G A 7 [XB x (a 0) (r 0) (p 0) (h 0) q, DW G a (va_up (c3 s) c ((c3 s) c ^^^ 2 ^ b)), RN G r H g, PD G p f n, HI G h (aM kn + 1) (aD kn d), HD G (aD kn d) (hT kn (c3 s) T), SA G q o, RW G (y 2) 140 sl, RZ G (y 3) 2 z, RW G (y 5) 60 f, RW G (y 6) 10 g6, RW G (y 7) 32 d7, OU G w (vp_updL fo 0 (lN (bq ((c3 s) c ^^^ 2 ^ b) b))), SQ G o O 0, SQ G o O 1, MO y 0 (aM kn + 1) n th, RW G (y 1) 70 (va_up s c (s c ^^^ 2 ^ b)), RW G (y 4) 420 (rcH kn s hh)] kc ks Q 235 [(0, .ref b0), (1, .ref x), (2, .ref (y 0)), (3, .ref w), (4, .int (nI i)), (5, .int (nI 0))] [.int (nI (bq (s c ^^^ 2 ^ b) b))]
  refine V_ord [0, 1, 2, 3, 4, 5, 6, 15, 16, 7, 8, 17, 9, 10, 11, 12, 13, 14] [XB x (a 0) (r 0) (p 0) (h 0) q, DW G a (va_up (c3 s) c ((c3 s) c ^^^ 2 ^ b)), RN G r H g, PD G p f n, HI G h (aM kn + 1) (aD kn d), HD G (aD kn d) (hT kn (c3 s) T), SA G q o, MO y 0 (aM kn + 1) n th, RW G (y 1) 70 (va_up s c (s c ^^^ 2 ^ b)), RW G (y 2) 140 sl, RZ G (y 3) 2 z, RW G (y 4) 420 (rcH kn s hh), RW G (y 5) 60 f, RW G (y 6) 10 g6, RW G (y 7) 32 d7, OU G w (vp_updL fo 0 (lN (bq ((c3 s) c ^^^ 2 ^ b) b))), SQ G o O 0, SQ G o O 1] (show (List.range 18).Perm [0, 1, 2, 3, 4, 5, 6, 15, 16, 7, 8, 17, 9, 10, 11, 12, 13, 14] by decide) rfl ?_
  refine V_istore (pc' := 237) [(0, .ref b0), (1, .ref x), (2, .ref (y 0)), (3, .ref w), (4, .int (nI i)), (5, .int (nI 0)), (6, .int (nI (bq (s c ^^^ 2 ^ b) b)))] [1, 2, 3, 4, 5, 6, 0] X dL_law_235 (Nat.le_of_ble_eq_true rfl) rfl rfl ?_
  refine V_aload_n (pc' := 238) 2 X dL_law_237 rfl rfl rfl ?_
  refine V_callV (pc' := 241) (As := []) (st := []) 6 59 [7] [0, 1, 2, 3, 4, 5, 6, 8, 9, 10, 11, 12, 13, 14, 15, 16, 17] (show (List.range 18).Perm ([7] ++ [0, 1, 2, 3, 4, 5, 6, 8, 9, 10, 11, 12, 13, 14, 15, 16, 17]) by decide) X (c_X6_thrown l G y 0 (aM kn + 1) n th) rfl gL_law_X6_thrown rfl (by decide) rfl rfl rfl (Nat.le_of_ble_eq_true rfl) ⟨Nat.le_of_ble_eq_true rfl, Nat.le_of_ble_eq_true rfl⟩ ⟨show kc + 0 ≤ 604766 by omega, show ks + 0 ≤ 7281805 by omega⟩ dL_law_238 rfl (fun v_ u_ hp_ => ?_)
  obtain ⟨rfl, rfl⟩ := hp_
  show V E G A 7 [XB x (a 0) (r 0) (p 0) (h 0) q, DW G a (va_up (c3 s) c ((c3 s) c ^^^ 2 ^ b)), RN G r H g, PD G p f n, HI G h (aM kn + 1) (aD kn d), HD G (aD kn d) (hT kn (c3 s) T), SA G q o, RW G (y 1) 70 (va_up s c (s c ^^^ 2 ^ b)), RW G (y 2) 140 sl, RZ G (y 3) 2 z, RW G (y 4) 420 (rcH kn s hh), RW G (y 5) 60 f, RW G (y 6) 10 g6, RW G (y 7) 32 d7, OU G w (vp_updL fo 0 (lN (bq ((c3 s) c ^^^ 2 ^ b) b))), SQ G o O 0, SQ G o O 1, MO y 0 (aM kn + 1) n th] kc ks Q 241 [(0, .ref b0), (1, .ref x), (2, .ref (y 0)), (3, .ref w), (4, .int (nI i)), (5, .int (nI 0)), (6, .int (nI (bq (s c ^^^ 2 ^ b) b)))] [.int (nI 0)]
  refine V_ord [0, 1, 2, 3, 4, 5, 6, 17, 7, 8, 9, 10, 11, 12, 13, 14, 15, 16] [XB x (a 0) (r 0) (p 0) (h 0) q, DW G a (va_up (c3 s) c ((c3 s) c ^^^ 2 ^ b)), RN G r H g, PD G p f n, HI G h (aM kn + 1) (aD kn d), HD G (aD kn d) (hT kn (c3 s) T), SA G q o, MO y 0 (aM kn + 1) n th, RW G (y 1) 70 (va_up s c (s c ^^^ 2 ^ b)), RW G (y 2) 140 sl, RZ G (y 3) 2 z, RW G (y 4) 420 (rcH kn s hh), RW G (y 5) 60 f, RW G (y 6) 10 g6, RW G (y 7) 32 d7, OU G w (vp_updL fo 0 (lN (bq ((c3 s) c ^^^ 2 ^ b) b))), SQ G o O 0, SQ G o O 1] (show (List.range 18).Perm [0, 1, 2, 3, 4, 5, 6, 17, 7, 8, 9, 10, 11, 12, 13, 14, 15, 16] by decide) rfl ?_
  refine V_iload (pc' := 243) 5 X dL_law_241 rfl rfl ?_
  refine V_icmp_eq (pc' := 246) (C := 0 = 0) 248 X dL_law_243 (by decide) rfl (nI_eq (by omega) (by omega)) (fun _ => ?_) (fun hz => absurd (by decide) hz)
  refine V_iload (pc' := 250) 5 X dL_law_248 rfl rfl ?_
  refine V_if_ne (pc' := 253) (C := 0 = 0) 272 X dL_law_250 (by decide) rfl (z_eq0 (by omega)) (fun hz => absurd (by decide) hz) (fun _ => ?_)
  refine V_aload_n (pc' := 254) 3 X dL_law_253 rfl rfl rfl ?_
  refine V_iconst (pc' := 255) (nI 0) X dL_law_254 ki_0 rfl ?_
  refine V_lald (pc' := 256) (v := (lN (bq ((c3 s) c ^^^ 2 ^ b) b))) 67 0 X rfl (by omega) (by decide) pk_uLs dL_law_255 rfl ?_
  refine V_iload (pc' := 258) 6 X dL_law_256 rfl rfl ?_
  refine V_if_eq (pc' := 261) (C := (bq (s c ^^^ 2 ^ b) b) = 0) 265 X dL_law_258 (by decide) rfl (z_eq0 (Nat.lt_trans (bq_lt _ _) (by decide))) (fun h258 => ?_) (fun h258 => ?_)
  · refine V_lconst (pc' := 266) (lN 0) X dL_law_265 (by decide +kernel) rfl ?_
    refine V_lcmp (pc' := 267) (lg_cmp (lN (bq ((c3 s) c ^^^ 2 ^ b) b)) (lN 0)) X dL_law_266 rfl rfl ?_
    refine V_if_eq (pc' := 270) (C := (lg_cmp (lN (bq ((c3 s) c ^^^ 2 ^ b) b)) (lN 0)) = 0) 272 X dL_law_267 (by decide) rfl Iff.rfl (fun _ => ?_) (fun hz => absurd (lgc_eq (congrArg lN (by rw [eq_peg hc]; have := bq_lt (s c ^^^ 2 ^ b) b; omega))) hz)
    refine V_goto (pc' := 1602) X dL_law_272 (by decide) ?_
    refine V_ws [XB x (a 0) (r 0) (p 0) (h 0) q, DW G a (c3 (va_up s c (s c ^^^ 2 ^ b))), RN G r H g, PD G p f n, HI G h (aM kn + 1) (aD kn d), HD G (aD kn d) (hT kn (c3 s) T), SA G q o, MO y 0 (aM kn + 1) n th, RW G (y 1) 70 (va_up s c (s c ^^^ 2 ^ b)), RW G (y 2) 140 sl, RZ G (y 3) 2 z, RW G (y 4) 420 (rcH kn s hh), RW G (y 5) 60 f, RW G (y 6) 10 g6, RW G (y 7) 32 d7, OU G w (vp_updL fo 0 (lN (bq ((c3 s) c ^^^ 2 ^ b) b))), SQ G o O 0, SQ G o O 1] (by rw [show (va_up (c3 s) c ((c3 s) c ^^^ 2 ^ b)) = c3 (va_up s c (s c ^^^ 2 ^ b)) from (by rw [c3_p hc, c3_up (by omega)])]) ?_
    exact K
  · refine V_lconst (pc' := 262) (lN 1) X dL_law_261 (by decide +kernel) rfl ?_
    refine V_goto (pc' := 266) X dL_law_262 (by decide) ?_
    refine V_lcmp (pc' := 267) (lg_cmp (lN (bq ((c3 s) c ^^^ 2 ^ b) b)) (lN 1)) X dL_law_266 rfl rfl ?_
    refine V_if_eq (pc' := 270) (C := (lg_cmp (lN (bq ((c3 s) c ^^^ 2 ^ b) b)) (lN 1)) = 0) 272 X dL_law_267 (by decide) rfl Iff.rfl (fun _ => ?_) (fun hz => absurd (lgc_eq (congrArg lN (by rw [eq_peg hc]; have := bq_lt (s c ^^^ 2 ^ b) b; omega))) hz)
    refine V_goto (pc' := 1602) X dL_law_272 (by decide) ?_
    refine V_ws [XB x (a 0) (r 0) (p 0) (h 0) q, DW G a (c3 (va_up s c (s c ^^^ 2 ^ b))), RN G r H g, PD G p f n, HI G h (aM kn + 1) (aD kn d), HD G (aD kn d) (hT kn (c3 s) T), SA G q o, MO y 0 (aM kn + 1) n th, RW G (y 1) 70 (va_up s c (s c ^^^ 2 ^ b)), RW G (y 2) 140 sl, RZ G (y 3) 2 z, RW G (y 4) 420 (rcH kn s hh), RW G (y 5) 60 f, RW G (y 6) 10 g6, RW G (y 7) 32 d7, OU G w (vp_updL fo 0 (lN (bq ((c3 s) c ^^^ 2 ^ b) b))), SQ G o O 0, SQ G o O 1] (by rw [show (va_up (c3 s) c ((c3 s) c ^^^ 2 ^ b)) = c3 (va_up s c (s c ^^^ 2 ^ b)) from (by rw [c3_p hc, c3_up (by omega)])]) ?_
    exact K

set_option maxHeartbeats 4000000 in
set_option maxRecDepth 100000 in
theorem lc_setColumn {E : EE} {G : gT} {A : Nat → Prop} {Q : State → Prop} {l : Launch} {b0 L : Nat} {xs : Nat → Int32} (X : Cx E G A 7 cL_law RL wsL_law room_1 l) (hX : va_X b0 L xs (e_s E) (e_s E).heap) (hbl : b0 < (e_s E).heap.size) (hbA : ¬ A b0) (hL : L ≤ 1536) (x q w : Nat) (a r H g p f h : Nat → Nat) (n kn : Nat) (d T : Nat → Nat → Nat) (fo : Nat → Int64) (o : Nat → Option (Nat → Nat)) (O : Nat → Nat → Nat) (y : Nat → Nat) (t th : Nat) (s sl z hh g6 d7 : Nat → Nat) (kc ks i : Nat) (hI : IV s) (hkn : kn ≤ 6) (c v : Nat) (hc : c < 32) (hv : v < 1024) (hu1 : xs (i + 1) = nI c) (hu2 : xs (i + 2) = nI v) (hkc : kc + 8 ≤ 604766) (hks : ks + 83 ≤ 7281805) (hi : i + 3 ≤ L) (K : V E G A 7 [XB x (a 0) (r 0) (p 0) (h 0) q, DW G a (c3 (va_up s c v)), RN G r H g, PD G p f n, HI G h (aM kn + 1) (aD kn d), HD G (aD kn d) (hT kn (c3 s) T), SA G q o, MO y 0 (aM kn + 1) n th, RW G (y 1) 70 (va_up s c v), RW G (y 2) 140 sl, RZ G (y 3) 2 z, RW G (y 4) 420 (rcH kn s hh), RW G (y 5) 60 f, RW G (y 6) 10 g6, RW G (y 7) 32 d7, OU G w (vp_updL fo 0 (((nI (sm (fun k => cnt (va_up (c3 s) c v k ^^^ (c3 s) k)) 32))).toInt64)), SQ G o O 0, SQ G o O 1] kc ks Q 1602 [(0, .ref b0), (1, .ref x), (2, .ref (y 0)), (3, .ref w), (4, .int (nI i))] []) : V E G A 7 [XB x (a 0) (r 0) (p 0) (h 0) q, DW G a (c3 s), RN G r H g, PD G p f n, HI G h kn d, HD G d T, SA G q o, MO y t kn n th, RW G (y 1) 70 s, RW G (y 2) 140 sl, RZ G (y 3) 2 z, RW G (y 4) 420 hh, RW G (y 5) 60 f, RW G (y 6) 10 g6, RW G (y 7) 32 d7, OU G w fo, SQ G o O 0, SQ G o O 1] kc ks Q 275 [(0, .ref b0), (1, .ref x), (2, .ref (y 0)), (3, .ref w), (4, .int (nI i))] [] := by
  show V E G A 7 [XB x (a 0) (r 0) (p 0) (h 0) q, DW G a (c3 s), RN G r H g, PD G p f n, HI G h kn d, HD G d T, SA G q o, MO y t kn n th, RW G (y 1) 70 s, RW G (y 2) 140 sl, RZ G (y 3) 2 z, RW G (y 4) 420 hh, RW G (y 5) 60 f, RW G (y 6) 10 g6, RW G (y 7) 32 d7, OU G w fo, SQ G o O 0, SQ G o O 1] kc ks Q 275 [(0, .ref b0), (1, .ref x), (2, .ref (y 0)), (3, .ref w), (4, .int (nI i))] []
  refine V_aload_n (pc' := 276) 1 X dL_law_275 rfl rfl rfl ?_
  refine V_aload_n (pc' := 277) 0 X dL_law_276 rfl rfl rfl ?_
  refine V_iload (pc' := 279) 4 X dL_law_277 rfl rfl ?_
  refine V_iconst (pc' := 280) (nI 1) X dL_law_279 ki_1 rfl ?_
  refine V_iadd (pc' := 281) (nI (i + 1)) X dL_law_280 (nI_add _ _) rfl ?_
  refine V_sld (pc' := 282) (v := nI c) X hX hbl hbA (j := i + 1) (by omega) (by omega) hu1 dL_law_281 rfl ?_
  refine V_aload_n (pc' := 283) 0 X dL_law_282 rfl rfl rfl ?_
  refine V_iload (pc' := 285) 4 X dL_law_283 rfl rfl ?_
  refine V_iconst (pc' := 286) (nI 2) X dL_law_285 ki_2 rfl ?_
  refine V_iadd (pc' := 287) (nI (i + 2)) X dL_law_286 (nI_add _ _) rfl ?_
  refine V_sld (pc' := 288) (v := nI v) X hX hbl hbA (j := i + 2) (by omega) (by omega) hu2 dL_law_287 rfl ?_
  refine V_aload_n (pc' := 289) 3 X dL_law_288 rfl rfl rfl ?_
  refine V_callSW (pc' := 292) (As := [.ref x, .int (nI c), .int (nI v), .ref w]) (st := []) [0, 1, 4, 5, 15] [2, 3, 6, 7, 8, 9, 10, 11, 12, 13, 14, 16, 17] (show (List.range 18).Perm ([0, 1, 4, 5, 15] ++ [2, 3, 6, 7, 8, 9, 10, 11, 12, 13, 14, 16, 17]) by decide) X (c_L_setColumn l G x q w a (c3 s) r H g p f h n kn d T fo hkn (IV_c3 hI) c v hc hv) rfl gL_law_L_setColumn rfl rfl (Nat.le_of_ble_eq_true rfl) ⟨Nat.le_of_ble_eq_true rfl, Nat.le_of_ble_eq_true rfl⟩ ⟨show kc + 0 ≤ 604766 by omega, show ks + 0 ≤ 7281805 by omega⟩ dL_law_289 rfl (fun v_ u_ hp_ => ?_)
  obtain ⟨rfl, rfl⟩ := hp_
  show V E G A 7 [RN G r H g, PD G p f n, SA G q o, MO y t kn n th, RW G (y 1) 70 s, RW G (y 2) 140 sl, RZ G (y 3) 2 z, RW G (y 4) 420 hh, RW G (y 5) 60 f, RW G (y 6) 10 g6, RW G (y 7) 32 d7, SQ G o O 0, SQ G o O 1, XB x (a 0) (r 0) (p 0) (h 0) q, DW G a (va_up (c3 s) c v), HI G h (aM kn + 1) (aD kn d), HD G (aD kn d) (hT kn (c3 s) T), OU G w (vp_updL fo 0 (((nI (sm (fun k => cnt (va_up (c3 s) c v k ^^^ (c3 s) k)) 32))).toInt64))] kc ks Q 292 [(0, .ref b0), (1, .ref x), (2, .ref (y 0)), (3, .ref w), (4, .int (nI i))] [.int (nI 0)]
  refine V_ord [13, 14, 0, 1, 15, 16, 2, 3, 4, 5, 6, 7, 8, 9, 10, 17, 11, 12] [XB x (a 0) (r 0) (p 0) (h 0) q, DW G a (va_up (c3 s) c v), RN G r H g, PD G p f n, HI G h (aM kn + 1) (aD kn d), HD G (aD kn d) (hT kn (c3 s) T), SA G q o, MO y t kn n th, RW G (y 1) 70 s, RW G (y 2) 140 sl, RZ G (y 3) 2 z, RW G (y 4) 420 hh, RW G (y 5) 60 f, RW G (y 6) 10 g6, RW G (y 7) 32 d7, OU G w (vp_updL fo 0 (((nI (sm (fun k => cnt (va_up (c3 s) c v k ^^^ (c3 s) k)) 32))).toInt64)), SQ G o O 0, SQ G o O 1] (show (List.range 18).Perm [13, 14, 0, 1, 15, 16, 2, 3, 4, 5, 6, 7, 8, 9, 10, 17, 11, 12] by decide) rfl ?_
  refine V_istore (pc' := 294) [(0, .ref b0), (1, .ref x), (2, .ref (y 0)), (3, .ref w), (4, .int (nI i)), (5, .int (nI 0))] [1, 2, 3, 4, 5, 0] X dL_law_292 (Nat.le_of_ble_eq_true rfl) rfl rfl ?_
  refine V_aload_n (pc' := 295) 2 X dL_law_294 rfl rfl rfl ?_
  refine V_aload_n (pc' := 296) 0 X dL_law_295 rfl rfl rfl ?_
  refine V_iload (pc' := 298) 4 X dL_law_296 rfl rfl ?_
  refine V_iconst (pc' := 299) (nI 1) X dL_law_298 ki_1 rfl ?_
  refine V_iadd (pc' := 300) (nI (i + 1)) X dL_law_299 (nI_add _ _) rfl ?_
  refine V_sld (pc' := 301) (v := nI c) X hX hbl hbA (j := i + 1) (by omega) (by omega) hu1 dL_law_300 rfl ?_
  refine V_aload_n (pc' := 302) 0 X dL_law_301 rfl rfl rfl ?_
  refine V_iload (pc' := 304) 4 X dL_law_302 rfl rfl ?_
  refine V_iconst (pc' := 305) (nI 2) X dL_law_304 ki_2 rfl ?_
  refine V_iadd (pc' := 306) (nI (i + 2)) X dL_law_305 (nI_add _ _) rfl ?_
  refine V_sld (pc' := 307) (v := nI v) X hX hbl hbA (j := i + 2) (by omega) (by omega) hu2 dL_law_306 rfl ?_
  refine V_callV (pc' := 310) (As := [.int (nI c), .int (nI v)]) (st := []) 6 59 [7, 8, 11] [0, 1, 2, 3, 4, 5, 6, 9, 10, 12, 13, 14, 15, 16, 17] (show (List.range 18).Perm ([7, 8, 11] ++ [0, 1, 2, 3, 4, 5, 6, 9, 10, 12, 13, 14, 15, 16, 17]) by decide) X (c_X6_setColumn l G y t kn n th s hI hh hkn c v hc hv) rfl gL_law_X6_setColumn rfl (by decide) rfl rfl rfl (Nat.le_of_ble_eq_true rfl) ⟨Nat.le_of_ble_eq_true rfl, Nat.le_of_ble_eq_true rfl⟩ ⟨show kc + 0 ≤ 604766 by omega, show ks + 0 ≤ 7281805 by omega⟩ dL_law_307 rfl (fun v_ u_ hp_ => ?_)
  obtain ⟨rfl, rfl⟩ := hp_
  show V E G A 7 [XB x (a 0) (r 0) (p 0) (h 0) q, DW G a (va_up (c3 s) c v), RN G r H g, PD G p f n, HI G h (aM kn + 1) (aD kn d), HD G (aD kn d) (hT kn (c3 s) T), SA G q o, RW G (y 2) 140 sl, RZ G (y 3) 2 z, RW G (y 5) 60 f, RW G (y 6) 10 g6, RW G (y 7) 32 d7, OU G w (vp_updL fo 0 (((nI (sm (fun k => cnt (va_up (c3 s) c v k ^^^ (c3 s) k)) 32))).toInt64)), SQ G o O 0, SQ G o O 1, MO y 0 (aM kn + 1) n th, RW G (y 1) 70 (va_up s c v), RW G (y 4) 420 (rcH kn s hh)] kc ks Q 310 [(0, .ref b0), (1, .ref x), (2, .ref (y 0)), (3, .ref w), (4, .int (nI i)), (5, .int (nI 0))] [.int (nI (cnt (s c ^^^ v)))]
  refine V_ord [0, 1, 2, 3, 4, 5, 6, 15, 16, 7, 8, 17, 9, 10, 11, 12, 13, 14] [XB x (a 0) (r 0) (p 0) (h 0) q, DW G a (va_up (c3 s) c v), RN G r H g, PD G p f n, HI G h (aM kn + 1) (aD kn d), HD G (aD kn d) (hT kn (c3 s) T), SA G q o, MO y 0 (aM kn + 1) n th, RW G (y 1) 70 (va_up s c v), RW G (y 2) 140 sl, RZ G (y 3) 2 z, RW G (y 4) 420 (rcH kn s hh), RW G (y 5) 60 f, RW G (y 6) 10 g6, RW G (y 7) 32 d7, OU G w (vp_updL fo 0 (((nI (sm (fun k => cnt (va_up (c3 s) c v k ^^^ (c3 s) k)) 32))).toInt64)), SQ G o O 0, SQ G o O 1] (show (List.range 18).Perm [0, 1, 2, 3, 4, 5, 6, 15, 16, 7, 8, 17, 9, 10, 11, 12, 13, 14] by decide) rfl ?_
  refine V_istore (pc' := 312) [(0, .ref b0), (1, .ref x), (2, .ref (y 0)), (3, .ref w), (4, .int (nI i)), (5, .int (nI 0)), (6, .int (nI (cnt (s c ^^^ v))))] [1, 2, 3, 4, 5, 6, 0] X dL_law_310 (Nat.le_of_ble_eq_true rfl) rfl rfl ?_
  refine V_aload_n (pc' := 313) 2 X dL_law_312 rfl rfl rfl ?_
  refine V_callV (pc' := 316) (As := []) (st := []) 6 59 [7] [0, 1, 2, 3, 4, 5, 6, 8, 9, 10, 11, 12, 13, 14, 15, 16, 17] (show (List.range 18).Perm ([7] ++ [0, 1, 2, 3, 4, 5, 6, 8, 9, 10, 11, 12, 13, 14, 15, 16, 17]) by decide) X (c_X6_thrown l G y 0 (aM kn + 1) n th) rfl gL_law_X6_thrown rfl (by decide) rfl rfl rfl (Nat.le_of_ble_eq_true rfl) ⟨Nat.le_of_ble_eq_true rfl, Nat.le_of_ble_eq_true rfl⟩ ⟨show kc + 0 ≤ 604766 by omega, show ks + 0 ≤ 7281805 by omega⟩ dL_law_313 rfl (fun v_ u_ hp_ => ?_)
  obtain ⟨rfl, rfl⟩ := hp_
  show V E G A 7 [XB x (a 0) (r 0) (p 0) (h 0) q, DW G a (va_up (c3 s) c v), RN G r H g, PD G p f n, HI G h (aM kn + 1) (aD kn d), HD G (aD kn d) (hT kn (c3 s) T), SA G q o, RW G (y 1) 70 (va_up s c v), RW G (y 2) 140 sl, RZ G (y 3) 2 z, RW G (y 4) 420 (rcH kn s hh), RW G (y 5) 60 f, RW G (y 6) 10 g6, RW G (y 7) 32 d7, OU G w (vp_updL fo 0 (((nI (sm (fun k => cnt (va_up (c3 s) c v k ^^^ (c3 s) k)) 32))).toInt64)), SQ G o O 0, SQ G o O 1, MO y 0 (aM kn + 1) n th] kc ks Q 316 [(0, .ref b0), (1, .ref x), (2, .ref (y 0)), (3, .ref w), (4, .int (nI i)), (5, .int (nI 0)), (6, .int (nI (cnt (s c ^^^ v))))] [.int (nI 0)]
  refine V_ord [0, 1, 2, 3, 4, 5, 6, 17, 7, 8, 9, 10, 11, 12, 13, 14, 15, 16] [XB x (a 0) (r 0) (p 0) (h 0) q, DW G a (va_up (c3 s) c v), RN G r H g, PD G p f n, HI G h (aM kn + 1) (aD kn d), HD G (aD kn d) (hT kn (c3 s) T), SA G q o, MO y 0 (aM kn + 1) n th, RW G (y 1) 70 (va_up s c v), RW G (y 2) 140 sl, RZ G (y 3) 2 z, RW G (y 4) 420 (rcH kn s hh), RW G (y 5) 60 f, RW G (y 6) 10 g6, RW G (y 7) 32 d7, OU G w (vp_updL fo 0 (((nI (sm (fun k => cnt (va_up (c3 s) c v k ^^^ (c3 s) k)) 32))).toInt64)), SQ G o O 0, SQ G o O 1] (show (List.range 18).Perm [0, 1, 2, 3, 4, 5, 6, 17, 7, 8, 9, 10, 11, 12, 13, 14, 15, 16] by decide) rfl ?_
  refine V_iload (pc' := 318) 5 X dL_law_316 rfl rfl ?_
  refine V_icmp_eq (pc' := 321) (C := 0 = 0) 323 X dL_law_318 (by decide) rfl (nI_eq (by omega) (by omega)) (fun _ => ?_) (fun hz => absurd (by decide) hz)
  refine V_iload (pc' := 325) 5 X dL_law_323 rfl rfl ?_
  refine V_if_ne (pc' := 328) (C := 0 = 0) 340 X dL_law_325 (by decide) rfl (z_eq0 (by omega)) (fun hz => absurd (by decide) hz) (fun _ => ?_)
  refine V_aload_n (pc' := 329) 3 X dL_law_328 rfl rfl rfl ?_
  refine V_iconst (pc' := 330) (nI 0) X dL_law_329 ki_0 rfl ?_
  refine V_lald (pc' := 331) (v := (((nI (sm (fun k => cnt (va_up (c3 s) c v k ^^^ (c3 s) k)) 32))).toInt64)) 67 0 X rfl (by omega) (by decide) pk_uLs dL_law_330 rfl ?_
  refine V_iload (pc' := 333) 6 X dL_law_331 rfl rfl ?_
  refine V_i2l (pc' := 334) (((nI (cnt (s c ^^^ v)))).toInt64) X dL_law_333 rfl rfl ?_
  refine V_lcmp (pc' := 335) (lg_cmp (((nI (sm (fun k => cnt (va_up (c3 s) c v k ^^^ (c3 s) k)) 32))).toInt64) (((nI (cnt (s c ^^^ v)))).toInt64)) X dL_law_334 rfl rfl ?_
  refine V_if_eq (pc' := 338) (C := (lg_cmp (((nI (sm (fun k => cnt (va_up (c3 s) c v k ^^^ (c3 s) k)) 32))).toInt64) (((nI (cnt (s c ^^^ v)))).toInt64)) = 0) 340 X dL_law_335 (by decide) rfl Iff.rfl (fun _ => ?_) (fun hz => absurd (lgc_eq (congrArg (fun z_ => Int32.toInt64 (nI z_)) (eq_setColumn hc))) hz)
  refine V_goto (pc' := 1602) X dL_law_340 (by decide) ?_
  refine V_ws [XB x (a 0) (r 0) (p 0) (h 0) q, DW G a (c3 (va_up s c v)), RN G r H g, PD G p f n, HI G h (aM kn + 1) (aD kn d), HD G (aD kn d) (hT kn (c3 s) T), SA G q o, MO y 0 (aM kn + 1) n th, RW G (y 1) 70 (va_up s c v), RW G (y 2) 140 sl, RZ G (y 3) 2 z, RW G (y 4) 420 (rcH kn s hh), RW G (y 5) 60 f, RW G (y 6) 10 g6, RW G (y 7) 32 d7, OU G w (vp_updL fo 0 (((nI (sm (fun k => cnt (va_up (c3 s) c v k ^^^ (c3 s) k)) 32))).toInt64)), SQ G o O 0, SQ G o O 1] (by rw [show (va_up (c3 s) c v) = c3 (va_up s c v) from (c3_up (by omega))]) ?_
  exact K

set_option maxHeartbeats 4000000 in
set_option maxRecDepth 100000 in
theorem lc_setTempo {E : EE} {G : gT} {A : Nat → Prop} {Q : State → Prop} {l : Launch} {b0 L : Nat} {xs : Nat → Int32} (X : Cx E G A 7 cL_law RL wsL_law room_1 l) (hX : va_X b0 L xs (e_s E) (e_s E).heap) (hbl : b0 < (e_s E).heap.size) (hbA : ¬ A b0) (hL : L ≤ 1536) (x q w : Nat) (a r H g p f h : Nat → Nat) (n kn : Nat) (d T : Nat → Nat → Nat) (fo : Nat → Int64) (o : Nat → Option (Nat → Nat)) (O : Nat → Nat → Nat) (y : Nat → Nat) (t th : Nat) (s sl z hh g6 d7 : Nat → Nat) (kc ks i : Nat) (hI : IV s) (hkn : kn ≤ 6) (c v : Nat) (hc : c < 4) (hv1 : 1 ≤ v) (hv : v ≤ 9) (hu1 : xs (i + 1) = nI c) (hu2 : xs (i + 2) = nI v) (hkc : kc + 8 ≤ 604766) (hks : ks + 83 ≤ 7281805) (hi : i + 3 ≤ L) (K : V E G A 7 [XB x (a 0) (r 0) (p 0) (h 0) q, DW G a (c3 (va_up s (32 + c) v)), RN G r H g, PD G p f n, HI G h (aM kn + 1) (aD kn d), HD G (aD kn d) (hT kn (c3 s) T), SA G q o, MO y 0 (aM kn + 1) n th, RW G (y 1) 70 (va_up s (32 + c) v), RW G (y 2) 140 sl, RZ G (y 3) 2 z, RW G (y 4) 420 (rcH kn s hh), RW G (y 5) 60 f, RW G (y 6) 10 g6, RW G (y 7) 32 d7, OU G w (vp_updL fo 0 (((nI ((c3 s) (32 + c)))).toInt64)), SQ G o O 0, SQ G o O 1] kc ks Q 1602 [(0, .ref b0), (1, .ref x), (2, .ref (y 0)), (3, .ref w), (4, .int (nI i))] []) : V E G A 7 [XB x (a 0) (r 0) (p 0) (h 0) q, DW G a (c3 s), RN G r H g, PD G p f n, HI G h kn d, HD G d T, SA G q o, MO y t kn n th, RW G (y 1) 70 s, RW G (y 2) 140 sl, RZ G (y 3) 2 z, RW G (y 4) 420 hh, RW G (y 5) 60 f, RW G (y 6) 10 g6, RW G (y 7) 32 d7, OU G w fo, SQ G o O 0, SQ G o O 1] kc ks Q 343 [(0, .ref b0), (1, .ref x), (2, .ref (y 0)), (3, .ref w), (4, .int (nI i))] [] := by
  show V E G A 7 [XB x (a 0) (r 0) (p 0) (h 0) q, DW G a (c3 s), RN G r H g, PD G p f n, HI G h kn d, HD G d T, SA G q o, MO y t kn n th, RW G (y 1) 70 s, RW G (y 2) 140 sl, RZ G (y 3) 2 z, RW G (y 4) 420 hh, RW G (y 5) 60 f, RW G (y 6) 10 g6, RW G (y 7) 32 d7, OU G w fo, SQ G o O 0, SQ G o O 1] kc ks Q 343 [(0, .ref b0), (1, .ref x), (2, .ref (y 0)), (3, .ref w), (4, .int (nI i))] []
  refine V_aload_n (pc' := 344) 1 X dL_law_343 rfl rfl rfl ?_
  refine V_aload_n (pc' := 345) 0 X dL_law_344 rfl rfl rfl ?_
  refine V_iload (pc' := 347) 4 X dL_law_345 rfl rfl ?_
  refine V_iconst (pc' := 348) (nI 1) X dL_law_347 ki_1 rfl ?_
  refine V_iadd (pc' := 349) (nI (i + 1)) X dL_law_348 (nI_add _ _) rfl ?_
  refine V_sld (pc' := 350) (v := nI c) X hX hbl hbA (j := i + 1) (by omega) (by omega) hu1 dL_law_349 rfl ?_
  refine V_aload_n (pc' := 351) 0 X dL_law_350 rfl rfl rfl ?_
  refine V_iload (pc' := 353) 4 X dL_law_351 rfl rfl ?_
  refine V_iconst (pc' := 354) (nI 2) X dL_law_353 ki_2 rfl ?_
  refine V_iadd (pc' := 355) (nI (i + 2)) X dL_law_354 (nI_add _ _) rfl ?_
  refine V_sld (pc' := 356) (v := nI v) X hX hbl hbA (j := i + 2) (by omega) (by omega) hu2 dL_law_355 rfl ?_
  refine V_aload_n (pc' := 357) 3 X dL_law_356 rfl rfl rfl ?_
  refine V_callSW (pc' := 360) (As := [.ref x, .int (nI c), .int (nI v), .ref w]) (st := []) [0, 1, 4, 5, 15] [2, 3, 6, 7, 8, 9, 10, 11, 12, 13, 14, 16, 17] (show (List.range 18).Perm ([0, 1, 4, 5, 15] ++ [2, 3, 6, 7, 8, 9, 10, 11, 12, 13, 14, 16, 17]) by decide) X (c_L_setTempo l G x q w a (c3 s) r H g p f h n kn d T fo hkn (IV_c3 hI) c v hc hv1 hv) rfl gL_law_L_setTempo rfl rfl (Nat.le_of_ble_eq_true rfl) ⟨Nat.le_of_ble_eq_true rfl, Nat.le_of_ble_eq_true rfl⟩ ⟨show kc + 0 ≤ 604766 by omega, show ks + 0 ≤ 7281805 by omega⟩ dL_law_357 rfl (fun v_ u_ hp_ => ?_)
  obtain ⟨rfl, rfl⟩ := hp_
  show V E G A 7 [RN G r H g, PD G p f n, SA G q o, MO y t kn n th, RW G (y 1) 70 s, RW G (y 2) 140 sl, RZ G (y 3) 2 z, RW G (y 4) 420 hh, RW G (y 5) 60 f, RW G (y 6) 10 g6, RW G (y 7) 32 d7, SQ G o O 0, SQ G o O 1, XB x (a 0) (r 0) (p 0) (h 0) q, DW G a (va_up (c3 s) (32 + c) v), HI G h (aM kn + 1) (aD kn d), HD G (aD kn d) (hT kn (c3 s) T), OU G w (vp_updL fo 0 (((nI ((c3 s) (32 + c)))).toInt64))] kc ks Q 360 [(0, .ref b0), (1, .ref x), (2, .ref (y 0)), (3, .ref w), (4, .int (nI i))] [.int (nI 0)]
  refine V_ord [13, 14, 0, 1, 15, 16, 2, 3, 4, 5, 6, 7, 8, 9, 10, 17, 11, 12] [XB x (a 0) (r 0) (p 0) (h 0) q, DW G a (va_up (c3 s) (32 + c) v), RN G r H g, PD G p f n, HI G h (aM kn + 1) (aD kn d), HD G (aD kn d) (hT kn (c3 s) T), SA G q o, MO y t kn n th, RW G (y 1) 70 s, RW G (y 2) 140 sl, RZ G (y 3) 2 z, RW G (y 4) 420 hh, RW G (y 5) 60 f, RW G (y 6) 10 g6, RW G (y 7) 32 d7, OU G w (vp_updL fo 0 (((nI ((c3 s) (32 + c)))).toInt64)), SQ G o O 0, SQ G o O 1] (show (List.range 18).Perm [13, 14, 0, 1, 15, 16, 2, 3, 4, 5, 6, 7, 8, 9, 10, 17, 11, 12] by decide) rfl ?_
  refine V_istore (pc' := 362) [(0, .ref b0), (1, .ref x), (2, .ref (y 0)), (3, .ref w), (4, .int (nI i)), (5, .int (nI 0))] [1, 2, 3, 4, 5, 0] X dL_law_360 (Nat.le_of_ble_eq_true rfl) rfl rfl ?_
  refine V_aload_n (pc' := 363) 2 X dL_law_362 rfl rfl rfl ?_
  refine V_aload_n (pc' := 364) 0 X dL_law_363 rfl rfl rfl ?_
  refine V_iload (pc' := 366) 4 X dL_law_364 rfl rfl ?_
  refine V_iconst (pc' := 367) (nI 1) X dL_law_366 ki_1 rfl ?_
  refine V_iadd (pc' := 368) (nI (i + 1)) X dL_law_367 (nI_add _ _) rfl ?_
  refine V_sld (pc' := 369) (v := nI c) X hX hbl hbA (j := i + 1) (by omega) (by omega) hu1 dL_law_368 rfl ?_
  refine V_aload_n (pc' := 370) 0 X dL_law_369 rfl rfl rfl ?_
  refine V_iload (pc' := 372) 4 X dL_law_370 rfl rfl ?_
  refine V_iconst (pc' := 373) (nI 2) X dL_law_372 ki_2 rfl ?_
  refine V_iadd (pc' := 374) (nI (i + 2)) X dL_law_373 (nI_add _ _) rfl ?_
  refine V_sld (pc' := 375) (v := nI v) X hX hbl hbA (j := i + 2) (by omega) (by omega) hu2 dL_law_374 rfl ?_
  refine V_callV (pc' := 378) (As := [.int (nI c), .int (nI v)]) (st := []) 6 59 [7, 8, 11] [0, 1, 2, 3, 4, 5, 6, 9, 10, 12, 13, 14, 15, 16, 17] (show (List.range 18).Perm ([7, 8, 11] ++ [0, 1, 2, 3, 4, 5, 6, 9, 10, 12, 13, 14, 15, 16, 17]) by decide) X (c_X6_setTempo l G y t kn n th s hI hh hkn c v (by omega) hv1 hv) rfl gL_law_X6_setTempo rfl (by decide) rfl rfl rfl (Nat.le_of_ble_eq_true rfl) ⟨Nat.le_of_ble_eq_true rfl, Nat.le_of_ble_eq_true rfl⟩ ⟨show kc + 0 ≤ 604766 by omega, show ks + 0 ≤ 7281805 by omega⟩ dL_law_375 rfl (fun v_ u_ hp_ => ?_)
  obtain ⟨rfl, rfl⟩ := hp_
  show V E G A 7 [XB x (a 0) (r 0) (p 0) (h 0) q, DW G a (va_up (c3 s) (32 + c) v), RN G r H g, PD G p f n, HI G h (aM kn + 1) (aD kn d), HD G (aD kn d) (hT kn (c3 s) T), SA G q o, RW G (y 2) 140 sl, RZ G (y 3) 2 z, RW G (y 5) 60 f, RW G (y 6) 10 g6, RW G (y 7) 32 d7, OU G w (vp_updL fo 0 (((nI ((c3 s) (32 + c)))).toInt64)), SQ G o O 0, SQ G o O 1, MO y 0 (aM kn + 1) n th, RW G (y 1) 70 (va_up s (32 + c) v), RW G (y 4) 420 (rcH kn s hh)] kc ks Q 378 [(0, .ref b0), (1, .ref x), (2, .ref (y 0)), (3, .ref w), (4, .int (nI i)), (5, .int (nI 0))] [.int (nI (s (32 + c)))]
  refine V_ord [0, 1, 2, 3, 4, 5, 6, 15, 16, 7, 8, 17, 9, 10, 11, 12, 13, 14] [XB x (a 0) (r 0) (p 0) (h 0) q, DW G a (va_up (c3 s) (32 + c) v), RN G r H g, PD G p f n, HI G h (aM kn + 1) (aD kn d), HD G (aD kn d) (hT kn (c3 s) T), SA G q o, MO y 0 (aM kn + 1) n th, RW G (y 1) 70 (va_up s (32 + c) v), RW G (y 2) 140 sl, RZ G (y 3) 2 z, RW G (y 4) 420 (rcH kn s hh), RW G (y 5) 60 f, RW G (y 6) 10 g6, RW G (y 7) 32 d7, OU G w (vp_updL fo 0 (((nI ((c3 s) (32 + c)))).toInt64)), SQ G o O 0, SQ G o O 1] (show (List.range 18).Perm [0, 1, 2, 3, 4, 5, 6, 15, 16, 7, 8, 17, 9, 10, 11, 12, 13, 14] by decide) rfl ?_
  refine V_istore (pc' := 380) [(0, .ref b0), (1, .ref x), (2, .ref (y 0)), (3, .ref w), (4, .int (nI i)), (5, .int (nI 0)), (6, .int (nI (s (32 + c))))] [1, 2, 3, 4, 5, 6, 0] X dL_law_378 (Nat.le_of_ble_eq_true rfl) rfl rfl ?_
  refine V_aload_n (pc' := 381) 2 X dL_law_380 rfl rfl rfl ?_
  refine V_callV (pc' := 384) (As := []) (st := []) 6 59 [7] [0, 1, 2, 3, 4, 5, 6, 8, 9, 10, 11, 12, 13, 14, 15, 16, 17] (show (List.range 18).Perm ([7] ++ [0, 1, 2, 3, 4, 5, 6, 8, 9, 10, 11, 12, 13, 14, 15, 16, 17]) by decide) X (c_X6_thrown l G y 0 (aM kn + 1) n th) rfl gL_law_X6_thrown rfl (by decide) rfl rfl rfl (Nat.le_of_ble_eq_true rfl) ⟨Nat.le_of_ble_eq_true rfl, Nat.le_of_ble_eq_true rfl⟩ ⟨show kc + 0 ≤ 604766 by omega, show ks + 0 ≤ 7281805 by omega⟩ dL_law_381 rfl (fun v_ u_ hp_ => ?_)
  obtain ⟨rfl, rfl⟩ := hp_
  show V E G A 7 [XB x (a 0) (r 0) (p 0) (h 0) q, DW G a (va_up (c3 s) (32 + c) v), RN G r H g, PD G p f n, HI G h (aM kn + 1) (aD kn d), HD G (aD kn d) (hT kn (c3 s) T), SA G q o, RW G (y 1) 70 (va_up s (32 + c) v), RW G (y 2) 140 sl, RZ G (y 3) 2 z, RW G (y 4) 420 (rcH kn s hh), RW G (y 5) 60 f, RW G (y 6) 10 g6, RW G (y 7) 32 d7, OU G w (vp_updL fo 0 (((nI ((c3 s) (32 + c)))).toInt64)), SQ G o O 0, SQ G o O 1, MO y 0 (aM kn + 1) n th] kc ks Q 384 [(0, .ref b0), (1, .ref x), (2, .ref (y 0)), (3, .ref w), (4, .int (nI i)), (5, .int (nI 0)), (6, .int (nI (s (32 + c))))] [.int (nI 0)]
  refine V_ord [0, 1, 2, 3, 4, 5, 6, 17, 7, 8, 9, 10, 11, 12, 13, 14, 15, 16] [XB x (a 0) (r 0) (p 0) (h 0) q, DW G a (va_up (c3 s) (32 + c) v), RN G r H g, PD G p f n, HI G h (aM kn + 1) (aD kn d), HD G (aD kn d) (hT kn (c3 s) T), SA G q o, MO y 0 (aM kn + 1) n th, RW G (y 1) 70 (va_up s (32 + c) v), RW G (y 2) 140 sl, RZ G (y 3) 2 z, RW G (y 4) 420 (rcH kn s hh), RW G (y 5) 60 f, RW G (y 6) 10 g6, RW G (y 7) 32 d7, OU G w (vp_updL fo 0 (((nI ((c3 s) (32 + c)))).toInt64)), SQ G o O 0, SQ G o O 1] (show (List.range 18).Perm [0, 1, 2, 3, 4, 5, 6, 17, 7, 8, 9, 10, 11, 12, 13, 14, 15, 16] by decide) rfl ?_
  refine V_iload (pc' := 386) 5 X dL_law_384 rfl rfl ?_
  refine V_icmp_eq (pc' := 389) (C := 0 = 0) 391 X dL_law_386 (by decide) rfl (nI_eq (by omega) (by omega)) (fun _ => ?_) (fun hz => absurd (by decide) hz)
  refine V_iload (pc' := 393) 5 X dL_law_391 rfl rfl ?_
  refine V_if_ne (pc' := 396) (C := 0 = 0) 408 X dL_law_393 (by decide) rfl (z_eq0 (by omega)) (fun hz => absurd (by decide) hz) (fun _ => ?_)
  refine V_aload_n (pc' := 397) 3 X dL_law_396 rfl rfl rfl ?_
  refine V_iconst (pc' := 398) (nI 0) X dL_law_397 ki_0 rfl ?_
  refine V_lald (pc' := 399) (v := (((nI ((c3 s) (32 + c)))).toInt64)) 67 0 X rfl (by omega) (by decide) pk_uLs dL_law_398 rfl ?_
  refine V_iload (pc' := 401) 6 X dL_law_399 rfl rfl ?_
  refine V_i2l (pc' := 402) (((nI (s (32 + c)))).toInt64) X dL_law_401 rfl rfl ?_
  refine V_lcmp (pc' := 403) (lg_cmp (((nI ((c3 s) (32 + c)))).toInt64) (((nI (s (32 + c)))).toInt64)) X dL_law_402 rfl rfl ?_
  refine V_if_eq (pc' := 406) (C := (lg_cmp (((nI ((c3 s) (32 + c)))).toInt64) (((nI (s (32 + c)))).toInt64)) = 0) 408 X dL_law_403 (by decide) rfl Iff.rfl (fun _ => ?_) (fun hz => absurd (lgc_eq (congrArg (fun z_ => Int32.toInt64 (nI z_)) (c3_o (by omega)))) hz)
  refine V_goto (pc' := 1602) X dL_law_408 (by decide) ?_
  refine V_ws [XB x (a 0) (r 0) (p 0) (h 0) q, DW G a (c3 (va_up s (32 + c) v)), RN G r H g, PD G p f n, HI G h (aM kn + 1) (aD kn d), HD G (aD kn d) (hT kn (c3 s) T), SA G q o, MO y 0 (aM kn + 1) n th, RW G (y 1) 70 (va_up s (32 + c) v), RW G (y 2) 140 sl, RZ G (y 3) 2 z, RW G (y 4) 420 (rcH kn s hh), RW G (y 5) 60 f, RW G (y 6) 10 g6, RW G (y 7) 32 d7, OU G w (vp_updL fo 0 (((nI ((c3 s) (32 + c)))).toInt64)), SQ G o O 0, SQ G o O 1] (by rw [show (va_up (c3 s) (32 + c) v) = c3 (va_up s (32 + c) v) from (c3_up (by omega))]) ?_
  exact K

