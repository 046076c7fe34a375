/-! the law: its cases -/
def SQ (G : gT) (o : Nat → Option (Nat → Nat)) (O : Nat → Nat → Nat) (k : Nat) : va_W := match o k with | none => [] | some b => DW G b (O k)
theorem SQ_some {G : gT} {o : Nat → Option (Nat → Nat)} {O : Nat → Nat → Nat} {k : Nat} {b : Nat → Nat} (h : o k = some b) : SQ G o O k = DW G b (O k) := by unfold SQ; rw [h]
theorem SQ_none {G : gT} {o : Nat → Option (Nat → Nat)} {O : Nat → Nat → Nat} {k : Nat} (h : o k = none) : SQ G o O k = [] := by unfold SQ; rw [h]
theorem SQ_ne {G : gT} {o : Nat → Option (Nat → Nat)} {O : Nat → Nat → Nat} {k c : Nat} {v : Option (Nat → Nat)} {u : Nat → Nat} (h : ¬ k = c) : SQ G (va_up o c v) (va_up O c u) k = SQ G o O k := by
  unfold SQ; rw [va_up_ne _ _ h, va_up_ne _ _ h]
theorem SQ_ne' {G : gT} {o : Nat → Option (Nat → Nat)} {O : Nat → Nat → Nat} {k c : Nat} {u : Nat → Nat} (h : ¬ k = c) : SQ G o (va_up O c u) k = SQ G o O k := by
  unfold SQ; rw [va_up_ne _ _ h]
theorem lgc_eq {a b : Int64} (h : a = b) : lg_cmp a b = 0 := by
  subst h; unfold lg_cmp
  rw [if_neg (Int64.lt_irrefl (a := a)), if_pos rfl]
abbrev LW (G : gT) (x q w : Nat) (a S r H g p f h : Nat → Nat) (n kn : Nat) (d T : Nat → Nat → Nat) (fo : Nat → Int64) (o : Nat → Option (Nat → Nat)) (O : Nat → Nat → Nat) (y : Nat → Nat) (t th : Nat) (s sl z hh g6 d7 : Nat → Nat) : List va_W :=
  [XB x (a 0) (r 0) (p 0) (h 0) q, DW G a S, RN G r H g, PD G p f n, HI G h kn d, HD G d T, SA G q o, MO y t kn n th, RW G (y 1) 70 s, RW G (y 2) 140 sl, RZ G (y 3) 2 z, RW G (y 4) 420 hh, RW G (y 5) 60 f, RW G (y 6) 10 g6, RW G (y 7) 32 d7, OU G w fo, SQ G o O 0, SQ G o O 1]

set_option maxHeartbeats 4000000 in
set_option maxRecDepth 100000 in
theorem lc_turnPeg {E : EE} {G : gT} {A : Nat → Prop} {Q : State → Prop} {l : Launch} {b0 L : Nat} {xs : Nat → Int32} (X : Cx E G A 7 cL_law RL wsL_law room_1 l) (hX : va_X b0 L xs (e_s E) (e_s E).heap) (hbl : b0 < (e_s E).heap.size) (hbA : ¬ A b0) (hL : L ≤ 1536) (x q w : Nat) (a r H g p f h : Nat → Nat) (n kn : Nat) (d T : Nat → Nat → Nat) (fo : Nat → Int64) (o : Nat → Option (Nat → Nat)) (O : Nat → Nat → Nat) (y : Nat → Nat) (t th : Nat) (s sl z hh g6 d7 : Nat → Nat) (kc ks i : Nat) (hI : IV s) (hkn : kn ≤ 6) (c b : Nat) (hc : c < 32) (hb : b < 10) (hu1 : xs (i + 1) = nI c) (hu2 : xs (i + 2) = nI b) (hkc : kc + 8 ≤ 604766) (hks : ks + 83 ≤ 7281805) (hi : i + 3 ≤ L) (K : V E G A 7 [XB x (a 0) (r 0) (p 0) (h 0) q, DW G a (c3 (va_up s c (s c ^^^ 2 ^ b))), RN G r H g, PD G p f n, HI G h (aM kn + 1) (aD kn d), HD G (aD kn d) (hT kn (c3 s) T), SA G q o, MO y 0 (aM kn + 1) n th, RW G (y 1) 70 (va_up s c (s c ^^^ 2 ^ b)), RW G (y 2) 140 sl, RZ G (y 3) 2 z, RW G (y 4) 420 (rcH kn s hh), RW G (y 5) 60 f, RW G (y 6) 10 g6, RW G (y 7) 32 d7, OU G w (vp_updL fo 0 (lN (bq ((c3 s) c ^^^ 2 ^ b) b))), SQ G o O 0, SQ G o O 1] kc ks Q 1602 [(0, .ref b0), (1, .ref x), (2, .ref (y 0)), (3, .ref w), (4, .int (nI i))] []) : V E G A 7 [XB x (a 0) (r 0) (p 0) (h 0) q, DW G a (c3 s), RN G r H g, PD G p f n, HI G h kn d, HD G d T, SA G q o, MO y t kn n th, RW G (y 1) 70 s, RW G (y 2) 140 sl, RZ G (y 3) 2 z, RW G (y 4) 420 hh, RW G (y 5) 60 f, RW G (y 6) 10 g6, RW G (y 7) 32 d7, OU G w fo, SQ G o O 0, SQ G o O 1] kc ks Q 200 [(0, .ref b0), (1, .ref x), (2, .ref (y 0)), (3, .ref w), (4, .int (nI i))] [] := by
  show V E G A 7 [XB x (a 0) (r 0) (p 0) (h 0) q, DW G a (c3 s), RN G r H g, PD G p f n, HI G h kn d, HD G d T, SA G q o, MO y t kn n th, RW G (y 1) 70 s, RW G (y 2) 140 sl, RZ G (y 3) 2 z, RW G (y 4) 420 hh, RW G (y 5) 60 f, RW G (y 6) 10 g6, RW G (y 7) 32 d7, OU G w fo, SQ G o O 0, SQ G o O 1] kc ks Q 200 [(0, .ref b0), (1, .ref x), (2, .ref (y 0)), (3, .ref w), (4, .int (nI i))] []
  refine V_aload_n (pc' := 201) 1 X dL_law_200 rfl rfl rfl ?_
  refine V_aload_n (pc' := 202) 0 X dL_law_201 rfl rfl rfl ?_
  refine V_iload (pc' := 204) 4 X dL_law_202 rfl rfl ?_
  refine V_iconst (pc' := 205) (nI 1) X dL_law_204 ki_1 rfl ?_
  refine V_iadd (pc' := 206) (nI (i + 1)) X dL_law_205 (nI_add _ _) rfl ?_
  refine V_sld (pc' := 207) (v := nI c) X hX hbl hbA (j := i + 1) (by omega) (by omega) hu1 dL_law_206 rfl ?_
  refine V_aload_n (pc' := 208) 0 X dL_law_207 rfl rfl rfl ?_
  refine V_iload (pc' := 210) 4 X dL_law_208 rfl rfl ?_
  refine V_iconst (pc' := 211) (nI 2) X dL_law_210 ki_2 rfl ?_
  refine V_iadd (pc' := 212) (nI (i + 2)) X dL_law_211 (nI_add _ _) rfl ?_
  refine V_sld (pc' := 213) (v := nI b) X hX hbl hbA (j := i + 2) (by omega) (by omega) hu2 dL_law_212 rfl ?_
  refine V_aload_n (pc' := 214) 3 X dL_law_213 rfl rfl rfl ?_
  refine V_callSW (pc' := 217) (As := [.ref x, .int (nI c), .int (nI b), .ref w]) (st := []) [0, 1, 4, 5, 15] [2, 3, 6, 7, 8, 9, 10, 11, 12, 13, 14, 16, 17] pm_0 X (c_L_turnPeg l G x q w a (c3 s) r H g p f h n kn d T fo hkn (IV_c3 hI) c b hc hb) rfl gL_law_L_turnPeg rfl rfl (Nat.le_of_ble_eq_true rfl) ⟨Nat.le_of_ble_eq_true rfl, Nat.le_of_ble_eq_true rfl⟩ ⟨show kc + 0 ≤ 604766 by omega, show ks + 0 ≤ 7281805 by omega⟩ dL_law_214 rfl (fun v_ u_ hp_ => ?_)
  obtain ⟨rfl, rfl⟩ := hp_
  show V E G A 7 [RN G r H g, PD G p f n, SA G q o, MO y t kn n th, RW G (y 1) 70 s, RW G (y 2) 140 sl, RZ G (y 3) 2 z, RW G (y 4) 420 hh, RW G (y 5) 60 f, RW G (y 6) 10 g6, RW G (y 7) 32 d7, SQ G o O 0, SQ G o O 1, XB x (a 0) (r 0) (p 0) (h 0) q, DW G a (va_up (c3 s) c ((c3 s) c ^^^ 2 ^ b)), HI G h (aM kn + 1) (aD kn d), HD G (aD kn d) (hT kn (c3 s) T), OU G w (vp_updL fo 0 (lN (bq ((c3 s) c ^^^ 2 ^ b) b)))] kc ks Q 217 [(0, .ref b0), (1, .ref x), (2, .ref (y 0)), (3, .ref w), (4, .int (nI i))] [.int (nI 0)]
  refine V_ord [13, 14, 0, 1, 15, 16, 2, 3, 4, 5, 6, 7, 8, 9, 10, 17, 11, 12] [XB x (a 0) (r 0) (p 0) (h 0) q, DW G a (va_up (c3 s) c ((c3 s) c ^^^ 2 ^ b)), RN G r H g, PD G p f n, HI G h (aM kn + 1) (aD kn d), HD G (aD kn d) (hT kn (c3 s) T), SA G q o, MO y t kn n th, RW G (y 1) 70 s, RW G (y 2) 140 sl, RZ G (y 3) 2 z, RW G (y 4) 420 hh, RW G (y 5) 60 f, RW G (y 6) 10 g6, RW G (y 7) 32 d7, OU G w (vp_updL fo 0 (lN (bq ((c3 s) c ^^^ 2 ^ b) b))), SQ G o O 0, SQ G o O 1] pm_1 rfl ?_
  refine V_istore (pc' := 219) [(0, .ref b0), (1, .ref x), (2, .ref (y 0)), (3, .ref w), (4, .int (nI i)), (5, .int (nI 0))] [1, 2, 3, 4, 5, 0] X dL_law_217 (Nat.le_of_ble_eq_true rfl) rfl rfl ?_
  refine V_aload_n (pc' := 220) 2 X dL_law_219 rfl rfl rfl ?_
  refine V_aload_n (pc' := 221) 0 X dL_law_220 rfl rfl rfl ?_
  refine V_iload (pc' := 223) 4 X dL_law_221 rfl rfl ?_
  refine V_iconst (pc' := 224) (nI 1) X dL_law_223 ki_1 rfl ?_
  refine V_iadd (pc' := 225) (nI (i + 1)) X dL_law_224 (nI_add _ _) rfl ?_
  refine V_sld (pc' := 226) (v := nI c) X hX hbl hbA (j := i + 1) (by omega) (by omega) hu1 dL_law_225 rfl ?_
  refine V_aload_n (pc' := 227) 0 X dL_law_226 rfl rfl rfl ?_
  refine V_iload (pc' := 229) 4 X dL_law_227 rfl rfl ?_
  refine V_iconst (pc' := 230) (nI 2) X dL_law_229 ki_2 rfl ?_
  refine V_iadd (pc' := 231) (nI (i + 2)) X dL_law_230 (nI_add _ _) rfl ?_
  refine V_sld (pc' := 232) (v := nI b) X hX hbl hbA (j := i + 2) (by omega) (by omega) hu2 dL_law_231 rfl ?_
  refine V_callV (pc' := 235) (As := [.int (nI c), .int (nI b)]) (st := []) 6 59 [7, 8, 11] [0, 1, 2, 3, 4, 5, 6, 9, 10, 12, 13, 14, 15, 16, 17] pm_2 X (c_X6_turnPeg l G y t kn n th s hI hh hkn c b hc hb) rfl gL_law_X6_turnPeg rfl (by decide) rfl rfl rfl (Nat.le_of_ble_eq_true rfl) ⟨Nat.le_of_ble_eq_true rfl, Nat.le_of_ble_eq_true rfl⟩ ⟨show kc + 0 ≤ 604766 by omega, show ks + 0 ≤ 7281805 by omega⟩ dL_law_232 rfl (fun v_ u_ hp_ => ?_)
  obtain ⟨rfl, rfl⟩ := hp_
  show V E G A 7 [XB x (a 0) (r 0) (p 0) (h 0) q, DW G a (va_up (c3 s) c ((c3 s) c ^^^ 2 ^ b)), RN G r H g, PD G p f n, HI G h (aM kn + 1) (aD kn d), HD G (aD kn d) (hT kn (c3 s) T), SA G q o, RW G (y 2) 140 sl, RZ G (y 3) 2 z, RW G (y 5) 60 f, RW G (y 6) 10 g6, RW G (y 7) 32 d7, OU G w (vp_updL fo 0 (lN (bq ((c3 s) c ^^^ 2 ^ b) b))), SQ G o O 0, SQ G o O 1, MO y 0 (aM kn + 1) n th, RW G (y 1) 70 (va_up s c (s c ^^^ 2 ^ b)), RW G (y 4) 420 (rcH kn s hh)] kc ks Q 235 [(0, .ref b0), (1, .ref x), (2, .ref (y 0)), (3, .ref w), (4, .int (nI i)), (5, .int (nI 0))] [.int (nI (bq (s c ^^^ 2 ^ b) b))]
  refine V_ord [0, 1, 2, 3, 4, 5, 6, 15, 16, 7, 8, 17, 9, 10, 11, 12, 13, 14] [XB x (a 0) (r 0) (p 0) (h 0) q, DW G a (va_up (c3 s) c ((c3 s) c ^^^ 2 ^ b)), RN G r H g, PD G p f n, HI G h (aM kn + 1) (aD kn d), HD G (aD kn d) (hT kn (c3 s) T), SA G q o, MO y 0 (aM kn + 1) n th, RW G (y 1) 70 (va_up s c (s c ^^^ 2 ^ b)), RW G (y 2) 140 sl, RZ G (y 3) 2 z, RW G (y 4) 420 (rcH kn s hh), RW G (y 5) 60 f, RW G (y 6) 10 g6, RW G (y 7) 32 d7, OU G w (vp_updL fo 0 (lN (bq ((c3 s) c ^^^ 2 ^ b) b))), SQ G o O 0, SQ G o O 1] pm_3 rfl ?_
  refine V_istore (pc' := 237) [(0, .ref b0), (1, .ref x), (2, .ref (y 0)), (3, .ref w), (4, .int (nI i)), (5, .int (nI 0)), (6, .int (nI (bq (s c ^^^ 2 ^ b) b)))] [1, 2, 3, 4, 5, 6, 0] X dL_law_235 (Nat.le_of_ble_eq_true rfl) rfl rfl ?_
  refine V_aload_n (pc' := 238) 2 X dL_law_237 rfl rfl rfl ?_
  refine V_callV (pc' := 241) (As := []) (st := []) 6 59 [7] [0, 1, 2, 3, 4, 5, 6, 8, 9, 10, 11, 12, 13, 14, 15, 16, 17] pm_4 X (c_X6_thrown l G y 0 (aM kn + 1) n th) rfl gL_law_X6_thrown rfl (by decide) rfl rfl rfl (Nat.le_of_ble_eq_true rfl) ⟨Nat.le_of_ble_eq_true rfl, Nat.le_of_ble_eq_true rfl⟩ ⟨show kc + 0 ≤ 604766 by omega, show ks + 0 ≤ 7281805 by omega⟩ dL_law_238 rfl (fun v_ u_ hp_ => ?_)
  obtain ⟨rfl, rfl⟩ := hp_
  show V E G A 7 [XB x (a 0) (r 0) (p 0) (h 0) q, DW G a (va_up (c3 s) c ((c3 s) c ^^^ 2 ^ b)), RN G r H g, PD G p f n, HI G h (aM kn + 1) (aD kn d), HD G (aD kn d) (hT kn (c3 s) T), SA G q o, RW G (y 1) 70 (va_up s c (s c ^^^ 2 ^ b)), RW G (y 2) 140 sl, RZ G (y 3) 2 z, RW G (y 4) 420 (rcH kn s hh), RW G (y 5) 60 f, RW G (y 6) 10 g6, RW G (y 7) 32 d7, OU G w (vp_updL fo 0 (lN (bq ((c3 s) c ^^^ 2 ^ b) b))), SQ G o O 0, SQ G o O 1, MO y 0 (aM kn + 1) n th] kc ks Q 241 [(0, .ref b0), (1, .ref x), (2, .ref (y 0)), (3, .ref w), (4, .int (nI i)), (5, .int (nI 0)), (6, .int (nI (bq (s c ^^^ 2 ^ b) b)))] [.int (nI 0)]
  refine V_ord [0, 1, 2, 3, 4, 5, 6, 17, 7, 8, 9, 10, 11, 12, 13, 14, 15, 16] [XB x (a 0) (r 0) (p 0) (h 0) q, DW G a (va_up (c3 s) c ((c3 s) c ^^^ 2 ^ b)), RN G r H g, PD G p f n, HI G h (aM kn + 1) (aD kn d), HD G (aD kn d) (hT kn (c3 s) T), SA G q o, MO y 0 (aM kn + 1) n th, RW G (y 1) 70 (va_up s c (s c ^^^ 2 ^ b)), RW G (y 2) 140 sl, RZ G (y 3) 2 z, RW G (y 4) 420 (rcH kn s hh), RW G (y 5) 60 f, RW G (y 6) 10 g6, RW G (y 7) 32 d7, OU G w (vp_updL fo 0 (lN (bq ((c3 s) c ^^^ 2 ^ b) b))), SQ G o O 0, SQ G o O 1] pm_5 rfl ?_
  refine V_iload (pc' := 243) 5 X dL_law_241 rfl rfl ?_
  refine V_icmp_eq (pc' := 246) (C := 0 = 0) 248 X dL_law_243 (by decide) rfl (nI_eq (by omega) (by omega)) (fun _ => ?_) (fun hz => absurd (by decide) hz)
  refine V_iload (pc' := 250) 5 X dL_law_248 rfl rfl ?_
  refine V_if_ne (pc' := 253) (C := 0 = 0) 272 X dL_law_250 (by decide) rfl (z_eq0 (by omega)) (fun hz => absurd (by decide) hz) (fun _ => ?_)
  refine V_aload_n (pc' := 254) 3 X dL_law_253 rfl rfl rfl ?_
  refine V_iconst (pc' := 255) (nI 0) X dL_law_254 ki_0 rfl ?_
  refine V_lald (pc' := 256) (v := (lN (bq ((c3 s) c ^^^ 2 ^ b) b))) 67 0 X rfl (by omega) (by decide) pk_uLs dL_law_255 rfl ?_
  refine V_iload (pc' := 258) 6 X dL_law_256 rfl rfl ?_
  refine V_if_eq (pc' := 261) (C := (bq (s c ^^^ 2 ^ b) b) = 0) 265 X dL_law_258 (by decide) rfl (z_eq0 (Nat.lt_trans (bq_lt _ _) (by decide))) (fun h258 => ?_) (fun h258 => ?_)
  · refine V_lconst (pc' := 266) (lN 0) X dL_law_265 (by decide +kernel) rfl ?_
    refine V_lcmp (pc' := 267) (lg_cmp (lN (bq ((c3 s) c ^^^ 2 ^ b) b)) (lN 0)) X dL_law_266 rfl rfl ?_
    refine V_if_eq (pc' := 270) (C := (lg_cmp (lN (bq ((c3 s) c ^^^ 2 ^ b) b)) (lN 0)) = 0) 272 X dL_law_267 (by decide) rfl Iff.rfl (fun _ => ?_) (fun hz => absurd (lgc_eq (congrArg lN (by rw [eq_peg hc]; have := bq_lt (s c ^^^ 2 ^ b) b; omega))) hz)
    refine V_goto (pc' := 1602) X dL_law_272 (by decide) ?_
    refine V_ws [XB x (a 0) (r 0) (p 0) (h 0) q, DW G a (c3 (va_up s c (s c ^^^ 2 ^ b))), RN G r H g, PD G p f n, HI G h (aM kn + 1) (aD kn d), HD G (aD kn d) (hT kn (c3 s) T), SA G q o, MO y 0 (aM kn + 1) n th, RW G (y 1) 70 (va_up s c (s c ^^^ 2 ^ b)), RW G (y 2) 140 sl, RZ G (y 3) 2 z, RW G (y 4) 420 (rcH kn s hh), RW G (y 5) 60 f, RW G (y 6) 10 g6, RW G (y 7) 32 d7, OU G w (vp_updL fo 0 (lN (bq ((c3 s) c ^^^ 2 ^ b) b))), SQ G o O 0, SQ G o O 1] (by rw [show (va_up (c3 s) c ((c3 s) c ^^^ 2 ^ b)) = c3 (va_up s c (s c ^^^ 2 ^ b)) from (by rw [c3_p hc, c3_up (by omega)])]) ?_
    refine V_lv [0, 1, 2, 3, 4] [(0, .ref b0), (1, .ref x), (2, .ref (y 0)), (3, .ref w), (4, .int (nI i))] rfl ?_
    exact K
  · refine V_lconst (pc' := 262) (lN 1) X dL_law_261 (by decide +kernel) rfl ?_
    refine V_goto (pc' := 266) X dL_law_262 (by decide) ?_
    refine V_lcmp (pc' := 267) (lg_cmp (lN (bq ((c3 s) c ^^^ 2 ^ b) b)) (lN 1)) X dL_law_266 rfl rfl ?_
    refine V_if_eq (pc' := 270) (C := (lg_cmp (lN (bq ((c3 s) c ^^^ 2 ^ b) b)) (lN 1)) = 0) 272 X dL_law_267 (by decide) rfl Iff.rfl (fun _ => ?_) (fun hz => absurd (lgc_eq (congrArg lN (by rw [eq_peg hc]; have := bq_lt (s c ^^^ 2 ^ b) b; omega))) hz)
    refine V_goto (pc' := 1602) X dL_law_272 (by decide) ?_
    refine V_ws [XB x (a 0) (r 0) (p 0) (h 0) q, DW G a (c3 (va_up s c (s c ^^^ 2 ^ b))), RN G r H g, PD G p f n, HI G h (aM kn + 1) (aD kn d), HD G (aD kn d) (hT kn (c3 s) T), SA G q o, MO y 0 (aM kn + 1) n th, RW G (y 1) 70 (va_up s c (s c ^^^ 2 ^ b)), RW G (y 2) 140 sl, RZ G (y 3) 2 z, RW G (y 4) 420 (rcH kn s hh), RW G (y 5) 60 f, RW G (y 6) 10 g6, RW G (y 7) 32 d7, OU G w (vp_updL fo 0 (lN (bq ((c3 s) c ^^^ 2 ^ b) b))), SQ G o O 0, SQ G o O 1] (by rw [show (va_up (c3 s) c ((c3 s) c ^^^ 2 ^ b)) = c3 (va_up s c (s c ^^^ 2 ^ b)) from (by rw [c3_p hc, c3_up (by omega)])]) ?_
    refine V_lv [0, 1, 2, 3, 4] [(0, .ref b0), (1, .ref x), (2, .ref (y 0)), (3, .ref w), (4, .int (nI i))] rfl ?_
    exact K

set_option maxHeartbeats 4000000 in
set_option maxRecDepth 100000 in
theorem lc_setColumn {E : EE} {G : gT} {A : Nat → Prop} {Q : State → Prop} {l : Launch} {b0 L : Nat} {xs : Nat → Int32} (X : Cx E G A 7 cL_law RL wsL_law room_1 l) (hX : va_X b0 L xs (e_s E) (e_s E).heap) (hbl : b0 < (e_s E).heap.size) (hbA : ¬ A b0) (hL : L ≤ 1536) (x q w : Nat) (a r H g p f h : Nat → Nat) (n kn : Nat) (d T : Nat → Nat → Nat) (fo : Nat → Int64) (o : Nat → Option (Nat → Nat)) (O : Nat → Nat → Nat) (y : Nat → Nat) (t th : Nat) (s sl z hh g6 d7 : Nat → Nat) (kc ks i : Nat) (hI : IV s) (hkn : kn ≤ 6) (c v : Nat) (hc : c < 32) (hv : v < 1024) (hu1 : xs (i + 1) = nI c) (hu2 : xs (i + 2) = nI v) (hkc : kc + 8 ≤ 604766) (hks : ks + 83 ≤ 7281805) (hi : i + 3 ≤ L) (K : V E G A 7 [XB x (a 0) (r 0) (p 0) (h 0) q, DW G a (c3 (va_up s c v)), RN G r H g, PD G p f n, HI G h (aM kn + 1) (aD kn d), HD G (aD kn d) (hT kn (c3 s) T), SA G q o, MO y 0 (aM kn + 1) n th, RW G (y 1) 70 (va_up s c v), RW G (y 2) 140 sl, RZ G (y 3) 2 z, RW G (y 4) 420 (rcH kn s hh), RW G (y 5) 60 f, RW G (y 6) 10 g6, RW G (y 7) 32 d7, OU G w (vp_updL fo 0 (((nI (sm (fun k => cnt (va_up (c3 s) c v k ^^^ (c3 s) k)) 32))).toInt64)), SQ G o O 0, SQ G o O 1] kc ks Q 1602 [(0, .ref b0), (1, .ref x), (2, .ref (y 0)), (3, .ref w), (4, .int (nI i))] []) : V E G A 7 [XB x (a 0) (r 0) (p 0) (h 0) q, DW G a (c3 s), RN G r H g, PD G p f n, HI G h kn d, HD G d T, SA G q o, MO y t kn n th, RW G (y 1) 70 s, RW G (y 2) 140 sl, RZ G (y 3) 2 z, RW G (y 4) 420 hh, RW G (y 5) 60 f, RW G (y 6) 10 g6, RW G (y 7) 32 d7, OU G w fo, SQ G o O 0, SQ G o O 1] kc ks Q 275 [(0, .ref b0), (1, .ref x), (2, .ref (y 0)), (3, .ref w), (4, .int (nI i))] [] := by
  show V E G A 7 [XB x (a 0) (r 0) (p 0) (h 0) q, DW G a (c3 s), RN G r H g, PD G p f n, HI G h kn d, HD G d T, SA G q o, MO y t kn n th, RW G (y 1) 70 s, RW G (y 2) 140 sl, RZ G (y 3) 2 z, RW G (y 4) 420 hh, RW G (y 5) 60 f, RW G (y 6) 10 g6, RW G (y 7) 32 d7, OU G w fo, SQ G o O 0, SQ G o O 1] kc ks Q 275 [(0, .ref b0), (1, .ref x), (2, .ref (y 0)), (3, .ref w), (4, .int (nI i))] []
  refine V_aload_n (pc' := 276) 1 X dL_law_275 rfl rfl rfl ?_
  refine V_aload_n (pc' := 277) 0 X dL_law_276 rfl rfl rfl ?_
  refine V_iload (pc' := 279) 4 X dL_law_277 rfl rfl ?_
  refine V_iconst (pc' := 280) (nI 1) X dL_law_279 ki_1 rfl ?_
  refine V_iadd (pc' := 281) (nI (i + 1)) X dL_law_280 (nI_add _ _) rfl ?_
  refine V_sld (pc' := 282) (v := nI c) X hX hbl hbA (j := i + 1) (by omega) (by omega) hu1 dL_law_281 rfl ?_
  refine V_aload_n (pc' := 283) 0 X dL_law_282 rfl rfl rfl ?_
  refine V_iload (pc' := 285) 4 X dL_law_283 rfl rfl ?_
  refine V_iconst (pc' := 286) (nI 2) X dL_law_285 ki_2 rfl ?_
  refine V_iadd (pc' := 287) (nI (i + 2)) X dL_law_286 (nI_add _ _) rfl ?_
  refine V_sld (pc' := 288) (v := nI v) X hX hbl hbA (j := i + 2) (by omega) (by omega) hu2 dL_law_287 rfl ?_
  refine V_aload_n (pc' := 289) 3 X dL_law_288 rfl rfl rfl ?_
  refine V_callSW (pc' := 292) (As := [.ref x, .int (nI c), .int (nI v), .ref w]) (st := []) [0, 1, 4, 5, 15] [2, 3, 6, 7, 8, 9, 10, 11, 12, 13, 14, 16, 17] pm_0 X (c_L_setColumn l G x q w a (c3 s) r H g p f h n kn d T fo hkn (IV_c3 hI) c v hc hv) rfl gL_law_L_setColumn rfl rfl (Nat.le_of_ble_eq_true rfl) ⟨Nat.le_of_ble_eq_true rfl, Nat.le_of_ble_eq_true rfl⟩ ⟨show kc + 0 ≤ 604766 by omega, show ks + 0 ≤ 7281805 by omega⟩ dL_law_289 rfl (fun v_ u_ hp_ => ?_)
  obtain ⟨rfl, rfl⟩ := hp_
  show V E G A 7 [RN G r H g, PD G p f n, SA G q o, MO y t kn n th, RW G (y 1) 70 s, RW G (y 2) 140 sl, RZ G (y 3) 2 z, RW G (y 4) 420 hh, RW G (y 5) 60 f, RW G (y 6) 10 g6, RW G (y 7) 32 d7, SQ G o O 0, SQ G o O 1, XB x (a 0) (r 0) (p 0) (h 0) q, DW G a (va_up (c3 s) c v), HI G h (aM kn + 1) (aD kn d), HD G (aD kn d) (hT kn (c3 s) T), OU G w (vp_updL fo 0 (((nI (sm (fun k => cnt (va_up (c3 s) c v k ^^^ (c3 s) k)) 32))).toInt64))] kc ks Q 292 [(0, .ref b0), (1, .ref x), (2, .ref (y 0)), (3, .ref w), (4, .int (nI i))] [.int (nI 0)]
  refine V_ord [13, 14, 0, 1, 15, 16, 2, 3, 4, 5, 6, 7, 8, 9, 10, 17, 11, 12] [XB x (a 0) (r 0) (p 0) (h 0) q, DW G a (va_up (c3 s) c v), RN G r H g, PD G p f n, HI G h (aM kn + 1) (aD kn d), HD G (aD kn d) (hT kn (c3 s) T), SA G q o, MO y t kn n th, RW G (y 1) 70 s, RW G (y 2) 140 sl, RZ G (y 3) 2 z, RW G (y 4) 420 hh, RW G (y 5) 60 f, RW G (y 6) 10 g6, RW G (y 7) 32 d7, OU G w (vp_updL fo 0 (((nI (sm (fun k => cnt (va_up (c3 s) c v k ^^^ (c3 s) k)) 32))).toInt64)), SQ G o O 0, SQ G o O 1] pm_1 rfl ?_
  refine V_istore (pc' := 294) [(0, .ref b0), (1, .ref x), (2, .ref (y 0)), (3, .ref w), (4, .int (nI i)), (5, .int (nI 0))] [1, 2, 3, 4, 5, 0] X dL_law_292 (Nat.le_of_ble_eq_true rfl) rfl rfl ?_
  refine V_aload_n (pc' := 295) 2 X dL_law_294 rfl rfl rfl ?_
  refine V_aload_n (pc' := 296) 0 X dL_law_295 rfl rfl rfl ?_
  refine V_iload (pc' := 298) 4 X dL_law_296 rfl rfl ?_
  refine V_iconst (pc' := 299) (nI 1) X dL_law_298 ki_1 rfl ?_
  refine V_iadd (pc' := 300) (nI (i + 1)) X dL_law_299 (nI_add _ _) rfl ?_
  refine V_sld (pc' := 301) (v := nI c) X hX hbl hbA (j := i + 1) (by omega) (by omega) hu1 dL_law_300 rfl ?_
  refine V_aload_n (pc' := 302) 0 X dL_law_301 rfl rfl rfl ?_
  refine V_iload (pc' := 304) 4 X dL_law_302 rfl rfl ?_
  refine V_iconst (pc' := 305) (nI 2) X dL_law_304 ki_2 rfl ?_
  refine V_iadd (pc' := 306) (nI (i + 2)) X dL_law_305 (nI_add _ _) rfl ?_
  refine V_sld (pc' := 307) (v := nI v) X hX hbl hbA (j := i + 2) (by omega) (by omega) hu2 dL_law_306 rfl ?_
  refine V_callV (pc' := 310) (As := [.int (nI c), .int (nI v)]) (st := []) 6 59 [7, 8, 11] [0, 1, 2, 3, 4, 5, 6, 9, 10, 12, 13, 14, 15, 16, 17] pm_2 X (c_X6_setColumn l G y t kn n th s hI hh hkn c v hc hv) rfl gL_law_X6_setColumn rfl (by decide) rfl rfl rfl (Nat.le_of_ble_eq_true rfl) ⟨Nat.le_of_ble_eq_true rfl, Nat.le_of_ble_eq_true rfl⟩ ⟨show kc + 0 ≤ 604766 by omega, show ks + 0 ≤ 7281805 by omega⟩ dL_law_307 rfl (fun v_ u_ hp_ => ?_)
  obtain ⟨rfl, rfl⟩ := hp_
  show V E G A 7 [XB x (a 0) (r 0) (p 0) (h 0) q, DW G a (va_up (c3 s) c v), RN G r H g, PD G p f n, HI G h (aM kn + 1) (aD kn d), HD G (aD kn d) (hT kn (c3 s) T), SA G q o, RW G (y 2) 140 sl, RZ G (y 3) 2 z, RW G (y 5) 60 f, RW G (y 6) 10 g6, RW G (y 7) 32 d7, OU G w (vp_updL fo 0 (((nI (sm (fun k => cnt (va_up (c3 s) c v k ^^^ (c3 s) k)) 32))).toInt64)), SQ G o O 0, SQ G o O 1, MO y 0 (aM kn + 1) n th, RW G (y 1) 70 (va_up s c v), RW G (y 4) 420 (rcH kn s hh)] kc ks Q 310 [(0, .ref b0), (1, .ref x), (2, .ref (y 0)), (3, .ref w), (4, .int (nI i)), (5, .int (nI 0))] [.int (nI (cnt (s c ^^^ v)))]
  refine V_ord [0, 1, 2, 3, 4, 5, 6, 15, 16, 7, 8, 17, 9, 10, 11, 12, 13, 14] [XB x (a 0) (r 0) (p 0) (h 0) q, DW G a (va_up (c3 s) c v), RN G r H g, PD G p f n, HI G h (aM kn + 1) (aD kn d), HD G (aD kn d) (hT kn (c3 s) T), SA G q o, MO y 0 (aM kn + 1) n th, RW G (y 1) 70 (va_up s c v), RW G (y 2) 140 sl, RZ G (y 3) 2 z, RW G (y 4) 420 (rcH kn s hh), RW G (y 5) 60 f, RW G (y 6) 10 g6, RW G (y 7) 32 d7, OU G w (vp_updL fo 0 (((nI (sm (fun k => cnt (va_up (c3 s) c v k ^^^ (c3 s) k)) 32))).toInt64)), SQ G o O 0, SQ G o O 1] pm_3 rfl ?_
  refine V_istore (pc' := 312) [(0, .ref b0), (1, .ref x), (2, .ref (y 0)), (3, .ref w), (4, .int (nI i)), (5, .int (nI 0)), (6, .int (nI (cnt (s c ^^^ v))))] [1, 2, 3, 4, 5, 6, 0] X dL_law_310 (Nat.le_of_ble_eq_true rfl) rfl rfl ?_
  refine V_aload_n (pc' := 313) 2 X dL_law_312 rfl rfl rfl ?_
  refine V_callV (pc' := 316) (As := []) (st := []) 6 59 [7] [0, 1, 2, 3, 4, 5, 6, 8, 9, 10, 11, 12, 13, 14, 15, 16, 17] pm_4 X (c_X6_thrown l G y 0 (aM kn + 1) n th) rfl gL_law_X6_thrown rfl (by decide) rfl rfl rfl (Nat.le_of_ble_eq_true rfl) ⟨Nat.le_of_ble_eq_true rfl, Nat.le_of_ble_eq_true rfl⟩ ⟨show kc + 0 ≤ 604766 by omega, show ks + 0 ≤ 7281805 by omega⟩ dL_law_313 rfl (fun v_ u_ hp_ => ?_)
  obtain ⟨rfl, rfl⟩ := hp_
  show V E G A 7 [XB x (a 0) (r 0) (p 0) (h 0) q, DW G a (va_up (c3 s) c v), RN G r H g, PD G p f n, HI G h (aM kn + 1) (aD kn d), HD G (aD kn d) (hT kn (c3 s) T), SA G q o, RW G (y 1) 70 (va_up s c v), RW G (y 2) 140 sl, RZ G (y 3) 2 z, RW G (y 4) 420 (rcH kn s hh), RW G (y 5) 60 f, RW G (y 6) 10 g6, RW G (y 7) 32 d7, OU G w (vp_updL fo 0 (((nI (sm (fun k => cnt (va_up (c3 s) c v k ^^^ (c3 s) k)) 32))).toInt64)), SQ G o O 0, SQ G o O 1, MO y 0 (aM kn + 1) n th] kc ks Q 316 [(0, .ref b0), (1, .ref x), (2, .ref (y 0)), (3, .ref w), (4, .int (nI i)), (5, .int (nI 0)), (6, .int (nI (cnt (s c ^^^ v))))] [.int (nI 0)]
  refine V_ord [0, 1, 2, 3, 4, 5, 6, 17, 7, 8, 9, 10, 11, 12, 13, 14, 15, 16] [XB x (a 0) (r 0) (p 0) (h 0) q, DW G a (va_up (c3 s) c v), RN G r H g, PD G p f n, HI G h (aM kn + 1) (aD kn d), HD G (aD kn d) (hT kn (c3 s) T), SA G q o, MO y 0 (aM kn + 1) n th, RW G (y 1) 70 (va_up s c v), RW G (y 2) 140 sl, RZ G (y 3) 2 z, RW G (y 4) 420 (rcH kn s hh), RW G (y 5) 60 f, RW G (y 6) 10 g6, RW G (y 7) 32 d7, OU G w (vp_updL fo 0 (((nI (sm (fun k => cnt (va_up (c3 s) c v k ^^^ (c3 s) k)) 32))).toInt64)), SQ G o O 0, SQ G o O 1] pm_5 rfl ?_
  refine V_iload (pc' := 318) 5 X dL_law_316 rfl rfl ?_
  refine V_icmp_eq (pc' := 321) (C := 0 = 0) 323 X dL_law_318 (by decide) rfl (nI_eq (by omega) (by omega)) (fun _ => ?_) (fun hz => absurd (by decide) hz)
  refine V_iload (pc' := 325) 5 X dL_law_323 rfl rfl ?_
  refine V_if_ne (pc' := 328) (C := 0 = 0) 340 X dL_law_325 (by decide) rfl (z_eq0 (by omega)) (fun hz => absurd (by decide) hz) (fun _ => ?_)
  refine V_aload_n (pc' := 329) 3 X dL_law_328 rfl rfl rfl ?_
  refine V_iconst (pc' := 330) (nI 0) X dL_law_329 ki_0 rfl ?_
  refine V_lald (pc' := 331) (v := (((nI (sm (fun k => cnt (va_up (c3 s) c v k ^^^ (c3 s) k)) 32))).toInt64)) 67 0 X rfl (by omega) (by decide) pk_uLs dL_law_330 rfl ?_
  refine V_iload (pc' := 333) 6 X dL_law_331 rfl rfl ?_
  refine V_i2l (pc' := 334) (((nI (cnt (s c ^^^ v)))).toInt64) X dL_law_333 rfl rfl ?_
  refine V_lcmp (pc' := 335) (lg_cmp (((nI (sm (fun k => cnt (va_up (c3 s) c v k ^^^ (c3 s) k)) 32))).toInt64) (((nI (cnt (s c ^^^ v)))).toInt64)) X dL_law_334 rfl rfl ?_
  refine V_if_eq (pc' := 338) (C := (lg_cmp (((nI (sm (fun k => cnt (va_up (c3 s) c v k ^^^ (c3 s) k)) 32))).toInt64) (((nI (cnt (s c ^^^ v)))).toInt64)) = 0) 340 X dL_law_335 (by decide) rfl Iff.rfl (fun _ => ?_) (fun hz => absurd (lgc_eq (congrArg (fun z_ => Int32.toInt64 (nI z_)) (eq_setColumn hc))) hz)
  refine V_goto (pc' := 1602) X dL_law_340 (by decide) ?_
  refine V_ws [XB x (a 0) (r 0) (p 0) (h 0) q, DW G a (c3 (va_up s c v)), RN G r H g, PD G p f n, HI G h (aM kn + 1) (aD kn d), HD G (aD kn d) (hT kn (c3 s) T), SA G q o, MO y 0 (aM kn + 1) n th, RW G (y 1) 70 (va_up s c v), RW G (y 2) 140 sl, RZ G (y 3) 2 z, RW G (y 4) 420 (rcH kn s hh), RW G (y 5) 60 f, RW G (y 6) 10 g6, RW G (y 7) 32 d7, OU G w (vp_updL fo 0 (((nI (sm (fun k => cnt (va_up (c3 s) c v k ^^^ (c3 s) k)) 32))).toInt64)), SQ G o O 0, SQ G o O 1] (by rw [show (va_up (c3 s) c v) = c3 (va_up s c v) from (c3_up (by omega))]) ?_
  refine V_lv [0, 1, 2, 3, 4] [(0, .ref b0), (1, .ref x), (2, .ref (y 0)), (3, .ref w), (4, .int (nI i))] rfl ?_
  exact K

set_option maxHeartbeats 4000000 in
set_option maxRecDepth 100000 in
theorem lc_setTempo {E : EE} {G : gT} {A : Nat → Prop} {Q : State → Prop} {l : Launch} {b0 L : Nat} {xs : Nat → Int32} (X : Cx E G A 7 cL_law RL wsL_law room_1 l) (hX : va_X b0 L xs (e_s E) (e_s E).heap) (hbl : b0 < (e_s E).heap.size) (hbA : ¬ A b0) (hL : L ≤ 1536) (x q w : Nat) (a r H g p f h : Nat → Nat) (n kn : Nat) (d T : Nat → Nat → Nat) (fo : Nat → Int64) (o : Nat → Option (Nat → Nat)) (O : Nat → Nat → Nat) (y : Nat → Nat) (t th : Nat) (s sl z hh g6 d7 : Nat → Nat) (kc ks i : Nat) (hI : IV s) (hkn : kn ≤ 6) (c v : Nat) (hc : c < 4) (hv1 : 1 ≤ v) (hv : v ≤ 9) (hu1 : xs (i + 1) = nI c) (hu2 : xs (i + 2) = nI v) (hkc : kc + 8 ≤ 604766) (hks : ks + 83 ≤ 7281805) (hi : i + 3 ≤ L) (K : V E G A 7 [XB x (a 0) (r 0) (p 0) (h 0) q, DW G a (c3 (va_up s (32 + c) v)), RN G r H g, PD G p f n, HI G h (aM kn + 1) (aD kn d), HD G (aD kn d) (hT kn (c3 s) T), SA G q o, MO y 0 (aM kn + 1) n th, RW G (y 1) 70 (va_up s (32 + c) v), RW G (y 2) 140 sl, RZ G (y 3) 2 z, RW G (y 4) 420 (rcH kn s hh), RW G (y 5) 60 f, RW G (y 6) 10 g6, RW G (y 7) 32 d7, OU G w (vp_updL fo 0 (((nI ((c3 s) (32 + c)))).toInt64)), SQ G o O 0, SQ G o O 1] kc ks Q 1602 [(0, .ref b0), (1, .ref x), (2, .ref (y 0)), (3, .ref w), (4, .int (nI i))] []) : V E G A 7 [XB x (a 0) (r 0) (p 0) (h 0) q, DW G a (c3 s), RN G r H g, PD G p f n, HI G h kn d, HD G d T, SA G q o, MO y t kn n th, RW G (y 1) 70 s, RW G (y 2) 140 sl, RZ G (y 3) 2 z, RW G (y 4) 420 hh, RW G (y 5) 60 f, RW G (y 6) 10 g6, RW G (y 7) 32 d7, OU G w fo, SQ G o O 0, SQ G o O 1] kc ks Q 343 [(0, .ref b0), (1, .ref x), (2, .ref (y 0)), (3, .ref w), (4, .int (nI i))] [] := by
  show V E G A 7 [XB x (a 0) (r 0) (p 0) (h 0) q, DW G a (c3 s), RN G r H g, PD G p f n, HI G h kn d, HD G d T, SA G q o, MO y t kn n th, RW G (y 1) 70 s, RW G (y 2) 140 sl, RZ G (y 3) 2 z, RW G (y 4) 420 hh, RW G (y 5) 60 f, RW G (y 6) 10 g6, RW G (y 7) 32 d7, OU G w fo, SQ G o O 0, SQ G o O 1] kc ks Q 343 [(0, .ref b0), (1, .ref x), (2, .ref (y 0)), (3, .ref w), (4, .int (nI i))] []
  refine V_aload_n (pc' := 344) 1 X dL_law_343 rfl rfl rfl ?_
  refine V_aload_n (pc' := 345) 0 X dL_law_344 rfl rfl rfl ?_
  refine V_iload (pc' := 347) 4 X dL_law_345 rfl rfl ?_
  refine V_iconst (pc' := 348) (nI 1) X dL_law_347 ki_1 rfl ?_
  refine V_iadd (pc' := 349) (nI (i + 1)) X dL_law_348 (nI_add _ _) rfl ?_
  refine V_sld (pc' := 350) (v := nI c) X hX hbl hbA (j := i + 1) (by omega) (by omega) hu1 dL_law_349 rfl ?_
  refine V_aload_n (pc' := 351) 0 X dL_law_350 rfl rfl rfl ?_
  refine V_iload (pc' := 353) 4 X dL_law_351 rfl rfl ?_
  refine V_iconst (pc' := 354) (nI 2) X dL_law_353 ki_2 rfl ?_
  refine V_iadd (pc' := 355) (nI (i + 2)) X dL_law_354 (nI_add _ _) rfl ?_
  refine V_sld (pc' := 356) (v := nI v) X hX hbl hbA (j := i + 2) (by omega) (by omega) hu2 dL_law_355 rfl ?_
  refine V_aload_n (pc' := 357) 3 X dL_law_356 rfl rfl rfl ?_
  refine V_callSW (pc' := 360) (As := [.ref x, .int (nI c), .int (nI v), .ref w]) (st := []) [0, 1, 4, 5, 15] [2, 3, 6, 7, 8, 9, 10, 11, 12, 13, 14, 16, 17] pm_0 X (c_L_setTempo l G x q w a (c3 s) r H g p f h n kn d T fo hkn (IV_c3 hI) c v hc hv1 hv) rfl gL_law_L_setTempo rfl rfl (Nat.le_of_ble_eq_true rfl) ⟨Nat.le_of_ble_eq_true rfl, Nat.le_of_ble_eq_true rfl⟩ ⟨show kc + 0 ≤ 604766 by omega, show ks + 0 ≤ 7281805 by omega⟩ dL_law_357 rfl (fun v_ u_ hp_ => ?_)
  obtain ⟨rfl, rfl⟩ := hp_
  show V E G A 7 [RN G r H g, PD G p f n, SA G q o, MO y t kn n th, RW G (y 1) 70 s, RW G (y 2) 140 sl, RZ G (y 3) 2 z, RW G (y 4) 420 hh, RW G (y 5) 60 f, RW G (y 6) 10 g6, RW G (y 7) 32 d7, SQ G o O 0, SQ G o O 1, XB x (a 0) (r 0) (p 0) (h 0) q, DW G a (va_up (c3 s) (32 + c) v), HI G h (aM kn + 1) (aD kn d), HD G (aD kn d) (hT kn (c3 s) T), OU G w (vp_updL fo 0 (((nI ((c3 s) (32 + c)))).toInt64))] kc ks Q 360 [(0, .ref b0), (1, .ref x), (2, .ref (y 0)), (3, .ref w), (4, .int (nI i))] [.int (nI 0)]
  refine V_ord [13, 14, 0, 1, 15, 16, 2, 3, 4, 5, 6, 7, 8, 9, 10, 17, 11, 12] [XB x (a 0) (r 0) (p 0) (h 0) q, DW G a (va_up (c3 s) (32 + c) v), RN G r H g, PD G p f n, HI G h (aM kn + 1) (aD kn d), HD G (aD kn d) (hT kn (c3 s) T), SA G q o, MO y t kn n th, RW G (y 1) 70 s, RW G (y 2) 140 sl, RZ G (y 3) 2 z, RW G (y 4) 420 hh, RW G (y 5) 60 f, RW G (y 6) 10 g6, RW G (y 7) 32 d7, OU G w (vp_updL fo 0 (((nI ((c3 s) (32 + c)))).toInt64)), SQ G o O 0, SQ G o O 1] pm_1 rfl ?_
  refine V_istore (pc' := 362) [(0, .ref b0), (1, .ref x), (2, .ref (y 0)), (3, .ref w), (4, .int (nI i)), (5, .int (nI 0))] [1, 2, 3, 4, 5, 0] X dL_law_360 (Nat.le_of_ble_eq_true rfl) rfl rfl ?_
  refine V_aload_n (pc' := 363) 2 X dL_law_362 rfl rfl rfl ?_
  refine V_aload_n (pc' := 364) 0 X dL_law_363 rfl rfl rfl ?_
  refine V_iload (pc' := 366) 4 X dL_law_364 rfl rfl ?_
  refine V_iconst (pc' := 367) (nI 1) X dL_law_366 ki_1 rfl ?_
  refine V_iadd (pc' := 368) (nI (i + 1)) X dL_law_367 (nI_add _ _) rfl ?_
  refine V_sld (pc' := 369) (v := nI c) X hX hbl hbA (j := i + 1) (by omega) (by omega) hu1 dL_law_368 rfl ?_
  refine V_aload_n (pc' := 370) 0 X dL_law_369 rfl rfl rfl ?_
  refine V_iload (pc' := 372) 4 X dL_law_370 rfl rfl ?_
  refine V_iconst (pc' := 373) (nI 2) X dL_law_372 ki_2 rfl ?_
  refine V_iadd (pc' := 374) (nI (i + 2)) X dL_law_373 (nI_add _ _) rfl ?_
  refine V_sld (pc' := 375) (v := nI v) X hX hbl hbA (j := i + 2) (by omega) (by omega) hu2 dL_law_374 rfl ?_
  refine V_callV (pc' := 378) (As := [.int (nI c), .int (nI v)]) (st := []) 6 59 [7, 8, 11] [0, 1, 2, 3, 4, 5, 6, 9, 10, 12, 13, 14, 15, 16, 17] pm_2 X (c_X6_setTempo l G y t kn n th s hI hh hkn c v (by omega) hv1 hv) rfl gL_law_X6_setTempo rfl (by decide) rfl rfl rfl (Nat.le_of_ble_eq_true rfl) ⟨Nat.le_of_ble_eq_true rfl, Nat.le_of_ble_eq_true rfl⟩ ⟨show kc + 0 ≤ 604766 by omega, show ks + 0 ≤ 7281805 by omega⟩ dL_law_375 rfl (fun v_ u_ hp_ => ?_)
  obtain ⟨rfl, rfl⟩ := hp_
  show V E G A 7 [XB x (a 0) (r 0) (p 0) (h 0) q, DW G a (va_up (c3 s) (32 + c) v), RN G r H g, PD G p f n, HI G h (aM kn + 1) (aD kn d), HD G (aD kn d) (hT kn (c3 s) T), SA G q o, RW G (y 2) 140 sl, RZ G (y 3) 2 z, RW G (y 5) 60 f, RW G (y 6) 10 g6, RW G (y 7) 32 d7, OU G w (vp_updL fo 0 (((nI ((c3 s) (32 + c)))).toInt64)), SQ G o O 0, SQ G o O 1, MO y 0 (aM kn + 1) n th, RW G (y 1) 70 (va_up s (32 + c) v), RW G (y 4) 420 (rcH kn s hh)] kc ks Q 378 [(0, .ref b0), (1, .ref x), (2, .ref (y 0)), (3, .ref w), (4, .int (nI i)), (5, .int (nI 0))] [.int (nI (s (32 + c)))]
  refine V_ord [0, 1, 2, 3, 4, 5, 6, 15, 16, 7, 8, 17, 9, 10, 11, 12, 13, 14] [XB x (a 0) (r 0) (p 0) (h 0) q, DW G a (va_up (c3 s) (32 + c) v), RN G r H g, PD G p f n, HI G h (aM kn + 1) (aD kn d), HD G (aD kn d) (hT kn (c3 s) T), SA G q o, MO y 0 (aM kn + 1) n th, RW G (y 1) 70 (va_up s (32 + c) v), RW G (y 2) 140 sl, RZ G (y 3) 2 z, RW G (y 4) 420 (rcH kn s hh), RW G (y 5) 60 f, RW G (y 6) 10 g6, RW G (y 7) 32 d7, OU G w (vp_updL fo 0 (((nI ((c3 s) (32 + c)))).toInt64)), SQ G o O 0, SQ G o O 1] pm_3 rfl ?_
  refine V_istore (pc' := 380) [(0, .ref b0), (1, .ref x), (2, .ref (y 0)), (3, .ref w), (4, .int (nI i)), (5, .int (nI 0)), (6, .int (nI (s (32 + c))))] [1, 2, 3, 4, 5, 6, 0] X dL_law_378 (Nat.le_of_ble_eq_true rfl) rfl rfl ?_
  refine V_aload_n (pc' := 381) 2 X dL_law_380 rfl rfl rfl ?_
  refine V_callV (pc' := 384) (As := []) (st := []) 6 59 [7] [0, 1, 2, 3, 4, 5, 6, 8, 9, 10, 11, 12, 13, 14, 15, 16, 17] pm_4 X (c_X6_thrown l G y 0 (aM kn + 1) n th) rfl gL_law_X6_thrown rfl (by decide) rfl rfl rfl (Nat.le_of_ble_eq_true rfl) ⟨Nat.le_of_ble_eq_true rfl, Nat.le_of_ble_eq_true rfl⟩ ⟨show kc + 0 ≤ 604766 by omega, show ks + 0 ≤ 7281805 by omega⟩ dL_law_381 rfl (fun v_ u_ hp_ => ?_)
  obtain ⟨rfl, rfl⟩ := hp_
  show V E G A 7 [XB x (a 0) (r 0) (p 0) (h 0) q, DW G a (va_up (c3 s) (32 + c) v), RN G r H g, PD G p f n, HI G h (aM kn + 1) (aD kn d), HD G (aD kn d) (hT kn (c3 s) T), SA G q o, RW G (y 1) 70 (va_up s (32 + c) v), RW G (y 2) 140 sl, RZ G (y 3) 2 z, RW G (y 4) 420 (rcH kn s hh), RW G (y 5) 60 f, RW G (y 6) 10 g6, RW G (y 7) 32 d7, OU G w (vp_updL fo 0 (((nI ((c3 s) (32 + c)))).toInt64)), SQ G o O 0, SQ G o O 1, MO y 0 (aM kn + 1) n th] kc ks Q 384 [(0, .ref b0), (1, .ref x), (2, .ref (y 0)), (3, .ref w), (4, .int (nI i)), (5, .int (nI 0)), (6, .int (nI (s (32 + c))))] [.int (nI 0)]
  refine V_ord [0, 1, 2, 3, 4, 5, 6, 17, 7, 8, 9, 10, 11, 12, 13, 14, 15, 16] [XB x (a 0) (r 0) (p 0) (h 0) q, DW G a (va_up (c3 s) (32 + c) v), RN G r H g, PD G p f n, HI G h (aM kn + 1) (aD kn d), HD G (aD kn d) (hT kn (c3 s) T), SA G q o, MO y 0 (aM kn + 1) n th, RW G (y 1) 70 (va_up s (32 + c) v), RW G (y 2) 140 sl, RZ G (y 3) 2 z, RW G (y 4) 420 (rcH kn s hh), RW G (y 5) 60 f, RW G (y 6) 10 g6, RW G (y 7) 32 d7, OU G w (vp_updL fo 0 (((nI ((c3 s) (32 + c)))).toInt64)), SQ G o O 0, SQ G o O 1] pm_5 rfl ?_
  refine V_iload (pc' := 386) 5 X dL_law_384 rfl rfl ?_
  refine V_icmp_eq (pc' := 389) (C := 0 = 0) 391 X dL_law_386 (by decide) rfl (nI_eq (by omega) (by omega)) (fun _ => ?_) (fun hz => absurd (by decide) hz)
  refine V_iload (pc' := 393) 5 X dL_law_391 rfl rfl ?_
  refine V_if_ne (pc' := 396) (C := 0 = 0) 408 X dL_law_393 (by decide) rfl (z_eq0 (by omega)) (fun hz => absurd (by decide) hz) (fun _ => ?_)
  refine V_aload_n (pc' := 397) 3 X dL_law_396 rfl rfl rfl ?_
  refine V_iconst (pc' := 398) (nI 0) X dL_law_397 ki_0 rfl ?_
  refine V_lald (pc' := 399) (v := (((nI ((c3 s) (32 + c)))).toInt64)) 67 0 X rfl (by omega) (by decide) pk_uLs dL_law_398 rfl ?_
  refine V_iload (pc' := 401) 6 X dL_law_399 rfl rfl ?_
  refine V_i2l (pc' := 402) (((nI (s (32 + c)))).toInt64) X dL_law_401 rfl rfl ?_
  refine V_lcmp (pc' := 403) (lg_cmp (((nI ((c3 s) (32 + c)))).toInt64) (((nI (s (32 + c)))).toInt64)) X dL_law_402 rfl rfl ?_
  refine V_if_eq (pc' := 406) (C := (lg_cmp (((nI ((c3 s) (32 + c)))).toInt64) (((nI (s (32 + c)))).toInt64)) = 0) 408 X dL_law_403 (by decide) rfl Iff.rfl (fun _ => ?_) (fun hz => absurd (lgc_eq (congrArg (fun z_ => Int32.toInt64 (nI z_)) (c3_o (by omega)))) hz)
  refine V_goto (pc' := 1602) X dL_law_408 (by decide) ?_
  refine V_ws [XB x (a 0) (r 0) (p 0) (h 0) q, DW G a (c3 (va_up s (32 + c) v)), RN G r H g, PD G p f n, HI G h (aM kn + 1) (aD kn d), HD G (aD kn d) (hT kn (c3 s) T), SA G q o, MO y 0 (aM kn + 1) n th, RW G (y 1) 70 (va_up s (32 + c) v), RW G (y 2) 140 sl, RZ G (y 3) 2 z, RW G (y 4) 420 (rcH kn s hh), RW G (y 5) 60 f, RW G (y 6) 10 g6, RW G (y 7) 32 d7, OU G w (vp_updL fo 0 (((nI ((c3 s) (32 + c)))).toInt64)), SQ G o O 0, SQ G o O 1] (by rw [show (va_up (c3 s) (32 + c) v) = c3 (va_up s (32 + c) v) from (c3_up (by omega))]) ?_
  refine V_lv [0, 1, 2, 3, 4] [(0, .ref b0), (1, .ref x), (2, .ref (y 0)), (3, .ref w), (4, .int (nI i))] rfl ?_
  exact K

set_option maxHeartbeats 4000000 in
set_option maxRecDepth 100000 in
theorem lc_setWeight {E : EE} {G : gT} {A : Nat → Prop} {Q : State → Prop} {l : Launch} {b0 L : Nat} {xs : Nat → Int32} (X : Cx E G A 7 cL_law RL wsL_law room_1 l) (hX : va_X b0 L xs (e_s E) (e_s E).heap) (hbl : b0 < (e_s E).heap.size) (hbA : ¬ A b0) (hL : L ≤ 1536) (x q w : Nat) (a r H g p f h : Nat → Nat) (n kn : Nat) (d T : Nat → Nat → Nat) (fo : Nat → Int64) (o : Nat → Option (Nat → Nat)) (O : Nat → Nat → Nat) (y : Nat → Nat) (t th : Nat) (s sl z hh g6 d7 : Nat → Nat) (kc ks i : Nat) (hI : IV s) (hkn : kn ≤ 6) (c v : Nat) (hc : c < 10) (hv1 : 1 ≤ v) (hv : v ≤ 60) (hu1 : xs (i + 1) = nI c) (hu2 : xs (i + 2) = nI v) (hkc : kc + 8 ≤ 604766) (hks : ks + 83 ≤ 7281805) (hi : i + 3 ≤ L) (K : V E G A 7 [XB x (a 0) (r 0) (p 0) (h 0) q, DW G a (c3 (va_up s (36 + c) v)), RN G r H g, PD G p f n, HI G h (aM kn + 1) (aD kn d), HD G (aD kn d) (hT kn (c3 s) T), SA G q o, MO y 0 (aM kn + 1) n th, RW G (y 1) 70 (va_up s (36 + c) v), RW G (y 2) 140 sl, RZ G (y 3) 2 z, RW G (y 4) 420 (rcH kn s hh), RW G (y 5) 60 f, RW G (y 6) 10 g6, RW G (y 7) 32 d7, OU G w (vp_updL fo 0 (((nI ((c3 s) (36 + c)))).toInt64)), SQ G o O 0, SQ G o O 1] kc ks Q 1602 [(0, .ref b0), (1, .ref x), (2, .ref (y 0)), (3, .ref w), (4, .int (nI i))] []) : V E G A 7 [XB x (a 0) (r 0) (p 0) (h 0) q, DW G a (c3 s), RN G r H g, PD G p f n, HI G h kn d, HD G d T, SA G q o, MO y t kn n th, RW G (y 1) 70 s, RW G (y 2) 140 sl, RZ G (y 3) 2 z, RW G (y 4) 420 hh, RW G (y 5) 60 f, RW G (y 6) 10 g6, RW G (y 7) 32 d7, OU G w fo, SQ G o O 0, SQ G o O 1] kc ks Q 411 [(0, .ref b0), (1, .ref x), (2, .ref (y 0)), (3, .ref w), (4, .int (nI i))] [] := by
  show V E G A 7 [XB x (a 0) (r 0) (p 0) (h 0) q, DW G a (c3 s), RN G r H g, PD G p f n, HI G h kn d, HD G d T, SA G q o, MO y t kn n th, RW G (y 1) 70 s, RW G (y 2) 140 sl, RZ G (y 3) 2 z, RW G (y 4) 420 hh, RW G (y 5) 60 f, RW G (y 6) 10 g6, RW G (y 7) 32 d7, OU G w fo, SQ G o O 0, SQ G o O 1] kc ks Q 411 [(0, .ref b0), (1, .ref x), (2, .ref (y 0)), (3, .ref w), (4, .int (nI i))] []
  refine V_aload_n (pc' := 412) 1 X dL_law_411 rfl rfl rfl ?_
  refine V_aload_n (pc' := 413) 0 X dL_law_412 rfl rfl rfl ?_
  refine V_iload (pc' := 415) 4 X dL_law_413 rfl rfl ?_
  refine V_iconst (pc' := 416) (nI 1) X dL_law_415 ki_1 rfl ?_
  refine V_iadd (pc' := 417) (nI (i + 1)) X dL_law_416 (nI_add _ _) rfl ?_
  refine V_sld (pc' := 418) (v := nI c) X hX hbl hbA (j := i + 1) (by omega) (by omega) hu1 dL_law_417 rfl ?_
  refine V_aload_n (pc' := 419) 0 X dL_law_418 rfl rfl rfl ?_
  refine V_iload (pc' := 421) 4 X dL_law_419 rfl rfl ?_
  refine V_iconst (pc' := 422) (nI 2) X dL_law_421 ki_2 rfl ?_
  refine V_iadd (pc' := 423) (nI (i + 2)) X dL_law_422 (nI_add _ _) rfl ?_
  refine V_sld (pc' := 424) (v := nI v) X hX hbl hbA (j := i + 2) (by omega) (by omega) hu2 dL_law_423 rfl ?_
  refine V_aload_n (pc' := 425) 3 X dL_law_424 rfl rfl rfl ?_
  refine V_callSW (pc' := 428) (As := [.ref x, .int (nI c), .int (nI v), .ref w]) (st := []) [0, 1, 4, 5, 15] [2, 3, 6, 7, 8, 9, 10, 11, 12, 13, 14, 16, 17] pm_0 X (c_L_setWeight l G x q w a (c3 s) r H g p f h n kn d T fo hkn (IV_c3 hI) c v hc hv1 hv) rfl gL_law_L_setWeight rfl rfl (Nat.le_of_ble_eq_true rfl) ⟨Nat.le_of_ble_eq_true rfl, Nat.le_of_ble_eq_true rfl⟩ ⟨show kc + 0 ≤ 604766 by omega, show ks + 0 ≤ 7281805 by omega⟩ dL_law_425 rfl (fun v_ u_ hp_ => ?_)
  obtain ⟨rfl, rfl⟩ := hp_
  show V E G A 7 [RN G r H g, PD G p f n, SA G q o, MO y t kn n th, RW G (y 1) 70 s, RW G (y 2) 140 sl, RZ G (y 3) 2 z, RW G (y 4) 420 hh, RW G (y 5) 60 f, RW G (y 6) 10 g6, RW G (y 7) 32 d7, SQ G o O 0, SQ G o O 1, XB x (a 0) (r 0) (p 0) (h 0) q, DW G a (va_up (c3 s) (36 + c) v), HI G h (aM kn + 1) (aD kn d), HD G (aD kn d) (hT kn (c3 s) T), OU G w (vp_updL fo 0 (((nI ((c3 s) (36 + c)))).toInt64))] kc ks Q 428 [(0, .ref b0), (1, .ref x), (2, .ref (y 0)), (3, .ref w), (4, .int (nI i))] [.int (nI 0)]
  refine V_ord [13, 14, 0, 1, 15, 16, 2, 3, 4, 5, 6, 7, 8, 9, 10, 17, 11, 12] [XB x (a 0) (r 0) (p 0) (h 0) q, DW G a (va_up (c3 s) (36 + c) v), RN G r H g, PD G p f n, HI G h (aM kn + 1) (aD kn d), HD G (aD kn d) (hT kn (c3 s) T), SA G q o, MO y t kn n th, RW G (y 1) 70 s, RW G (y 2) 140 sl, RZ G (y 3) 2 z, RW G (y 4) 420 hh, RW G (y 5) 60 f, RW G (y 6) 10 g6, RW G (y 7) 32 d7, OU G w (vp_updL fo 0 (((nI ((c3 s) (36 + c)))).toInt64)), SQ G o O 0, SQ G o O 1] pm_1 rfl ?_
  refine V_istore (pc' := 430) [(0, .ref b0), (1, .ref x), (2, .ref (y 0)), (3, .ref w), (4, .int (nI i)), (5, .int (nI 0))] [1, 2, 3, 4, 5, 0] X dL_law_428 (Nat.le_of_ble_eq_true rfl) rfl rfl ?_
  refine V_aload_n (pc' := 431) 2 X dL_law_430 rfl rfl rfl ?_
  refine V_aload_n (pc' := 432) 0 X dL_law_431 rfl rfl rfl ?_
  refine V_iload (pc' := 434) 4 X dL_law_432 rfl rfl ?_
  refine V_iconst (pc' := 435) (nI 1) X dL_law_434 ki_1 rfl ?_
  refine V_iadd (pc' := 436) (nI (i + 1)) X dL_law_435 (nI_add _ _) rfl ?_
  refine V_sld (pc' := 437) (v := nI c) X hX hbl hbA (j := i + 1) (by omega) (by omega) hu1 dL_law_436 rfl ?_
  refine V_aload_n (pc' := 438) 0 X dL_law_437 rfl rfl rfl ?_
  refine V_iload (pc' := 440) 4 X dL_law_438 rfl rfl ?_
  refine V_iconst (pc' := 441) (nI 2) X dL_law_440 ki_2 rfl ?_
  refine V_iadd (pc' := 442) (nI (i + 2)) X dL_law_441 (nI_add _ _) rfl ?_
  refine V_sld (pc' := 443) (v := nI v) X hX hbl hbA (j := i + 2) (by omega) (by omega) hu2 dL_law_442 rfl ?_
  refine V_callV (pc' := 446) (As := [.int (nI c), .int (nI v)]) (st := []) 6 59 [7, 8, 11] [0, 1, 2, 3, 4, 5, 6, 9, 10, 12, 13, 14, 15, 16, 17] pm_2 X (c_X6_setWeight l G y t kn n th s hI hh hkn c v (by omega) hv1 hv) rfl gL_law_X6_setWeight rfl (by decide) rfl rfl rfl (Nat.le_of_ble_eq_true rfl) ⟨Nat.le_of_ble_eq_true rfl, Nat.le_of_ble_eq_true rfl⟩ ⟨show kc + 0 ≤ 604766 by omega, show ks + 0 ≤ 7281805 by omega⟩ dL_law_443 rfl (fun v_ u_ hp_ => ?_)
  obtain ⟨rfl, rfl⟩ := hp_
  show V E G A 7 [XB x (a 0) (r 0) (p 0) (h 0) q, DW G a (va_up (c3 s) (36 + c) v), RN G r H g, PD G p f n, HI G h (aM kn + 1) (aD kn d), HD G (aD kn d) (hT kn (c3 s) T), SA G q o, RW G (y 2) 140 sl, RZ G (y 3) 2 z, RW G (y 5) 60 f, RW G (y 6) 10 g6, RW G (y 7) 32 d7, OU G w (vp_updL fo 0 (((nI ((c3 s) (36 + c)))).toInt64)), SQ G o O 0, SQ G o O 1, MO y 0 (aM kn + 1) n th, RW G (y 1) 70 (va_up s (36 + c) v), RW G (y 4) 420 (rcH kn s hh)] kc ks Q 446 [(0, .ref b0), (1, .ref x), (2, .ref (y 0)), (3, .ref w), (4, .int (nI i)), (5, .int (nI 0))] [.int (nI (s (36 + c)))]
  refine V_ord [0, 1, 2, 3, 4, 5, 6, 15, 16, 7, 8, 17, 9, 10, 11, 12, 13, 14] [XB x (a 0) (r 0) (p 0) (h 0) q, DW G a (va_up (c3 s) (36 + c) v), RN G r H g, PD G p f n, HI G h (aM kn + 1) (aD kn d), HD G (aD kn d) (hT kn (c3 s) T), SA G q o, MO y 0 (aM kn + 1) n th, RW G (y 1) 70 (va_up s (36 + c) v), RW G (y 2) 140 sl, RZ G (y 3) 2 z, RW G (y 4) 420 (rcH kn s hh), RW G (y 5) 60 f, RW G (y 6) 10 g6, RW G (y 7) 32 d7, OU G w (vp_updL fo 0 (((nI ((c3 s) (36 + c)))).toInt64)), SQ G o O 0, SQ G o O 1] pm_3 rfl ?_
  refine V_istore (pc' := 448) [(0, .ref b0), (1, .ref x), (2, .ref (y 0)), (3, .ref w), (4, .int (nI i)), (5, .int (nI 0)), (6, .int (nI (s (36 + c))))] [1, 2, 3, 4, 5, 6, 0] X dL_law_446 (Nat.le_of_ble_eq_true rfl) rfl rfl ?_
  refine V_aload_n (pc' := 449) 2 X dL_law_448 rfl rfl rfl ?_
  refine V_callV (pc' := 452) (As := []) (st := []) 6 59 [7] [0, 1, 2, 3, 4, 5, 6, 8, 9, 10, 11, 12, 13, 14, 15, 16, 17] pm_4 X (c_X6_thrown l G y 0 (aM kn + 1) n th) rfl gL_law_X6_thrown rfl (by decide) rfl rfl rfl (Nat.le_of_ble_eq_true rfl) ⟨Nat.le_of_ble_eq_true rfl, Nat.le_of_ble_eq_true rfl⟩ ⟨show kc + 0 ≤ 604766 by omega, show ks + 0 ≤ 7281805 by omega⟩ dL_law_449 rfl (fun v_ u_ hp_ => ?_)
  obtain ⟨rfl, rfl⟩ := hp_
  show V E G A 7 [XB x (a 0) (r 0) (p 0) (h 0) q, DW G a (va_up (c3 s) (36 + c) v), RN G r H g, PD G p f n, HI G h (aM kn + 1) (aD kn d), HD G (aD kn d) (hT kn (c3 s) T), SA G q o, RW G (y 1) 70 (va_up s (36 + c) v), RW G (y 2) 140 sl, RZ G (y 3) 2 z, RW G (y 4) 420 (rcH kn s hh), RW G (y 5) 60 f, RW G (y 6) 10 g6, RW G (y 7) 32 d7, OU G w (vp_updL fo 0 (((nI ((c3 s) (36 + c)))).toInt64)), SQ G o O 0, SQ G o O 1, MO y 0 (aM kn + 1) n th] kc ks Q 452 [(0, .ref b0), (1, .ref x), (2, .ref (y 0)), (3, .ref w), (4, .int (nI i)), (5, .int (nI 0)), (6, .int (nI (s (36 + c))))] [.int (nI 0)]
  refine V_ord [0, 1, 2, 3, 4, 5, 6, 17, 7, 8, 9, 10, 11, 12, 13, 14, 15, 16] [XB x (a 0) (r 0) (p 0) (h 0) q, DW G a (va_up (c3 s) (36 + c) v), RN G r H g, PD G p f n, HI G h (aM kn + 1) (aD kn d), HD G (aD kn d) (hT kn (c3 s) T), SA G q o, MO y 0 (aM kn + 1) n th, RW G (y 1) 70 (va_up s (36 + c) v), RW G (y 2) 140 sl, RZ G (y 3) 2 z, RW G (y 4) 420 (rcH kn s hh), RW G (y 5) 60 f, RW G (y 6) 10 g6, RW G (y 7) 32 d7, OU G w (vp_updL fo 0 (((nI ((c3 s) (36 + c)))).toInt64)), SQ G o O 0, SQ G o O 1] pm_5 rfl ?_
  refine V_iload (pc' := 454) 5 X dL_law_452 rfl rfl ?_
  refine V_icmp_eq (pc' := 457) (C := 0 = 0) 459 X dL_law_454 (by decide) rfl (nI_eq (by omega) (by omega)) (fun _ => ?_) (fun hz => absurd (by decide) hz)
  refine V_iload (pc' := 461) 5 X dL_law_459 rfl rfl ?_
  refine V_if_ne (pc' := 464) (C := 0 = 0) 476 X dL_law_461 (by decide) rfl (z_eq0 (by omega)) (fun hz => absurd (by decide) hz) (fun _ => ?_)
  refine V_aload_n (pc' := 465) 3 X dL_law_464 rfl rfl rfl ?_
  refine V_iconst (pc' := 466) (nI 0) X dL_law_465 ki_0 rfl ?_
  refine V_lald (pc' := 467) (v := (((nI ((c3 s) (36 + c)))).toInt64)) 67 0 X rfl (by omega) (by decide) pk_uLs dL_law_466 rfl ?_
  refine V_iload (pc' := 469) 6 X dL_law_467 rfl rfl ?_
  refine V_i2l (pc' := 470) (((nI (s (36 + c)))).toInt64) X dL_law_469 rfl rfl ?_
  refine V_lcmp (pc' := 471) (lg_cmp (((nI ((c3 s) (36 + c)))).toInt64) (((nI (s (36 + c)))).toInt64)) X dL_law_470 rfl rfl ?_
  refine V_if_eq (pc' := 474) (C := (lg_cmp (((nI ((c3 s) (36 + c)))).toInt64) (((nI (s (36 + c)))).toInt64)) = 0) 476 X dL_law_471 (by decide) rfl Iff.rfl (fun _ => ?_) (fun hz => absurd (lgc_eq (congrArg (fun z_ => Int32.toInt64 (nI z_)) (c3_o (by omega)))) hz)
  refine V_goto (pc' := 1602) X dL_law_476 (by decide) ?_
  refine V_ws [XB x (a 0) (r 0) (p 0) (h 0) q, DW G a (c3 (va_up s (36 + c) v)), RN G r H g, PD G p f n, HI G h (aM kn + 1) (aD kn d), HD G (aD kn d) (hT kn (c3 s) T), SA G q o, MO y 0 (aM kn + 1) n th, RW G (y 1) 70 (va_up s (36 + c) v), RW G (y 2) 140 sl, RZ G (y 3) 2 z, RW G (y 4) 420 (rcH kn s hh), RW G (y 5) 60 f, RW G (y 6) 10 g6, RW G (y 7) 32 d7, OU G w (vp_updL fo 0 (((nI ((c3 s) (36 + c)))).toInt64)), SQ G o O 0, SQ G o O 1] (by rw [show (va_up (c3 s) (36 + c) v) = c3 (va_up s (36 + c) v) from (c3_up (by omega))]) ?_
  refine V_lv [0, 1, 2, 3, 4] [(0, .ref b0), (1, .ref x), (2, .ref (y 0)), (3, .ref w), (4, .int (nI i))] rfl ?_
  exact K

set_option maxHeartbeats 4000000 in
set_option maxRecDepth 100000 in
theorem lc_setBound {E : EE} {G : gT} {A : Nat → Prop} {Q : State → Prop} {l : Launch} {b0 L : Nat} {xs : Nat → Int32} (X : Cx E G A 7 cL_law RL wsL_law room_1 l) (hX : va_X b0 L xs (e_s E) (e_s E).heap) (hbl : b0 < (e_s E).heap.size) (hbA : ¬ A b0) (hL : L ≤ 1536) (x q w : Nat) (a r H g p f h : Nat → Nat) (n kn : Nat) (d T : Nat → Nat → Nat) (fo : Nat → Int64) (o : Nat → Option (Nat → Nat)) (O : Nat → Nat → Nat) (y : Nat → Nat) (t th : Nat) (s sl z hh g6 d7 : Nat → Nat) (kc ks i : Nat) (hI : IV s) (hkn : kn ≤ 6) (v : Nat) (hv1 : 1 ≤ v) (hv : v ≤ 300) (hu1 : xs (i + 1) = nI v) (hkc : kc + 8 ≤ 604766) (hks : ks + 83 ≤ 7281805) (hi : i + 3 ≤ L) (K : V E G A 7 [XB x (a 0) (r 0) (p 0) (h 0) q, DW G a (c3 (va_up s 46 v)), RN G r H g, PD G p f n, HI G h (aM kn + 1) (aD kn d), HD G (aD kn d) (hT kn (c3 s) T), SA G q o, MO y 0 (aM kn + 1) n th, RW G (y 1) 70 (va_up s 46 v), RW G (y 2) 140 sl, RZ G (y 3) 2 z, RW G (y 4) 420 (rcH kn s hh), RW G (y 5) 60 f, RW G (y 6) 10 g6, RW G (y 7) 32 d7, OU G w (vp_updL fo 0 (((nI ((c3 s) 46))).toInt64)), SQ G o O 0, SQ G o O 1] kc ks Q 1602 [(0, .ref b0), (1, .ref x), (2, .ref (y 0)), (3, .ref w), (4, .int (nI i))] []) : V E G A 7 [XB x (a 0) (r 0) (p 0) (h 0) q, DW G a (c3 s), RN G r H g, PD G p f n, HI G h kn d, HD G d T, SA G q o, MO y t kn n th, RW G (y 1) 70 s, RW G (y 2) 140 sl, RZ G (y 3) 2 z, RW G (y 4) 420 hh, RW G (y 5) 60 f, RW G (y 6) 10 g6, RW G (y 7) 32 d7, OU G w fo, SQ G o O 0, SQ G o O 1] kc ks Q 479 [(0, .ref b0), (1, .ref x), (2, .ref (y 0)), (3, .ref w), (4, .int (nI i))] [] := by
  show V E G A 7 [XB x (a 0) (r 0) (p 0) (h 0) q, DW G a (c3 s), RN G r H g, PD G p f n, HI G h kn d, HD G d T, SA G q o, MO y t kn n th, RW G (y 1) 70 s, RW G (y 2) 140 sl, RZ G (y 3) 2 z, RW G (y 4) 420 hh, RW G (y 5) 60 f, RW G (y 6) 10 g6, RW G (y 7) 32 d7, OU G w fo, SQ G o O 0, SQ G o O 1] kc ks Q 479 [(0, .ref b0), (1, .ref x), (2, .ref (y 0)), (3, .ref w), (4, .int (nI i))] []
  refine V_aload_n (pc' := 480) 1 X dL_law_479 rfl rfl rfl ?_
  refine V_aload_n (pc' := 481) 0 X dL_law_480 rfl rfl rfl ?_
  refine V_iload (pc' := 483) 4 X dL_law_481 rfl rfl ?_
  refine V_iconst (pc' := 484) (nI 1) X dL_law_483 ki_1 rfl ?_
  refine V_iadd (pc' := 485) (nI (i + 1)) X dL_law_484 (nI_add _ _) rfl ?_
  refine V_sld (pc' := 486) (v := nI v) X hX hbl hbA (j := i + 1) (by omega) (by omega) hu1 dL_law_485 rfl ?_
  refine V_aload_n (pc' := 487) 3 X dL_law_486 rfl rfl rfl ?_
  refine V_callSW (pc' := 490) (As := [.ref x, .int (nI v), .ref w]) (st := []) [0, 1, 4, 5, 15] [2, 3, 6, 7, 8, 9, 10, 11, 12, 13, 14, 16, 17] pm_0 X (c_L_setBound l G x q w a (c3 s) r H g p f h n kn d T fo hkn (IV_c3 hI) v hv1 hv) rfl gL_law_L_setBound rfl rfl (Nat.le_of_ble_eq_true rfl) ⟨Nat.le_of_ble_eq_true rfl, Nat.le_of_ble_eq_true rfl⟩ ⟨show kc + 0 ≤ 604766 by omega, show ks + 0 ≤ 7281805 by omega⟩ dL_law_487 rfl (fun v_ u_ hp_ => ?_)
  obtain ⟨rfl, rfl⟩ := hp_
  show V E G A 7 [RN G r H g, PD G p f n, SA G q o, MO y t kn n th, RW G (y 1) 70 s, RW G (y 2) 140 sl, RZ G (y 3) 2 z, RW G (y 4) 420 hh, RW G (y 5) 60 f, RW G (y 6) 10 g6, RW G (y 7) 32 d7, SQ G o O 0, SQ G o O 1, XB x (a 0) (r 0) (p 0) (h 0) q, DW G a (va_up (c3 s) 46 v), HI G h (aM kn + 1) (aD kn d), HD G (aD kn d) (hT kn (c3 s) T), OU G w (vp_updL fo 0 (((nI ((c3 s) 46))).toInt64))] kc ks Q 490 [(0, .ref b0), (1, .ref x), (2, .ref (y 0)), (3, .ref w), (4, .int (nI i))] [.int (nI 0)]
  refine V_ord [13, 14, 0, 1, 15, 16, 2, 3, 4, 5, 6, 7, 8, 9, 10, 17, 11, 12] [XB x (a 0) (r 0) (p 0) (h 0) q, DW G a (va_up (c3 s) 46 v), RN G r H g, PD G p f n, HI G h (aM kn + 1) (aD kn d), HD G (aD kn d) (hT kn (c3 s) T), SA G q o, MO y t kn n th, RW G (y 1) 70 s, RW G (y 2) 140 sl, RZ G (y 3) 2 z, RW G (y 4) 420 hh, RW G (y 5) 60 f, RW G (y 6) 10 g6, RW G (y 7) 32 d7, OU G w (vp_updL fo 0 (((nI ((c3 s) 46))).toInt64)), SQ G o O 0, SQ G o O 1] pm_1 rfl ?_
  refine V_istore (pc' := 492) [(0, .ref b0), (1, .ref x), (2, .ref (y 0)), (3, .ref w), (4, .int (nI i)), (5, .int (nI 0))] [1, 2, 3, 4, 5, 0] X dL_law_490 (Nat.le_of_ble_eq_true rfl) rfl rfl ?_
  refine V_aload_n (pc' := 493) 2 X dL_law_492 rfl rfl rfl ?_
  refine V_aload_n (pc' := 494) 0 X dL_law_493 rfl rfl rfl ?_
  refine V_iload (pc' := 496) 4 X dL_law_494 rfl rfl ?_
  refine V_iconst (pc' := 497) (nI 1) X dL_law_496 ki_1 rfl ?_
  refine V_iadd (pc' := 498) (nI (i + 1)) X dL_law_497 (nI_add _ _) rfl ?_
  refine V_sld (pc' := 499) (v := nI v) X hX hbl hbA (j := i + 1) (by omega) (by omega) hu1 dL_law_498 rfl ?_
  refine V_callV (pc' := 502) (As := [.int (nI v)]) (st := []) 6 59 [7, 8, 11] [0, 1, 2, 3, 4, 5, 6, 9, 10, 12, 13, 14, 15, 16, 17] pm_2 X (c_X6_setBound l G y t kn n th s hI hh hkn v hv1 hv) rfl gL_law_X6_setBound rfl (by decide) rfl rfl rfl (Nat.le_of_ble_eq_true rfl) ⟨Nat.le_of_ble_eq_true rfl, Nat.le_of_ble_eq_true rfl⟩ ⟨show kc + 0 ≤ 604766 by omega, show ks + 0 ≤ 7281805 by omega⟩ dL_law_499 rfl (fun v_ u_ hp_ => ?_)
  obtain ⟨rfl, rfl⟩ := hp_
  show V E G A 7 [XB x (a 0) (r 0) (p 0) (h 0) q, DW G a (va_up (c3 s) 46 v), RN G r H g, PD G p f n, HI G h (aM kn + 1) (aD kn d), HD G (aD kn d) (hT kn (c3 s) T), SA G q o, RW G (y 2) 140 sl, RZ G (y 3) 2 z, RW G (y 5) 60 f, RW G (y 6) 10 g6, RW G (y 7) 32 d7, OU G w (vp_updL fo 0 (((nI ((c3 s) 46))).toInt64)), SQ G o O 0, SQ G o O 1, MO y 0 (aM kn + 1) n th, RW G (y 1) 70 (va_up s 46 v), RW G (y 4) 420 (rcH kn s hh)] kc ks Q 502 [(0, .ref b0), (1, .ref x), (2, .ref (y 0)), (3, .ref w), (4, .int (nI i)), (5, .int (nI 0))] [.int (nI (s 46))]
  refine V_ord [0, 1, 2, 3, 4, 5, 6, 15, 16, 7, 8, 17, 9, 10, 11, 12, 13, 14] [XB x (a 0) (r 0) (p 0) (h 0) q, DW G a (va_up (c3 s) 46 v), RN G r H g, PD G p f n, HI G h (aM kn + 1) (aD kn d), HD G (aD kn d) (hT kn (c3 s) T), SA G q o, MO y 0 (aM kn + 1) n th, RW G (y 1) 70 (va_up s 46 v), RW G (y 2) 140 sl, RZ G (y 3) 2 z, RW G (y 4) 420 (rcH kn s hh), RW G (y 5) 60 f, RW G (y 6) 10 g6, RW G (y 7) 32 d7, OU G w (vp_updL fo 0 (((nI ((c3 s) 46))).toInt64)), SQ G o O 0, SQ G o O 1] pm_3 rfl ?_
  refine V_istore (pc' := 504) [(0, .ref b0), (1, .ref x), (2, .ref (y 0)), (3, .ref w), (4, .int (nI i)), (5, .int (nI 0)), (6, .int (nI (s 46)))] [1, 2, 3, 4, 5, 6, 0] X dL_law_502 (Nat.le_of_ble_eq_true rfl) rfl rfl ?_
  refine V_aload_n (pc' := 505) 2 X dL_law_504 rfl rfl rfl ?_
  refine V_callV (pc' := 508) (As := []) (st := []) 6 59 [7] [0, 1, 2, 3, 4, 5, 6, 8, 9, 10, 11, 12, 13, 14, 15, 16, 17] pm_4 X (c_X6_thrown l G y 0 (aM kn + 1) n th) rfl gL_law_X6_thrown rfl (by decide) rfl rfl rfl (Nat.le_of_ble_eq_true rfl) ⟨Nat.le_of_ble_eq_true rfl, Nat.le_of_ble_eq_true rfl⟩ ⟨show kc + 0 ≤ 604766 by omega, show ks + 0 ≤ 7281805 by omega⟩ dL_law_505 rfl (fun v_ u_ hp_ => ?_)
  obtain ⟨rfl, rfl⟩ := hp_
  show V E G A 7 [XB x (a 0) (r 0) (p 0) (h 0) q, DW G a (va_up (c3 s) 46 v), RN G r H g, PD G p f n, HI G h (aM kn + 1) (aD kn d), HD G (aD kn d) (hT kn (c3 s) T), SA G q o, RW G (y 1) 70 (va_up s 46 v), RW G (y 2) 140 sl, RZ G (y 3) 2 z, RW G (y 4) 420 (rcH kn s hh), RW G (y 5) 60 f, RW G (y 6) 10 g6, RW G (y 7) 32 d7, OU G w (vp_updL fo 0 (((nI ((c3 s) 46))).toInt64)), SQ G o O 0, SQ G o O 1, MO y 0 (aM kn + 1) n th] kc ks Q 508 [(0, .ref b0), (1, .ref x), (2, .ref (y 0)), (3, .ref w), (4, .int (nI i)), (5, .int (nI 0)), (6, .int (nI (s 46)))] [.int (nI 0)]
  refine V_ord [0, 1, 2, 3, 4, 5, 6, 17, 7, 8, 9, 10, 11, 12, 13, 14, 15, 16] [XB x (a 0) (r 0) (p 0) (h 0) q, DW G a (va_up (c3 s) 46 v), RN G r H g, PD G p f n, HI G h (aM kn + 1) (aD kn d), HD G (aD kn d) (hT kn (c3 s) T), SA G q o, MO y 0 (aM kn + 1) n th, RW G (y 1) 70 (va_up s 46 v), RW G (y 2) 140 sl, RZ G (y 3) 2 z, RW G (y 4) 420 (rcH kn s hh), RW G (y 5) 60 f, RW G (y 6) 10 g6, RW G (y 7) 32 d7, OU G w (vp_updL fo 0 (((nI ((c3 s) 46))).toInt64)), SQ G o O 0, SQ G o O 1] pm_5 rfl ?_
  refine V_iload (pc' := 510) 5 X dL_law_508 rfl rfl ?_
  refine V_icmp_eq (pc' := 513) (C := 0 = 0) 515 X dL_law_510 (by decide) rfl (nI_eq (by omega) (by omega)) (fun _ => ?_) (fun hz => absurd (by decide) hz)
  refine V_iload (pc' := 517) 5 X dL_law_515 rfl rfl ?_
  refine V_if_ne (pc' := 520) (C := 0 = 0) 532 X dL_law_517 (by decide) rfl (z_eq0 (by omega)) (fun hz => absurd (by decide) hz) (fun _ => ?_)
  refine V_aload_n (pc' := 521) 3 X dL_law_520 rfl rfl rfl ?_
  refine V_iconst (pc' := 522) (nI 0) X dL_law_521 ki_0 rfl ?_
  refine V_lald (pc' := 523) (v := (((nI ((c3 s) 46))).toInt64)) 67 0 X rfl (by omega) (by decide) pk_uLs dL_law_522 rfl ?_
  refine V_iload (pc' := 525) 6 X dL_law_523 rfl rfl ?_
  refine V_i2l (pc' := 526) (((nI (s 46))).toInt64) X dL_law_525 rfl rfl ?_
  refine V_lcmp (pc' := 527) (lg_cmp (((nI ((c3 s) 46))).toInt64) (((nI (s 46))).toInt64)) X dL_law_526 rfl rfl ?_
  refine V_if_eq (pc' := 530) (C := (lg_cmp (((nI ((c3 s) 46))).toInt64) (((nI (s 46))).toInt64)) = 0) 532 X dL_law_527 (by decide) rfl Iff.rfl (fun _ => ?_) (fun hz => absurd (lgc_eq (congrArg (fun z_ => Int32.toInt64 (nI z_)) (c3_o (by decide)))) hz)
  refine V_goto (pc' := 1602) X dL_law_532 (by decide) ?_
  refine V_ws [XB x (a 0) (r 0) (p 0) (h 0) q, DW G a (c3 (va_up s 46 v)), RN G r H g, PD G p f n, HI G h (aM kn + 1) (aD kn d), HD G (aD kn d) (hT kn (c3 s) T), SA G q o, MO y 0 (aM kn + 1) n th, RW G (y 1) 70 (va_up s 46 v), RW G (y 2) 140 sl, RZ G (y 3) 2 z, RW G (y 4) 420 (rcH kn s hh), RW G (y 5) 60 f, RW G (y 6) 10 g6, RW G (y 7) 32 d7, OU G w (vp_updL fo 0 (((nI ((c3 s) 46))).toInt64)), SQ G o O 0, SQ G o O 1] (by rw [show (va_up (c3 s) 46 v) = c3 (va_up s 46 v) from (c3_up (by omega))]) ?_
  refine V_lv [0, 1, 2, 3, 4] [(0, .ref b0), (1, .ref x), (2, .ref (y 0)), (3, .ref w), (4, .int (nI i))] rfl ?_
  exact K

set_option maxHeartbeats 4000000 in
set_option maxRecDepth 100000 in
theorem lc_move {E : EE} {G : gT} {A : Nat → Prop} {Q : State → Prop} {l : Launch} {b0 L : Nat} {xs : Nat → Int32} (X : Cx E G A 7 cL_law RL wsL_law room_1 l) (hX : va_X b0 L xs (e_s E) (e_s E).heap) (hbl : b0 < (e_s E).heap.size) (hbA : ¬ A b0) (hL : L ≤ 1536) (x q w : Nat) (a r H g p f h : Nat → Nat) (n kn : Nat) (d T : Nat → Nat → Nat) (fo : Nat → Int64) (o : Nat → Option (Nat → Nat)) (O : Nat → Nat → Nat) (y : Nat → Nat) (t th : Nat) (s sl z hh g6 d7 : Nat → Nat) (kc ks i : Nat) (hI : IV s) (hkn : kn ≤ 6) (v : Nat) (hv1 : 1 ≤ v) (hv : v < 32) (hu1 : xs (i + 1) = nI v) (hkc : kc + 8 ≤ 604766) (hks : ks + 83 ≤ 7281805) (hi : i + 3 ≤ L) (K : ∀ (d8 : Nat → Nat), V E G A 7 [XB x (a 0) (r 0) (p 0) (h 0) q, DW G a (c3 (mvd v s)), RN G r H g, PD G p f n, HI G h (aM kn + 1) (aD kn d), HD G (aD kn d) (hT kn (c3 s) T), SA G q o, MO y 0 (aM kn + 1) n th, RW G (y 1) 70 (mvd v s), RW G (y 2) 140 sl, RZ G (y 3) 2 z, RW G (y 4) 420 (rcH kn s hh), RW G (y 5) 60 f, RW G (y 6) 10 g6, RW G (y 7) 32 d8, OU G w (vp_updL fo 0 (((nI (sm (fun k => cnt (mvd v (c3 s) k ^^^ (c3 s) k)) 32))).toInt64)), SQ G o O 0, SQ G o O 1] kc ks Q 1602 [(0, .ref b0), (1, .ref x), (2, .ref (y 0)), (3, .ref w), (4, .int (nI i))] []) : V E G A 7 [XB x (a 0) (r 0) (p 0) (h 0) q, DW G a (c3 s), RN G r H g, PD G p f n, HI G h kn d, HD G d T, SA G q o, MO y t kn n th, RW G (y 1) 70 s, RW G (y 2) 140 sl, RZ G (y 3) 2 z, RW G (y 4) 420 hh, RW G (y 5) 60 f, RW G (y 6) 10 g6, RW G (y 7) 32 d7, OU G w fo, SQ G o O 0, SQ G o O 1] kc ks Q 548 [(0, .ref b0), (1, .ref x), (2, .ref (y 0)), (3, .ref w), (4, .int (nI i))] [] := by
  show V E G A 7 [XB x (a 0) (r 0) (p 0) (h 0) q, DW G a (c3 s), RN G r H g, PD G p f n, HI G h kn d, HD G d T, SA G q o, MO y t kn n th, RW G (y 1) 70 s, RW G (y 2) 140 sl, RZ G (y 3) 2 z, RW G (y 4) 420 hh, RW G (y 5) 60 f, RW G (y 6) 10 g6, RW G (y 7) 32 d7, OU G w fo, SQ G o O 0, SQ G o O 1] kc ks Q 548 [(0, .ref b0), (1, .ref x), (2, .ref (y 0)), (3, .ref w), (4, .int (nI i))] []
  refine V_aload_n (pc' := 549) 1 X dL_law_548 rfl rfl rfl ?_
  refine V_aload_n (pc' := 550) 0 X dL_law_549 rfl rfl rfl ?_
  refine V_iload (pc' := 552) 4 X dL_law_550 rfl rfl ?_
  refine V_iconst (pc' := 553) (nI 1) X dL_law_552 ki_1 rfl ?_
  refine V_iadd (pc' := 554) (nI (i + 1)) X dL_law_553 (nI_add _ _) rfl ?_
  refine V_sld (pc' := 555) (v := nI v) X hX hbl hbA (j := i + 1) (by omega) (by omega) hu1 dL_law_554 rfl ?_
  refine V_aload_n (pc' := 556) 3 X dL_law_555 rfl rfl rfl ?_
  refine V_callSW (pc' := 559) (As := [.ref x, .int (nI v), .ref w]) (st := []) [0, 1, 4, 5, 15] [2, 3, 6, 7, 8, 9, 10, 11, 12, 13, 14, 16, 17] pm_0 X (c_L_move l G x q w a (c3 s) r H g p f h n kn d T fo hkn (IV_c3 hI) v hv1 hv) rfl gL_law_L_move rfl rfl (Nat.le_of_ble_eq_true rfl) ⟨Nat.le_of_ble_eq_true rfl, Nat.le_of_ble_eq_true rfl⟩ ⟨show kc + 0 ≤ 604766 by omega, show ks + 0 ≤ 7281805 by omega⟩ dL_law_556 rfl (fun v_ u_ hp_ => ?_)
  obtain ⟨rfl, rfl⟩ := hp_
  show V E G A 7 [RN G r H g, PD G p f n, SA G q o, MO y t kn n th, RW G (y 1) 70 s, RW G (y 2) 140 sl, RZ G (y 3) 2 z, RW G (y 4) 420 hh, RW G (y 5) 60 f, RW G (y 6) 10 g6, RW G (y 7) 32 d7, SQ G o O 0, SQ G o O 1, XB x (a 0) (r 0) (p 0) (h 0) q, DW G a (mvd v (c3 s)), HI G h (aM kn + 1) (aD kn d), HD G (aD kn d) (hT kn (c3 s) T), OU G w (vp_updL fo 0 (((nI (sm (fun k => cnt (mvd v (c3 s) k ^^^ (c3 s) k)) 32))).toInt64))] kc ks Q 559 [(0, .ref b0), (1, .ref x), (2, .ref (y 0)), (3, .ref w), (4, .int (nI i))] [.int (nI 0)]
  refine V_ord [13, 14, 0, 1, 15, 16, 2, 3, 4, 5, 6, 7, 8, 9, 10, 17, 11, 12] [XB x (a 0) (r 0) (p 0) (h 0) q, DW G a (mvd v (c3 s)), RN G r H g, PD G p f n, HI G h (aM kn + 1) (aD kn d), HD G (aD kn d) (hT kn (c3 s) T), SA G q o, MO y t kn n th, RW G (y 1) 70 s, RW G (y 2) 140 sl, RZ G (y 3) 2 z, RW G (y 4) 420 hh, RW G (y 5) 60 f, RW G (y 6) 10 g6, RW G (y 7) 32 d7, OU G w (vp_updL fo 0 (((nI (sm (fun k => cnt (mvd v (c3 s) k ^^^ (c3 s) k)) 32))).toInt64)), SQ G o O 0, SQ G o O 1] pm_1 rfl ?_
  refine V_istore (pc' := 561) [(0, .ref b0), (1, .ref x), (2, .ref (y 0)), (3, .ref w), (4, .int (nI i)), (5, .int (nI 0))] [1, 2, 3, 4, 5, 0] X dL_law_559 (Nat.le_of_ble_eq_true rfl) rfl rfl ?_
  refine V_aload_n (pc' := 562) 2 X dL_law_561 rfl rfl rfl ?_
  refine V_aload_n (pc' := 563) 0 X dL_law_562 rfl rfl rfl ?_
  refine V_iload (pc' := 565) 4 X dL_law_563 rfl rfl ?_
  refine V_iconst (pc' := 566) (nI 1) X dL_law_565 ki_1 rfl ?_
  refine V_iadd (pc' := 567) (nI (i + 1)) X dL_law_566 (nI_add _ _) rfl ?_
  refine V_sld (pc' := 568) (v := nI v) X hX hbl hbA (j := i + 1) (by omega) (by omega) hu1 dL_law_567 rfl ?_
  refine V_callV (pc' := 571) (As := [.int (nI v)]) (st := []) 6 59 [7, 8, 11, 14] [0, 1, 2, 3, 4, 5, 6, 9, 10, 12, 13, 15, 16, 17] pm_6 X (c_X6_move l G y t kn n th s hI hh d7 hkn v hv1 hv) rfl gL_law_X6_move rfl (by decide) rfl rfl rfl (Nat.le_of_ble_eq_true rfl) ⟨Nat.le_of_ble_eq_true rfl, Nat.le_of_ble_eq_true rfl⟩ ⟨show kc + 0 ≤ 604766 by omega, show ks + 0 ≤ 7281805 by omega⟩ dL_law_568 rfl (fun v_ u_ hp_ => ?_)
  obtain ⟨rfl, d8, rfl⟩ := hp_
  show V E G A 7 [XB x (a 0) (r 0) (p 0) (h 0) q, DW G a (mvd v (c3 s)), RN G r H g, PD G p f n, HI G h (aM kn + 1) (aD kn d), HD G (aD kn d) (hT kn (c3 s) T), SA G q o, RW G (y 2) 140 sl, RZ G (y 3) 2 z, RW G (y 5) 60 f, RW G (y 6) 10 g6, OU G w (vp_updL fo 0 (((nI (sm (fun k => cnt (mvd v (c3 s) k ^^^ (c3 s) k)) 32))).toInt64)), SQ G o O 0, SQ G o O 1, MO y 0 (aM kn + 1) n th, RW G (y 1) 70 (mvd v s), RW G (y 4) 420 (rcH kn s hh), RW G (y 7) 32 d8] kc ks Q 571 [(0, .ref b0), (1, .ref x), (2, .ref (y 0)), (3, .ref w), (4, .int (nI i)), (5, .int (nI 0))] [.int (nI (sm (fun k => cnt (mvd v s k ^^^ s k)) 32))]
  refine V_ord [0, 1, 2, 3, 4, 5, 6, 14, 15, 7, 8, 16, 9, 10, 17, 11, 12, 13] [XB x (a 0) (r 0) (p 0) (h 0) q, DW G a (mvd v (c3 s)), RN G r H g, PD G p f n, HI G h (aM kn + 1) (aD kn d), HD G (aD kn d) (hT kn (c3 s) T), SA G q o, MO y 0 (aM kn + 1) n th, RW G (y 1) 70 (mvd v s), RW G (y 2) 140 sl, RZ G (y 3) 2 z, RW G (y 4) 420 (rcH kn s hh), RW G (y 5) 60 f, RW G (y 6) 10 g6, RW G (y 7) 32 d8, OU G w (vp_updL fo 0 (((nI (sm (fun k => cnt (mvd v (c3 s) k ^^^ (c3 s) k)) 32))).toInt64)), SQ G o O 0, SQ G o O 1] pm_7 rfl ?_
  refine V_istore (pc' := 573) [(0, .ref b0), (1, .ref x), (2, .ref (y 0)), (3, .ref w), (4, .int (nI i)), (5, .int (nI 0)), (6, .int (nI (sm (fun k => cnt (mvd v s k ^^^ s k)) 32)))] [1, 2, 3, 4, 5, 6, 0] X dL_law_571 (Nat.le_of_ble_eq_true rfl) rfl rfl ?_
  refine V_aload_n (pc' := 574) 2 X dL_law_573 rfl rfl rfl ?_
  refine V_callV (pc' := 577) (As := []) (st := []) 6 59 [7] [0, 1, 2, 3, 4, 5, 6, 8, 9, 10, 11, 12, 13, 14, 15, 16, 17] pm_4 X (c_X6_thrown l G y 0 (aM kn + 1) n th) rfl gL_law_X6_thrown rfl (by decide) rfl rfl rfl (Nat.le_of_ble_eq_true rfl) ⟨Nat.le_of_ble_eq_true rfl, Nat.le_of_ble_eq_true rfl⟩ ⟨show kc + 0 ≤ 604766 by omega, show ks + 0 ≤ 7281805 by omega⟩ dL_law_574 rfl (fun v_ u_ hp_ => ?_)
  obtain ⟨rfl, rfl⟩ := hp_
  show V E G A 7 [XB x (a 0) (r 0) (p 0) (h 0) q, DW G a (mvd v (c3 s)), RN G r H g, PD G p f n, HI G h (aM kn + 1) (aD kn d), HD G (aD kn d) (hT kn (c3 s) T), SA G q o, RW G (y 1) 70 (mvd v s), RW G (y 2) 140 sl, RZ G (y 3) 2 z, RW G (y 4) 420 (rcH kn s hh), RW G (y 5) 60 f, RW G (y 6) 10 g6, RW G (y 7) 32 d8, OU G w (vp_updL fo 0 (((nI (sm (fun k => cnt (mvd v (c3 s) k ^^^ (c3 s) k)) 32))).toInt64)), SQ G o O 0, SQ G o O 1, MO y 0 (aM kn + 1) n th] kc ks Q 577 [(0, .ref b0), (1, .ref x), (2, .ref (y 0)), (3, .ref w), (4, .int (nI i)), (5, .int (nI 0)), (6, .int (nI (sm (fun k => cnt (mvd v s k ^^^ s k)) 32)))] [.int (nI 0)]
  refine V_ord [0, 1, 2, 3, 4, 5, 6, 17, 7, 8, 9, 10, 11, 12, 13, 14, 15, 16] [XB x (a 0) (r 0) (p 0) (h 0) q, DW G a (mvd v (c3 s)), RN G r H g, PD G p f n, HI G h (aM kn + 1) (aD kn d), HD G (aD kn d) (hT kn (c3 s) T), SA G q o, MO y 0 (aM kn + 1) n th, RW G (y 1) 70 (mvd v s), RW G (y 2) 140 sl, RZ G (y 3) 2 z, RW G (y 4) 420 (rcH kn s hh), RW G (y 5) 60 f, RW G (y 6) 10 g6, RW G (y 7) 32 d8, OU G w (vp_updL fo 0 (((nI (sm (fun k => cnt (mvd v (c3 s) k ^^^ (c3 s) k)) 32))).toInt64)), SQ G o O 0, SQ G o O 1] pm_5 rfl ?_
  refine V_iload (pc' := 579) 5 X dL_law_577 rfl rfl ?_
  refine V_icmp_eq (pc' := 582) (C := 0 = 0) 584 X dL_law_579 (by decide) rfl (nI_eq (by omega) (by omega)) (fun _ => ?_) (fun hz => absurd (by decide) hz)
  refine V_iload (pc' := 586) 5 X dL_law_584 rfl rfl ?_
  refine V_if_ne (pc' := 589) (C := 0 = 0) 601 X dL_law_586 (by decide) rfl (z_eq0 (by omega)) (fun hz => absurd (by decide) hz) (fun _ => ?_)
  refine V_aload_n (pc' := 590) 3 X dL_law_589 rfl rfl rfl ?_
  refine V_iconst (pc' := 591) (nI 0) X dL_law_590 ki_0 rfl ?_
  refine V_lald (pc' := 592) (v := (((nI (sm (fun k => cnt (mvd v (c3 s) k ^^^ (c3 s) k)) 32))).toInt64)) 67 0 X rfl (by omega) (by decide) pk_uLs dL_law_591 rfl ?_
  refine V_iload (pc' := 594) 6 X dL_law_592 rfl rfl ?_
  refine V_i2l (pc' := 595) (((nI (sm (fun k => cnt (mvd v s k ^^^ s k)) 32))).toInt64) X dL_law_594 rfl rfl ?_
  refine V_lcmp (pc' := 596) (lg_cmp (((nI (sm (fun k => cnt (mvd v (c3 s) k ^^^ (c3 s) k)) 32))).toInt64) (((nI (sm (fun k => cnt (mvd v s k ^^^ s k)) 32))).toInt64)) X dL_law_595 rfl rfl ?_
  refine V_if_eq (pc' := 599) (C := (lg_cmp (((nI (sm (fun k => cnt (mvd v (c3 s) k ^^^ (c3 s) k)) 32))).toInt64) (((nI (sm (fun k => cnt (mvd v s k ^^^ s k)) 32))).toInt64)) = 0) 601 X dL_law_596 (by decide) rfl Iff.rfl (fun _ => ?_) (fun hz => absurd (lgc_eq (congrArg (fun z_ => Int32.toInt64 (nI z_)) (eq_move v s))) hz)
  refine V_goto (pc' := 1602) X dL_law_601 (by decide) ?_
  refine V_ws [XB x (a 0) (r 0) (p 0) (h 0) q, DW G a (c3 (mvd v s)), RN G r H g, PD G p f n, HI G h (aM kn + 1) (aD kn d), HD G (aD kn d) (hT kn (c3 s) T), SA G q o, MO y 0 (aM kn + 1) n th, RW G (y 1) 70 (mvd v s), RW G (y 2) 140 sl, RZ G (y 3) 2 z, RW G (y 4) 420 (rcH kn s hh), RW G (y 5) 60 f, RW G (y 6) 10 g6, RW G (y 7) 32 d8, OU G w (vp_updL fo 0 (((nI (sm (fun k => cnt (mvd v (c3 s) k ^^^ (c3 s) k)) 32))).toInt64)), SQ G o O 0, SQ G o O 1] (by rw [show (mvd v (c3 s)) = c3 (mvd v s) from (mvd_c3 v s)]) ?_
  refine V_lv [0, 1, 2, 3, 4] [(0, .ref b0), (1, .ref x), (2, .ref (y 0)), (3, .ref w), (4, .int (nI i))] rfl ?_
  exact K d8

set_option maxHeartbeats 4000000 in
set_option maxRecDepth 100000 in
theorem lc_crank {E : EE} {G : gT} {A : Nat → Prop} {Q : State → Prop} {l : Launch} {b0 L : Nat} {xs : Nat → Int32} (X : Cx E G A 7 cL_law RL wsL_law room_1 l) (hX : va_X b0 L xs (e_s E) (e_s E).heap) (hbl : b0 < (e_s E).heap.size) (hbA : ¬ A b0) (hL : L ≤ 1536) (x q w : Nat) (a r H g p f h : Nat → Nat) (n kn : Nat) (d T : Nat → Nat → Nat) (fo : Nat → Int64) (o : Nat → Option (Nat → Nat)) (O : Nat → Nat → Nat) (y : Nat → Nat) (t th : Nat) (s sl z hh g6 d7 : Nat → Nat) (kc ks i : Nat) (hI : IV s) (hkn : kn ≤ 6) (v : Nat) (hv1 : 1 ≤ v) (hv : v ≤ 200) (hu1 : xs (i + 1) = nI v) (hkc : kc + 8 ≤ 604766) (hks : ks + 83 ≤ 7281805) (hi : i + 3 ≤ L) (K : V E G A 7 [XB x (a 0) (r 0) (p 0) (h 0) q, DW G a (c3 (stkN 9 s v)), RN G r H g, PD G p f n, HI G h (aM kn + 1) (aD kn d), HD G (aD kn d) (hT kn (c3 s) T), SA G q o, MO y 0 (aM kn + 1) n th, RW G (y 1) 70 (stkN 9 s v), RW G (y 2) 140 sl, RZ G (y 3) 2 z, RW G (y 4) 420 (rcH kn s hh), RW G (y 5) 60 f, RW G (y 6) 10 g6, RW G (y 7) 32 d7, OU G w (vp_updL fo 0 (((nI (stkN 3 (c3 s) v 70 - (c3 s) 70))).toInt64)), SQ G o O 0, SQ G o O 1] kc ks Q 1602 [(0, .ref b0), (1, .ref x), (2, .ref (y 0)), (3, .ref w), (4, .int (nI i))] []) : V E G A 7 [XB x (a 0) (r 0) (p 0) (h 0) q, DW G a (c3 s), RN G r H g, PD G p f n, HI G h kn d, HD G d T, SA G q o, MO y t kn n th, RW G (y 1) 70 s, RW G (y 2) 140 sl, RZ G (y 3) 2 z, RW G (y 4) 420 hh, RW G (y 5) 60 f, RW G (y 6) 10 g6, RW G (y 7) 32 d7, OU G w fo, SQ G o O 0, SQ G o O 1] kc ks Q 617 [(0, .ref b0), (1, .ref x), (2, .ref (y 0)), (3, .ref w), (4, .int (nI i))] [] := by
  show V E G A 7 [XB x (a 0) (r 0) (p 0) (h 0) q, DW G a (c3 s), RN G r H g, PD G p f n, HI G h kn d, HD G d T, SA G q o, MO y t kn n th, RW G (y 1) 70 s, RW G (y 2) 140 sl, RZ G (y 3) 2 z, RW G (y 4) 420 hh, RW G (y 5) 60 f, RW G (y 6) 10 g6, RW G (y 7) 32 d7, OU G w fo, SQ G o O 0, SQ G o O 1] kc ks Q 617 [(0, .ref b0), (1, .ref x), (2, .ref (y 0)), (3, .ref w), (4, .int (nI i))] []
  refine V_aload_n (pc' := 618) 1 X dL_law_617 rfl rfl rfl ?_
  refine V_aload_n (pc' := 619) 0 X dL_law_618 rfl rfl rfl ?_
  refine V_iload (pc' := 621) 4 X dL_law_619 rfl rfl ?_
  refine V_iconst (pc' := 622) (nI 1) X dL_law_621 ki_1 rfl ?_
  refine V_iadd (pc' := 623) (nI (i + 1)) X dL_law_622 (nI_add _ _) rfl ?_
  refine V_sld (pc' := 624) (v := nI v) X hX hbl hbA (j := i + 1) (by omega) (by omega) hu1 dL_law_623 rfl ?_
  refine V_aload_n (pc' := 625) 3 X dL_law_624 rfl rfl rfl ?_
  refine V_callSW (pc' := 628) (As := [.ref x, .int (nI v), .ref w]) (st := []) [0, 1, 4, 5, 15] [2, 3, 6, 7, 8, 9, 10, 11, 12, 13, 14, 16, 17] pm_0 X (c_L_crank l G x q w a (c3 s) r H g p f h n kn d T fo hkn (IV_c3 hI) v hv1 hv) rfl gL_law_L_crank rfl rfl (Nat.le_of_ble_eq_true rfl) ⟨Nat.le_of_ble_eq_true rfl, Nat.le_of_ble_eq_true rfl⟩ ⟨show kc + 0 ≤ 604766 by omega, show ks + 0 ≤ 7281805 by omega⟩ dL_law_625 rfl (fun v_ u_ hp_ => ?_)
  obtain ⟨rfl, rfl⟩ := hp_
  show V E G A 7 [RN G r H g, PD G p f n, SA G q o, MO y t kn n th, RW G (y 1) 70 s, RW G (y 2) 140 sl, RZ G (y 3) 2 z, RW G (y 4) 420 hh, RW G (y 5) 60 f, RW G (y 6) 10 g6, RW G (y 7) 32 d7, SQ G o O 0, SQ G o O 1, XB x (a 0) (r 0) (p 0) (h 0) q, DW G a (stkN 3 (c3 s) v), HI G h (aM kn + 1) (aD kn d), HD G (aD kn d) (hT kn (c3 s) T), OU G w (vp_updL fo 0 (((nI (stkN 3 (c3 s) v 70 - (c3 s) 70))).toInt64))] kc ks Q 628 [(0, .ref b0), (1, .ref x), (2, .ref (y 0)), (3, .ref w), (4, .int (nI i))] [.int (nI 0)]
  refine V_ord [13, 14, 0, 1, 15, 16, 2, 3, 4, 5, 6, 7, 8, 9, 10, 17, 11, 12] [XB x (a 0) (r 0) (p 0) (h 0) q, DW G a (stkN 3 (c3 s) v), RN G r H g, PD G p f n, HI G h (aM kn + 1) (aD kn d), HD G (aD kn d) (hT kn (c3 s) T), SA G q o, MO y t kn n th, RW G (y 1) 70 s, RW G (y 2) 140 sl, RZ G (y 3) 2 z, RW G (y 4) 420 hh, RW G (y 5) 60 f, RW G (y 6) 10 g6, RW G (y 7) 32 d7, OU G w (vp_updL fo 0 (((nI (stkN 3 (c3 s) v 70 - (c3 s) 70))).toInt64)), SQ G o O 0, SQ G o O 1] pm_1 rfl ?_
  refine V_istore (pc' := 630) [(0, .ref b0), (1, .ref x), (2, .ref (y 0)), (3, .ref w), (4, .int (nI i)), (5, .int (nI 0))] [1, 2, 3, 4, 5, 0] X dL_law_628 (Nat.le_of_ble_eq_true rfl) rfl rfl ?_
  refine V_aload_n (pc' := 631) 2 X dL_law_630 rfl rfl rfl ?_
  refine V_aload_n (pc' := 632) 0 X dL_law_631 rfl rfl rfl ?_
  refine V_iload (pc' := 634) 4 X dL_law_632 rfl rfl ?_
  refine V_iconst (pc' := 635) (nI 1) X dL_law_634 ki_1 rfl ?_
  refine V_iadd (pc' := 636) (nI (i + 1)) X dL_law_635 (nI_add _ _) rfl ?_
  refine V_sld (pc' := 637) (v := nI v) X hX hbl hbA (j := i + 1) (by omega) (by omega) hu1 dL_law_636 rfl ?_
  refine V_callV (pc' := 640) (As := [.int (nI v)]) (st := []) 6 59 [7, 8, 11] [0, 1, 2, 3, 4, 5, 6, 9, 10, 12, 13, 14, 15, 16, 17] pm_2 X (c_X6_crank l G y t kn n th s hI hh hkn v hv1 hv) rfl gL_law_X6_crank rfl (by decide) rfl rfl rfl (Nat.le_of_ble_eq_true rfl) ⟨Nat.le_of_ble_eq_true rfl, Nat.le_of_ble_eq_true rfl⟩ ⟨show kc + 0 ≤ 604766 by omega, show ks + 0 ≤ 7281805 by omega⟩ dL_law_637 rfl (fun v_ u_ hp_ => ?_)
  obtain ⟨rfl, rfl⟩ := hp_
  show V E G A 7 [XB x (a 0) (r 0) (p 0) (h 0) q, DW G a (stkN 3 (c3 s) v), RN G r H g, PD G p f n, HI G h (aM kn + 1) (aD kn d), HD G (aD kn d) (hT kn (c3 s) T), SA G q o, RW G (y 2) 140 sl, RZ G (y 3) 2 z, RW G (y 5) 60 f, RW G (y 6) 10 g6, RW G (y 7) 32 d7, OU G w (vp_updL fo 0 (((nI (stkN 3 (c3 s) v 70 - (c3 s) 70))).toInt64)), SQ G o O 0, SQ G o O 1, MO y 0 (aM kn + 1) n th, RW G (y 1) 70 (stkN 9 s v), RW G (y 4) 420 (rcH kn s hh)] kc ks Q 640 [(0, .ref b0), (1, .ref x), (2, .ref (y 0)), (3, .ref w), (4, .int (nI i)), (5, .int (nI 0))] [.int (nI (stkN 9 s v 70 - s 70))]
  refine V_ord [0, 1, 2, 3, 4, 5, 6, 15, 16, 7, 8, 17, 9, 10, 11, 12, 13, 14] [XB x (a 0) (r 0) (p 0) (h 0) q, DW G a (stkN 3 (c3 s) v), RN G r H g, PD G p f n, HI G h (aM kn + 1) (aD kn d), HD G (aD kn d) (hT kn (c3 s) T), SA G q o, MO y 0 (aM kn + 1) n th, RW G (y 1) 70 (stkN 9 s v), RW G (y 2) 140 sl, RZ G (y 3) 2 z, RW G (y 4) 420 (rcH kn s hh), RW G (y 5) 60 f, RW G (y 6) 10 g6, RW G (y 7) 32 d7, OU G w (vp_updL fo 0 (((nI (stkN 3 (c3 s) v 70 - (c3 s) 70))).toInt64)), SQ G o O 0, SQ G o O 1] pm_3 rfl ?_
  refine V_istore (pc' := 642) [(0, .ref b0), (1, .ref x), (2, .ref (y 0)), (3, .ref w), (4, .int (nI i)), (5, .int (nI 0)), (6, .int (nI (stkN 9 s v 70 - s 70)))] [1, 2, 3, 4, 5, 6, 0] X dL_law_640 (Nat.le_of_ble_eq_true rfl) rfl rfl ?_
  refine V_aload_n (pc' := 643) 2 X dL_law_642 rfl rfl rfl ?_
  refine V_callV (pc' := 646) (As := []) (st := []) 6 59 [7] [0, 1, 2, 3, 4, 5, 6, 8, 9, 10, 11, 12, 13, 14, 15, 16, 17] pm_4 X (c_X6_thrown l G y 0 (aM kn + 1) n th) rfl gL_law_X6_thrown rfl (by decide) rfl rfl rfl (Nat.le_of_ble_eq_true rfl) ⟨Nat.le_of_ble_eq_true rfl, Nat.le_of_ble_eq_true rfl⟩ ⟨show kc + 0 ≤ 604766 by omega, show ks + 0 ≤ 7281805 by omega⟩ dL_law_643 rfl (fun v_ u_ hp_ => ?_)
  obtain ⟨rfl, rfl⟩ := hp_
  show V E G A 7 [XB x (a 0) (r 0) (p 0) (h 0) q, DW G a (stkN 3 (c3 s) v), RN G r H g, PD G p f n, HI G h (aM kn + 1) (aD kn d), HD G (aD kn d) (hT kn (c3 s) T), SA G q o, RW G (y 1) 70 (stkN 9 s v), RW G (y 2) 140 sl, RZ G (y 3) 2 z, RW G (y 4) 420 (rcH kn s hh), RW G (y 5) 60 f, RW G (y 6) 10 g6, RW G (y 7) 32 d7, OU G w (vp_updL fo 0 (((nI (stkN 3 (c3 s) v 70 - (c3 s) 70))).toInt64)), SQ G o O 0, SQ G o O 1, MO y 0 (aM kn + 1) n th] kc ks Q 646 [(0, .ref b0), (1, .ref x), (2, .ref (y 0)), (3, .ref w), (4, .int (nI i)), (5, .int (nI 0)), (6, .int (nI (stkN 9 s v 70 - s 70)))] [.int (nI 0)]
  refine V_ord [0, 1, 2, 3, 4, 5, 6, 17, 7, 8, 9, 10, 11, 12, 13, 14, 15, 16] [XB x (a 0) (r 0) (p 0) (h 0) q, DW G a (stkN 3 (c3 s) v), RN G r H g, PD G p f n, HI G h (aM kn + 1) (aD kn d), HD G (aD kn d) (hT kn (c3 s) T), SA G q o, MO y 0 (aM kn + 1) n th, RW G (y 1) 70 (stkN 9 s v), RW G (y 2) 140 sl, RZ G (y 3) 2 z, RW G (y 4) 420 (rcH kn s hh), RW G (y 5) 60 f, RW G (y 6) 10 g6, RW G (y 7) 32 d7, OU G w (vp_updL fo 0 (((nI (stkN 3 (c3 s) v 70 - (c3 s) 70))).toInt64)), SQ G o O 0, SQ G o O 1] pm_5 rfl ?_
  refine V_iload (pc' := 648) 5 X dL_law_646 rfl rfl ?_
  refine V_icmp_eq (pc' := 651) (C := 0 = 0) 653 X dL_law_648 (by decide) rfl (nI_eq (by omega) (by omega)) (fun _ => ?_) (fun hz => absurd (by decide) hz)
  refine V_iload (pc' := 655) 5 X dL_law_653 rfl rfl ?_
  refine V_if_ne (pc' := 658) (C := 0 = 0) 670 X dL_law_655 (by decide) rfl (z_eq0 (by omega)) (fun hz => absurd (by decide) hz) (fun _ => ?_)
  refine V_aload_n (pc' := 659) 3 X dL_law_658 rfl rfl rfl ?_
  refine V_iconst (pc' := 660) (nI 0) X dL_law_659 ki_0 rfl ?_
  refine V_lald (pc' := 661) (v := (((nI (stkN 3 (c3 s) v 70 - (c3 s) 70))).toInt64)) 67 0 X rfl (by omega) (by decide) pk_uLs dL_law_660 rfl ?_
  refine V_iload (pc' := 663) 6 X dL_law_661 rfl rfl ?_
  refine V_i2l (pc' := 664) (((nI (stkN 9 s v 70 - s 70))).toInt64) X dL_law_663 rfl rfl ?_
  refine V_lcmp (pc' := 665) (lg_cmp (((nI (stkN 3 (c3 s) v 70 - (c3 s) 70))).toInt64) (((nI (stkN 9 s v 70 - s 70))).toInt64)) X dL_law_664 rfl rfl ?_
  refine V_if_eq (pc' := 668) (C := (lg_cmp (((nI (stkN 3 (c3 s) v 70 - (c3 s) 70))).toInt64) (((nI (stkN 9 s v 70 - s 70))).toInt64)) = 0) 670 X dL_law_665 (by decide) rfl Iff.rfl (fun _ => ?_) (fun hz => absurd (lgc_eq (congrArg (fun z_ => Int32.toInt64 (nI z_)) (eq_crank hI v))) hz)
  refine V_goto (pc' := 1602) X dL_law_670 (by decide) ?_
  refine V_ws [XB x (a 0) (r 0) (p 0) (h 0) q, DW G a (c3 (stkN 9 s v)), RN G r H g, PD G p f n, HI G h (aM kn + 1) (aD kn d), HD G (aD kn d) (hT kn (c3 s) T), SA G q o, MO y 0 (aM kn + 1) n th, RW G (y 1) 70 (stkN 9 s v), RW G (y 2) 140 sl, RZ G (y 3) 2 z, RW G (y 4) 420 (rcH kn s hh), RW G (y 5) 60 f, RW G (y 6) 10 g6, RW G (y 7) 32 d7, OU G w (vp_updL fo 0 (((nI (stkN 3 (c3 s) v 70 - (c3 s) 70))).toInt64)), SQ G o O 0, SQ G o O 1] (by rw [show (stkN 3 (c3 s) v) = c3 (stkN 9 s v) from (stkN_c3 hI v)]) ?_
  refine V_lv [0, 1, 2, 3, 4] [(0, .ref b0), (1, .ref x), (2, .ref (y 0)), (3, .ref w), (4, .int (nI i))] rfl ?_
  exact K

set_option maxHeartbeats 4000000 in
set_option maxRecDepth 100000 in
theorem lc_read {E : EE} {G : gT} {A : Nat → Prop} {Q : State → Prop} {l : Launch} {b0 L : Nat} {xs : Nat → Int32} (X : Cx E G A 7 cL_law RL wsL_law room_1 l) (hX : va_X b0 L xs (e_s E) (e_s E).heap) (hbl : b0 < (e_s E).heap.size) (hbA : ¬ A b0) (hL : L ≤ 1536) (x q w : Nat) (a r H g p f h : Nat → Nat) (n kn : Nat) (d T : Nat → Nat → Nat) (fo : Nat → Int64) (o : Nat → Option (Nat → Nat)) (O : Nat → Nat → Nat) (y : Nat → Nat) (t th : Nat) (s sl z hh g6 d7 : Nat → Nat) (kc ks i : Nat) (hI : IV s) (hkn : kn ≤ 6) (hn : n ≤ 60) (hf : ∀ k, k < n → f k < 128) (hv : ff f n = none) (hkc : kc + 8 ≤ 604766) (hks : ks + 83 ≤ 7281805) (hi : i + 3 ≤ L) (K : V E G A 7 [XB x (a 0) (r 0) (p 0) (h 0) q, DW G a (c3 ((rdS 9 f n s (n + 1)).1)), RN G r H g, PD G p f 0, HI G h (aM kn + 1) (aD kn d), HD G (aD kn d) (hT kn (c3 s) T), SA G q o, MO y 0 (aM kn + 1) 0 th, RW G (y 1) 70 ((rdS 9 f n s (n + 1)).1), RW G (y 2) 140 sl, RZ G (y 3) 2 z, RW G (y 4) 420 (rcH kn s hh), RW G (y 5) 60 f, RW G (y 6) 10 g6, RW G (y 7) 32 d7, OU G w (vp_updL fo 0 (((nI (rdS 3 f n (c3 s) (n + 1)).2.2)).toInt64)), SQ G o O 0, SQ G o O 1] kc ks Q 1602 [(0, .ref b0), (1, .ref x), (2, .ref (y 0)), (3, .ref w), (4, .int (nI i))] []) : V E G A 7 [XB x (a 0) (r 0) (p 0) (h 0) q, DW G a (c3 s), RN G r H g, PD G p f n, HI G h kn d, HD G d T, SA G q o, MO y t kn n th, RW G (y 1) 70 s, RW G (y 2) 140 sl, RZ G (y 3) 2 z, RW G (y 4) 420 hh, RW G (y 5) 60 f, RW G (y 6) 10 g6, RW G (y 7) 32 d7, OU G w fo, SQ G o O 0, SQ G o O 1] kc ks Q 686 [(0, .ref b0), (1, .ref x), (2, .ref (y 0)), (3, .ref w), (4, .int (nI i))] [] := by
  show V E G A 7 [XB x (a 0) (r 0) (p 0) (h 0) q, DW G a (c3 s), RN G r H g, PD G p f n, HI G h kn d, HD G d T, SA G q o, MO y t kn n th, RW G (y 1) 70 s, RW G (y 2) 140 sl, RZ G (y 3) 2 z, RW G (y 4) 420 hh, RW G (y 5) 60 f, RW G (y 6) 10 g6, RW G (y 7) 32 d7, OU G w fo, SQ G o O 0, SQ G o O 1] kc ks Q 686 [(0, .ref b0), (1, .ref x), (2, .ref (y 0)), (3, .ref w), (4, .int (nI i))] []
  refine V_aload_n (pc' := 687) 1 X dL_law_686 rfl rfl rfl ?_
  refine V_aload_n (pc' := 688) 3 X dL_law_687 rfl rfl rfl ?_
  refine V_callSW (pc' := 691) (As := [.ref x, .ref w]) (st := []) [0, 1, 3, 4, 5, 15] [2, 6, 7, 8, 9, 10, 11, 12, 13, 14, 16, 17] pm_8 X (c_L_read l G x q w a (c3 s) r H g p f h n kn d T fo hkn (IV_c3 hI) hn hf hv) rfl gL_law_L_read rfl rfl (Nat.le_of_ble_eq_true rfl) ⟨Nat.le_of_ble_eq_true rfl, Nat.le_of_ble_eq_true rfl⟩ ⟨show kc + 0 ≤ 604766 by omega, show ks + 0 ≤ 7281805 by omega⟩ dL_law_688 rfl (fun v_ u_ hp_ => ?_)
  obtain ⟨rfl, rfl⟩ := hp_
  show V E G A 7 [RN G r H g, SA G q o, MO y t kn n th, RW G (y 1) 70 s, RW G (y 2) 140 sl, RZ G (y 3) 2 z, RW G (y 4) 420 hh, RW G (y 5) 60 f, RW G (y 6) 10 g6, RW G (y 7) 32 d7, SQ G o O 0, SQ G o O 1, XB x (a 0) (r 0) (p 0) (h 0) q, DW G a ((rdS 3 f n (c3 s) (n + 1)).1), PD G p f 0, HI G h (aM kn + 1) (aD kn d), HD G (aD kn d) (hT kn (c3 s) T), OU G w (vp_updL fo 0 (((nI (rdS 3 f n (c3 s) (n + 1)).2.2)).toInt64))] kc ks Q 691 [(0, .ref b0), (1, .ref x), (2, .ref (y 0)), (3, .ref w), (4, .int (nI i))] [.int (nI 0)]
  refine V_ord [12, 13, 0, 14, 15, 16, 1, 2, 3, 4, 5, 6, 7, 8, 9, 17, 10, 11] [XB x (a 0) (r 0) (p 0) (h 0) q, DW G a ((rdS 3 f n (c3 s) (n + 1)).1), RN G r H g, PD G p f 0, HI G h (aM kn + 1) (aD kn d), HD G (aD kn d) (hT kn (c3 s) T), SA G q o, MO y t kn n th, RW G (y 1) 70 s, RW G (y 2) 140 sl, RZ G (y 3) 2 z, RW G (y 4) 420 hh, RW G (y 5) 60 f, RW G (y 6) 10 g6, RW G (y 7) 32 d7, OU G w (vp_updL fo 0 (((nI (rdS 3 f n (c3 s) (n + 1)).2.2)).toInt64)), SQ G o O 0, SQ G o O 1] pm_9 rfl ?_
  refine V_istore (pc' := 693) [(0, .ref b0), (1, .ref x), (2, .ref (y 0)), (3, .ref w), (4, .int (nI i)), (5, .int (nI 0))] [1, 2, 3, 4, 5, 0] X dL_law_691 (Nat.le_of_ble_eq_true rfl) rfl rfl ?_
  refine V_aload_n (pc' := 694) 2 X dL_law_693 rfl rfl rfl ?_
  refine V_callV (pc' := 697) (As := []) (st := []) 6 59 [7, 8, 11, 12] [0, 1, 2, 3, 4, 5, 6, 9, 10, 13, 14, 15, 16, 17] pm_10 X (c_X6_read l G y t kn n th s hh f hI hkn hn hf hv) rfl gL_law_X6_read rfl (by decide) rfl rfl rfl (Nat.le_of_ble_eq_true rfl) ⟨Nat.le_of_ble_eq_true rfl, Nat.le_of_ble_eq_true rfl⟩ ⟨show kc + 0 ≤ 604766 by omega, show ks + 0 ≤ 7281805 by omega⟩ dL_law_694 rfl (fun v_ u_ hp_ => ?_)
  obtain ⟨rfl, rfl⟩ := hp_
  show V E G A 7 [XB x (a 0) (r 0) (p 0) (h 0) q, DW G a ((rdS 3 f n (c3 s) (n + 1)).1), RN G r H g, PD G p f 0, HI G h (aM kn + 1) (aD kn d), HD G (aD kn d) (hT kn (c3 s) T), SA G q o, RW G (y 2) 140 sl, RZ G (y 3) 2 z, RW G (y 6) 10 g6, RW G (y 7) 32 d7, OU G w (vp_updL fo 0 (((nI (rdS 3 f n (c3 s) (n + 1)).2.2)).toInt64)), SQ G o O 0, SQ G o O 1, MO y 0 (aM kn + 1) 0 th, RW G (y 1) 70 ((rdS 9 f n s (n + 1)).1), RW G (y 4) 420 (rcH kn s hh), RW G (y 5) 60 f] kc ks Q 697 [(0, .ref b0), (1, .ref x), (2, .ref (y 0)), (3, .ref w), (4, .int (nI i)), (5, .int (nI 0))] [.int (nI (rdS 9 f n s (n + 1)).2.2)]
  refine V_ord [0, 1, 2, 3, 4, 5, 6, 14, 15, 7, 8, 16, 17, 9, 10, 11, 12, 13] [XB x (a 0) (r 0) (p 0) (h 0) q, DW G a ((rdS 3 f n (c3 s) (n + 1)).1), RN G r H g, PD G p f 0, HI G h (aM kn + 1) (aD kn d), HD G (aD kn d) (hT kn (c3 s) T), SA G q o, MO y 0 (aM kn + 1) 0 th, RW G (y 1) 70 ((rdS 9 f n s (n + 1)).1), RW G (y 2) 140 sl, RZ G (y 3) 2 z, RW G (y 4) 420 (rcH kn s hh), RW G (y 5) 60 f, RW G (y 6) 10 g6, RW G (y 7) 32 d7, OU G w (vp_updL fo 0 (((nI (rdS 3 f n (c3 s) (n + 1)).2.2)).toInt64)), SQ G o O 0, SQ G o O 1] pm_11 rfl ?_
  refine V_istore (pc' := 699) [(0, .ref b0), (1, .ref x), (2, .ref (y 0)), (3, .ref w), (4, .int (nI i)), (5, .int (nI 0)), (6, .int (nI (rdS 9 f n s (n + 1)).2.2))] [1, 2, 3, 4, 5, 6, 0] X dL_law_697 (Nat.le_of_ble_eq_true rfl) rfl rfl ?_
  refine V_aload_n (pc' := 700) 2 X dL_law_699 rfl rfl rfl ?_
  refine V_callV (pc' := 703) (As := []) (st := []) 6 59 [7] [0, 1, 2, 3, 4, 5, 6, 8, 9, 10, 11, 12, 13, 14, 15, 16, 17] pm_4 X (c_X6_thrown l G y 0 (aM kn + 1) 0 th) rfl gL_law_X6_thrown rfl (by decide) rfl rfl rfl (Nat.le_of_ble_eq_true rfl) ⟨Nat.le_of_ble_eq_true rfl, Nat.le_of_ble_eq_true rfl⟩ ⟨show kc + 0 ≤ 604766 by omega, show ks + 0 ≤ 7281805 by omega⟩ dL_law_700 rfl (fun v_ u_ hp_ => ?_)
  obtain ⟨rfl, rfl⟩ := hp_
  show V E G A 7 [XB x (a 0) (r 0) (p 0) (h 0) q, DW G a ((rdS 3 f n (c3 s) (n + 1)).1), RN G r H g, PD G p f 0, HI G h (aM kn + 1) (aD kn d), HD G (aD kn d) (hT kn (c3 s) T), SA G q o, RW G (y 1) 70 ((rdS 9 f n s (n + 1)).1), RW G (y 2) 140 sl, RZ G (y 3) 2 z, RW G (y 4) 420 (rcH kn s hh), RW G (y 5) 60 f, RW G (y 6) 10 g6, RW G (y 7) 32 d7, OU G w (vp_updL fo 0 (((nI (rdS 3 f n (c3 s) (n + 1)).2.2)).toInt64)), SQ G o O 0, SQ G o O 1, MO y 0 (aM kn + 1) 0 th] kc ks Q 703 [(0, .ref b0), (1, .ref x), (2, .ref (y 0)), (3, .ref w), (4, .int (nI i)), (5, .int (nI 0)), (6, .int (nI (rdS 9 f n s (n + 1)).2.2))] [.int (nI 0)]
  refine V_ord [0, 1, 2, 3, 4, 5, 6, 17, 7, 8, 9, 10, 11, 12, 13, 14, 15, 16] [XB x (a 0) (r 0) (p 0) (h 0) q, DW G a ((rdS 3 f n (c3 s) (n + 1)).1), RN G r H g, PD G p f 0, HI G h (aM kn + 1) (aD kn d), HD G (aD kn d) (hT kn (c3 s) T), SA G q o, MO y 0 (aM kn + 1) 0 th, RW G (y 1) 70 ((rdS 9 f n s (n + 1)).1), RW G (y 2) 140 sl, RZ G (y 3) 2 z, RW G (y 4) 420 (rcH kn s hh), RW G (y 5) 60 f, RW G (y 6) 10 g6, RW G (y 7) 32 d7, OU G w (vp_updL fo 0 (((nI (rdS 3 f n (c3 s) (n + 1)).2.2)).toInt64)), SQ G o O 0, SQ G o O 1] pm_5 rfl ?_
  refine V_iload (pc' := 705) 5 X dL_law_703 rfl rfl ?_
  refine V_icmp_eq (pc' := 708) (C := 0 = 0) 710 X dL_law_705 (by decide) rfl (nI_eq (by omega) (by omega)) (fun _ => ?_) (fun hz => absurd (by decide) hz)
  refine V_iload (pc' := 712) 5 X dL_law_710 rfl rfl ?_
  refine V_if_ne (pc' := 715) (C := 0 = 0) 727 X dL_law_712 (by decide) rfl (z_eq0 (by omega)) (fun hz => absurd (by decide) hz) (fun _ => ?_)
  refine V_aload_n (pc' := 716) 3 X dL_law_715 rfl rfl rfl ?_
  refine V_iconst (pc' := 717) (nI 0) X dL_law_716 ki_0 rfl ?_
  refine V_lald (pc' := 718) (v := (((nI (rdS 3 f n (c3 s) (n + 1)).2.2)).toInt64)) 67 0 X rfl (by omega) (by decide) pk_uLs dL_law_717 rfl ?_
  refine V_iload (pc' := 720) 6 X dL_law_718 rfl rfl ?_
  refine V_i2l (pc' := 721) (((nI (rdS 9 f n s (n + 1)).2.2)).toInt64) X dL_law_720 rfl rfl ?_
  refine V_lcmp (pc' := 722) (lg_cmp (((nI (rdS 3 f n (c3 s) (n + 1)).2.2)).toInt64) (((nI (rdS 9 f n s (n + 1)).2.2)).toInt64)) X dL_law_721 rfl rfl ?_
  refine V_if_eq (pc' := 725) (C := (lg_cmp (((nI (rdS 3 f n (c3 s) (n + 1)).2.2)).toInt64) (((nI (rdS 9 f n s (n + 1)).2.2)).toInt64)) = 0) 727 X dL_law_722 (by decide) rfl Iff.rfl (fun _ => ?_) (fun hz => absurd (lgc_eq (congrArg (fun z_ => Int32.toInt64 (nI z_)) (show (rdS 3 f n (c3 s) (n + 1)).2.2 = (rdS 9 f n s (n + 1)).2.2 by rw [rdS_c3 hv hI _ (Nat.le_refl _)]))) hz)
  refine V_goto (pc' := 1602) X dL_law_727 (by decide) ?_
  refine V_ws [XB x (a 0) (r 0) (p 0) (h 0) q, DW G a (c3 ((rdS 9 f n s (n + 1)).1)), RN G r H g, PD G p f 0, HI G h (aM kn + 1) (aD kn d), HD G (aD kn d) (hT kn (c3 s) T), SA G q o, MO y 0 (aM kn + 1) 0 th, RW G (y 1) 70 ((rdS 9 f n s (n + 1)).1), RW G (y 2) 140 sl, RZ G (y 3) 2 z, RW G (y 4) 420 (rcH kn s hh), RW G (y 5) 60 f, RW G (y 6) 10 g6, RW G (y 7) 32 d7, OU G w (vp_updL fo 0 (((nI (rdS 3 f n (c3 s) (n + 1)).2.2)).toInt64)), SQ G o O 0, SQ G o O 1] (by rw [show ((rdS 3 f n (c3 s) (n + 1)).1) = c3 ((rdS 9 f n s (n + 1)).1) from (by rw [rdS_c3 hv hI _ (Nat.le_refl _)])]) ?_
  refine V_lv [0, 1, 2, 3, 4] [(0, .ref b0), (1, .ref x), (2, .ref (y 0)), (3, .ref w), (4, .int (nI i))] rfl ?_
  exact K

set_option maxHeartbeats 4000000 in
set_option maxRecDepth 100000 in
theorem lc_pegsIn {E : EE} {G : gT} {A : Nat → Prop} {Q : State → Prop} {l : Launch} {b0 L : Nat} {xs : Nat → Int32} (X : Cx E G A 7 cL_law RL wsL_law room_1 l) (hX : va_X b0 L xs (e_s E) (e_s E).heap) (hbl : b0 < (e_s E).heap.size) (hbA : ¬ A b0) (hL : L ≤ 1536) (x q w : Nat) (a r H g p f h : Nat → Nat) (n kn : Nat) (d T : Nat → Nat → Nat) (fo : Nat → Int64) (o : Nat → Option (Nat → Nat)) (O : Nat → Nat → Nat) (y : Nat → Nat) (t th : Nat) (s sl z hh g6 d7 : Nat → Nat) (kc ks i : Nat) (hI : IV s) (c : Nat) (hc : c < 32) (hu1 : xs (i + 1) = nI c) (hkc : kc + 8 ≤ 604766) (hks : ks + 83 ≤ 7281805) (hi : i + 3 ≤ L) (K : V E G A 7 [XB x (a 0) (r 0) (p 0) (h 0) q, DW G a (c3 s), RN G r H g, PD G p f n, HI G h kn d, HD G d T, SA G q o, MO y 0 kn n th, RW G (y 1) 70 s, RW G (y 2) 140 sl, RZ G (y 3) 2 z, RW G (y 4) 420 hh, RW G (y 5) 60 f, RW G (y 6) 10 g6, RW G (y 7) 32 d7, OU G w (vp_updL fo 0 (((nI ((c3 s) c))).toInt64)), SQ G o O 0, SQ G o O 1] kc ks Q 1602 [(0, .ref b0), (1, .ref x), (2, .ref (y 0)), (3, .ref w), (4, .int (nI i))] []) : V E G A 7 [XB x (a 0) (r 0) (p 0) (h 0) q, DW G a (c3 s), RN G r H g, PD G p f n, HI G h kn d, HD G d T, SA G q o, MO y t kn n th, RW G (y 1) 70 s, RW G (y 2) 140 sl, RZ G (y 3) 2 z, RW G (y 4) 420 hh, RW G (y 5) 60 f, RW G (y 6) 10 g6, RW G (y 7) 32 d7, OU G w fo, SQ G o O 0, SQ G o O 1] kc ks Q 730 [(0, .ref b0), (1, .ref x), (2, .ref (y 0)), (3, .ref w), (4, .int (nI i))] [] := by
  show V E G A 7 [XB x (a 0) (r 0) (p 0) (h 0) q, DW G a (c3 s), RN G r H g, PD G p f n, HI G h kn d, HD G d T, SA G q o, MO y t kn n th, RW G (y 1) 70 s, RW G (y 2) 140 sl, RZ G (y 3) 2 z, RW G (y 4) 420 hh, RW G (y 5) 60 f, RW G (y 6) 10 g6, RW G (y 7) 32 d7, OU G w fo, SQ G o O 0, SQ G o O 1] kc ks Q 730 [(0, .ref b0), (1, .ref x), (2, .ref (y 0)), (3, .ref w), (4, .int (nI i))] []
  refine V_aload_n (pc' := 731) 1 X dL_law_730 rfl rfl rfl ?_
  refine V_aload_n (pc' := 732) 0 X dL_law_731 rfl rfl rfl ?_
  refine V_iload (pc' := 734) 4 X dL_law_732 rfl rfl ?_
  refine V_iconst (pc' := 735) (nI 1) X dL_law_734 ki_1 rfl ?_
  refine V_iadd (pc' := 736) (nI (i + 1)) X dL_law_735 (nI_add _ _) rfl ?_
  refine V_sld (pc' := 737) (v := nI c) X hX hbl hbA (j := i + 1) (by omega) (by omega) hu1 dL_law_736 rfl ?_
  refine V_aload_n (pc' := 738) 3 X dL_law_737 rfl rfl rfl ?_
  refine V_callSW (pc' := 741) (As := [.ref x, .int (nI c), .ref w]) (st := []) [0, 1, 15] [2, 3, 4, 5, 6, 7, 8, 9, 10, 11, 12, 13, 14, 16, 17] pm_12 X (c_L_pegsIn l G x q w a (c3 s) r H g p f h n kn d T fo (IV_c3 hI) c hc) rfl gL_law_L_pegsIn rfl rfl (Nat.le_of_ble_eq_true rfl) ⟨Nat.le_of_ble_eq_true rfl, Nat.le_of_ble_eq_true rfl⟩ ⟨show kc + 0 ≤ 604766 by omega, show ks + 0 ≤ 7281805 by omega⟩ dL_law_738 rfl (fun v_ u_ hp_ => ?_)
  obtain ⟨rfl, rfl⟩ := hp_
  show V E G A 7 [RN G r H g, PD G p f n, HI G h kn d, HD G d T, SA G q o, MO y t kn n th, RW G (y 1) 70 s, RW G (y 2) 140 sl, RZ G (y 3) 2 z, RW G (y 4) 420 hh, RW G (y 5) 60 f, RW G (y 6) 10 g6, RW G (y 7) 32 d7, SQ G o O 0, SQ G o O 1, XB x (a 0) (r 0) (p 0) (h 0) q, DW G a (c3 s), OU G w (vp_updL fo 0 (((nI ((c3 s) c))).toInt64))] kc ks Q 741 [(0, .ref b0), (1, .ref x), (2, .ref (y 0)), (3, .ref w), (4, .int (nI i))] [.int (nI 0)]
  refine V_ord [15, 16, 0, 1, 2, 3, 4, 5, 6, 7, 8, 9, 10, 11, 12, 17, 13, 14] [XB x (a 0) (r 0) (p 0) (h 0) q, DW G a (c3 s), RN G r H g, PD G p f n, HI G h kn d, HD G d T, SA G q o, MO y t kn n th, RW G (y 1) 70 s, RW G (y 2) 140 sl, RZ G (y 3) 2 z, RW G (y 4) 420 hh, RW G (y 5) 60 f, RW G (y 6) 10 g6, RW G (y 7) 32 d7, OU G w (vp_updL fo 0 (((nI ((c3 s) c))).toInt64)), SQ G o O 0, SQ G o O 1] pm_13 rfl ?_
  refine V_istore (pc' := 743) [(0, .ref b0), (1, .ref x), (2, .ref (y 0)), (3, .ref w), (4, .int (nI i)), (5, .int (nI 0))] [1, 2, 3, 4, 5, 0] X dL_law_741 (Nat.le_of_ble_eq_true rfl) rfl rfl ?_
  refine V_aload_n (pc' := 744) 2 X dL_law_743 rfl rfl rfl ?_
  refine V_aload_n (pc' := 745) 0 X dL_law_744 rfl rfl rfl ?_
  refine V_iload (pc' := 747) 4 X dL_law_745 rfl rfl ?_
  refine V_iconst (pc' := 748) (nI 1) X dL_law_747 ki_1 rfl ?_
  refine V_iadd (pc' := 749) (nI (i + 1)) X dL_law_748 (nI_add _ _) rfl ?_
  refine V_sld (pc' := 750) (v := nI c) X hX hbl hbA (j := i + 1) (by omega) (by omega) hu1 dL_law_749 rfl ?_
  refine V_callV (pc' := 753) (As := [.int (nI c)]) (st := []) 6 59 [7, 8] [0, 1, 2, 3, 4, 5, 6, 9, 10, 11, 12, 13, 14, 15, 16, 17] pm_14 X (c_X6_pegsIn l G y t kn n th s hI c (by omega)) rfl gL_law_X6_pegsIn rfl (by decide) rfl rfl rfl (Nat.le_of_ble_eq_true rfl) ⟨Nat.le_of_ble_eq_true rfl, Nat.le_of_ble_eq_true rfl⟩ ⟨show kc + 0 ≤ 604766 by omega, show ks + 0 ≤ 7281805 by omega⟩ dL_law_750 rfl (fun v_ u_ hp_ => ?_)
  obtain ⟨rfl, rfl⟩ := hp_
  show V E G A 7 [XB x (a 0) (r 0) (p 0) (h 0) q, DW G a (c3 s), RN G r H g, PD G p f n, HI G h kn d, HD G d T, SA G q o, RW G (y 2) 140 sl, RZ G (y 3) 2 z, RW G (y 4) 420 hh, RW G (y 5) 60 f, RW G (y 6) 10 g6, RW G (y 7) 32 d7, OU G w (vp_updL fo 0 (((nI ((c3 s) c))).toInt64)), SQ G o O 0, SQ G o O 1, MO y 0 kn n th, RW G (y 1) 70 s] kc ks Q 753 [(0, .ref b0), (1, .ref x), (2, .ref (y 0)), (3, .ref w), (4, .int (nI i)), (5, .int (nI 0))] [.int (nI (s c))]
  refine V_ord [0, 1, 2, 3, 4, 5, 6, 16, 17, 7, 8, 9, 10, 11, 12, 13, 14, 15] [XB x (a 0) (r 0) (p 0) (h 0) q, DW G a (c3 s), RN G r H g, PD G p f n, HI G h kn d, HD G d T, SA G q o, MO y 0 kn n th, RW G (y 1) 70 s, RW G (y 2) 140 sl, RZ G (y 3) 2 z, RW G (y 4) 420 hh, RW G (y 5) 60 f, RW G (y 6) 10 g6, RW G (y 7) 32 d7, OU G w (vp_updL fo 0 (((nI ((c3 s) c))).toInt64)), SQ G o O 0, SQ G o O 1] pm_15 rfl ?_
  refine V_istore (pc' := 755) [(0, .ref b0), (1, .ref x), (2, .ref (y 0)), (3, .ref w), (4, .int (nI i)), (5, .int (nI 0)), (6, .int (nI (s c)))] [1, 2, 3, 4, 5, 6, 0] X dL_law_753 (Nat.le_of_ble_eq_true rfl) rfl rfl ?_
  refine V_aload_n (pc' := 756) 2 X dL_law_755 rfl rfl rfl ?_
  refine V_callV (pc' := 759) (As := []) (st := []) 6 59 [7] [0, 1, 2, 3, 4, 5, 6, 8, 9, 10, 11, 12, 13, 14, 15, 16, 17] pm_4 X (c_X6_thrown l G y 0 kn n th) rfl gL_law_X6_thrown rfl (by decide) rfl rfl rfl (Nat.le_of_ble_eq_true rfl) ⟨Nat.le_of_ble_eq_true rfl, Nat.le_of_ble_eq_true rfl⟩ ⟨show kc + 0 ≤ 604766 by omega, show ks + 0 ≤ 7281805 by omega⟩ dL_law_756 rfl (fun v_ u_ hp_ => ?_)
  obtain ⟨rfl, rfl⟩ := hp_
  show V E G A 7 [XB x (a 0) (r 0) (p 0) (h 0) q, DW G a (c3 s), RN G r H g, PD G p f n, HI G h kn d, HD G d T, SA G q o, RW G (y 1) 70 s, RW G (y 2) 140 sl, RZ G (y 3) 2 z, RW G (y 4) 420 hh, RW G (y 5) 60 f, RW G (y 6) 10 g6, RW G (y 7) 32 d7, OU G w (vp_updL fo 0 (((nI ((c3 s) c))).toInt64)), SQ G o O 0, SQ G o O 1, MO y 0 kn n th] kc ks Q 759 [(0, .ref b0), (1, .ref x), (2, .ref (y 0)), (3, .ref w), (4, .int (nI i)), (5, .int (nI 0)), (6, .int (nI (s c)))] [.int (nI 0)]
  refine V_ord [0, 1, 2, 3, 4, 5, 6, 17, 7, 8, 9, 10, 11, 12, 13, 14, 15, 16] [XB x (a 0) (r 0) (p 0) (h 0) q, DW G a (c3 s), RN G r H g, PD G p f n, HI G h kn d, HD G d T, SA G q o, MO y 0 kn n th, RW G (y 1) 70 s, RW G (y 2) 140 sl, RZ G (y 3) 2 z, RW G (y 4) 420 hh, RW G (y 5) 60 f, RW G (y 6) 10 g6, RW G (y 7) 32 d7, OU G w (vp_updL fo 0 (((nI ((c3 s) c))).toInt64)), SQ G o O 0, SQ G o O 1] pm_5 rfl ?_
  refine V_iload (pc' := 761) 5 X dL_law_759 rfl rfl ?_
  refine V_icmp_eq (pc' := 764) (C := 0 = 0) 766 X dL_law_761 (by decide) rfl (nI_eq (by omega) (by omega)) (fun _ => ?_) (fun hz => absurd (by decide) hz)
  refine V_iload (pc' := 768) 5 X dL_law_766 rfl rfl ?_
  refine V_if_ne (pc' := 771) (C := 0 = 0) 783 X dL_law_768 (by decide) rfl (z_eq0 (by omega)) (fun hz => absurd (by decide) hz) (fun _ => ?_)
  refine V_aload_n (pc' := 772) 3 X dL_law_771 rfl rfl rfl ?_
  refine V_iconst (pc' := 773) (nI 0) X dL_law_772 ki_0 rfl ?_
  refine V_lald (pc' := 774) (v := (((nI ((c3 s) c))).toInt64)) 67 0 X rfl (by omega) (by decide) pk_uLs dL_law_773 rfl ?_
  refine V_iload (pc' := 776) 6 X dL_law_774 rfl rfl ?_
  refine V_i2l (pc' := 777) (((nI (s c))).toInt64) X dL_law_776 rfl rfl ?_
  refine V_lcmp (pc' := 778) (lg_cmp (((nI ((c3 s) c))).toInt64) (((nI (s c))).toInt64)) X dL_law_777 rfl rfl ?_
  refine V_if_eq (pc' := 781) (C := (lg_cmp (((nI ((c3 s) c))).toInt64) (((nI (s c))).toInt64)) = 0) 783 X dL_law_778 (by decide) rfl Iff.rfl (fun _ => ?_) (fun hz => absurd (lgc_eq (congrArg (fun z_ => Int32.toInt64 (nI z_)) (c3_o (by omega)))) hz)
  refine V_goto (pc' := 1602) X dL_law_783 (by decide) ?_
  refine V_lv [0, 1, 2, 3, 4] [(0, .ref b0), (1, .ref x), (2, .ref (y 0)), (3, .ref w), (4, .int (nI i))] rfl ?_
  exact K

set_option maxHeartbeats 4000000 in
set_option maxRecDepth 100000 in
theorem lc_tempoOf {E : EE} {G : gT} {A : Nat → Prop} {Q : State → Prop} {l : Launch} {b0 L : Nat} {xs : Nat → Int32} (X : Cx E G A 7 cL_law RL wsL_law room_1 l) (hX : va_X b0 L xs (e_s E) (e_s E).heap) (hbl : b0 < (e_s E).heap.size) (hbA : ¬ A b0) (hL : L ≤ 1536) (x q w : Nat) (a r H g p f h : Nat → Nat) (n kn : Nat) (d T : Nat → Nat → Nat) (fo : Nat → Int64) (o : Nat → Option (Nat → Nat)) (O : Nat → Nat → Nat) (y : Nat → Nat) (t th : Nat) (s sl z hh g6 d7 : Nat → Nat) (kc ks i : Nat) (hI : IV s) (c : Nat) (hc : c < 4) (hu1 : xs (i + 1) = nI c) (hkc : kc + 8 ≤ 604766) (hks : ks + 83 ≤ 7281805) (hi : i + 3 ≤ L) (K : V E G A 7 [XB x (a 0) (r 0) (p 0) (h 0) q, DW G a (c3 s), RN G r H g, PD G p f n, HI G h kn d, HD G d T, SA G q o, MO y 0 kn n th, RW G (y 1) 70 s, RW G (y 2) 140 sl, RZ G (y 3) 2 z, RW G (y 4) 420 hh, RW G (y 5) 60 f, RW G (y 6) 10 g6, RW G (y 7) 32 d7, OU G w (vp_updL fo 0 (((nI ((c3 s) (32 + c)))).toInt64)), SQ G o O 0, SQ G o O 1] kc ks Q 1602 [(0, .ref b0), (1, .ref x), (2, .ref (y 0)), (3, .ref w), (4, .int (nI i))] []) : V E G A 7 [XB x (a 0) (r 0) (p 0) (h 0) q, DW G a (c3 s), RN G r H g, PD G p f n, HI G h kn d, HD G d T, SA G q o, MO y t kn n th, RW G (y 1) 70 s, RW G (y 2) 140 sl, RZ G (y 3) 2 z, RW G (y 4) 420 hh, RW G (y 5) 60 f, RW G (y 6) 10 g6, RW G (y 7) 32 d7, OU G w fo, SQ G o O 0, SQ G o O 1] kc ks Q 799 [(0, .ref b0), (1, .ref x), (2, .ref (y 0)), (3, .ref w), (4, .int (nI i))] [] := by
  show V E G A 7 [XB x (a 0) (r 0) (p 0) (h 0) q, DW G a (c3 s), RN G r H g, PD G p f n, HI G h kn d, HD G d T, SA G q o, MO y t kn n th, RW G (y 1) 70 s, RW G (y 2) 140 sl, RZ G (y 3) 2 z, RW G (y 4) 420 hh, RW G (y 5) 60 f, RW G (y 6) 10 g6, RW G (y 7) 32 d7, OU G w fo, SQ G o O 0, SQ G o O 1] kc ks Q 799 [(0, .ref b0), (1, .ref x), (2, .ref (y 0)), (3, .ref w), (4, .int (nI i))] []
  refine V_aload_n (pc' := 800) 1 X dL_law_799 rfl rfl rfl ?_
  refine V_aload_n (pc' := 801) 0 X dL_law_800 rfl rfl rfl ?_
  refine V_iload (pc' := 803) 4 X dL_law_801 rfl rfl ?_
  refine V_iconst (pc' := 804) (nI 1) X dL_law_803 ki_1 rfl ?_
  refine V_iadd (pc' := 805) (nI (i + 1)) X dL_law_804 (nI_add _ _) rfl ?_
  refine V_sld (pc' := 806) (v := nI c) X hX hbl hbA (j := i + 1) (by omega) (by omega) hu1 dL_law_805 rfl ?_
  refine V_aload_n (pc' := 807) 3 X dL_law_806 rfl rfl rfl ?_
  refine V_callSW (pc' := 810) (As := [.ref x, .int (nI c), .ref w]) (st := []) [0, 1, 15] [2, 3, 4, 5, 6, 7, 8, 9, 10, 11, 12, 13, 14, 16, 17] pm_12 X (c_L_tempoOf l G x q w a (c3 s) r H g p f h n kn d T fo (IV_c3 hI) c hc) rfl gL_law_L_tempoOf rfl rfl (Nat.le_of_ble_eq_true rfl) ⟨Nat.le_of_ble_eq_true rfl, Nat.le_of_ble_eq_true rfl⟩ ⟨show kc + 0 ≤ 604766 by omega, show ks + 0 ≤ 7281805 by omega⟩ dL_law_807 rfl (fun v_ u_ hp_ => ?_)
  obtain ⟨rfl, rfl⟩ := hp_
  show V E G A 7 [RN G r H g, PD G p f n, HI G h kn d, HD G d T, SA G q o, MO y t kn n th, RW G (y 1) 70 s, RW G (y 2) 140 sl, RZ G (y 3) 2 z, RW G (y 4) 420 hh, RW G (y 5) 60 f, RW G (y 6) 10 g6, RW G (y 7) 32 d7, SQ G o O 0, SQ G o O 1, XB x (a 0) (r 0) (p 0) (h 0) q, DW G a (c3 s), OU G w (vp_updL fo 0 (((nI ((c3 s) (32 + c)))).toInt64))] kc ks Q 810 [(0, .ref b0), (1, .ref x), (2, .ref (y 0)), (3, .ref w), (4, .int (nI i))] [.int (nI 0)]
  refine V_ord [15, 16, 0, 1, 2, 3, 4, 5, 6, 7, 8, 9, 10, 11, 12, 17, 13, 14] [XB x (a 0) (r 0) (p 0) (h 0) q, DW G a (c3 s), RN G r H g, PD G p f n, HI G h kn d, HD G d T, SA G q o, MO y t kn n th, RW G (y 1) 70 s, RW G (y 2) 140 sl, RZ G (y 3) 2 z, RW G (y 4) 420 hh, RW G (y 5) 60 f, RW G (y 6) 10 g6, RW G (y 7) 32 d7, OU G w (vp_updL fo 0 (((nI ((c3 s) (32 + c)))).toInt64)), SQ G o O 0, SQ G o O 1] pm_13 rfl ?_
  refine V_istore (pc' := 812) [(0, .ref b0), (1, .ref x), (2, .ref (y 0)), (3, .ref w), (4, .int (nI i)), (5, .int (nI 0))] [1, 2, 3, 4, 5, 0] X dL_law_810 (Nat.le_of_ble_eq_true rfl) rfl rfl ?_
  refine V_aload_n (pc' := 813) 2 X dL_law_812 rfl rfl rfl ?_
  refine V_aload_n (pc' := 814) 0 X dL_law_813 rfl rfl rfl ?_
  refine V_iload (pc' := 816) 4 X dL_law_814 rfl rfl ?_
  refine V_iconst (pc' := 817) (nI 1) X dL_law_816 ki_1 rfl ?_
  refine V_iadd (pc' := 818) (nI (i + 1)) X dL_law_817 (nI_add _ _) rfl ?_
  refine V_sld (pc' := 819) (v := nI c) X hX hbl hbA (j := i + 1) (by omega) (by omega) hu1 dL_law_818 rfl ?_
  refine V_callV (pc' := 822) (As := [.int (nI c)]) (st := []) 6 59 [7, 8] [0, 1, 2, 3, 4, 5, 6, 9, 10, 11, 12, 13, 14, 15, 16, 17] pm_14 X (c_X6_tempoOf l G y t kn n th s hI c (by omega)) rfl gL_law_X6_tempoOf rfl (by decide) rfl rfl rfl (Nat.le_of_ble_eq_true rfl) ⟨Nat.le_of_ble_eq_true rfl, Nat.le_of_ble_eq_true rfl⟩ ⟨show kc + 0 ≤ 604766 by omega, show ks + 0 ≤ 7281805 by omega⟩ dL_law_819 rfl (fun v_ u_ hp_ => ?_)
  obtain ⟨rfl, rfl⟩ := hp_
  show V E G A 7 [XB x (a 0) (r 0) (p 0) (h 0) q, DW G a (c3 s), RN G r H g, PD G p f n, HI G h kn d, HD G d T, SA G q o, RW G (y 2) 140 sl, RZ G (y 3) 2 z, RW G (y 4) 420 hh, RW G (y 5) 60 f, RW G (y 6) 10 g6, RW G (y 7) 32 d7, OU G w (vp_updL fo 0 (((nI ((c3 s) (32 + c)))).toInt64)), SQ G o O 0, SQ G o O 1, MO y 0 kn n th, RW G (y 1) 70 s] kc ks Q 822 [(0, .ref b0), (1, .ref x), (2, .ref (y 0)), (3, .ref w), (4, .int (nI i)), (5, .int (nI 0))] [.int (nI (s (32 + c)))]
  refine V_ord [0, 1, 2, 3, 4, 5, 6, 16, 17, 7, 8, 9, 10, 11, 12, 13, 14, 15] [XB x (a 0) (r 0) (p 0) (h 0) q, DW G a (c3 s), RN G r H g, PD G p f n, HI G h kn d, HD G d T, SA G q o, MO y 0 kn n th, RW G (y 1) 70 s, RW G (y 2) 140 sl, RZ G (y 3) 2 z, RW G (y 4) 420 hh, RW G (y 5) 60 f, RW G (y 6) 10 g6, RW G (y 7) 32 d7, OU G w (vp_updL fo 0 (((nI ((c3 s) (32 + c)))).toInt64)), SQ G o O 0, SQ G o O 1] pm_15 rfl ?_
  refine V_istore (pc' := 824) [(0, .ref b0), (1, .ref x), (2, .ref (y 0)), (3, .ref w), (4, .int (nI i)), (5, .int (nI 0)), (6, .int (nI (s (32 + c))))] [1, 2, 3, 4, 5, 6, 0] X dL_law_822 (Nat.le_of_ble_eq_true rfl) rfl rfl ?_
  refine V_aload_n (pc' := 825) 2 X dL_law_824 rfl rfl rfl ?_
  refine V_callV (pc' := 828) (As := []) (st := []) 6 59 [7] [0, 1, 2, 3, 4, 5, 6, 8, 9, 10, 11, 12, 13, 14, 15, 16, 17] pm_4 X (c_X6_thrown l G y 0 kn n th) rfl gL_law_X6_thrown rfl (by decide) rfl rfl rfl (Nat.le_of_ble_eq_true rfl) ⟨Nat.le_of_ble_eq_true rfl, Nat.le_of_ble_eq_true rfl⟩ ⟨show kc + 0 ≤ 604766 by omega, show ks + 0 ≤ 7281805 by omega⟩ dL_law_825 rfl (fun v_ u_ hp_ => ?_)
  obtain ⟨rfl, rfl⟩ := hp_
  show V E G A 7 [XB x (a 0) (r 0) (p 0) (h 0) q, DW G a (c3 s), RN G r H g, PD G p f n, HI G h kn d, HD G d T, SA G q o, RW G (y 1) 70 s, RW G (y 2) 140 sl, RZ G (y 3) 2 z, RW G (y 4) 420 hh, RW G (y 5) 60 f, RW G (y 6) 10 g6, RW G (y 7) 32 d7, OU G w (vp_updL fo 0 (((nI ((c3 s) (32 + c)))).toInt64)), SQ G o O 0, SQ G o O 1, MO y 0 kn n th] kc ks Q 828 [(0, .ref b0), (1, .ref x), (2, .ref (y 0)), (3, .ref w), (4, .int (nI i)), (5, .int (nI 0)), (6, .int (nI (s (32 + c))))] [.int (nI 0)]
  refine V_ord [0, 1, 2, 3, 4, 5, 6, 17, 7, 8, 9, 10, 11, 12, 13, 14, 15, 16] [XB x (a 0) (r 0) (p 0) (h 0) q, DW G a (c3 s), RN G r H g, PD G p f n, HI G h kn d, HD G d T, SA G q o, MO y 0 kn n th, RW G (y 1) 70 s, RW G (y 2) 140 sl, RZ G (y 3) 2 z, RW G (y 4) 420 hh, RW G (y 5) 60 f, RW G (y 6) 10 g6, RW G (y 7) 32 d7, OU G w (vp_updL fo 0 (((nI ((c3 s) (32 + c)))).toInt64)), SQ G o O 0, SQ G o O 1] pm_5 rfl ?_
  refine V_iload (pc' := 830) 5 X dL_law_828 rfl rfl ?_
  refine V_icmp_eq (pc' := 833) (C := 0 = 0) 835 X dL_law_830 (by decide) rfl (nI_eq (by omega) (by omega)) (fun _ => ?_) (fun hz => absurd (by decide) hz)
  refine V_iload (pc' := 837) 5 X dL_law_835 rfl rfl ?_
  refine V_if_ne (pc' := 840) (C := 0 = 0) 852 X dL_law_837 (by decide) rfl (z_eq0 (by omega)) (fun hz => absurd (by decide) hz) (fun _ => ?_)
  refine V_aload_n (pc' := 841) 3 X dL_law_840 rfl rfl rfl ?_
  refine V_iconst (pc' := 842) (nI 0) X dL_law_841 ki_0 rfl ?_
  refine V_lald (pc' := 843) (v := (((nI ((c3 s) (32 + c)))).toInt64)) 67 0 X rfl (by omega) (by decide) pk_uLs dL_law_842 rfl ?_
  refine V_iload (pc' := 845) 6 X dL_law_843 rfl rfl ?_
  refine V_i2l (pc' := 846) (((nI (s (32 + c)))).toInt64) X dL_law_845 rfl rfl ?_
  refine V_lcmp (pc' := 847) (lg_cmp (((nI ((c3 s) (32 + c)))).toInt64) (((nI (s (32 + c)))).toInt64)) X dL_law_846 rfl rfl ?_
  refine V_if_eq (pc' := 850) (C := (lg_cmp (((nI ((c3 s) (32 + c)))).toInt64) (((nI (s (32 + c)))).toInt64)) = 0) 852 X dL_law_847 (by decide) rfl Iff.rfl (fun _ => ?_) (fun hz => absurd (lgc_eq (congrArg (fun z_ => Int32.toInt64 (nI z_)) (c3_o (by omega)))) hz)
  refine V_goto (pc' := 1602) X dL_law_852 (by decide) ?_
  refine V_lv [0, 1, 2, 3, 4] [(0, .ref b0), (1, .ref x), (2, .ref (y 0)), (3, .ref w), (4, .int (nI i))] rfl ?_
  exact K

set_option maxHeartbeats 4000000 in
set_option maxRecDepth 100000 in
theorem lc_weightOf {E : EE} {G : gT} {A : Nat → Prop} {Q : State → Prop} {l : Launch} {b0 L : Nat} {xs : Nat → Int32} (X : Cx E G A 7 cL_law RL wsL_law room_1 l) (hX : va_X b0 L xs (e_s E) (e_s E).heap) (hbl : b0 < (e_s E).heap.size) (hbA : ¬ A b0) (hL : L ≤ 1536) (x q w : Nat) (a r H g p f h : Nat → Nat) (n kn : Nat) (d T : Nat → Nat → Nat) (fo : Nat → Int64) (o : Nat → Option (Nat → Nat)) (O : Nat → Nat → Nat) (y : Nat → Nat) (t th : Nat) (s sl z hh g6 d7 : Nat → Nat) (kc ks i : Nat) (hI : IV s) (c : Nat) (hc : c < 10) (hu1 : xs (i + 1) = nI c) (hkc : kc + 8 ≤ 604766) (hks : ks + 83 ≤ 7281805) (hi : i + 3 ≤ L) (K : V E G A 7 [XB x (a 0) (r 0) (p 0) (h 0) q, DW G a (c3 s), RN G r H g, PD G p f n, HI G h kn d, HD G d T, SA G q o, MO y 0 kn n th, RW G (y 1) 70 s, RW G (y 2) 140 sl, RZ G (y 3) 2 z, RW G (y 4) 420 hh, RW G (y 5) 60 f, RW G (y 6) 10 g6, RW G (y 7) 32 d7, OU G w (vp_updL fo 0 (((nI ((c3 s) (36 + c)))).toInt64)), SQ G o O 0, SQ G o O 1] kc ks Q 1602 [(0, .ref b0), (1, .ref x), (2, .ref (y 0)), (3, .ref w), (4, .int (nI i))] []) : V E G A 7 [XB x (a 0) (r 0) (p 0) (h 0) q, DW G a (c3 s), RN G r H g, PD G p f n, HI G h kn d, HD G d T, SA G q o, MO y t kn n th, RW G (y 1) 70 s, RW G (y 2) 140 sl, RZ G (y 3) 2 z, RW G (y 4) 420 hh, RW G (y 5) 60 f, RW G (y 6) 10 g6, RW G (y 7) 32 d7, OU G w fo, SQ G o O 0, SQ G o O 1] kc ks Q 855 [(0, .ref b0), (1, .ref x), (2, .ref (y 0)), (3, .ref w), (4, .int (nI i))] [] := by
  show V E G A 7 [XB x (a 0) (r 0) (p 0) (h 0) q, DW G a (c3 s), RN G r H g, PD G p f n, HI G h kn d, HD G d T, SA G q o, MO y t kn n th, RW G (y 1) 70 s, RW G (y 2) 140 sl, RZ G (y 3) 2 z, RW G (y 4) 420 hh, RW G (y 5) 60 f, RW G (y 6) 10 g6, RW G (y 7) 32 d7, OU G w fo, SQ G o O 0, SQ G o O 1] kc ks Q 855 [(0, .ref b0), (1, .ref x), (2, .ref (y 0)), (3, .ref w), (4, .int (nI i))] []
  refine V_aload_n (pc' := 856) 1 X dL_law_855 rfl rfl rfl ?_
  refine V_aload_n (pc' := 857) 0 X dL_law_856 rfl rfl rfl ?_
  refine V_iload (pc' := 859) 4 X dL_law_857 rfl rfl ?_
  refine V_iconst (pc' := 860) (nI 1) X dL_law_859 ki_1 rfl ?_
  refine V_iadd (pc' := 861) (nI (i + 1)) X dL_law_860 (nI_add _ _) rfl ?_
  refine V_sld (pc' := 862) (v := nI c) X hX hbl hbA (j := i + 1) (by omega) (by omega) hu1 dL_law_861 rfl ?_
  refine V_aload_n (pc' := 863) 3 X dL_law_862 rfl rfl rfl ?_
  refine V_callSW (pc' := 866) (As := [.ref x, .int (nI c), .ref w]) (st := []) [0, 1, 15] [2, 3, 4, 5, 6, 7, 8, 9, 10, 11, 12, 13, 14, 16, 17] pm_12 X (c_L_weightOf l G x q w a (c3 s) r H g p f h n kn d T fo (IV_c3 hI) c hc) rfl gL_law_L_weightOf rfl rfl (Nat.le_of_ble_eq_true rfl) ⟨Nat.le_of_ble_eq_true rfl, Nat.le_of_ble_eq_true rfl⟩ ⟨show kc + 0 ≤ 604766 by omega, show ks + 0 ≤ 7281805 by omega⟩ dL_law_863 rfl (fun v_ u_ hp_ => ?_)
  obtain ⟨rfl, rfl⟩ := hp_
  show V E G A 7 [RN G r H g, PD G p f n, HI G h kn d, HD G d T, SA G q o, MO y t kn n th, RW G (y 1) 70 s, RW G (y 2) 140 sl, RZ G (y 3) 2 z, RW G (y 4) 420 hh, RW G (y 5) 60 f, RW G (y 6) 10 g6, RW G (y 7) 32 d7, SQ G o O 0, SQ G o O 1, XB x (a 0) (r 0) (p 0) (h 0) q, DW G a (c3 s), OU G w (vp_updL fo 0 (((nI ((c3 s) (36 + c)))).toInt64))] kc ks Q 866 [(0, .ref b0), (1, .ref x), (2, .ref (y 0)), (3, .ref w), (4, .int (nI i))] [.int (nI 0)]
  refine V_ord [15, 16, 0, 1, 2, 3, 4, 5, 6, 7, 8, 9, 10, 11, 12, 17, 13, 14] [XB x (a 0) (r 0) (p 0) (h 0) q, DW G a (c3 s), RN G r H g, PD G p f n, HI G h kn d, HD G d T, SA G q o, MO y t kn n th, RW G (y 1) 70 s, RW G (y 2) 140 sl, RZ G (y 3) 2 z, RW G (y 4) 420 hh, RW G (y 5) 60 f, RW G (y 6) 10 g6, RW G (y 7) 32 d7, OU G w (vp_updL fo 0 (((nI ((c3 s) (36 + c)))).toInt64)), SQ G o O 0, SQ G o O 1] pm_13 rfl ?_
  refine V_istore (pc' := 868) [(0, .ref b0), (1, .ref x), (2, .ref (y 0)), (3, .ref w), (4, .int (nI i)), (5, .int (nI 0))] [1, 2, 3, 4, 5, 0] X dL_law_866 (Nat.le_of_ble_eq_true rfl) rfl rfl ?_
  refine V_aload_n (pc' := 869) 2 X dL_law_868 rfl rfl rfl ?_
  refine V_aload_n (pc' := 870) 0 X dL_law_869 rfl rfl rfl ?_
  refine V_iload (pc' := 872) 4 X dL_law_870 rfl rfl ?_
  refine V_iconst (pc' := 873) (nI 1) X dL_law_872 ki_1 rfl ?_
  refine V_iadd (pc' := 874) (nI (i + 1)) X dL_law_873 (nI_add _ _) rfl ?_
  refine V_sld (pc' := 875) (v := nI c) X hX hbl hbA (j := i + 1) (by omega) (by omega) hu1 dL_law_874 rfl ?_
  refine V_callV (pc' := 878) (As := [.int (nI c)]) (st := []) 6 59 [7, 8] [0, 1, 2, 3, 4, 5, 6, 9, 10, 11, 12, 13, 14, 15, 16, 17] pm_14 X (c_X6_weightOf l G y t kn n th s hI c (by omega)) rfl gL_law_X6_weightOf rfl (by decide) rfl rfl rfl (Nat.le_of_ble_eq_true rfl) ⟨Nat.le_of_ble_eq_true rfl, Nat.le_of_ble_eq_true rfl⟩ ⟨show kc + 0 ≤ 604766 by omega, show ks + 0 ≤ 7281805 by omega⟩ dL_law_875 rfl (fun v_ u_ hp_ => ?_)
  obtain ⟨rfl, rfl⟩ := hp_
  show V E G A 7 [XB x (a 0) (r 0) (p 0) (h 0) q, DW G a (c3 s), RN G r H g, PD G p f n, HI G h kn d, HD G d T, SA G q o, RW G (y 2) 140 sl, RZ G (y 3) 2 z, RW G (y 4) 420 hh, RW G (y 5) 60 f, RW G (y 6) 10 g6, RW G (y 7) 32 d7, OU G w (vp_updL fo 0 (((nI ((c3 s) (36 + c)))).toInt64)), SQ G o O 0, SQ G o O 1, MO y 0 kn n th, RW G (y 1) 70 s] kc ks Q 878 [(0, .ref b0), (1, .ref x), (2, .ref (y 0)), (3, .ref w), (4, .int (nI i)), (5, .int (nI 0))] [.int (nI (s (36 + c)))]
  refine V_ord [0, 1, 2, 3, 4, 5, 6, 16, 17, 7, 8, 9, 10, 11, 12, 13, 14, 15] [XB x (a 0) (r 0) (p 0) (h 0) q, DW G a (c3 s), RN G r H g, PD G p f n, HI G h kn d, HD G d T, SA G q o, MO y 0 kn n th, RW G (y 1) 70 s, RW G (y 2) 140 sl, RZ G (y 3) 2 z, RW G (y 4) 420 hh, RW G (y 5) 60 f, RW G (y 6) 10 g6, RW G (y 7) 32 d7, OU G w (vp_updL fo 0 (((nI ((c3 s) (36 + c)))).toInt64)), SQ G o O 0, SQ G o O 1] pm_15 rfl ?_
  refine V_istore (pc' := 880) [(0, .ref b0), (1, .ref x), (2, .ref (y 0)), (3, .ref w), (4, .int (nI i)), (5, .int (nI 0)), (6, .int (nI (s (36 + c))))] [1, 2, 3, 4, 5, 6, 0] X dL_law_878 (Nat.le_of_ble_eq_true rfl) rfl rfl ?_
  refine V_aload_n (pc' := 881) 2 X dL_law_880 rfl rfl rfl ?_
  refine V_callV (pc' := 884) (As := []) (st := []) 6 59 [7] [0, 1, 2, 3, 4, 5, 6, 8, 9, 10, 11, 12, 13, 14, 15, 16, 17] pm_4 X (c_X6_thrown l G y 0 kn n th) rfl gL_law_X6_thrown rfl (by decide) rfl rfl rfl (Nat.le_of_ble_eq_true rfl) ⟨Nat.le_of_ble_eq_true rfl, Nat.le_of_ble_eq_true rfl⟩ ⟨show kc + 0 ≤ 604766 by omega, show ks + 0 ≤ 7281805 by omega⟩ dL_law_881 rfl (fun v_ u_ hp_ => ?_)
  obtain ⟨rfl, rfl⟩ := hp_
  show V E G A 7 [XB x (a 0) (r 0) (p 0) (h 0) q, DW G a (c3 s), RN G r H g, PD G p f n, HI G h kn d, HD G d T, SA G q o, RW G (y 1) 70 s, RW G (y 2) 140 sl, RZ G (y 3) 2 z, RW G (y 4) 420 hh, RW G (y 5) 60 f, RW G (y 6) 10 g6, RW G (y 7) 32 d7, OU G w (vp_updL fo 0 (((nI ((c3 s) (36 + c)))).toInt64)), SQ G o O 0, SQ G o O 1, MO y 0 kn n th] kc ks Q 884 [(0, .ref b0), (1, .ref x), (2, .ref (y 0)), (3, .ref w), (4, .int (nI i)), (5, .int (nI 0)), (6, .int (nI (s (36 + c))))] [.int (nI 0)]
  refine V_ord [0, 1, 2, 3, 4, 5, 6, 17, 7, 8, 9, 10, 11, 12, 13, 14, 15, 16] [XB x (a 0) (r 0) (p 0) (h 0) q, DW G a (c3 s), RN G r H g, PD G p f n, HI G h kn d, HD G d T, SA G q o, MO y 0 kn n th, RW G (y 1) 70 s, RW G (y 2) 140 sl, RZ G (y 3) 2 z, RW G (y 4) 420 hh, RW G (y 5) 60 f, RW G (y 6) 10 g6, RW G (y 7) 32 d7, OU G w (vp_updL fo 0 (((nI ((c3 s) (36 + c)))).toInt64)), SQ G o O 0, SQ G o O 1] pm_5 rfl ?_
  refine V_iload (pc' := 886) 5 X dL_law_884 rfl rfl ?_
  refine V_icmp_eq (pc' := 889) (C := 0 = 0) 891 X dL_law_886 (by decide) rfl (nI_eq (by omega) (by omega)) (fun _ => ?_) (fun hz => absurd (by decide) hz)
  refine V_iload (pc' := 893) 5 X dL_law_891 rfl rfl ?_
  refine V_if_ne (pc' := 896) (C := 0 = 0) 908 X dL_law_893 (by decide) rfl (z_eq0 (by omega)) (fun hz => absurd (by decide) hz) (fun _ => ?_)
  refine V_aload_n (pc' := 897) 3 X dL_law_896 rfl rfl rfl ?_
  refine V_iconst (pc' := 898) (nI 0) X dL_law_897 ki_0 rfl ?_
  refine V_lald (pc' := 899) (v := (((nI ((c3 s) (36 + c)))).toInt64)) 67 0 X rfl (by omega) (by decide) pk_uLs dL_law_898 rfl ?_
  refine V_iload (pc' := 901) 6 X dL_law_899 rfl rfl ?_
  refine V_i2l (pc' := 902) (((nI (s (36 + c)))).toInt64) X dL_law_901 rfl rfl ?_
  refine V_lcmp (pc' := 903) (lg_cmp (((nI ((c3 s) (36 + c)))).toInt64) (((nI (s (36 + c)))).toInt64)) X dL_law_902 rfl rfl ?_
  refine V_if_eq (pc' := 906) (C := (lg_cmp (((nI ((c3 s) (36 + c)))).toInt64) (((nI (s (36 + c)))).toInt64)) = 0) 908 X dL_law_903 (by decide) rfl Iff.rfl (fun _ => ?_) (fun hz => absurd (lgc_eq (congrArg (fun z_ => Int32.toInt64 (nI z_)) (c3_o (by omega)))) hz)
  refine V_goto (pc' := 1602) X dL_law_908 (by decide) ?_
  refine V_lv [0, 1, 2, 3, 4] [(0, .ref b0), (1, .ref x), (2, .ref (y 0)), (3, .ref w), (4, .int (nI i))] rfl ?_
  exact K

set_option maxHeartbeats 4000000 in
set_option maxRecDepth 100000 in
theorem lc_heardOf {E : EE} {G : gT} {A : Nat → Prop} {Q : State → Prop} {l : Launch} {b0 L : Nat} {xs : Nat → Int32} (X : Cx E G A 7 cL_law RL wsL_law room_1 l) (hX : va_X b0 L xs (e_s E) (e_s E).heap) (hbl : b0 < (e_s E).heap.size) (hbA : ¬ A b0) (hL : L ≤ 1536) (x q w : Nat) (a r H g p f h : Nat → Nat) (n kn : Nat) (d T : Nat → Nat → Nat) (fo : Nat → Int64) (o : Nat → Option (Nat → Nat)) (O : Nat → Nat → Nat) (y : Nat → Nat) (t th : Nat) (s sl z hh g6 d7 : Nat → Nat) (kc ks i : Nat) (hI : IV s) (c : Nat) (hc : c < 10) (hu1 : xs (i + 1) = nI c) (hkc : kc + 8 ≤ 604766) (hks : ks + 83 ≤ 7281805) (hi : i + 3 ≤ L) (K : V E G A 7 [XB x (a 0) (r 0) (p 0) (h 0) q, DW G a (c3 s), RN G r H g, PD G p f n, HI G h kn d, HD G d T, SA G q o, MO y 0 kn n th, RW G (y 1) 70 s, RW G (y 2) 140 sl, RZ G (y 3) 2 z, RW G (y 4) 420 hh, RW G (y 5) 60 f, RW G (y 6) 10 g6, RW G (y 7) 32 d7, OU G w (vp_updL fo 0 (((nI ((c3 s) (49 + c)))).toInt64)), SQ G o O 0, SQ G o O 1] kc ks Q 1602 [(0, .ref b0), (1, .ref x), (2, .ref (y 0)), (3, .ref w), (4, .int (nI i))] []) : V E G A 7 [XB x (a 0) (r 0) (p 0) (h 0) q, DW G a (c3 s), RN G r H g, PD G p f n, HI G h kn d, HD G d T, SA G q o, MO y t kn n th, RW G (y 1) 70 s, RW G (y 2) 140 sl, RZ G (y 3) 2 z, RW G (y 4) 420 hh, RW G (y 5) 60 f, RW G (y 6) 10 g6, RW G (y 7) 32 d7, OU G w fo, SQ G o O 0, SQ G o O 1] kc ks Q 937 [(0, .ref b0), (1, .ref x), (2, .ref (y 0)), (3, .ref w), (4, .int (nI i))] [] := by
  show V E G A 7 [XB x (a 0) (r 0) (p 0) (h 0) q, DW G a (c3 s), RN G r H g, PD G p f n, HI G h kn d, HD G d T, SA G q o, MO y t kn n th, RW G (y 1) 70 s, RW G (y 2) 140 sl, RZ G (y 3) 2 z, RW G (y 4) 420 hh, RW G (y 5) 60 f, RW G (y 6) 10 g6, RW G (y 7) 32 d7, OU G w fo, SQ G o O 0, SQ G o O 1] kc ks Q 937 [(0, .ref b0), (1, .ref x), (2, .ref (y 0)), (3, .ref w), (4, .int (nI i))] []
  refine V_aload_n (pc' := 938) 1 X dL_law_937 rfl rfl rfl ?_
  refine V_aload_n (pc' := 939) 0 X dL_law_938 rfl rfl rfl ?_
  refine V_iload (pc' := 941) 4 X dL_law_939 rfl rfl ?_
  refine V_iconst (pc' := 942) (nI 1) X dL_law_941 ki_1 rfl ?_
  refine V_iadd (pc' := 943) (nI (i + 1)) X dL_law_942 (nI_add _ _) rfl ?_
  refine V_sld (pc' := 944) (v := nI c) X hX hbl hbA (j := i + 1) (by omega) (by omega) hu1 dL_law_943 rfl ?_
  refine V_aload_n (pc' := 945) 3 X dL_law_944 rfl rfl rfl ?_
  refine V_callSW (pc' := 948) (As := [.ref x, .int (nI c), .ref w]) (st := []) [0, 1, 15] [2, 3, 4, 5, 6, 7, 8, 9, 10, 11, 12, 13, 14, 16, 17] pm_12 X (c_L_heardOf l G x q w a (c3 s) r H g p f h n kn d T fo (IV_c3 hI) c hc) rfl gL_law_L_heardOf rfl rfl (Nat.le_of_ble_eq_true rfl) ⟨Nat.le_of_ble_eq_true rfl, Nat.le_of_ble_eq_true rfl⟩ ⟨show kc + 0 ≤ 604766 by omega, show ks + 0 ≤ 7281805 by omega⟩ dL_law_945 rfl (fun v_ u_ hp_ => ?_)
  obtain ⟨rfl, rfl⟩ := hp_
  show V E G A 7 [RN G r H g, PD G p f n, HI G h kn d, HD G d T, SA G q o, MO y t kn n th, RW G (y 1) 70 s, RW G (y 2) 140 sl, RZ G (y 3) 2 z, RW G (y 4) 420 hh, RW G (y 5) 60 f, RW G (y 6) 10 g6, RW G (y 7) 32 d7, SQ G o O 0, SQ G o O 1, XB x (a 0) (r 0) (p 0) (h 0) q, DW G a (c3 s), OU G w (vp_updL fo 0 (((nI ((c3 s) (49 + c)))).toInt64))] kc ks Q 948 [(0, .ref b0), (1, .ref x), (2, .ref (y 0)), (3, .ref w), (4, .int (nI i))] [.int (nI 0)]
  refine V_ord [15, 16, 0, 1, 2, 3, 4, 5, 6, 7, 8, 9, 10, 11, 12, 17, 13, 14] [XB x (a 0) (r 0) (p 0) (h 0) q, DW G a (c3 s), RN G r H g, PD G p f n, HI G h kn d, HD G d T, SA G q o, MO y t kn n th, RW G (y 1) 70 s, RW G (y 2) 140 sl, RZ G (y 3) 2 z, RW G (y 4) 420 hh, RW G (y 5) 60 f, RW G (y 6) 10 g6, RW G (y 7) 32 d7, OU G w (vp_updL fo 0 (((nI ((c3 s) (49 + c)))).toInt64)), SQ G o O 0, SQ G o O 1] pm_13 rfl ?_
  refine V_istore (pc' := 950) [(0, .ref b0), (1, .ref x), (2, .ref (y 0)), (3, .ref w), (4, .int (nI i)), (5, .int (nI 0))] [1, 2, 3, 4, 5, 0] X dL_law_948 (Nat.le_of_ble_eq_true rfl) rfl rfl ?_
  refine V_aload_n (pc' := 951) 2 X dL_law_950 rfl rfl rfl ?_
  refine V_aload_n (pc' := 952) 0 X dL_law_951 rfl rfl rfl ?_
  refine V_iload (pc' := 954) 4 X dL_law_952 rfl rfl ?_
  refine V_iconst (pc' := 955) (nI 1) X dL_law_954 ki_1 rfl ?_
  refine V_iadd (pc' := 956) (nI (i + 1)) X dL_law_955 (nI_add _ _) rfl ?_
  refine V_sld (pc' := 957) (v := nI c) X hX hbl hbA (j := i + 1) (by omega) (by omega) hu1 dL_law_956 rfl ?_
  refine V_callV (pc' := 960) (As := [.int (nI c)]) (st := []) 6 59 [7, 8] [0, 1, 2, 3, 4, 5, 6, 9, 10, 11, 12, 13, 14, 15, 16, 17] pm_14 X (c_X6_heardOf l G y t kn n th s hI c (by omega)) rfl gL_law_X6_heardOf rfl (by decide) rfl rfl rfl (Nat.le_of_ble_eq_true rfl) ⟨Nat.le_of_ble_eq_true rfl, Nat.le_of_ble_eq_true rfl⟩ ⟨show kc + 0 ≤ 604766 by omega, show ks + 0 ≤ 7281805 by omega⟩ dL_law_957 rfl (fun v_ u_ hp_ => ?_)
  obtain ⟨rfl, rfl⟩ := hp_
  show V E G A 7 [XB x (a 0) (r 0) (p 0) (h 0) q, DW G a (c3 s), RN G r H g, PD G p f n, HI G h kn d, HD G d T, SA G q o, RW G (y 2) 140 sl, RZ G (y 3) 2 z, RW G (y 4) 420 hh, RW G (y 5) 60 f, RW G (y 6) 10 g6, RW G (y 7) 32 d7, OU G w (vp_updL fo 0 (((nI ((c3 s) (49 + c)))).toInt64)), SQ G o O 0, SQ G o O 1, MO y 0 kn n th, RW G (y 1) 70 s] kc ks Q 960 [(0, .ref b0), (1, .ref x), (2, .ref (y 0)), (3, .ref w), (4, .int (nI i)), (5, .int (nI 0))] [.int (nI (s (49 + c)))]
  refine V_ord [0, 1, 2, 3, 4, 5, 6, 16, 17, 7, 8, 9, 10, 11, 12, 13, 14, 15] [XB x (a 0) (r 0) (p 0) (h 0) q, DW G a (c3 s), RN G r H g, PD G p f n, HI G h kn d, HD G d T, SA G q o, MO y 0 kn n th, RW G (y 1) 70 s, RW G (y 2) 140 sl, RZ G (y 3) 2 z, RW G (y 4) 420 hh, RW G (y 5) 60 f, RW G (y 6) 10 g6, RW G (y 7) 32 d7, OU G w (vp_updL fo 0 (((nI ((c3 s) (49 + c)))).toInt64)), SQ G o O 0, SQ G o O 1] pm_15 rfl ?_
  refine V_istore (pc' := 962) [(0, .ref b0), (1, .ref x), (2, .ref (y 0)), (3, .ref w), (4, .int (nI i)), (5, .int (nI 0)), (6, .int (nI (s (49 + c))))] [1, 2, 3, 4, 5, 6, 0] X dL_law_960 (Nat.le_of_ble_eq_true rfl) rfl rfl ?_
  refine V_aload_n (pc' := 963) 2 X dL_law_962 rfl rfl rfl ?_
  refine V_callV (pc' := 966) (As := []) (st := []) 6 59 [7] [0, 1, 2, 3, 4, 5, 6, 8, 9, 10, 11, 12, 13, 14, 15, 16, 17] pm_4 X (c_X6_thrown l G y 0 kn n th) rfl gL_law_X6_thrown rfl (by decide) rfl rfl rfl (Nat.le_of_ble_eq_true rfl) ⟨Nat.le_of_ble_eq_true rfl, Nat.le_of_ble_eq_true rfl⟩ ⟨show kc + 0 ≤ 604766 by omega, show ks + 0 ≤ 7281805 by omega⟩ dL_law_963 rfl (fun v_ u_ hp_ => ?_)
  obtain ⟨rfl, rfl⟩ := hp_
  show V E G A 7 [XB x (a 0) (r 0) (p 0) (h 0) q, DW G a (c3 s), RN G r H g, PD G p f n, HI G h kn d, HD G d T, SA G q o, RW G (y 1) 70 s, RW G (y 2) 140 sl, RZ G (y 3) 2 z, RW G (y 4) 420 hh, RW G (y 5) 60 f, RW G (y 6) 10 g6, RW G (y 7) 32 d7, OU G w (vp_updL fo 0 (((nI ((c3 s) (49 + c)))).toInt64)), SQ G o O 0, SQ G o O 1, MO y 0 kn n th] kc ks Q 966 [(0, .ref b0), (1, .ref x), (2, .ref (y 0)), (3, .ref w), (4, .int (nI i)), (5, .int (nI 0)), (6, .int (nI (s (49 + c))))] [.int (nI 0)]
  refine V_ord [0, 1, 2, 3, 4, 5, 6, 17, 7, 8, 9, 10, 11, 12, 13, 14, 15, 16] [XB x (a 0) (r 0) (p 0) (h 0) q, DW G a (c3 s), RN G r H g, PD G p f n, HI G h kn d, HD G d T, SA G q o, MO y 0 kn n th, RW G (y 1) 70 s, RW G (y 2) 140 sl, RZ G (y 3) 2 z, RW G (y 4) 420 hh, RW G (y 5) 60 f, RW G (y 6) 10 g6, RW G (y 7) 32 d7, OU G w (vp_updL fo 0 (((nI ((c3 s) (49 + c)))).toInt64)), SQ G o O 0, SQ G o O 1] pm_5 rfl ?_
  refine V_iload (pc' := 968) 5 X dL_law_966 rfl rfl ?_
  refine V_icmp_eq (pc' := 971) (C := 0 = 0) 973 X dL_law_968 (by decide) rfl (nI_eq (by omega) (by omega)) (fun _ => ?_) (fun hz => absurd (by decide) hz)
  refine V_iload (pc' := 975) 5 X dL_law_973 rfl rfl ?_
  refine V_if_ne (pc' := 978) (C := 0 = 0) 990 X dL_law_975 (by decide) rfl (z_eq0 (by omega)) (fun hz => absurd (by decide) hz) (fun _ => ?_)
  refine V_aload_n (pc' := 979) 3 X dL_law_978 rfl rfl rfl ?_
  refine V_iconst (pc' := 980) (nI 0) X dL_law_979 ki_0 rfl ?_
  refine V_lald (pc' := 981) (v := (((nI ((c3 s) (49 + c)))).toInt64)) 67 0 X rfl (by omega) (by decide) pk_uLs dL_law_980 rfl ?_
  refine V_iload (pc' := 983) 6 X dL_law_981 rfl rfl ?_
  refine V_i2l (pc' := 984) (((nI (s (49 + c)))).toInt64) X dL_law_983 rfl rfl ?_
  refine V_lcmp (pc' := 985) (lg_cmp (((nI ((c3 s) (49 + c)))).toInt64) (((nI (s (49 + c)))).toInt64)) X dL_law_984 rfl rfl ?_
  refine V_if_eq (pc' := 988) (C := (lg_cmp (((nI ((c3 s) (49 + c)))).toInt64) (((nI (s (49 + c)))).toInt64)) = 0) 990 X dL_law_985 (by decide) rfl Iff.rfl (fun _ => ?_) (fun hz => absurd (lgc_eq (congrArg (fun z_ => Int32.toInt64 (nI z_)) (c3_o (by omega)))) hz)
  refine V_goto (pc' := 1602) X dL_law_990 (by decide) ?_
  refine V_lv [0, 1, 2, 3, 4] [(0, .ref b0), (1, .ref x), (2, .ref (y 0)), (3, .ref w), (4, .int (nI i))] rfl ?_
  exact K

set_option maxHeartbeats 4000000 in
set_option maxRecDepth 100000 in
theorem lc_whyMissed {E : EE} {G : gT} {A : Nat → Prop} {Q : State → Prop} {l : Launch} {b0 L : Nat} {xs : Nat → Int32} (X : Cx E G A 7 cL_law RL wsL_law room_1 l) (hX : va_X b0 L xs (e_s E) (e_s E).heap) (hbl : b0 < (e_s E).heap.size) (hbA : ¬ A b0) (hL : L ≤ 1536) (x q w : Nat) (a r H g p f h : Nat → Nat) (n kn : Nat) (d T : Nat → Nat → Nat) (fo : Nat → Int64) (o : Nat → Option (Nat → Nat)) (O : Nat → Nat → Nat) (y : Nat → Nat) (t th : Nat) (s sl z hh g6 d7 : Nat → Nat) (kc ks i : Nat) (hI : IV s) (c : Nat) (hc : c < 10) (hu1 : xs (i + 1) = nI c) (hkc : kc + 8 ≤ 604766) (hks : ks + 83 ≤ 7281805) (hi : i + 3 ≤ L) (K : V E G A 7 [XB x (a 0) (r 0) (p 0) (h 0) q, DW G a (c3 s), RN G r H g, PD G p f n, HI G h kn d, HD G d T, SA G q o, MO y 0 kn n th, RW G (y 1) 70 s, RW G (y 2) 140 sl, RZ G (y 3) 2 z, RW G (y 4) 420 hh, RW G (y 5) 60 f, RW G (y 6) 10 g6, RW G (y 7) 32 d7, OU G w (vp_updL fo 0 (((nI (why (c3 s) c))).toInt64)), SQ G o O 0, SQ G o O 1] kc ks Q 1602 [(0, .ref b0), (1, .ref x), (2, .ref (y 0)), (3, .ref w), (4, .int (nI i))] []) : V E G A 7 [XB x (a 0) (r 0) (p 0) (h 0) q, DW G a (c3 s), RN G r H g, PD G p f n, HI G h kn d, HD G d T, SA G q o, MO y t kn n th, RW G (y 1) 70 s, RW G (y 2) 140 sl, RZ G (y 3) 2 z, RW G (y 4) 420 hh, RW G (y 5) 60 f, RW G (y 6) 10 g6, RW G (y 7) 32 d7, OU G w fo, SQ G o O 0, SQ G o O 1] kc ks Q 1047 [(0, .ref b0), (1, .ref x), (2, .ref (y 0)), (3, .ref w), (4, .int (nI i))] [] := by
  show V E G A 7 [XB x (a 0) (r 0) (p 0) (h 0) q, DW G a (c3 s), RN G r H g, PD G p f n, HI G h kn d, HD G d T, SA G q o, MO y t kn n th, RW G (y 1) 70 s, RW G (y 2) 140 sl, RZ G (y 3) 2 z, RW G (y 4) 420 hh, RW G (y 5) 60 f, RW G (y 6) 10 g6, RW G (y 7) 32 d7, OU G w fo, SQ G o O 0, SQ G o O 1] kc ks Q 1047 [(0, .ref b0), (1, .ref x), (2, .ref (y 0)), (3, .ref w), (4, .int (nI i))] []
  refine V_aload_n (pc' := 1048) 1 X dL_law_1047 rfl rfl rfl ?_
  refine V_aload_n (pc' := 1049) 0 X dL_law_1048 rfl rfl rfl ?_
  refine V_iload (pc' := 1051) 4 X dL_law_1049 rfl rfl ?_
  refine V_iconst (pc' := 1052) (nI 1) X dL_law_1051 ki_1 rfl ?_
  refine V_iadd (pc' := 1053) (nI (i + 1)) X dL_law_1052 (nI_add _ _) rfl ?_
  refine V_sld (pc' := 1054) (v := nI c) X hX hbl hbA (j := i + 1) (by omega) (by omega) hu1 dL_law_1053 rfl ?_
  refine V_aload_n (pc' := 1055) 3 X dL_law_1054 rfl rfl rfl ?_
  refine V_callSW (pc' := 1058) (As := [.ref x, .int (nI c), .ref w]) (st := []) [0, 1, 15] [2, 3, 4, 5, 6, 7, 8, 9, 10, 11, 12, 13, 14, 16, 17] pm_12 X (c_L_whyMissed l G x q w a (c3 s) r H g p f h n kn d T fo (IV_c3 hI) c hc) rfl gL_law_L_whyMissed rfl rfl (Nat.le_of_ble_eq_true rfl) ⟨Nat.le_of_ble_eq_true rfl, Nat.le_of_ble_eq_true rfl⟩ ⟨show kc + 0 ≤ 604766 by omega, show ks + 0 ≤ 7281805 by omega⟩ dL_law_1055 rfl (fun v_ u_ hp_ => ?_)
  obtain ⟨rfl, rfl⟩ := hp_
  show V E G A 7 [RN G r H g, PD G p f n, HI G h kn d, HD G d T, SA G q o, MO y t kn n th, RW G (y 1) 70 s, RW G (y 2) 140 sl, RZ G (y 3) 2 z, RW G (y 4) 420 hh, RW G (y 5) 60 f, RW G (y 6) 10 g6, RW G (y 7) 32 d7, SQ G o O 0, SQ G o O 1, XB x (a 0) (r 0) (p 0) (h 0) q, DW G a (c3 s), OU G w (vp_updL fo 0 (((nI (why (c3 s) c))).toInt64))] kc ks Q 1058 [(0, .ref b0), (1, .ref x), (2, .ref (y 0)), (3, .ref w), (4, .int (nI i))] [.int (nI 0)]
  refine V_ord [15, 16, 0, 1, 2, 3, 4, 5, 6, 7, 8, 9, 10, 11, 12, 17, 13, 14] [XB x (a 0) (r 0) (p 0) (h 0) q, DW G a (c3 s), RN G r H g, PD G p f n, HI G h kn d, HD G d T, SA G q o, MO y t kn n th, RW G (y 1) 70 s, RW G (y 2) 140 sl, RZ G (y 3) 2 z, RW G (y 4) 420 hh, RW G (y 5) 60 f, RW G (y 6) 10 g6, RW G (y 7) 32 d7, OU G w (vp_updL fo 0 (((nI (why (c3 s) c))).toInt64)), SQ G o O 0, SQ G o O 1] pm_13 rfl ?_
  refine V_istore (pc' := 1060) [(0, .ref b0), (1, .ref x), (2, .ref (y 0)), (3, .ref w), (4, .int (nI i)), (5, .int (nI 0))] [1, 2, 3, 4, 5, 0] X dL_law_1058 (Nat.le_of_ble_eq_true rfl) rfl rfl ?_
  refine V_aload_n (pc' := 1061) 2 X dL_law_1060 rfl rfl rfl ?_
  refine V_aload_n (pc' := 1062) 0 X dL_law_1061 rfl rfl rfl ?_
  refine V_iload (pc' := 1064) 4 X dL_law_1062 rfl rfl ?_
  refine V_iconst (pc' := 1065) (nI 1) X dL_law_1064 ki_1 rfl ?_
  refine V_iadd (pc' := 1066) (nI (i + 1)) X dL_law_1065 (nI_add _ _) rfl ?_
  refine V_sld (pc' := 1067) (v := nI c) X hX hbl hbA (j := i + 1) (by omega) (by omega) hu1 dL_law_1066 rfl ?_
  refine V_callV (pc' := 1070) (As := [.int (nI c)]) (st := []) 6 59 [7, 8] [0, 1, 2, 3, 4, 5, 6, 9, 10, 11, 12, 13, 14, 15, 16, 17] pm_14 X (c_X6_whyMissed l G y t kn n th s hI c hc) rfl gL_law_X6_whyMissed rfl (by decide) rfl rfl rfl (Nat.le_of_ble_eq_true rfl) ⟨Nat.le_of_ble_eq_true rfl, Nat.le_of_ble_eq_true rfl⟩ ⟨show kc + 0 ≤ 604766 by omega, show ks + 0 ≤ 7281805 by omega⟩ dL_law_1067 rfl (fun v_ u_ hp_ => ?_)
  obtain ⟨rfl, rfl⟩ := hp_
  show V E G A 7 [XB x (a 0) (r 0) (p 0) (h 0) q, DW G a (c3 s), RN G r H g, PD G p f n, HI G h kn d, HD G d T, SA G q o, RW G (y 2) 140 sl, RZ G (y 3) 2 z, RW G (y 4) 420 hh, RW G (y 5) 60 f, RW G (y 6) 10 g6, RW G (y 7) 32 d7, OU G w (vp_updL fo 0 (((nI (why (c3 s) c))).toInt64)), SQ G o O 0, SQ G o O 1, MO y 0 kn n th, RW G (y 1) 70 s] kc ks Q 1070 [(0, .ref b0), (1, .ref x), (2, .ref (y 0)), (3, .ref w), (4, .int (nI i)), (5, .int (nI 0))] [.int (nI (why s c))]
  refine V_ord [0, 1, 2, 3, 4, 5, 6, 16, 17, 7, 8, 9, 10, 11, 12, 13, 14, 15] [XB x (a 0) (r 0) (p 0) (h 0) q, DW G a (c3 s), RN G r H g, PD G p f n, HI G h kn d, HD G d T, SA G q o, MO y 0 kn n th, RW G (y 1) 70 s, RW G (y 2) 140 sl, RZ G (y 3) 2 z, RW G (y 4) 420 hh, RW G (y 5) 60 f, RW G (y 6) 10 g6, RW G (y 7) 32 d7, OU G w (vp_updL fo 0 (((nI (why (c3 s) c))).toInt64)), SQ G o O 0, SQ G o O 1] pm_15 rfl ?_
  refine V_istore (pc' := 1072) [(0, .ref b0), (1, .ref x), (2, .ref (y 0)), (3, .ref w), (4, .int (nI i)), (5, .int (nI 0)), (6, .int (nI (why s c)))] [1, 2, 3, 4, 5, 6, 0] X dL_law_1070 (Nat.le_of_ble_eq_true rfl) rfl rfl ?_
  refine V_aload_n (pc' := 1073) 2 X dL_law_1072 rfl rfl rfl ?_
  refine V_callV (pc' := 1076) (As := []) (st := []) 6 59 [7] [0, 1, 2, 3, 4, 5, 6, 8, 9, 10, 11, 12, 13, 14, 15, 16, 17] pm_4 X (c_X6_thrown l G y 0 kn n th) rfl gL_law_X6_thrown rfl (by decide) rfl rfl rfl (Nat.le_of_ble_eq_true rfl) ⟨Nat.le_of_ble_eq_true rfl, Nat.le_of_ble_eq_true rfl⟩ ⟨show kc + 0 ≤ 604766 by omega, show ks + 0 ≤ 7281805 by omega⟩ dL_law_1073 rfl (fun v_ u_ hp_ => ?_)
  obtain ⟨rfl, rfl⟩ := hp_
  show V E G A 7 [XB x (a 0) (r 0) (p 0) (h 0) q, DW G a (c3 s), RN G r H g, PD G p f n, HI G h kn d, HD G d T, SA G q o, RW G (y 1) 70 s, RW G (y 2) 140 sl, RZ G (y 3) 2 z, RW G (y 4) 420 hh, RW G (y 5) 60 f, RW G (y 6) 10 g6, RW G (y 7) 32 d7, OU G w (vp_updL fo 0 (((nI (why (c3 s) c))).toInt64)), SQ G o O 0, SQ G o O 1, MO y 0 kn n th] kc ks Q 1076 [(0, .ref b0), (1, .ref x), (2, .ref (y 0)), (3, .ref w), (4, .int (nI i)), (5, .int (nI 0)), (6, .int (nI (why s c)))] [.int (nI 0)]
  refine V_ord [0, 1, 2, 3, 4, 5, 6, 17, 7, 8, 9, 10, 11, 12, 13, 14, 15, 16] [XB x (a 0) (r 0) (p 0) (h 0) q, DW G a (c3 s), RN G r H g, PD G p f n, HI G h kn d, HD G d T, SA G q o, MO y 0 kn n th, RW G (y 1) 70 s, RW G (y 2) 140 sl, RZ G (y 3) 2 z, RW G (y 4) 420 hh, RW G (y 5) 60 f, RW G (y 6) 10 g6, RW G (y 7) 32 d7, OU G w (vp_updL fo 0 (((nI (why (c3 s) c))).toInt64)), SQ G o O 0, SQ G o O 1] pm_5 rfl ?_
  refine V_iload (pc' := 1078) 5 X dL_law_1076 rfl rfl ?_
  refine V_icmp_eq (pc' := 1081) (C := 0 = 0) 1083 X dL_law_1078 (by decide) rfl (nI_eq (by omega) (by omega)) (fun _ => ?_) (fun hz => absurd (by decide) hz)
  refine V_iload (pc' := 1085) 5 X dL_law_1083 rfl rfl ?_
  refine V_if_ne (pc' := 1088) (C := 0 = 0) 1100 X dL_law_1085 (by decide) rfl (z_eq0 (by omega)) (fun hz => absurd (by decide) hz) (fun _ => ?_)
  refine V_aload_n (pc' := 1089) 3 X dL_law_1088 rfl rfl rfl ?_
  refine V_iconst (pc' := 1090) (nI 0) X dL_law_1089 ki_0 rfl ?_
  refine V_lald (pc' := 1091) (v := (((nI (why (c3 s) c))).toInt64)) 67 0 X rfl (by omega) (by decide) pk_uLs dL_law_1090 rfl ?_
  refine V_iload (pc' := 1093) 6 X dL_law_1091 rfl rfl ?_
  refine V_i2l (pc' := 1094) (((nI (why s c))).toInt64) X dL_law_1093 rfl rfl ?_
  refine V_lcmp (pc' := 1095) (lg_cmp (((nI (why (c3 s) c))).toInt64) (((nI (why s c))).toInt64)) X dL_law_1094 rfl rfl ?_
  refine V_if_eq (pc' := 1098) (C := (lg_cmp (((nI (why (c3 s) c))).toInt64) (((nI (why s c))).toInt64)) = 0) 1100 X dL_law_1095 (by decide) rfl Iff.rfl (fun _ => ?_) (fun hz => absurd (lgc_eq (congrArg (fun z_ => Int32.toInt64 (nI z_)) (why_c3 hI hc))) hz)
  refine V_goto (pc' := 1602) X dL_law_1100 (by decide) ?_
  refine V_lv [0, 1, 2, 3, 4] [(0, .ref b0), (1, .ref x), (2, .ref (y 0)), (3, .ref w), (4, .int (nI i))] rfl ?_
  exact K

set_option maxHeartbeats 4000000 in
set_option maxRecDepth 100000 in
theorem lc_inRound {E : EE} {G : gT} {A : Nat → Prop} {Q : State → Prop} {l : Launch} {b0 L : Nat} {xs : Nat → Int32} (X : Cx E G A 7 cL_law RL wsL_law room_1 l) (hX : va_X b0 L xs (e_s E) (e_s E).heap) (hbl : b0 < (e_s E).heap.size) (hbA : ¬ A b0) (hL : L ≤ 1536) (x q w : Nat) (a r H g p f h : Nat → Nat) (n kn : Nat) (d T : Nat → Nat → Nat) (fo : Nat → Int64) (o : Nat → Option (Nat → Nat)) (O : Nat → Nat → Nat) (y : Nat → Nat) (t th : Nat) (s sl z hh g6 d7 : Nat → Nat) (kc ks i : Nat) (hI : IV s) (c : Nat) (hc : c < 32) (hu1 : xs (i + 1) = nI c) (hkc : kc + 8 ≤ 604766) (hks : ks + 83 ≤ 7281805) (hi : i + 3 ≤ L) (K : ∀ (g7 : Nat → Nat), V E G A 7 [XB x (a 0) (r 0) (p 0) (h 0) q, DW G a (c3 s), RN G r (rh 3 (c3 s) ((c3 s) 46)) (rsp 3 (c3 s) ((c3 s) 46) 32), PD G p f n, HI G h kn d, HD G d T, SA G q o, MO y 0 kn n (tv s (s 46) 32), RW G (y 1) 70 s, RW G (y 2) 140 sl, RZ G (y 3) 2 z, RW G (y 4) 420 hh, RW G (y 5) 60 f, RW G (y 6) 10 g7, RW G (y 7) 32 (rh 9 s (s 46)), OU G w (vp_updL fo 0 (((nI (rh 3 (c3 s) ((c3 s) 46) c))).toInt64)), SQ G o O 0, SQ G o O 1] kc ks Q 1602 [(0, .ref b0), (1, .ref x), (2, .ref (y 0)), (3, .ref w), (4, .int (nI i))] []) : V E G A 7 [XB x (a 0) (r 0) (p 0) (h 0) q, DW G a (c3 s), RN G r H g, PD G p f n, HI G h kn d, HD G d T, SA G q o, MO y t kn n th, RW G (y 1) 70 s, RW G (y 2) 140 sl, RZ G (y 3) 2 z, RW G (y 4) 420 hh, RW G (y 5) 60 f, RW G (y 6) 10 g6, RW G (y 7) 32 d7, OU G w fo, SQ G o O 0, SQ G o O 1] kc ks Q 1103 [(0, .ref b0), (1, .ref x), (2, .ref (y 0)), (3, .ref w), (4, .int (nI i))] [] := by
  show V E G A 7 [XB x (a 0) (r 0) (p 0) (h 0) q, DW G a (c3 s), RN G r H g, PD G p f n, HI G h kn d, HD G d T, SA G q o, MO y t kn n th, RW G (y 1) 70 s, RW G (y 2) 140 sl, RZ G (y 3) 2 z, RW G (y 4) 420 hh, RW G (y 5) 60 f, RW G (y 6) 10 g6, RW G (y 7) 32 d7, OU G w fo, SQ G o O 0, SQ G o O 1] kc ks Q 1103 [(0, .ref b0), (1, .ref x), (2, .ref (y 0)), (3, .ref w), (4, .int (nI i))] []
  refine V_aload_n (pc' := 1104) 1 X dL_law_1103 rfl rfl rfl ?_
  refine V_aload_n (pc' := 1105) 0 X dL_law_1104 rfl rfl rfl ?_
  refine V_iload (pc' := 1107) 4 X dL_law_1105 rfl rfl ?_
  refine V_iconst (pc' := 1108) (nI 1) X dL_law_1107 ki_1 rfl ?_
  refine V_iadd (pc' := 1109) (nI (i + 1)) X dL_law_1108 (nI_add _ _) rfl ?_
  refine V_sld (pc' := 1110) (v := nI c) X hX hbl hbA (j := i + 1) (by omega) (by omega) hu1 dL_law_1109 rfl ?_
  refine V_aload_n (pc' := 1111) 3 X dL_law_1110 rfl rfl rfl ?_
  refine V_callSW (pc' := 1114) (As := [.ref x, .int (nI c), .ref w]) (st := []) [0, 1, 2, 15] [3, 4, 5, 6, 7, 8, 9, 10, 11, 12, 13, 14, 16, 17] pm_16 X (c_L_inRound l G x q w a (c3 s) r H g p f h n kn d T fo (IV_c3 hI) c hc) rfl gL_law_L_inRound rfl rfl (Nat.le_of_ble_eq_true rfl) ⟨Nat.le_of_ble_eq_true rfl, Nat.le_of_ble_eq_true rfl⟩ ⟨show kc + 0 ≤ 604766 by omega, show ks + 0 ≤ 7281805 by omega⟩ dL_law_1111 rfl (fun v_ u_ hp_ => ?_)
  obtain ⟨rfl, rfl⟩ := hp_
  show V E G A 7 [PD G p f n, HI G h kn d, HD G d T, SA G q o, MO y t kn n th, RW G (y 1) 70 s, RW G (y 2) 140 sl, RZ G (y 3) 2 z, RW G (y 4) 420 hh, RW G (y 5) 60 f, RW G (y 6) 10 g6, RW G (y 7) 32 d7, SQ G o O 0, SQ G o O 1, XB x (a 0) (r 0) (p 0) (h 0) q, DW G a (c3 s), RN G r (rh 3 (c3 s) ((c3 s) 46)) (rsp 3 (c3 s) ((c3 s) 46) 32), OU G w (vp_updL fo 0 (((nI (rh 3 (c3 s) ((c3 s) 46) c))).toInt64))] kc ks Q 1114 [(0, .ref b0), (1, .ref x), (2, .ref (y 0)), (3, .ref w), (4, .int (nI i))] [.int (nI 0)]
  refine V_ord [14, 15, 16, 0, 1, 2, 3, 4, 5, 6, 7, 8, 9, 10, 11, 17, 12, 13] [XB x (a 0) (r 0) (p 0) (h 0) q, DW G a (c3 s), RN G r (rh 3 (c3 s) ((c3 s) 46)) (rsp 3 (c3 s) ((c3 s) 46) 32), PD G p f n, HI G h kn d, HD G d T, SA G q o, MO y t kn n th, RW G (y 1) 70 s, RW G (y 2) 140 sl, RZ G (y 3) 2 z, RW G (y 4) 420 hh, RW G (y 5) 60 f, RW G (y 6) 10 g6, RW G (y 7) 32 d7, OU G w (vp_updL fo 0 (((nI (rh 3 (c3 s) ((c3 s) 46) c))).toInt64)), SQ G o O 0, SQ G o O 1] pm_17 rfl ?_
  refine V_istore (pc' := 1116) [(0, .ref b0), (1, .ref x), (2, .ref (y 0)), (3, .ref w), (4, .int (nI i)), (5, .int (nI 0))] [1, 2, 3, 4, 5, 0] X dL_law_1114 (Nat.le_of_ble_eq_true rfl) rfl rfl ?_
  refine V_aload_n (pc' := 1117) 2 X dL_law_1116 rfl rfl rfl ?_
  refine V_aload_n (pc' := 1118) 0 X dL_law_1117 rfl rfl rfl ?_
  refine V_iload (pc' := 1120) 4 X dL_law_1118 rfl rfl ?_
  refine V_iconst (pc' := 1121) (nI 1) X dL_law_1120 ki_1 rfl ?_
  refine V_iadd (pc' := 1122) (nI (i + 1)) X dL_law_1121 (nI_add _ _) rfl ?_
  refine V_sld (pc' := 1123) (v := nI c) X hX hbl hbA (j := i + 1) (by omega) (by omega) hu1 dL_law_1122 rfl ?_
  refine V_callV (pc' := 1126) (As := [.int (nI c)]) (st := []) 6 59 [7, 8, 13, 14] [0, 1, 2, 3, 4, 5, 6, 9, 10, 11, 12, 15, 16, 17] pm_18 X (c_X6_inRound l G y t kn n th s hI g6 d7 c hc) rfl gL_law_X6_inRound rfl (by decide) rfl rfl rfl (Nat.le_of_ble_eq_true rfl) ⟨Nat.le_of_ble_eq_true rfl, Nat.le_of_ble_eq_true rfl⟩ ⟨show kc + 0 ≤ 604766 by omega, show ks + 0 ≤ 7281805 by omega⟩ dL_law_1123 rfl (fun v_ u_ hp_ => ?_)
  obtain ⟨rfl, g7, rfl⟩ := hp_
  show V E G A 7 [XB x (a 0) (r 0) (p 0) (h 0) q, DW G a (c3 s), RN G r (rh 3 (c3 s) ((c3 s) 46)) (rsp 3 (c3 s) ((c3 s) 46) 32), PD G p f n, HI G h kn d, HD G d T, SA G q o, RW G (y 2) 140 sl, RZ G (y 3) 2 z, RW G (y 4) 420 hh, RW G (y 5) 60 f, OU G w (vp_updL fo 0 (((nI (rh 3 (c3 s) ((c3 s) 46) c))).toInt64)), SQ G o O 0, SQ G o O 1, MO y 0 kn n (tv s (s 46) 32), RW G (y 1) 70 s, RW G (y 6) 10 g7, RW G (y 7) 32 (rh 9 s (s 46))] kc ks Q 1126 [(0, .ref b0), (1, .ref x), (2, .ref (y 0)), (3, .ref w), (4, .int (nI i)), (5, .int (nI 0))] [.int (nI (rh 9 s (s 46) c))]
  refine V_ord [0, 1, 2, 3, 4, 5, 6, 14, 15, 7, 8, 9, 10, 16, 17, 11, 12, 13] [XB x (a 0) (r 0) (p 0) (h 0) q, DW G a (c3 s), RN G r (rh 3 (c3 s) ((c3 s) 46)) (rsp 3 (c3 s) ((c3 s) 46) 32), PD G p f n, HI G h kn d, HD G d T, SA G q o, MO y 0 kn n (tv s (s 46) 32), RW G (y 1) 70 s, RW G (y 2) 140 sl, RZ G (y 3) 2 z, RW G (y 4) 420 hh, RW G (y 5) 60 f, RW G (y 6) 10 g7, RW G (y 7) 32 (rh 9 s (s 46)), OU G w (vp_updL fo 0 (((nI (rh 3 (c3 s) ((c3 s) 46) c))).toInt64)), SQ G o O 0, SQ G o O 1] pm_19 rfl ?_
  refine V_istore (pc' := 1128) [(0, .ref b0), (1, .ref x), (2, .ref (y 0)), (3, .ref w), (4, .int (nI i)), (5, .int (nI 0)), (6, .int (nI (rh 9 s (s 46) c)))] [1, 2, 3, 4, 5, 6, 0] X dL_law_1126 (Nat.le_of_ble_eq_true rfl) rfl rfl ?_
  refine V_aload_n (pc' := 1129) 2 X dL_law_1128 rfl rfl rfl ?_
  refine V_callV (pc' := 1132) (As := []) (st := []) 6 59 [7] [0, 1, 2, 3, 4, 5, 6, 8, 9, 10, 11, 12, 13, 14, 15, 16, 17] pm_4 X (c_X6_thrown l G y 0 kn n (tv s (s 46) 32)) rfl gL_law_X6_thrown rfl (by decide) rfl rfl rfl (Nat.le_of_ble_eq_true rfl) ⟨Nat.le_of_ble_eq_true rfl, Nat.le_of_ble_eq_true rfl⟩ ⟨show kc + 0 ≤ 604766 by omega, show ks + 0 ≤ 7281805 by omega⟩ dL_law_1129 rfl (fun v_ u_ hp_ => ?_)
  obtain ⟨rfl, rfl⟩ := hp_
  show V E G A 7 [XB x (a 0) (r 0) (p 0) (h 0) q, DW G a (c3 s), RN G r (rh 3 (c3 s) ((c3 s) 46)) (rsp 3 (c3 s) ((c3 s) 46) 32), PD G p f n, HI G h kn d, HD G d T, SA G q o, RW G (y 1) 70 s, RW G (y 2) 140 sl, RZ G (y 3) 2 z, RW G (y 4) 420 hh, RW G (y 5) 60 f, RW G (y 6) 10 g7, RW G (y 7) 32 (rh 9 s (s 46)), OU G w (vp_updL fo 0 (((nI (rh 3 (c3 s) ((c3 s) 46) c))).toInt64)), SQ G o O 0, SQ G o O 1, MO y 0 kn n (tv s (s 46) 32)] kc ks Q 1132 [(0, .ref b0), (1, .ref x), (2, .ref (y 0)), (3, .ref w), (4, .int (nI i)), (5, .int (nI 0)), (6, .int (nI (rh 9 s (s 46) c)))] [.int (nI 0)]
  refine V_ord [0, 1, 2, 3, 4, 5, 6, 17, 7, 8, 9, 10, 11, 12, 13, 14, 15, 16] [XB x (a 0) (r 0) (p 0) (h 0) q, DW G a (c3 s), RN G r (rh 3 (c3 s) ((c3 s) 46)) (rsp 3 (c3 s) ((c3 s) 46) 32), PD G p f n, HI G h kn d, HD G d T, SA G q o, MO y 0 kn n (tv s (s 46) 32), RW G (y 1) 70 s, RW G (y 2) 140 sl, RZ G (y 3) 2 z, RW G (y 4) 420 hh, RW G (y 5) 60 f, RW G (y 6) 10 g7, RW G (y 7) 32 (rh 9 s (s 46)), OU G w (vp_updL fo 0 (((nI (rh 3 (c3 s) ((c3 s) 46) c))).toInt64)), SQ G o O 0, SQ G o O 1] pm_5 rfl ?_
  refine V_iload (pc' := 1134) 5 X dL_law_1132 rfl rfl ?_
  refine V_icmp_eq (pc' := 1137) (C := 0 = 0) 1139 X dL_law_1134 (by decide) rfl (nI_eq (by omega) (by omega)) (fun _ => ?_) (fun hz => absurd (by decide) hz)
  refine V_iload (pc' := 1141) 5 X dL_law_1139 rfl rfl ?_
  refine V_if_ne (pc' := 1144) (C := 0 = 0) 1156 X dL_law_1141 (by decide) rfl (z_eq0 (by omega)) (fun hz => absurd (by decide) hz) (fun _ => ?_)
  refine V_aload_n (pc' := 1145) 3 X dL_law_1144 rfl rfl rfl ?_
  refine V_iconst (pc' := 1146) (nI 0) X dL_law_1145 ki_0 rfl ?_
  refine V_lald (pc' := 1147) (v := (((nI (rh 3 (c3 s) ((c3 s) 46) c))).toInt64)) 67 0 X rfl (by omega) (by decide) pk_uLs dL_law_1146 rfl ?_
  refine V_iload (pc' := 1149) 6 X dL_law_1147 rfl rfl ?_
  refine V_i2l (pc' := 1150) (((nI (rh 9 s (s 46) c))).toInt64) X dL_law_1149 rfl rfl ?_
  refine V_lcmp (pc' := 1151) (lg_cmp (((nI (rh 3 (c3 s) ((c3 s) 46) c))).toInt64) (((nI (rh 9 s (s 46) c))).toInt64)) X dL_law_1150 rfl rfl ?_
  refine V_if_eq (pc' := 1154) (C := (lg_cmp (((nI (rh 3 (c3 s) ((c3 s) 46) c))).toInt64) (((nI (rh 9 s (s 46) c))).toInt64)) = 0) 1156 X dL_law_1151 (by decide) rfl Iff.rfl (fun _ => ?_) (fun hz => absurd (lgc_eq (congrArg (fun z_ => Int32.toInt64 (nI z_)) (show rh 3 (c3 s) (c3 s 46) c = rh 9 s (s 46) c by rw [eq_c46]; exact rh_c3 hI _ hc))) hz)
  refine V_goto (pc' := 1602) X dL_law_1156 (by decide) ?_
  refine V_lv [0, 1, 2, 3, 4] [(0, .ref b0), (1, .ref x), (2, .ref (y 0)), (3, .ref w), (4, .int (nI i))] rfl ?_
  exact K g7

set_option maxHeartbeats 4000000 in
set_option maxRecDepth 100000 in
theorem lc_put {E : EE} {G : gT} {A : Nat → Prop} {Q : State → Prop} {l : Launch} {b0 L : Nat} {xs : Nat → Int32} (X : Cx E G A 7 cL_law RL wsL_law room_1 l) (hX : va_X b0 L xs (e_s E) (e_s E).heap) (hbl : b0 < (e_s E).heap.size) (hbA : ¬ A b0) (hL : L ≤ 1536) (x q w : Nat) (a r H g p f h : Nat → Nat) (n kn : Nat) (d T : Nat → Nat → Nat) (fo : Nat → Int64) (o : Nat → Option (Nat → Nat)) (O : Nat → Nat → Nat) (y : Nat → Nat) (t th : Nat) (s sl z hh g6 d7 : Nat → Nat) (kc ks i : Nat) (hn : n ≤ 60) (hf : ∀ k, k < n → f k < 128) (v : Nat) (hu : v < 2 ^ 64) (u1 u2 : Int32) (hlv : (u1.toInt64 <<< ((nI 32).toInt64 &&& 63)) ||| (u2.toInt64 &&& lN 4294967295) = lN v) (hu1 : xs (i + 1) = u1) (hu2 : xs (i + 2) = u2) (hc : ¬ cin v = 0) (hr : n + cin v ≤ 60) (hkc : kc + 8 ≤ 604766) (hks : ks + 83 ≤ 7281805) (hi : i + 3 ≤ L) (K : V E G A 7 [XB x (a 0) (r 0) (p 0) (h 0) q, DW G a (c3 s), RN G r H g, PD G p (ap f n v (cin v)) (n + cin v), HI G h kn d, HD G d T, SA G q o, MO y 0 kn (n + cin v) th, RW G (y 1) 70 s, RW G (y 2) 140 sl, RZ G (y 3) 2 z, RW G (y 4) 420 hh, RW G (y 5) 60 (ap f n v (cin v)), RW G (y 6) 10 g6, RW G (y 7) 32 d7, OU G w (vp_updL fo 0 (((nI (n + cin v))).toInt64)), SQ G o O 0, SQ G o O 1] kc ks Q 1602 [(0, .ref b0), (1, .ref x), (2, .ref (y 0)), (3, .ref w), (4, .int (nI i))] []) : V E G A 7 [XB x (a 0) (r 0) (p 0) (h 0) q, DW G a (c3 s), RN G r H g, PD G p f n, HI G h kn d, HD G d T, SA G q o, MO y t kn n th, RW G (y 1) 70 s, RW G (y 2) 140 sl, RZ G (y 3) 2 z, RW G (y 4) 420 hh, RW G (y 5) 60 f, RW G (y 6) 10 g6, RW G (y 7) 32 d7, OU G w fo, SQ G o O 0, SQ G o O 1] kc ks Q 1306 [(0, .ref b0), (1, .ref x), (2, .ref (y 0)), (3, .ref w), (4, .int (nI i))] [] := by
  show V E G A 7 [XB x (a 0) (r 0) (p 0) (h 0) q, DW G a (c3 s), RN G r H g, PD G p f n, HI G h kn d, HD G d T, SA G q o, MO y t kn n th, RW G (y 1) 70 s, RW G (y 2) 140 sl, RZ G (y 3) 2 z, RW G (y 4) 420 hh, RW G (y 5) 60 f, RW G (y 6) 10 g6, RW G (y 7) 32 d7, OU G w fo, SQ G o O 0, SQ G o O 1] kc ks Q 1306 [(0, .ref b0), (1, .ref x), (2, .ref (y 0)), (3, .ref w), (4, .int (nI i))] []
  refine V_aload_n (pc' := 1307) 1 X dL_law_1306 rfl rfl rfl ?_
  refine V_aload_n (pc' := 1308) 0 X dL_law_1307 rfl rfl rfl ?_
  refine V_iload (pc' := 1310) 4 X dL_law_1308 rfl rfl ?_
  refine V_iconst (pc' := 1311) (nI 1) X dL_law_1310 ki_1 rfl ?_
  refine V_iadd (pc' := 1312) (nI (i + 1)) X dL_law_1311 (nI_add _ _) rfl ?_
  refine V_sld (pc' := 1313) (v := u1) X hX hbl hbA (j := i + 1) (by omega) (by omega) hu1 dL_law_1312 rfl ?_
  refine V_i2l (pc' := 1314) ((u1).toInt64) X dL_law_1313 rfl rfl ?_
  refine V_bipush (pc' := 1316) (nI 32) X dL_law_1314 kb_32 rfl ?_
  refine V_lshl (pc' := 1317) ((u1.toInt64 <<< ((nI 32).toInt64 &&& 63))) X dL_law_1316 rfl rfl ?_
  refine V_aload_n (pc' := 1318) 0 X dL_law_1317 rfl rfl rfl ?_
  refine V_iload (pc' := 1320) 4 X dL_law_1318 rfl rfl ?_
  refine V_iconst (pc' := 1321) (nI 2) X dL_law_1320 ki_2 rfl ?_
  refine V_iadd (pc' := 1322) (nI (i + 2)) X dL_law_1321 (nI_add _ _) rfl ?_
  refine V_sld (pc' := 1323) (v := u2) X hX hbl hbA (j := i + 2) (by omega) (by omega) hu2 dL_law_1322 rfl ?_
  refine V_i2l (pc' := 1324) ((u2).toInt64) X dL_law_1323 rfl rfl ?_
  refine V_ldc2 (pc' := 1327) (v := 4294967295) (lN 4294967295) X (by decide +kernel) (by decide +kernel) dL_law_1324 rfl ?_
  refine V_land (pc' := 1328) ((u2.toInt64 &&& lN 4294967295)) X dL_law_1327 rfl rfl ?_
  refine V_lor (pc' := 1329) (lN v) X dL_law_1328 hlv rfl ?_
  refine V_aload_n (pc' := 1330) 3 X dL_law_1329 rfl rfl rfl ?_
  refine V_callSW (pc' := 1333) (As := [.ref x, .long (lN v), .ref w]) (st := []) [0, 3, 15] [1, 2, 4, 5, 6, 7, 8, 9, 10, 11, 12, 13, 14, 16, 17] pm_20 X (c_L_put l G x q w a (c3 s) r H g p f h n kn d T fo hn hf v hu hc hr) rfl gL_law_L_put rfl rfl (Nat.le_of_ble_eq_true rfl) ⟨Nat.le_of_ble_eq_true rfl, Nat.le_of_ble_eq_true rfl⟩ ⟨show kc + 0 ≤ 604766 by omega, show ks + 0 ≤ 7281805 by omega⟩ dL_law_1330 rfl (fun v_ u_ hp_ => ?_)
  obtain ⟨rfl, rfl⟩ := hp_
  show V E G A 7 [DW G a (c3 s), RN G r H g, HI G h kn d, HD G d T, SA G q o, MO y t kn n th, RW G (y 1) 70 s, RW G (y 2) 140 sl, RZ G (y 3) 2 z, RW G (y 4) 420 hh, RW G (y 5) 60 f, RW G (y 6) 10 g6, RW G (y 7) 32 d7, SQ G o O 0, SQ G o O 1, XB x (a 0) (r 0) (p 0) (h 0) q, PD G p (ap f n v (cin v)) (n + cin v), OU G w (vp_updL fo 0 (((nI (n + cin v))).toInt64))] kc ks Q 1333 [(0, .ref b0), (1, .ref x), (2, .ref (y 0)), (3, .ref w), (4, .int (nI i))] [.int (nI 0)]
  refine V_ord [15, 0, 1, 16, 2, 3, 4, 5, 6, 7, 8, 9, 10, 11, 12, 17, 13, 14] [XB x (a 0) (r 0) (p 0) (h 0) q, DW G a (c3 s), RN G r H g, PD G p (ap f n v (cin v)) (n + cin v), HI G h kn d, HD G d T, SA G q o, MO y t kn n th, RW G (y 1) 70 s, RW G (y 2) 140 sl, RZ G (y 3) 2 z, RW G (y 4) 420 hh, RW G (y 5) 60 f, RW G (y 6) 10 g6, RW G (y 7) 32 d7, OU G w (vp_updL fo 0 (((nI (n + cin v))).toInt64)), SQ G o O 0, SQ G o O 1] pm_21 rfl ?_
  refine V_istore (pc' := 1335) [(0, .ref b0), (1, .ref x), (2, .ref (y 0)), (3, .ref w), (4, .int (nI i)), (5, .int (nI 0))] [1, 2, 3, 4, 5, 0] X dL_law_1333 (Nat.le_of_ble_eq_true rfl) rfl rfl ?_
  refine V_aload_n (pc' := 1336) 2 X dL_law_1335 rfl rfl rfl ?_
  refine V_aload_n (pc' := 1337) 0 X dL_law_1336 rfl rfl rfl ?_
  refine V_iload (pc' := 1339) 4 X dL_law_1337 rfl rfl ?_
  refine V_iconst (pc' := 1340) (nI 1) X dL_law_1339 ki_1 rfl ?_
  refine V_iadd (pc' := 1341) (nI (i + 1)) X dL_law_1340 (nI_add _ _) rfl ?_
  refine V_sld (pc' := 1342) (v := u1) X hX hbl hbA (j := i + 1) (by omega) (by omega) hu1 dL_law_1341 rfl ?_
  refine V_i2l (pc' := 1343) ((u1).toInt64) X dL_law_1342 rfl rfl ?_
  refine V_bipush (pc' := 1345) (nI 32) X dL_law_1343 kb_32 rfl ?_
  refine V_lshl (pc' := 1346) ((u1.toInt64 <<< ((nI 32).toInt64 &&& 63))) X dL_law_1345 rfl rfl ?_
  refine V_aload_n (pc' := 1347) 0 X dL_law_1346 rfl rfl rfl ?_
  refine V_iload (pc' := 1349) 4 X dL_law_1347 rfl rfl ?_
  refine V_iconst (pc' := 1350) (nI 2) X dL_law_1349 ki_2 rfl ?_
  refine V_iadd (pc' := 1351) (nI (i + 2)) X dL_law_1350 (nI_add _ _) rfl ?_
  refine V_sld (pc' := 1352) (v := u2) X hX hbl hbA (j := i + 2) (by omega) (by omega) hu2 dL_law_1351 rfl ?_
  refine V_i2l (pc' := 1353) ((u2).toInt64) X dL_law_1352 rfl rfl ?_
  refine V_ldc2 (pc' := 1356) (v := 4294967295) (lN 4294967295) X (by decide +kernel) (by decide +kernel) dL_law_1353 rfl ?_
  refine V_land (pc' := 1357) ((u2.toInt64 &&& lN 4294967295)) X dL_law_1356 rfl rfl ?_
  refine V_lor (pc' := 1358) (lN v) X dL_law_1357 hlv rfl ?_
  refine V_callV (pc' := 1361) (As := [.long (lN v)]) (st := []) 6 59 [7, 12] [0, 1, 2, 3, 4, 5, 6, 8, 9, 10, 11, 13, 14, 15, 16, 17] pm_22 X (c_X6_put l G y t kn n th f hn v hu hc hr) rfl gL_law_X6_put rfl (by decide) rfl rfl rfl (Nat.le_of_ble_eq_true rfl) ⟨Nat.le_of_ble_eq_true rfl, Nat.le_of_ble_eq_true rfl⟩ ⟨show kc + 0 ≤ 604766 by omega, show ks + 0 ≤ 7281805 by omega⟩ dL_law_1358 rfl (fun v_ u_ hp_ => ?_)
  obtain ⟨rfl, rfl⟩ := hp_
  show V E G A 7 [XB x (a 0) (r 0) (p 0) (h 0) q, DW G a (c3 s), RN G r H g, PD G p (ap f n v (cin v)) (n + cin v), HI G h kn d, HD G d T, SA G q o, RW G (y 1) 70 s, RW G (y 2) 140 sl, RZ G (y 3) 2 z, RW G (y 4) 420 hh, RW G (y 6) 10 g6, RW G (y 7) 32 d7, OU G w (vp_updL fo 0 (((nI (n + cin v))).toInt64)), SQ G o O 0, SQ G o O 1, MO y 0 kn (n + cin v) th, RW G (y 5) 60 (ap f n v (cin v))] kc ks Q 1361 [(0, .ref b0), (1, .ref x), (2, .ref (y 0)), (3, .ref w), (4, .int (nI i)), (5, .int (nI 0))] [.int (nI (n + cin v))]
  refine V_ord [0, 1, 2, 3, 4, 5, 6, 16, 7, 8, 9, 10, 17, 11, 12, 13, 14, 15] [XB x (a 0) (r 0) (p 0) (h 0) q, DW G a (c3 s), RN G r H g, PD G p (ap f n v (cin v)) (n + cin v), HI G h kn d, HD G d T, SA G q o, MO y 0 kn (n + cin v) th, RW G (y 1) 70 s, RW G (y 2) 140 sl, RZ G (y 3) 2 z, RW G (y 4) 420 hh, RW G (y 5) 60 (ap f n v (cin v)), RW G (y 6) 10 g6, RW G (y 7) 32 d7, OU G w (vp_updL fo 0 (((nI (n + cin v))).toInt64)), SQ G o O 0, SQ G o O 1] pm_23 rfl ?_
  refine V_istore (pc' := 1363) [(0, .ref b0), (1, .ref x), (2, .ref (y 0)), (3, .ref w), (4, .int (nI i)), (5, .int (nI 0)), (6, .int (nI (n + cin v)))] [1, 2, 3, 4, 5, 6, 0] X dL_law_1361 (Nat.le_of_ble_eq_true rfl) rfl rfl ?_
  refine V_aload_n (pc' := 1364) 2 X dL_law_1363 rfl rfl rfl ?_
  refine V_callV (pc' := 1367) (As := []) (st := []) 6 59 [7] [0, 1, 2, 3, 4, 5, 6, 8, 9, 10, 11, 12, 13, 14, 15, 16, 17] pm_4 X (c_X6_thrown l G y 0 kn (n + cin v) th) rfl gL_law_X6_thrown rfl (by decide) rfl rfl rfl (Nat.le_of_ble_eq_true rfl) ⟨Nat.le_of_ble_eq_true rfl, Nat.le_of_ble_eq_true rfl⟩ ⟨show kc + 0 ≤ 604766 by omega, show ks + 0 ≤ 7281805 by omega⟩ dL_law_1364 rfl (fun v_ u_ hp_ => ?_)
  obtain ⟨rfl, rfl⟩ := hp_
  show V E G A 7 [XB x (a 0) (r 0) (p 0) (h 0) q, DW G a (c3 s), RN G r H g, PD G p (ap f n v (cin v)) (n + cin v), HI G h kn d, HD G d T, SA G q o, RW G (y 1) 70 s, RW G (y 2) 140 sl, RZ G (y 3) 2 z, RW G (y 4) 420 hh, RW G (y 5) 60 (ap f n v (cin v)), RW G (y 6) 10 g6, RW G (y 7) 32 d7, OU G w (vp_updL fo 0 (((nI (n + cin v))).toInt64)), SQ G o O 0, SQ G o O 1, MO y 0 kn (n + cin v) th] kc ks Q 1367 [(0, .ref b0), (1, .ref x), (2, .ref (y 0)), (3, .ref w), (4, .int (nI i)), (5, .int (nI 0)), (6, .int (nI (n + cin v)))] [.int (nI 0)]
  refine V_ord [0, 1, 2, 3, 4, 5, 6, 17, 7, 8, 9, 10, 11, 12, 13, 14, 15, 16] [XB x (a 0) (r 0) (p 0) (h 0) q, DW G a (c3 s), RN G r H g, PD G p (ap f n v (cin v)) (n + cin v), HI G h kn d, HD G d T, SA G q o, MO y 0 kn (n + cin v) th, RW G (y 1) 70 s, RW G (y 2) 140 sl, RZ G (y 3) 2 z, RW G (y 4) 420 hh, RW G (y 5) 60 (ap f n v (cin v)), RW G (y 6) 10 g6, RW G (y 7) 32 d7, OU G w (vp_updL fo 0 (((nI (n + cin v))).toInt64)), SQ G o O 0, SQ G o O 1] pm_5 rfl ?_
  refine V_iload (pc' := 1369) 5 X dL_law_1367 rfl rfl ?_
  refine V_icmp_eq (pc' := 1372) (C := 0 = 0) 1374 X dL_law_1369 (by decide) rfl (nI_eq (by omega) (by omega)) (fun _ => ?_) (fun hz => absurd (by decide) hz)
  refine V_iload (pc' := 1376) 5 X dL_law_1374 rfl rfl ?_
  refine V_if_ne (pc' := 1379) (C := 0 = 0) 1391 X dL_law_1376 (by decide) rfl (z_eq0 (by omega)) (fun hz => absurd (by decide) hz) (fun _ => ?_)
  refine V_aload_n (pc' := 1380) 3 X dL_law_1379 rfl rfl rfl ?_
  refine V_iconst (pc' := 1381) (nI 0) X dL_law_1380 ki_0 rfl ?_
  refine V_lald (pc' := 1382) (v := (((nI (n + cin v))).toInt64)) 67 0 X rfl (by omega) (by decide) pk_uLs dL_law_1381 rfl ?_
  refine V_iload (pc' := 1384) 6 X dL_law_1382 rfl rfl ?_
  refine V_i2l (pc' := 1385) (((nI (n + cin v))).toInt64) X dL_law_1384 rfl rfl ?_
  refine V_lcmp (pc' := 1386) (lg_cmp (((nI (n + cin v))).toInt64) (((nI (n + cin v))).toInt64)) X dL_law_1385 rfl rfl ?_
  refine V_if_eq (pc' := 1389) (C := (lg_cmp (((nI (n + cin v))).toInt64) (((nI (n + cin v))).toInt64)) = 0) 1391 X dL_law_1386 (by decide) rfl Iff.rfl (fun _ => ?_) (fun hz => absurd (lgc_eq (congrArg (fun z_ => Int32.toInt64 (nI z_)) (rfl : n + cin v = n + cin v))) hz)
  refine V_goto (pc' := 1602) X dL_law_1391 (by decide) ?_
  refine V_lv [0, 1, 2, 3, 4] [(0, .ref b0), (1, .ref x), (2, .ref (y 0)), (3, .ref w), (4, .int (nI i))] rfl ?_
  exact K

