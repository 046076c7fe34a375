theorem arr_p {args : Array Value} {s : State} {ty : FieldType} (hp : ∀ C, ty ≠ .object C) (h : (Cond.arrayClass ty).before args s = true) : ∃ cA, ArrOfT s cA ty ∧ va_RA s cA ty := by
  obtain ⟨c, k, comp, h1, h2, h3⟩ := Cond.arrayClass_spec h
  refine ⟨c, fun n z => ⟨fun k h => (by cases h), k, h2, comp, h3⟩, ?_⟩
  cases ty with
  | object C => exact absurd rfl (hp C)
  | _ => exact h1
theorem arr_q {args : Array Value} {s : State} {C : String} (h : (Cond.arrayOver (.object C)).before args s = true) : ∃ cA, ArrOfT s cA (.object C) ∧ va_RA s cA (.object C) := by
  obtain ⟨comp, c, k, h1, -, h2, h3, h4⟩ := Cond.arrayOver_spec h
  exact ⟨c, fun n z => ⟨fun k h => (by cases h), k, h2, comp, h3⟩, k, comp, h2, h3, h1, h4⟩
theorem str_of {args : Array Value} {s : State} {own tx : String} {k : Nat} (h1 : (Cond.stringRef own k tx).before args s = true) (h2 : (Cond.exactly (.string own k) "java/lang/String").before args s = true) : ∃ a, vk_R own k tx a s := by
  obtain ⟨a, _, _, _, ht, _⟩ := Cond.exactly_spec h2
  exact ⟨a, vk_R.of h1 ht⟩
set_option maxHeartbeats 4000000 in
set_option maxRecDepth 100000 in
theorem law_entry {E : EE} {G : gT} {A : Nat → Prop} {Q : State → Prop} {l : Launch} {b0 L : Nat} {xs : Nat → Int32} (X : Cx E G A 7 cL_law RL wsL_law room_1 l) (hX : va_X b0 L xs (e_s E) (e_s E).heap) (hbl : b0 < (e_s E).heap.size) (hbA : ¬ A b0) (hL : L ≤ 1536) (hend : ∀ (bs : List va_W) (lv : List (Nat × Value)) (kc ks : Nat), kc ≤ 604766 → ks ≤ 7281805 → V E G A 7 bs kc ks Q 1608 lv []) : V E G A 7 [] 0 0 Q 0 [(0, .ref b0)] [] := by
  show V E G A 7 [] 0 0 Q 0 [(0, .ref b0)] []
  refine V_new (pc' := 3) 5 [.null, .null, .null, .null, .null] X (by decide) (by decide +kernel) (by decide +kernel) (by decide +kernel) (by decide +kernel) (fun j hj => by have hj : j < 5 := hj; rcases (show j = 0 ∨ j = 1 ∨ j = 2 ∨ j = 3 ∨ j = 4 by omega) with rfl | rfl | rfl | rfl | rfl <;> rfl) (Nat.le_of_ble_eq_true rfl) (Nat.le_of_ble_eq_true rfl) dL_law_0 rfl (fun x => ?_)
  show V E G A 7 [[(x, .inr (5, [.null, .null, .null, .null, .null]))]] 1 5 Q 3 [(0, .ref b0)] [.ref x]
  refine V_dup (pc' := 4) X dL_law_3 rfl rfl ?_
  refine V_callI (pc' := 7) (As := []) (st := [.ref x]) [0] [] (show (List.range 1).Perm ([0] ++ []) by decide) X (c_Y5_init l G x) rfl gL_law_X5_init (by decide +kernel) (by decide +kernel) (by decide +kernel) rfl (fun _ _ _ _ h => (Cond.code.inj (List.cons.inj h).1).2.2.2.symm) rfl rfl (Nat.le_of_ble_eq_true rfl) ⟨Nat.le_of_ble_eq_true rfl, Nat.le_of_ble_eq_true rfl⟩ ⟨Nat.le_of_ble_eq_true rfl, Nat.le_of_ble_eq_true rfl⟩ dL_law_4 rfl (fun v_ u_ hp_ => ?_)
  obtain ⟨a, r, p, h, q, H, g, d, rfl, rfl⟩ := hp_
  show V E G A 7 [XB x (a 0) (r 0) (p 0) (h 0) q, DW G a (S0 3), RN G r H g, PD G p (fun _ => 0) 0, HI G h 0 d, HD G d (fun _ => S0 3), SA G q (fun _ => none)] 61 703 Q 7 [(0, .ref b0)] [.ref x]
  refine V_astore_n (pc' := 8) [(0, .ref b0), (1, .ref x)] [1, 0] X dL_law_7 rfl (Nat.le_of_ble_eq_true rfl) rfl rfl ?_
  refine V_new (pc' := 11) 6 [.int 0, .null, .null, .null, .null, .int 0, .null, .int 0, .null, .null, .int 0] X (by decide) (by decide +kernel) (by decide +kernel) (by decide +kernel) (by decide +kernel) (fun j hj => by have hj : j < 11 := hj; rcases (show j = 0 ∨ j = 1 ∨ j = 2 ∨ j = 3 ∨ j = 4 ∨ j = 5 ∨ j = 6 ∨ j = 7 ∨ j = 8 ∨ j = 9 ∨ j = 10 by omega) with rfl | rfl | rfl | rfl | rfl | rfl | rfl | rfl | rfl | rfl | rfl <;> rfl) (Nat.le_of_ble_eq_true rfl) (Nat.le_of_ble_eq_true rfl) dL_law_8 rfl (fun q6 => ?_)
  show V E G A 7 [XB x (a 0) (r 0) (p 0) (h 0) q, DW G a (S0 3), RN G r H g, PD G p (fun _ => 0) 0, HI G h 0 d, HD G d (fun _ => S0 3), SA G q (fun _ => none), [(q6, .inr (6, [.int 0, .null, .null, .null, .null, .int 0, .null, .int 0, .null, .null, .int 0]))]] 62 714 Q 11 [(0, .ref b0), (1, .ref x)] [.ref q6]
  refine V_dup (pc' := 12) X dL_law_11 rfl rfl ?_
  refine V_callI (pc' := 15) (As := []) (st := [.ref q6]) [7] [0, 1, 2, 3, 4, 5, 6] (show (List.range 8).Perm ([7] ++ [0, 1, 2, 3, 4, 5, 6]) by decide) X (c_X6_init l G q6) rfl gL_law_X6_init (by decide +kernel) (by decide +kernel) (by decide +kernel) rfl (fun _ _ _ _ h => (Cond.code.inj (List.cons.inj h).1).2.2.2.symm) rfl rfl (Nat.le_of_ble_eq_true rfl) ⟨Nat.le_of_ble_eq_true rfl, Nat.le_of_ble_eq_true rfl⟩ ⟨Nat.le_of_ble_eq_true rfl, Nat.le_of_ble_eq_true rfl⟩ dL_law_12 rfl (fun v_ u_ hp_ => ?_)
  obtain ⟨y, rfl, rfl, rfl⟩ := hp_
  show V E G A 7 [XB x (a 0) (r 0) (p 0) (h 0) q, DW G a (S0 3), RN G r H g, PD G p (fun _ => 0) 0, HI G h 0 d, HD G d (fun _ => S0 3), SA G q (fun _ => none), MO y 0 0 0 0, RW G (y 1) 70 (S0 9), RW G (y 2) 140 (fun _ => 0), RZ G (y 3) 2 (fun _ => 0), RW G (y 4) 420 (fun _ => 0), RW G (y 5) 60 (fun _ => 0), RW G (y 6) 10 (fun _ => 0), RW G (y 7) 32 (fun _ => 0)] 69 1448 Q 15 [(0, .ref b0), (1, .ref x)] [.ref (y 0)]
  refine V_astore_n (pc' := 16) [(0, .ref b0), (1, .ref x), (2, .ref (y 0))] [1, 2, 0] X dL_law_15 rfl (Nat.le_of_ble_eq_true rfl) rfl rfl ?_
  refine V_iconst (pc' := 17) (nI 1) X dL_law_16 ki_1 rfl ?_
  refine V_newl (pc' := 19) (n := 1) X (by decide +kernel) (by decide) (Nat.le_of_ble_eq_true rfl) (Nat.le_of_ble_eq_true rfl) dL_law_17 rfl (fun w => ?_)
  show V E G A 7 [XB x (a 0) (r 0) (p 0) (h 0) q, DW G a (S0 3), RN G r H g, PD G p (fun _ => 0) 0, HI G h 0 d, HD G d (fun _ => S0 3), SA G q (fun _ => none), MO y 0 0 0 0, RW G (y 1) 70 (S0 9), RW G (y 2) 140 (fun _ => 0), RZ G (y 3) 2 (fun _ => 0), RW G (y 4) 420 (fun _ => 0), RW G (y 5) 60 (fun _ => 0), RW G (y 6) 10 (fun _ => 0), RW G (y 7) 32 (fun _ => 0), [(w, .inl (G.2 4, 1, .inr (.inl (fun _ => 0))))]] 70 1449 Q 19 [(0, .ref b0), (1, .ref x), (2, .ref (y 0))] [.ref w]
  refine V_astore_n (pc' := 20) [(0, .ref b0), (1, .ref x), (2, .ref (y 0)), (3, .ref w)] [1, 2, 3, 0] X dL_law_19 rfl (Nat.le_of_ble_eq_true rfl) rfl rfl ?_
  refine V_iconst (pc' := 21) (nI 0) X dL_law_20 ki_0 rfl ?_
  refine V_istore (pc' := 23) [(0, .ref b0), (1, .ref x), (2, .ref (y 0)), (3, .ref w), (4, .int (nI 0))] [1, 2, 3, 4, 0] X dL_law_21 (Nat.le_of_ble_eq_true rfl) rfl rfl ?_
  refine V_ws [XB x (a 0) (r 0) (p 0) (h 0) q, DW G a (S0 3), RN G r H g, PD G p (fun _ => 0) 0, HI G h 0 d, HD G d (fun _ => S0 3), SA G q (fun _ => none), MO y 0 0 0 0, RW G (y 1) 70 (S0 9), RW G (y 2) 140 (fun _ => 0), RZ G (y 3) 2 (fun _ => 0), RW G (y 4) 420 (fun _ => 0), RW G (y 5) 60 (fun _ => 0), RW G (y 6) 10 (fun _ => 0), RW G (y 7) 32 (fun _ => 0), OU G w (fun _ => 0)] rfl ?_
  refine V_ws [XB x (a 0) (r 0) (p 0) (h 0) q, DW G a (c3 (S0 9)), RN G r H g, PD G p (fun _ => 0) 0, HI G h 0 d, HD G d (fun _ => S0 3), SA G q (fun _ => none), MO y 0 0 0 0, RW G (y 1) 70 (S0 9), RW G (y 2) 140 (fun _ => 0), RZ G (y 3) 2 (fun _ => 0), RW G (y 4) 420 (fun _ => 0), RW G (y 5) 60 (fun _ => 0), RW G (y 6) 10 (fun _ => 0), RW G (y 7) 32 (fun _ => 0), OU G w (fun _ => 0)] (by rw [S0_c3]) ?_
  refine V_ws [XB x (a 0) (r 0) (p 0) (h 0) q, DW G a (c3 (S0 9)), RN G r H g, PD G p (fun _ => 0) 0, HI G h 0 d, HD G d (fun _ => S0 3), SA G q (fun _ => none), MO y 0 0 0 0, RW G (y 1) 70 (S0 9), RW G (y 2) 140 (fun _ => 0), RZ G (y 3) 2 (fun _ => 0), RW G (y 4) 420 (fun _ => 0), RW G (y 5) 60 (fun _ => 0), RW G (y 6) 10 (fun _ => 0), RW G (y 7) 32 (fun _ => 0), OU G w (fun _ => 0), SQ G (fun _ => none) (fun _ => S0 3) 0, SQ G (fun _ => none) (fun _ => S0 3) 1] rfl ?_
  exact lw_loop X hX hbl hbA hL x q w a r p h y hend (L + 1) 0 70 1449 (Nat.zero_le _) (by omega) (by omega) (by omega) H g (fun _ => 0) 0 0 d (fun _ => S0 3) (fun _ => 0) (fun _ => none) (fun _ => S0 3) 0 0 (S0 9) (fun _ => 0) (fun _ => 0) (fun _ => 0) (fun _ => 0) (fun _ => 0) ⟨IV_S0 (by decide), HV_S0 9, Nat.zero_le _, ⟨Nat.zero_le _, fun k hk => absurd hk (Nat.not_lt_zero _)⟩, ⟨fun _ => S0 9, fun k hk => absurd hk (Nat.not_lt_zero _)⟩, ⟨fun _ => S0 9, fun c _ => Or.inl ⟨rfl, rfl⟩⟩⟩
/-! THE CLAIM OUT OF ONE WALK OF THE LAW'S BODY. Your part is whole_start (and what it stands on); all else here is the same for every law, but numbers. -/
def R_law : String := "PeggedBellsLaw"
def lw_P (b : Addr) (xs : List Int32) (args : Array Value) (s : State) : Prop := args = #[.ref b] ∧ s.IntsAt b xs ∧ xs.length ≤ 1536 ∧ (Jvm.Cond.and given_1 narrow_1).before args s = true
def lw_Q (_ : Array Value) (s : State) (o : Outcome) (t : State) : Prop := o = .returned (some (.int 1)) ∧ Framed s o t [] 604766 7281805
def lw_Z (below : List Frame) (a : Array Value) (s : State) : State → Prop := fun t => ∃ o, t.status = .running ∧ Ended t below o ∧ lw_Q a s o t
/-- the law's own end, with 1 on the stack, nothing written that was there before, its room as the claim has it -/
theorem lw_ret {p : Program} {l : Launch} {e : Env} {s : State} {m : MethodId} {below : List Frame} {meth : Method} {c : Code} {b : Nat} (hx : p.tables.exec = Jvm.exec) (hb : c.code = code) (hr : meth.sig.returnType = ret) (hlocks : meth.locks = false) {pc : Nat} {H : Heap} {ls : Array Slot} (hdg : decode code pc = .ok (.ireturn, 1)) : W p l e room_1 s m #[Value.ref b] below meth c H [] 604766 7281805 (lw_Z below #[Value.ref b] s) (F0 m pc ls [.int 1]) := by
  intro T hT X
  obtain ⟨fs, hret, hrun, hended, hW, hframe⟩ := X.leave (v := some (.int 1)) (hlocks := hlocks) (fun h => by rw [hr] at h; cases h)
  have hmeth' : T.vm.method? m = some meth := X.method'
  refine ⟨T.setFrames fs, ?_, .returned (some (.int 1)), hrun, hended, rfl, ⟨_, rfl⟩, hW, hframe⟩
  jvm_step X.here [X.here.top, hx, hb, hdg, hmeth', hr, ret, narrow_b1]
  (try refine ⟨rfl, ?_⟩); (try refine ⟨rfl, ?_⟩)
  first | (intro acts; rw [hret _ acts rfl rfl rfl]) | rw [hret _ _ rfl rfl rfl]
  exact Steps.refl _
/-- what holds at the law's entry: the machine, the code, the tables' words (any of lw_tbl by 'hts w (by decide +kernel)'), the script of L ints xs at the cell b, what the Statement gives of the start (any of its parts by flat_of_before) -/
def lw_At (p : Program) (s : State) (m : MethodId) (meth : Method) (c : Code) (b L : Nat) (xs : Nat → Int32) : Prop :=
  p.tables.exec = Jvm.exec ∧ c.code = code ∧ meth.sig.returnType = ret ∧ c.maxLocals = 7 ∧ s.vm.findClass R_law = some m.cls ∧ (∀ w ∈ lw_tbl, w.before #[Value.ref b] s = true) ∧ va_X b L xs s s.heap ∧ b < s.heap.size ∧ meth.locks = false ∧ (Jvm.Cond.and given_1 narrow_1).before #[Value.ref b] s = true
-- ===== the entry =====
set_option maxHeartbeats 4000000 in
set_option maxRecDepth 100000 in
theorem whole_start {p : Program} {e : Env} {s : State} {m : MethodId} {below : List Frame} {meth : Method} {c : Code} (l : Launch) (hflags : l.flags = flags0) {b L : Nat} {xs : Nat → Int32} (hL : L ≤ 1536) (C0 : lw_At p s m meth c b L xs) : W p l e room_1 s m #[Value.ref b] below meth c s.heap [] 0 0 (lw_Z below #[Value.ref b] s) (entryFrame m ([Value.ref b] : List Value).toArray 7) := by
  obtain ⟨hx, hb, hr, hml, hown, hts, hX, hbl, hlocks, hgv⟩ := id C0
  have hs := flat_of_before _ hgv
  have hA : ∀ q : Nat, s.heap.size ≤ q → (fun q : Nat => s.heap.size ≤ q) q := fun _ h => h
  have hbA : ¬ (fun q : Nat => s.heap.size ≤ q) b := Nat.not_le.mpr hbl
  obtain ⟨c0, iS0, hK0⟩ := u_known (C := RX0) (T := TX0) (N := 10) (n := 10) hts inX0 (hts _ (List.mem_append_right _ (List.mem_of_getElem? (i := 27) (by decide +kernel))))
  obtain ⟨c1, iS1, hK1⟩ := u_known (C := RX1) (T := TX1) (N := 1) (n := 1) hts inX1 (hts _ (List.mem_append_right _ (List.mem_of_getElem? (i := 33) (by decide +kernel))))
  obtain ⟨c2, iS2, hK2⟩ := u_known (C := RX2) (T := TX2) (N := 2) (n := 2) hts inX2 (hts _ (List.mem_append_right _ (List.mem_of_getElem? (i := 122) (by decide +kernel))))
  obtain ⟨c3k, iS3, hK3⟩ := u_known (C := RX3) (T := TX3) (N := 2) (n := 2) hts inX3 (hts _ (List.mem_append_right _ (List.mem_of_getElem? (i := 107) (by decide +kernel))))
  obtain ⟨c4, iS4, hK4⟩ := u_known (C := RX4) (T := TX4) (N := 2) (n := 2) hts inX4 (hts _ (List.mem_append_right _ (List.mem_of_getElem? (i := 91) (by decide +kernel))))
  obtain ⟨c5, iS5, hK5⟩ := u_known (C := RX5) (T := TX5) (N := 5) (n := 5) hts inX5 (hts _ (List.mem_append_right _ (List.mem_of_getElem? (i := 19) (by decide +kernel))))
  obtain ⟨c6, iS6, hK6⟩ := u_known (C := RX6) (T := TX6) (N := 11) (n := 11) hts inX6 (hts _ (List.mem_append_right _ (List.mem_of_getElem? (i := 671) (by decide +kernel))))
  obtain ⟨ai, Ai⟩ := arr_p (ty := .int) (fun _ h => by cases h) (hts _ (List.mem_append_right _ (List.mem_of_getElem? (i := 45) (by decide +kernel))))
  obtain ⟨ac, Ac⟩ := arr_p (ty := .char) (fun _ h => by cases h) (hts _ (List.mem_append_right _ (List.mem_of_getElem? (i := 120) (by decide +kernel))))
  obtain ⟨az, Az⟩ := arr_p (ty := .boolean) (fun _ h => by cases h) (hts _ (List.mem_append_right _ (List.mem_of_getElem? (i := 710) (by decide +kernel))))
  obtain ⟨al, Al⟩ := arr_p (ty := .long) (fun _ h => by cases h) (hts _ (List.mem_append_right _ (List.mem_of_getElem? (i := 955) (by decide +kernel))))
  have hAO : (Cond.arrayOver (.object "PeggedBells$Drum")).before #[Value.ref b] s = true := (hts _ (List.mem_append_right _ (List.mem_of_getElem? (i := 128) (by decide +kernel))))
  obtain ⟨aq, Aq⟩ := arr_q hAO
  let G : gT := ((fun k => [c0, c1, c2, c3k, c4, c5, c6].getD k c0, fun k => [iS0, iS1, iS2, iS3, iS4, iS5, iS6].getD k iS0), fun k => [ai, ac, az, aq, al].getD k ai)
  have hKa : va_K G.1 vwCl (tyL G) s := by
    refine ⟨fun k q hq => ?_, fun k q hq => ?_⟩
    · match k, hq with
      | 0, hq => cases hq; exact hK0
      | 1, hq => cases hq; exact hK1
      | 2, hq => cases hq; exact hK2
      | 3, hq => cases hq; exact hK3
      | 4, hq => cases hq; exact hK4
      | 5, hq => cases hq; exact hK5
      | 6, hq => cases hq; exact hK6
      | k + 7, hq => simp [vwCl] at hq
    · match k, hq with
      | 0, hq => cases hq; exact Ai
      | 1, hq => cases hq; exact Ac
      | 2, hq => cases hq; exact Az
      | 3, hq => cases hq; exact Aq
      | 4, hq => cases hq; exact Al
      | k + 5, hq => simp [tyL] at hq
  have hTB : TB l G s := by
    refine ⟨hKa, by unfold Launch.stackTraces; rw [hflags]; decide +kernel, ⟨va_Nw.of rfl (hts _ (List.mem_append_right _ (List.mem_of_getElem? (i := 361) (by decide +kernel)))), va_Nw.of rfl (hts _ (List.mem_append_right _ (List.mem_of_getElem? (i := 438) (by decide +kernel)))), va_Nw.of rfl (hts _ (List.mem_append_right _ (List.mem_of_getElem? (i := 618) (by decide +kernel)))), va_Nw.of rfl (hts _ (List.mem_append_right _ (List.mem_of_getElem? (i := 363) (by decide +kernel)))), va_Nw.of rfl (hts _ (List.mem_append_right _ (List.mem_of_getElem? (i := 365) (by decide +kernel)))), va_Nw.of rfl (hts _ (List.mem_append_right _ (List.mem_of_getElem? (i := 367) (by decide +kernel))))⟩, ⟨va_Nc.of (hs _ (List.mem_of_getElem? (i := 13) (by decide +kernel))), va_Nc.of (hs _ (List.mem_of_getElem? (i := 23) (by decide +kernel))), va_Nc.of (hs _ (List.mem_of_getElem? (i := 14) (by decide +kernel)))⟩, ⟨va_Nw.of rfl (hts _ (List.mem_append_right _ (List.mem_of_getElem? (i := 92) (by decide +kernel)))), va_Nw.of rfl (hts _ (List.mem_append_right _ (List.mem_of_getElem? (i := 108) (by decide +kernel)))), va_Nw.of rfl (hts _ (List.mem_append_right _ (List.mem_of_getElem? (i := 301) (by decide +kernel)))), va_Nw.of rfl (hts _ (List.mem_append_right _ (List.mem_of_getElem? (i := 244) (by decide +kernel)))), va_Nw.of rfl (hts _ (List.mem_append_right _ (List.mem_of_getElem? (i := 285) (by decide +kernel))))⟩, va_AO.of hAO, ?_⟩
    intro q hq
    simp only [tbStrs, List.mem_cons, List.not_mem_nil, or_false] at hq
    rcases hq with rfl | rfl | rfl | rfl | rfl | rfl | rfl | rfl | rfl | rfl | rfl | rfl | rfl | rfl | rfl | rfl
    · exact str_of (hts _ (List.mem_append_right _ (List.mem_of_getElem? (i := 400) (by decide +kernel)))) (hs _ (List.mem_of_getElem? (i := 33) (by decide +kernel)))
    · exact str_of (hts _ (List.mem_append_right _ (List.mem_of_getElem? (i := 435) (by decide +kernel)))) (hs _ (List.mem_of_getElem? (i := 59) (by decide +kernel)))
    · exact str_of (hts _ (List.mem_append_right _ (List.mem_of_getElem? (i := 445) (by decide +kernel)))) (hs _ (List.mem_of_getElem? (i := 78) (by decide +kernel)))
    · exact str_of (hts _ (List.mem_append_right _ (List.mem_of_getElem? (i := 462) (by decide +kernel)))) (hs _ (List.mem_of_getElem? (i := 99) (by decide +kernel)))
    · exact str_of (hts _ (List.mem_append_right _ (List.mem_of_getElem? (i := 463) (by decide +kernel)))) (hs _ (List.mem_of_getElem? (i := 117) (by decide +kernel)))
    · exact str_of (hts _ (List.mem_append_right _ (List.mem_of_getElem? (i := 471) (by decide +kernel)))) (hs _ (List.mem_of_getElem? (i := 133) (by decide +kernel)))
    · exact str_of (hts _ (List.mem_append_right _ (List.mem_of_getElem? (i := 472) (by decide +kernel)))) (hs _ (List.mem_of_getElem? (i := 154) (by decide +kernel)))
    · exact str_of (hts _ (List.mem_append_right _ (List.mem_of_getElem? (i := 480) (by decide +kernel)))) (hs _ (List.mem_of_getElem? (i := 173) (by decide +kernel)))
    · exact str_of (hts _ (List.mem_append_right _ (List.mem_of_getElem? (i := 488) (by decide +kernel)))) (hs _ (List.mem_of_getElem? (i := 192) (by decide +kernel)))
    · exact str_of (hts _ (List.mem_append_right _ (List.mem_of_getElem? (i := 496) (by decide +kernel)))) (hs _ (List.mem_of_getElem? (i := 235) (by decide +kernel)))
    · exact str_of (hts _ (List.mem_append_right _ (List.mem_of_getElem? (i := 522) (by decide +kernel)))) (hs _ (List.mem_of_getElem? (i := 277) (by decide +kernel)))
    · exact str_of (hts _ (List.mem_append_right _ (List.mem_of_getElem? (i := 611) (by decide +kernel)))) (hs _ (List.mem_of_getElem? (i := 310) (by decide +kernel)))
    · exact str_of (hts _ (List.mem_append_right _ (List.mem_of_getElem? (i := 625) (by decide +kernel)))) (hs _ (List.mem_of_getElem? (i := 350) (by decide +kernel)))
    · exact str_of (hts _ (List.mem_append_right _ (List.mem_of_getElem? (i := 661) (by decide +kernel)))) (hs _ (List.mem_of_getElem? (i := 429) (by decide +kernel)))
    · exact str_of (hts _ (List.mem_append_right _ (List.mem_of_getElem? (i := 669) (by decide +kernel)))) (hs _ (List.mem_of_getElem? (i := 459) (by decide +kernel)))
    · exact str_of (hts _ (List.mem_append_right _ (List.mem_of_getElem? (i := 648) (by decide +kernel)))) (hs _ (List.mem_of_getElem? (i := 391) (by decide +kernel)))
  have hZZ : ZZ (fun q : Nat => s.heap.size ≤ q) s s.heap := ⟨vx_Zqof (hts _ (List.mem_append_right _ (List.mem_of_getElem? (i := 386) (by decide +kernel)))) (hts _ (List.mem_append_right _ (List.mem_of_getElem? (i := 9) (by decide +kernel)))) (hs _ (List.mem_of_getElem? (i := 4) (by decide +kernel))) (fun _ h => Nat.not_le.mpr h), vx_Zqof (hts _ (List.mem_append_right _ (List.mem_of_getElem? (i := 388) (by decide +kernel)))) (hts _ (List.mem_append_right _ (List.mem_of_getElem? (i := 9) (by decide +kernel)))) (hs _ (List.mem_of_getElem? (i := 5) (by decide +kernel))) (fun _ h => Nat.not_le.mpr h)⟩
  have hl := lv_entry ([.ref b]) (n := 7) (Nat.le_of_ble_eq_true rfl)
  rw [lg_entry_eq]
  generalize (lg_sl ([.ref b]) ++ List.replicate (7 - (lg_sl ([.ref b])).length) Slot.unset).toArray = ls at hl ⊢
  have hl : lv_has ls 7 [(0, .ref b)] := hl
  have X : Cx ((p, l, e, room_1, s, m, #[Value.ref b], below, meth, c) : EE) G (fun q : Nat => s.heap.size ≤ q) 7 cL_law RL wsL_law room_1 l := ⟨⟨hx, hb, hml, hown, fun w h => hts w (wsL_law_in w h)⟩, hTB, hZZ, hA, hlocks, rfl, rfl⟩
  have hend : ∀ (bs : List va_W) (lv : List (Nat × Value)) (kc ks : Nat), kc ≤ 604766 → ks ≤ 7281805 → V ((p, l, e, room_1, s, m, #[Value.ref b], below, meth, c) : EE) G (fun q : Nat => s.heap.size ≤ q) 7 bs kc ks (lw_Z below #[Value.ref b] s) 1608 lv [] := by
    intro bs lv kc ks hkc hks H locs ls hP hD hS hl
    refine lv_iconst (v := 1) hx hb dL_law_1608 (by decide) ?_
    refine va_forget (fun q hq => hS.2.2 q hq) ?_
    refine W.widen (k := 604766) (n := 7281805) hkc hks ?_
    exact lw_ret hx hb hr hlocks dL_law_1609
  exact law_entry X hX hbl hbA hL hend s.heap [] ls (fun k q h => by simp at h) ⟨fun i j p q h => by simp at h, fun k q h => by simp at h⟩ va_S.rf hl
set_option maxHeartbeats 4000000 in
theorem lw_walk (l : Launch) (hflags : l.flags = flags0) (b : Addr) (xs : List Int32) : MetFree l x (headSpec (Jvm.Cond.code x code maxLocals ret :: tables_1) room_1) (lw_P b xs) (fun _ _ _ _ _ => True) lw_Q := by
  refine MetFree.of_bodyS (code := code) (maxLocals := maxLocals) (ret := ret) (by decide) ?_ ?_
  · intro args s m h hn
    obtain ⟨meth, c, h1, h2, h3, h4, h5, h6, -, -⟩ := Cond.code_spec hn (atoms_spec (ws := Jvm.Cond.code x code maxLocals ret :: tables_1) h _ List.mem_cons_self)
    exact ⟨meth, c, h1, h2, h3, h4, h5, h6⟩
  · intro p e s m args below meth c s₁ B hml0 hP _
    obtain ⟨rfl, hx, hbd, hgv⟩ := hP
    obtain ⟨scr, harrAt, hlist, hof, hsmall⟩ := hx
    obtain ⟨hcb, hkn, -, -⟩ := State.arrayAt?_spec harrAt
    have hown : s.vm.findClass R_law = some m.cls := findClass_of_methodNamed B.named
    have hts0 : ∀ c ∈ (Jvm.Cond.code x code maxLocals ret :: tables_1), c.before #[Value.ref b] s = true := atoms_spec (ws := Jvm.Cond.code x code maxLocals ret :: tables_1) B.pre
    have hts : ∀ w ∈ lw_tbl, w.before #[Value.ref b] s = true := k2_hts_sels lw_privs (fun w hw => hts0 w (List.mem_cons_of_mem _ hw)) lw_privs_ok
    have hml : c.maxLocals = 7 := B.maxLocals_eq (hts0 _ List.mem_cons_self)
    have X₀ : Stand p l e room_1 s m #[Value.ref b] below meth c s₁ [] 0 0 := Stand.of_body B
    have hh0 : s₁.heap = s.heap := by rw [B.state]; rfl
    have hsz : scr.slots.size = xs.length := by rw [← Array.length_toList, hlist, List.length_map]
    have hval : ∀ j : Nat, j < xs.length → scr.slots[j]? = some (.int (xs.getD j 0)) := fun j hj => by
      rw [← Array.getElem?_toList, hlist]
      simp [hj]
    have hbl : b < s.heap.size := (Array.getElem?_eq_some_iff.mp hcb).1
    have hX : va_X b xs.length (fun j => xs.getD j 0) s s.heap := ⟨scr, hcb, hof, hkn, hsz, hval⟩
    have K : W p l e room_1 s m #[Value.ref b] below meth c s₁.heap [] 0 0 (lw_Z below #[Value.ref b] s) (entryFrame m ([Value.ref b] : List Value).toArray 7) := by
      rw [hh0]
      exact whole_start l hflags hbd ⟨B.exec, B.bytes, B.returns, hml, hown, hts, hX, hbl, B.notSynchronized, hgv⟩
    obtain ⟨t, a1, o, b1, b2, b3⟩ := K s₁ rfl X₀
    exact ⟨t, o, a1, b1, b2, b3⟩
theorem lw_pre_spec {args : Array Value} {s : State} (h : (Jvm.Cond.and given_1 narrow_1).before args s = true) (hr : rest_1_c.before args s = true) : ∃ (b : Addr) (xs : List Int32), lw_P b xs args s := by
  have hs := flat_of_before _ h
  have hq := flat_of_before _ hr
  have hc : (Cond.count 1).before args s = true := hs _ (by decide +kernel)
  have harr : (Cond.arrayOf (.arg 0) .int).before args s = true := hs _ (by decide +kernel)
  have hle : (Cond.le (.length (.arg 0)) (.int 1536)).before args s = true := hs _ (by decide +kernel)
  have hlen : (Cond.isInt (.length (.arg 0))).before args s = true := hq _ (by decide +kernel)
  have hall : (Cond.all (.arg 0) (.isInt (.elem (.arg 0) (.index 0)))).before args s = true := hq _ (by decide +kernel)
  obtain ⟨b, xs, hb, hx⟩ := State.ints_of_pre rfl harr hlen hall
  have hsm : xs.length < 2 ^ 31 := hx.choose_spec.2.2.2
  have hev : (Term.length (.arg 0)).eval args s none [] s = some (.int xs.length.toInt32) := hx.length_eval hb
  have hv := Cond.le_ints hev (show (Term.int 1536).eval args s none [] s = some (.int 1536) from rfl)
  have hd : xs.length.toInt32 ≤ 1536 := by
    simpa [Cond.before, Cond.holds, hv] using hle
  have hN : xs.length ≤ 1536 := (Int32.ofNat_le_ofNat hsm (by decide)).mp (show Int32.ofNat xs.length ≤ Int32.ofNat 1536 from hd)
  exact ⟨b, xs, Cond.one_arg hc (show args[0]? = some (.ref b) from hb), hx, hN, h⟩
theorem lw_comes (l : Launch) (hflags : l.flags = flags0) : Comes l x (Jvm.Cond.code x code maxLocals ret :: tables_1) room_1 (fun tb e args s => Calls_1 tb e args s ∧ rest_1 tb e args s ∧ Pre_1 tb e args s)
    (fun _ _ args s o t => lw_Q args s o t) := by
  intro p e ha hc hk s m args below hf hfit hheap happ hpre
  obtain ⟨b, xs, hP⟩ := lw_pre_spec hpre.2.2 hpre.2.1
  obtain ⟨k, o, h1, h2, h3, hQ⟩ := lw_walk l hflags b xs p e ha hc hk s m args below hf ((Spec.applies_iff_loose hf).mp happ).1 hP trivial
  exact ⟨k, o, h1, h2, h3, hQ⟩
theorem lw_frame {s t : State} {o : Outcome} {args : Array Value} (h : Framed s o t [] 604766 7281805) :
    Framed s o t (fieldLocs frame_1_writes args s ++ arrayLocs frame_1_arrays args s ++ staticLocs frame_1_statics s) 604766 7281805 := h
theorem lw_limb (L : Cond) (hL : ∀ (args : Array Value) (s t : State), L.after args s (.returned (some (.int 1))) t = true) :
    ArmFor flags0 classFile x code maxLocals ret World_1 tables_1 room_1 Calls_1 rest_1 Pre_1
      (fun tb e a s o t => postC L tb e a s o t ∧ Framed s o t (fieldLocs frame_1_writes a s ++ arrayLocs frame_1_arrays a s ++ staticLocs frame_1_statics s) 604766 7281805) := by
  intro l hflags _ _ p e ha hc hk s m args below hf hfit hheap happ hpre
  obtain ⟨k, o, h1, h2, h3, rfl, hF⟩ := lw_comes l hflags p e ha hc hk s m args below hf hfit hheap happ hpre
  exact ⟨k, _, h1, h2, h3, hL args s _, lw_frame hF⟩
theorem i_vc : Claimed_1_1 ∧ Claimed_1_2 := ⟨lw_limb limb_1_1 (fun args s t => by simp [limb_1_1, Cond.after, Cond.holds, Cond.value]), lw_limb limb_1_2 (fun args s t => Cond.after_iff.mpr (by
  first | (rw [show limb_1_2 = Cond.eq .result (.int 1) from rfl, Cond.eq_ints (x := 1) (y := 1) rfl rfl]; simp; done) | (simp [limb_1_2, Cond.value, Term.eval]; done)))⟩
