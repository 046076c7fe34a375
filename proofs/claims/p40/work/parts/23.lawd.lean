/-! the law itself: its script, a turn of its loop, the loop, the start -/
def PcS (l : Launch) (G : gT) (b k L : Nat) (xs : Nat → Int32) (sz : Nat) : Array Value → State → Prop := va_Pc [.ref b, .int (nI k)] (fun U => U.heap.size = sz ∧ TB l G U ∧ va_X b L xs U U.heap ∧ b < U.heap.size)
theorem PcS.blind {l : Launch} {G : gT} {b k L : Nat} {xs : Nat → Int32} {sz : Nat} : FrameBlind (PcS l G b k L xs sz) := by
  intro a U g mk h
  obtain ⟨h0, h1, h3, h4, h5⟩ := h
  exact ⟨h0, h1, TB.warm (s := U) (U := U.calling g mk a) (State.WarmedH.refl U) h3, va_X.moved (u := U) (U := U.calling g mk a) (Vm.Alike.refl U.vm) h4, h5⟩
set_option maxHeartbeats 4000000 in
theorem c_cell {l : Launch} {G : gT} {b k L : Nat} {xs : Nat → Int32} (hk : k < L) (hL : L < 2 ^ 31) : ∀ sz : Nat, Met l yL_cell wsL_cell ({ frames := 0, cells := 0, slots := 0, locals := 0 } : Room) (PcS l G b k L xs sz) (QcC G (va_A ([] : va_W) sz) (fun v u => v = some (.int (xs k)) ∧ u = [])) 0 0 (va_A ([] : va_W) sz) := by
  intro sz
  refine Met.ofW (cc := cL_cell) (maxL := 2) (ret := some .int) (by decide +kernel) rfl ?_
  intro p e s m args below meth c s₁ B hml hv
  obtain ⟨rfl, hsz, hK, hXs, hbl⟩ := hv
  have hts := atoms_spec (ws := wsL_cell) B.pre
  have hown : s.vm.findClass RL = some m.cls := findClass_of_methodNamed B.named
  subst hsz
  have hl := lv_entry ([.ref b, .int (nI k)]) (n := 2) (Nat.le_of_ble_eq_true rfl)
  rw [lg_entry_eq]
  have hbA : ¬ va_A ([] : va_W) s.heap.size b := fun h => (va_A_iff.mp h).elim (fun z => by simp at z) (fun z => absurd hbl (Nat.not_lt.mpr z))
  have hrt := B.returns
  have X : Cx ((p, l, e, ({ frames := 0, cells := 0, slots := 0, locals := 0 } : Room), s, m, ([.ref b, .int (nI k)] : List Value).toArray, below, meth, c) : EE) G (va_A ([] : va_W) s.heap.size) 2 cL_cell RL wsL_cell ({ frames := 0, cells := 0, slots := 0, locals := 0 } : Room) l := ⟨⟨B.exec, B.bytes, hml, hown, hts⟩, hK, trivial, fun q h => Or.inr h, B.notSynchronized, rfl, rfl⟩
  have hV : V ((p, l, e, ({ frames := 0, cells := 0, slots := 0, locals := 0 } : Room), s, m, ([.ref b, .int (nI k)] : List Value).toArray, below, meth, c) : EE) G (va_A ([] : va_W) s.heap.size) 2 [] 0 0 (QM ((p, l, e, ({ frames := 0, cells := 0, slots := 0, locals := 0 } : Room), s, m, ([.ref b, .int (nI k)] : List Value).toArray, below, meth, c) : EE) G (va_A ([] : va_W) s.heap.size) (fun v u => v = some (.int (xs k)) ∧ u = []) 0 0) 0 [(0, .ref b), (1, .int (nI k))] [] := by
    refine V_iload_n (pc' := 1) 1 X dL_cell_0 rfl rfl rfl ?_
    refine V_aload_n (pc' := 2) 0 X dL_cell_1 rfl rfl rfl ?_
    refine V_slen (pc' := 3) X hXs hbl hbA dL_cell_2 rfl ?_
    refine V_icmp_ge (pc' := 6) (C := L ≤ k) 12 X dL_cell_3 (by decide) rfl (nI_leI hL (Nat.lt_trans hk hL)) (fun hz => absurd hz (by omega)) (fun _ => ?_)
    refine V_aload_n (pc' := 7) 0 X dL_cell_6 rfl rfl rfl ?_
    refine V_iload_n (pc' := 8) 1 X dL_cell_7 rfl rfl rfl ?_
    refine V_sld (pc' := 9) (v := xs k) X hXs hbl hbA (j := k) hk hL rfl dL_cell_8 rfl ?_
    refine V_goto (pc' := 20) X dL_cell_9 (by decide) ?_
    exact V_ireturn (v := xs k) [] rfl X hrt rfl dL_cell_20 (Nat.le_of_ble_eq_true rfl) (Nat.le_of_ble_eq_true rfl) (List.Perm.refl _) ⟨rfl, rfl⟩
  exact hV s.heap [] _ (fun k q h => by simp at h) ⟨fun i j p q h => by simp at h, fun k q h => by simp at h⟩ va_S.rf hl
theorem V_cell {E : EE} {G : gT} {A : Nat → Prop} {nL : Nat} {bs : List va_W} {kc ks : Nat} {Q : State → Prop} {pc pc' : Nat} {lv : List (Nat × Value)} {st : List Value} {cc : ByteArray} {own : String} {Ts : List Cond} {rm : Room} {l : Launch} {b k L index : Nat} {xs : Nat → Int32} (X : Cx E G A nL cc own Ts rm l) (hX : va_X b L xs (e_s E) (e_s E).heap) (hbl : b < (e_s E).heap.size) (hbA : ¬ A b) (hk : k < L) (hL : L < 2 ^ 31) (hG : GoodIn Ts (va_wsS own index yL_cell wsL_cell)) (hW : (st.map fun v => v.category).sum ≤ 8) (hR : 1 ≤ rm.frames ∧ 21 ≤ rm.locals) (hf : kc ≤ rm.cells ∧ ks ≤ rm.slots) (d : decode cc pc = .ok (.invokestatic index, 3)) (hq : pc + 3 = pc')
    (kk : V E G A nL bs kc ks Q pc' lv (.int (xs k) :: st)) : V E G A nL bs kc ks Q pc lv (.int (nI k) :: .ref b :: st) := by
  have hR' := X.2.2.2.2.2.1
  subst hR'
  have hL' := X.2.2.2.2.2.2
  subst hL'
  subst hq
  intro H locs ls hP hD hS hl T hT XS
  have hM := c_cell (l := e_l E) (G := G) (b := b) (xs := xs) hk hL H.size
  have hXH : va_X b L xs (e_s E) H := hX.kept (hS.2.1 b hbl hbA)
  have hbH : b < H.size := Nat.lt_of_lt_of_le hbl hS.1
  have hrun := va_runS (p := e_p E) (e := e_e E) (below := e_b E) (meth := e_h E) (H := H) (locs := locs) (cells := kc) (slots := ks) (n := 2) (rest := st) (As := [.ref b, .int (nI k)]) (g := F0 (e_m E) pc ls (.int (nI k) :: .ref b :: st)) X.1 hM (va_cwS 2 X.1.2.2.2.2 hG rfl rfl rfl ⟨by decide +kernel, by decide +kernel, by decide +kernel⟩ hR) ⟨PcS.blind, fun U hU hWm => ⟨rfl, by rw [hU], TB.warm hWm X.2.1, by rw [hU]; exact va_X.moved hWm.alike hXH, by rw [hU]; exact hbH⟩⟩ rfl rfl hl.1 rfl (lv_room hW) d hf
  obtain ⟨v, st₀, t, T', L', h0, X', hLf, e1, e2, ⟨⟨r, u, hv, ⟨hpo1, hpo2⟩, hb1, hb2⟩, hz, hkp⟩, stp⟩ := hrun T hT XS
  cases hv
  subst hpo1
  subst hpo2
  rw [h0] at hz hkp
  have hF : ∀ q, va_A ([] : va_W) H.size q → A q := fun q h => (va_A_iff.mp h).elim (fun z => by simp at z) (fun z => X.2.2.2.1 q (Nat.le_trans hS.1 z))
  obtain ⟨f1, f2⟩ := frame_ (wr := bs.flatten) (wc := []) (w1 := []) (H1 := t.heap) (by rw [List.append_nil]; exact hP) (by rw [List.append_nil]; exact hD) hkp hF (fun k q h => by simp at h) ⟨fun i j p q h => by simp at h, fun k q h => by simp at h⟩
  rw [List.append_nil] at f1 f2
  obtain ⟨t2, a1, b1⟩ := kk t.heap (locs ++ L') ls f1 f2
    ⟨Nat.le_trans hS.1 hz, fun q h1 h2 => by rw [hkp q (Nat.lt_of_lt_of_le h1 hS.1) (fun z => h2 (hF q z))]; exact hS.2.1 q h1 h2, fun q hq => by
      rcases List.mem_append.mp hq with h | h
      · exact hS.2.2 q h
      · exact hF _ (hLf q h)⟩ hl T' e1 X'
  exact ⟨t2, stp t2 a1, b1⟩
set_option maxHeartbeats 4000000 in
set_option maxRecDepth 100000 in
theorem law_turn {E : EE} {G : gT} {A : Nat → Prop} {Q : State → Prop} {l : Launch} {b0 L : Nat} {xs : Nat → Int32} (X : Cx E G A 12 cL_law RL wsL_law room_1 l) (hX : va_X b0 L xs (e_s E) (e_s E).heap) (hbl : b0 < (e_s E).heap.size) (hbA : ¬ A b0) (hL : L ≤ 260) (x N i : Nat) (hN : N ≤ 24) (h3 : 3 * N ≤ L) (hi : i < N) (K kc ks : Nat) (hK : K ≤ 80000) (hkc : kc + 21 ≤ 5000) (hks : ks + 231 ≤ 20000) (S : Nat → Nat) (n : Nat) (T : Nat → Nat → Nat) (P : Nat → Option (Nat → Nat)) (w : va_W) (hw : OJ G x K S n T P w)
    (KK : ∀ (S : Nat → Nat) (n : Nat) (T : Nat → Nat → Nat) (P : Nat → Option (Nat → Nat)) (w : va_W), OJ G x (K + 500) S n T P w → V E G A 12 [w] (kc + 21) (ks + 231) Q 50 [(0, .ref b0), (1, .ref x), (2, .int (nI 1)), (3, .int (nI N)), (4, .int (nI (i + 1)))] []) : V E G A 12 [w] kc ks Q 50 [(0, .ref b0), (1, .ref x), (2, .int (nI 1)), (3, .int (nI N)), (4, .int (nI i))] [] := by
  show V E G A 12 [w] kc ks Q 50 [(0, .ref b0), (1, .ref x), (2, .int (nI 1)), (3, .int (nI N)), (4, .int (nI i))] []
  refine V_iload (pc' := 52) 4 X dL_law_50 rfl rfl ?_
  refine V_iload_n (pc' := 53) 3 X dL_law_52 rfl rfl rfl ?_
  refine V_icmp_ge (pc' := 56) (C := N ≤ i) 230 X dL_law_53 (by decide) rfl (nI_leI (by omega) (by omega)) (fun hz => absurd hz (by omega)) (fun _ => ?_)
  refine V_iload_n (pc' := 57) 2 X dL_law_56 rfl rfl rfl ?_
  refine V_if_eq (pc' := 60) (C := 1 = 0) 230 X dL_law_57 (by decide) rfl (z_eq0 (by omega)) (fun hz => absurd hz (by decide)) (fun _ => ?_)
  refine V_aload_n (pc' := 61) 1 X dL_law_60 rfl rfl rfl ?_
  refine V_callS (pc' := 64) (As := [.ref x]) (st := []) [0] [] (List.Perm.refl _) X (c_L_roll l G x K S n T P w hw) rfl gL_law_L_roll rfl rfl (Nat.le_of_ble_eq_true rfl) ⟨Nat.le_of_ble_eq_true rfl, Nat.le_of_ble_eq_true rfl⟩ ⟨Nat.le_trans (show kc ≤ 5000 by omega) (Nat.le_of_ble_eq_true rfl), Nat.le_trans (show ks ≤ 20000 by omega) (Nat.le_of_ble_eq_true rfl)⟩ dL_law_61 rfl (fun v_ u_ hp_ => ?_)
  obtain ⟨rfl, w_1, hw_1, rfl⟩ := hp_
  show V E G A 12 [w_1] kc ks Q 64 [(0, .ref b0), (1, .ref x), (2, .int (nI 1)), (3, .int (nI N)), (4, .int (nI i))] [.long (lN (rl S 32))]
  refine V_lstore (pc' := 66) [(0, .ref b0), (1, .ref x), (2, .int (nI 1)), (3, .int (nI N)), (4, .int (nI i)), (5, .long (lN (rl S 32)))] [1, 2, 3, 4, 5, 0] X dL_law_64 (Nat.le_of_ble_eq_true rfl) rfl rfl ?_
  refine V_aload_n (pc' := 67) 1 X dL_law_66 rfl rfl rfl ?_
  refine O_time (pc' := 70) (st := []) hw_1 X gL_law_X5_time (Nat.le_of_ble_eq_true rfl) ⟨Nat.le_of_ble_eq_true rfl, Nat.le_of_ble_eq_true rfl⟩ ⟨Nat.le_trans (show kc ≤ 5000 by omega) (Nat.le_of_ble_eq_true rfl), Nat.le_trans (show ks ≤ 20000 by omega) (Nat.le_of_ble_eq_true rfl)⟩ dL_law_67 rfl (fun w_2 hw_2 => ?_)
  refine V_istore (pc' := 72) [(0, .ref b0), (1, .ref x), (2, .int (nI 1)), (3, .int (nI N)), (4, .int (nI i)), (5, .long (lN (rl S 32))), (7, .int (nI (S 48)))] [1, 2, 3, 4, 5, 6, 0] X dL_law_70 (Nat.le_of_ble_eq_true rfl) rfl rfl ?_
  refine V_aload_n (pc' := 73) 1 X dL_law_72 rfl rfl rfl ?_
  refine V_iconst (pc' := 74) (nI 0) X dL_law_73 ki_0 rfl ?_
  refine O_save0 (pc' := 77) (st := []) hw_2 X gL_law_X5_save (Nat.le_of_ble_eq_true rfl) ⟨Nat.le_of_ble_eq_true rfl, Nat.le_of_ble_eq_true rfl⟩ ⟨Nat.le_trans (show (kc + 7) ≤ 5000 by omega) (Nat.le_of_ble_eq_true rfl), Nat.le_trans (show (ks + 77) ≤ 20000 by omega) (Nat.le_of_ble_eq_true rfl)⟩ dL_law_74 rfl (fun w_3 hw_3 => ?_)
  refine V_istore (pc' := 79) [(0, .ref b0), (1, .ref x), (2, .int (nI 1)), (3, .int (nI N)), (4, .int (nI i)), (5, .long (lN (rl S 32))), (7, .int (nI (S 48))), (8, .int (nI (pgs S)))] [1, 2, 3, 4, 5, 6, 7, 0] X dL_law_77 (Nat.le_of_ble_eq_true rfl) rfl rfl ?_
  have tl : ∀ kd, kd < 13 → V E G A 12 [w_3] (kc + 7) (ks + 77) Q 102 [(0, .ref b0), (1, .ref x), (2, .int (nI 1)), (3, .int (nI N)), (4, .int (nI i)), (5, .long (lN (rl S 32))), (7, .int (nI (S 48))), (8, .int (nI (pgs S)))] [.int (nI kd)] := by
    intro kd hkd
    show V E G A 12 [w_3] (kc + 7) (ks + 77) Q 102 [(0, .ref b0), (1, .ref x), (2, .int (nI 1)), (3, .int (nI N)), (4, .int (nI i)), (5, .long (lN (rl S 32))), (7, .int (nI (S 48))), (8, .int (nI (pgs S)))] [.int (nI kd)]
    refine V_istore (pc' := 104) [(0, .ref b0), (1, .ref x), (2, .int (nI 1)), (3, .int (nI N)), (4, .int (nI i)), (5, .long (lN (rl S 32))), (7, .int (nI (S 48))), (8, .int (nI (pgs S))), (9, .int (nI kd))] [1, 2, 3, 4, 5, 6, 7, 8, 0] X dL_law_102 (Nat.le_of_ble_eq_true rfl) rfl rfl ?_
    refine V_aload_n (pc' := 105) 1 X dL_law_104 rfl rfl rfl ?_
    refine V_iload (pc' := 107) 8 X dL_law_105 rfl rfl ?_
    refine V_aload_n (pc' := 108) 0 X dL_law_107 rfl rfl rfl ?_
    refine V_iconst (pc' := 109) (nI 3) X dL_law_108 ki_3 rfl ?_
    refine V_iload (pc' := 111) 4 X dL_law_109 rfl rfl ?_
    refine V_imul (pc' := 112) (nI (3 * i)) X dL_law_111 (pk_mul _ _) rfl ?_
    refine V_iconst (pc' := 113) (nI 1) X dL_law_112 ki_1 rfl ?_
    refine V_iadd (pc' := 114) (nI ((3 * i) + 1)) X dL_law_113 (nI_add _ _) rfl ?_
    refine V_cell (pc' := 117) (k := (3 * i) + 1) (st := [.int (nI kd), .ref x]) X hX hbl hbA (by omega) (by omega) gL_law_L_cell (Nat.le_of_ble_eq_true rfl) ⟨Nat.le_of_ble_eq_true rfl, Nat.le_of_ble_eq_true rfl⟩ ⟨Nat.le_trans (show (kc + 7) ≤ 5000 by omega) (Nat.le_of_ble_eq_true rfl), Nat.le_trans (show (ks + 77) ≤ 20000 by omega) (Nat.le_of_ble_eq_true rfl)⟩ dL_law_114 rfl ?_
    refine V_aload_n (pc' := 118) 0 X dL_law_117 rfl rfl rfl ?_
    refine V_iconst (pc' := 119) (nI 3) X dL_law_118 ki_3 rfl ?_
    refine V_iload (pc' := 121) 4 X dL_law_119 rfl rfl ?_
    refine V_imul (pc' := 122) (nI (3 * i)) X dL_law_121 (pk_mul _ _) rfl ?_
    refine V_iconst (pc' := 123) (nI 2) X dL_law_122 ki_2 rfl ?_
    refine V_iadd (pc' := 124) (nI ((3 * i) + 2)) X dL_law_123 (nI_add _ _) rfl ?_
    refine V_cell (pc' := 127) (k := (3 * i) + 2) (st := [.int (xs ((3 * i) + 1)), .int (nI kd), .ref x]) X hX hbl hbA (by omega) (by omega) gL_law_L_cell (Nat.le_of_ble_eq_true rfl) ⟨Nat.le_of_ble_eq_true rfl, Nat.le_of_ble_eq_true rfl⟩ ⟨Nat.le_trans (show (kc + 7) ≤ 5000 by omega) (Nat.le_of_ble_eq_true rfl), Nat.le_trans (show (ks + 77) ≤ 20000 by omega) (Nat.le_of_ble_eq_true rfl)⟩ dL_law_124 rfl ?_
    refine V_callS (pc' := 130) (As := [.ref x, .int (nI kd), .int (xs ((3 * i) + 1)), .int (xs ((3 * i) + 2))]) (st := []) [0] [] (List.Perm.refl _) X (c_L_change l G kd hkd x K S n T (va_up P 0 (some S)) w_3 hw_3 (by omega) (xs ((3 * i) + 1)) (xs ((3 * i) + 2))) rfl gL_law_L_change rfl rfl (Nat.le_of_ble_eq_true rfl) ⟨Nat.le_of_ble_eq_true rfl, Nat.le_of_ble_eq_true rfl⟩ ⟨Nat.le_trans (show (kc + 14) ≤ 5000 by omega) (Nat.le_of_ble_eq_true rfl), Nat.le_trans (show (ks + 154) ≤ 20000 by omega) (Nat.le_of_ble_eq_true rfl)⟩ dL_law_127 rfl (fun v_ u_ hp_ => ?_)
    obtain ⟨rfl, S', n', T', P', w_4, hw_4, hP, rfl⟩ := hp_
    show V E G A 12 [w_4] (kc + 14) (ks + 154) Q 130 [(0, .ref b0), (1, .ref x), (2, .int (nI 1)), (3, .int (nI N)), (4, .int (nI i)), (5, .long (lN (rl S 32))), (7, .int (nI (S 48))), (8, .int (nI (pgs S))), (9, .int (nI kd))] [.int (nI 1)]
    refine V_if_eq (pc' := 133) (C := 1 = 0) 144 X dL_law_130 (by decide) rfl (z_eq0 (by omega)) (fun hz => absurd hz (by decide)) (fun _ => ?_)
    refine V_aload_n (pc' := 134) 1 X dL_law_133 rfl rfl rfl ?_
    refine V_callS (pc' := 137) (As := [.ref x]) (st := []) [0] [] (List.Perm.refl _) X (c_L_holds l G x (K + 400) S' n' T' P' w_4 hw_4 (by omega)) rfl gL_law_L_holds rfl rfl (Nat.le_of_ble_eq_true rfl) ⟨Nat.le_of_ble_eq_true rfl, Nat.le_of_ble_eq_true rfl⟩ ⟨Nat.le_trans (show (kc + 14) ≤ 5000 by omega) (Nat.le_of_ble_eq_true rfl), Nat.le_trans (show (ks + 154) ≤ 20000 by omega) (Nat.le_of_ble_eq_true rfl)⟩ dL_law_134 rfl (fun v_ u_ hp_ => ?_)
    obtain ⟨rfl, w_5, hw_5, rfl⟩ := hp_
    show V E G A 12 [w_5] (kc + 14) (ks + 154) Q 137 [(0, .ref b0), (1, .ref x), (2, .int (nI 1)), (3, .int (nI N)), (4, .int (nI i)), (5, .long (lN (rl S 32))), (7, .int (nI (S 48))), (8, .int (nI (pgs S))), (9, .int (nI kd))] [.int (nI 1)]
    refine V_if_eq (pc' := 140) (C := 1 = 0) 144 X dL_law_137 (by decide) rfl (z_eq0 (by omega)) (fun hz => absurd hz (by decide)) (fun _ => ?_)
    refine V_iconst (pc' := 141) (nI 1) X dL_law_140 ki_1 rfl ?_
    refine V_goto (pc' := 145) X dL_law_141 (by decide) ?_
    refine V_istore_n (pc' := 146) [(0, .ref b0), (1, .ref x), (2, .int (nI 1)), (3, .int (nI N)), (4, .int (nI i)), (5, .long (lN (rl S 32))), (7, .int (nI (S 48))), (8, .int (nI (pgs S))), (9, .int (nI kd))] [1, 2, 0, 3, 4, 5, 6, 7, 8] X dL_law_145 rfl (Nat.le_of_ble_eq_true rfl) rfl rfl ?_
    refine V_iload_n (pc' := 147) 2 X dL_law_146 rfl rfl rfl ?_
    refine V_if_eq (pc' := 150) (C := 1 = 0) 224 X dL_law_147 (by decide) rfl (z_eq0 (by omega)) (fun hz => absurd hz (by decide)) (fun _ => ?_)
    refine V_iload (pc' := 152) 4 X dL_law_150 rfl rfl ?_
    refine V_bipush (pc' := 154) (nI 6) X dL_law_152 kb_6 rfl ?_
    refine V_irem (pc' := 155) (nI (i % 6)) X dL_law_154 (z_ne0 (by omega) (by omega)) (pk_rem (by omega) (by omega) (by omega)) rfl ?_
    refine V_iconst (pc' := 156) (nI 5) X dL_law_155 ki_5 rfl ?_
    refine V_icmp_ne (pc' := 159) (C := (i % 6) = 5) 224 X dL_law_156 (by decide) rfl (nI_eq (by omega) (by omega)) (fun h156 => ?_) (fun h156 => ?_)
    · refine V_iinc (pc' := 227) [(0, .ref b0), (1, .ref x), (2, .int (nI 1)), (3, .int (nI N)), (4, .int (nI (i + 1))), (5, .long (lN (rl S 32))), (7, .int (nI (S 48))), (8, .int (nI (pgs S))), (9, .int (nI kd))] 4 [1, 2, 3, 4, 0, 5, 6, 7, 8] X dL_law_224 rfl (nI_i1 _) (Nat.le_of_ble_eq_true rfl) rfl rfl ?_
      refine V_goto (pc' := 50) X dL_law_227 (by decide) ?_
      refine V_lv [0, 1, 2, 3, 4] [(0, .ref b0), (1, .ref x), (2, .int (nI 1)), (3, .int (nI N)), (4, .int (nI (i + 1)))] rfl ?_
      refine V_widen (k := kc + 21) (n := ks + 231) (by omega) (by omega) ?_
      exact KK _ _ _ _ w_5 (hw_5.mono (by omega))
    · refine V_aload_n (pc' := 160) 1 X dL_law_159 rfl rfl rfl ?_
      refine V_callS (pc' := 163) (As := [.ref x]) (st := []) [0] [] (List.Perm.refl _) X (c_L_roll l G x (K + 400) S' n' T' P' w_5 hw_5) rfl gL_law_L_roll rfl rfl (Nat.le_of_ble_eq_true rfl) ⟨Nat.le_of_ble_eq_true rfl, Nat.le_of_ble_eq_true rfl⟩ ⟨Nat.le_trans (show (kc + 14) ≤ 5000 by omega) (Nat.le_of_ble_eq_true rfl), Nat.le_trans (show (ks + 154) ≤ 20000 by omega) (Nat.le_of_ble_eq_true rfl)⟩ dL_law_160 rfl (fun v_ u_ hp_ => ?_)
      obtain ⟨rfl, w_6, hw_6, rfl⟩ := hp_
      show V E G A 12 [w_6] (kc + 14) (ks + 154) Q 163 [(0, .ref b0), (1, .ref x), (2, .int (nI 1)), (3, .int (nI N)), (4, .int (nI i)), (5, .long (lN (rl S 32))), (7, .int (nI (S 48))), (8, .int (nI (pgs S))), (9, .int (nI kd))] [.long (lN (rl S' 32))]
      refine V_lstore (pc' := 165) [(0, .ref b0), (1, .ref x), (2, .int (nI 1)), (3, .int (nI N)), (4, .int (nI i)), (5, .long (lN (rl S 32))), (7, .int (nI (S 48))), (8, .int (nI (pgs S))), (9, .int (nI kd)), (10, .long (lN (rl S' 32)))] [1, 2, 3, 4, 5, 6, 7, 8, 9, 0] X dL_law_163 (Nat.le_of_ble_eq_true rfl) rfl rfl ?_
      have hn6_ : n' ≤ 6 := hw_6.2.2.1
      refine V_aload_n (pc' := 166) 1 X dL_law_165 rfl rfl rfl ?_
      refine V_iconst (pc' := 167) (nI 0) X dL_law_166 ki_0 rfl ?_
      refine O_restore0 (pc' := 170) (st := []) S (hP.trans (va_up_self _ _ _)) hw_6 X gL_law_X5_restore (Nat.le_of_ble_eq_true rfl) ⟨Nat.le_of_ble_eq_true rfl, Nat.le_of_ble_eq_true rfl⟩ ⟨Nat.le_trans (show (kc + 14) ≤ 5000 by omega) (Nat.le_of_ble_eq_true rfl), Nat.le_trans (show (ks + 154) ≤ 20000 by omega) (Nat.le_of_ble_eq_true rfl)⟩ dL_law_167 rfl (fun w_7 hw_7 => ?_)
      refine V_iload (pc' := 172) 7 X dL_law_170 rfl rfl ?_
      refine V_icmp_ne (pc' := 175) (C := (nI (pgs S)) = (nI (pgs S))) 222 X dL_law_172 (by decide) rfl Iff.rfl (fun hz => absurd (rfl) hz) (fun _ => ?_)
      refine V_aload_n (pc' := 176) 1 X dL_law_175 rfl rfl rfl ?_
      refine V_callS (pc' := 179) (As := [.ref x]) (st := []) [0] [] (List.Perm.refl _) X (c_L_roll l G x (K + 400) S (aM n' + 1) (hT n' S' T') P' w_7 hw_7) rfl gL_law_L_roll rfl rfl (Nat.le_of_ble_eq_true rfl) ⟨Nat.le_of_ble_eq_true rfl, Nat.le_of_ble_eq_true rfl⟩ ⟨Nat.le_trans (show (kc + 14) ≤ 5000 by omega) (Nat.le_of_ble_eq_true rfl), Nat.le_trans (show (ks + 154) ≤ 20000 by omega) (Nat.le_of_ble_eq_true rfl)⟩ dL_law_176 rfl (fun v_ u_ hp_ => ?_)
      obtain ⟨rfl, w_8, hw_8, rfl⟩ := hp_
      show V E G A 12 [w_8] (kc + 14) (ks + 154) Q 179 [(0, .ref b0), (1, .ref x), (2, .int (nI 1)), (3, .int (nI N)), (4, .int (nI i)), (5, .long (lN (rl S 32))), (7, .int (nI (S 48))), (8, .int (nI (pgs S))), (9, .int (nI kd)), (10, .long (lN (rl S' 32)))] [.long (lN (rl S 32))]
      refine V_lload (pc' := 181) 5 X dL_law_179 rfl rfl ?_
      refine V_lcmp (pc' := 182) (nI 0) X dL_law_181 (lc_same (congrArg lN rfl)) rfl ?_
      refine V_if_ne (pc' := 185) (C := 0 = 0) 222 X dL_law_182 (by decide) rfl (z_eq0 (by omega)) (fun hz => absurd (by decide) hz) (fun _ => ?_)
      refine V_aload_n (pc' := 186) 1 X dL_law_185 rfl rfl rfl ?_
      refine O_time (pc' := 189) (st := []) hw_8 X gL_law_X5_time (Nat.le_of_ble_eq_true rfl) ⟨Nat.le_of_ble_eq_true rfl, Nat.le_of_ble_eq_true rfl⟩ ⟨Nat.le_trans (show (kc + 14) ≤ 5000 by omega) (Nat.le_of_ble_eq_true rfl), Nat.le_trans (show (ks + 154) ≤ 20000 by omega) (Nat.le_of_ble_eq_true rfl)⟩ dL_law_186 rfl (fun w_9 hw_9 => ?_)
      refine V_iload (pc' := 191) 6 X dL_law_189 rfl rfl ?_
      refine V_icmp_ne (pc' := 194) (C := (nI (S 48)) = (nI (S 48))) 222 X dL_law_191 (by decide) rfl Iff.rfl (fun hz => absurd (rfl) hz) (fun _ => ?_)
      refine V_aload_n (pc' := 195) 1 X dL_law_194 rfl rfl rfl ?_
      refine O_undo (pc' := 198) (st := []) hw_9 X gL_law_X5_undo (Nat.le_of_ble_eq_true rfl) ⟨Nat.le_of_ble_eq_true rfl, Nat.le_of_ble_eq_true rfl⟩ ⟨Nat.le_trans (show (kc + 14) ≤ 5000 by omega) (Nat.le_of_ble_eq_true rfl), Nat.le_trans (show (ks + 154) ≤ 20000 by omega) (Nat.le_of_ble_eq_true rfl)⟩ dL_law_195 rfl (fun w_10 hw_10 => ?_)
      rw [hT_self] at hw_10
      refine V_if_lt (pc' := 201) (C := False) 222 X dL_law_198 (by decide) rfl (z_lt0 (by have := aM_lt hn6_; omega)) (fun hz => absurd hz (by decide)) (fun _ => ?_)
      refine V_aload_n (pc' := 202) 1 X dL_law_201 rfl rfl rfl ?_
      refine V_callS (pc' := 205) (As := [.ref x]) (st := []) [0] [] (List.Perm.refl _) X (c_L_roll l G x (K + 400) S' (aM n') (hT n' S' T') P' w_10 hw_10) rfl gL_law_L_roll rfl rfl (Nat.le_of_ble_eq_true rfl) ⟨Nat.le_of_ble_eq_true rfl, Nat.le_of_ble_eq_true rfl⟩ ⟨Nat.le_trans (show (kc + 14) ≤ 5000 by omega) (Nat.le_of_ble_eq_true rfl), Nat.le_trans (show (ks + 154) ≤ 20000 by omega) (Nat.le_of_ble_eq_true rfl)⟩ dL_law_202 rfl (fun v_ u_ hp_ => ?_)
      obtain ⟨rfl, w_11, hw_11, rfl⟩ := hp_
      show V E G A 12 [w_11] (kc + 14) (ks + 154) Q 205 [(0, .ref b0), (1, .ref x), (2, .int (nI 1)), (3, .int (nI N)), (4, .int (nI i)), (5, .long (lN (rl S 32))), (7, .int (nI (S 48))), (8, .int (nI (pgs S))), (9, .int (nI kd)), (10, .long (lN (rl S' 32)))] [.long (lN (rl S' 32))]
      refine V_lload (pc' := 207) 9 X dL_law_205 rfl rfl ?_
      refine V_lcmp (pc' := 208) (nI 0) X dL_law_207 (lc_same (congrArg lN rfl)) rfl ?_
      refine V_if_ne (pc' := 211) (C := 0 = 0) 222 X dL_law_208 (by decide) rfl (z_eq0 (by omega)) (fun hz => absurd (by decide) hz) (fun _ => ?_)
      refine V_aload_n (pc' := 212) 1 X dL_law_211 rfl rfl rfl ?_
      refine V_callS (pc' := 215) (As := [.ref x]) (st := []) [0] [] (List.Perm.refl _) X (c_L_round l G x (K + 400) S' (aM n') (hT n' S' T') P' w_11 hw_11 (by omega)) rfl gL_law_L_round rfl rfl (Nat.le_of_ble_eq_true rfl) ⟨Nat.le_of_ble_eq_true rfl, Nat.le_of_ble_eq_true rfl⟩ ⟨Nat.le_trans (show (kc + 21) ≤ 5000 by omega) (Nat.le_of_ble_eq_true rfl), Nat.le_trans (show (ks + 231) ≤ 20000 by omega) (Nat.le_of_ble_eq_true rfl)⟩ dL_law_212 rfl (fun v_ u_ hp_ => ?_)
      obtain ⟨rfl, S'', n'', T'', P'', w_12, hw_12, rfl⟩ := hp_
      show V E G A 12 [w_12] (kc + 21) (ks + 231) Q 215 [(0, .ref b0), (1, .ref x), (2, .int (nI 1)), (3, .int (nI N)), (4, .int (nI i)), (5, .long (lN (rl S 32))), (7, .int (nI (S 48))), (8, .int (nI (pgs S))), (9, .int (nI kd)), (10, .long (lN (rl S' 32)))] [.int (nI 1)]
      refine V_if_eq (pc' := 218) (C := 1 = 0) 222 X dL_law_215 (by decide) rfl (z_eq0 (by omega)) (fun hz => absurd hz (by decide)) (fun _ => ?_)
      refine V_iconst (pc' := 219) (nI 1) X dL_law_218 ki_1 rfl ?_
      refine V_goto (pc' := 223) X dL_law_219 (by decide) ?_
      refine V_istore_n (pc' := 224) [(0, .ref b0), (1, .ref x), (2, .int (nI 1)), (3, .int (nI N)), (4, .int (nI i)), (5, .long (lN (rl S 32))), (7, .int (nI (S 48))), (8, .int (nI (pgs S))), (9, .int (nI kd)), (10, .long (lN (rl S' 32)))] [1, 2, 0, 3, 4, 5, 6, 7, 8, 9] X dL_law_223 rfl (Nat.le_of_ble_eq_true rfl) rfl rfl ?_
      refine V_iinc (pc' := 227) [(0, .ref b0), (1, .ref x), (2, .int (nI 1)), (3, .int (nI N)), (4, .int (nI (i + 1))), (5, .long (lN (rl S 32))), (7, .int (nI (S 48))), (8, .int (nI (pgs S))), (9, .int (nI kd)), (10, .long (lN (rl S' 32)))] 4 [1, 2, 3, 4, 0, 5, 6, 7, 8, 9] X dL_law_224 rfl (nI_i1 _) (Nat.le_of_ble_eq_true rfl) rfl rfl ?_
      refine V_goto (pc' := 50) X dL_law_227 (by decide) ?_
      refine V_lv [0, 1, 2, 3, 4] [(0, .ref b0), (1, .ref x), (2, .int (nI 1)), (3, .int (nI N)), (4, .int (nI (i + 1)))] rfl ?_
      exact KK _ _ _ _ w_12 (hw_12.mono (by omega))
  refine V_iload (pc' := 81) 4 X dL_law_79 rfl rfl ?_
  refine V_iconst (pc' := 82) (nI 3) X dL_law_81 ki_3 rfl ?_
  refine V_icmp_ge (pc' := 85) (C := 3 ≤ i) 89 X dL_law_82 (by decide) rfl (nI_leI (by omega) (by omega)) (fun h82 => ?_) (fun h82 => ?_)
  · refine V_aload_n (pc' := 90) 0 X dL_law_89 rfl rfl rfl ?_
    refine V_iconst (pc' := 91) (nI 3) X dL_law_90 ki_3 rfl ?_
    refine V_iload (pc' := 93) 4 X dL_law_91 rfl rfl ?_
    refine V_imul (pc' := 94) (nI (3 * i)) X dL_law_93 (pk_mul _ _) rfl ?_
    refine V_cell (pc' := 97) (k := 3 * i) (st := []) X hX hbl hbA (by omega) (by omega) gL_law_L_cell (Nat.le_of_ble_eq_true rfl) ⟨Nat.le_of_ble_eq_true rfl, Nat.le_of_ble_eq_true rfl⟩ ⟨Nat.le_trans (show (kc + 7) ≤ 5000 by omega) (Nat.le_of_ble_eq_true rfl), Nat.le_trans (show (ks + 77) ≤ 20000 by omega) (Nat.le_of_ble_eq_true rfl)⟩ dL_law_94 rfl ?_
    refine V_bipush (pc' := 99) (nI 13) X dL_law_97 kb_13 rfl ?_
    refine V_callS (pc' := 102) (As := [.int (xs (3 * i)), .int (nI 13)]) (st := []) [] [0] (List.Perm.refl _) X (c_L_low l G (xs (3 * i)) 13 (by decide) (by decide)) rfl gL_law_L_low rfl rfl (Nat.le_of_ble_eq_true rfl) ⟨Nat.le_of_ble_eq_true rfl, Nat.le_of_ble_eq_true rfl⟩ ⟨Nat.le_trans (show (kc + 7) ≤ 5000 by omega) (Nat.le_of_ble_eq_true rfl), Nat.le_trans (show (ks + 77) ≤ 20000 by omega) (Nat.le_of_ble_eq_true rfl)⟩ dL_law_99 rfl (fun v_ u_ hp_ => ?_)
    obtain ⟨rfl, rfl⟩ := hp_
    show V E G A 12 [w_3] (kc + 7) (ks + 77) Q 102 [(0, .ref b0), (1, .ref x), (2, .int (nI 1)), (3, .int (nI N)), (4, .int (nI i)), (5, .long (lN (rl S 32))), (7, .int (nI (S 48))), (8, .int (nI (pgs S)))] [.int (nI (lwN (xs (3 * i)) 13))]
    exact tl _ (lwN_lt _ (by decide))
  · refine V_iconst (pc' := 86) (nI 1) X dL_law_85 ki_1 rfl ?_
    refine V_goto (pc' := 102) X dL_law_86 (by decide) ?_
    exact tl _ (by decide)
set_option maxHeartbeats 4000000 in
theorem law_loop {E : EE} {G : gT} {A : Nat → Prop} {Q : State → Prop} {l : Launch} {b0 L : Nat} {xs : Nat → Int32} (X : Cx E G A 12 cL_law RL wsL_law room_1 l) (hX : va_X b0 L xs (e_s E) (e_s E).heap) (hbl : b0 < (e_s E).heap.size) (hbA : ¬ A b0) (hL : L ≤ 260) (x N : Nat) (hN : N ≤ 24) (h3 : 3 * N ≤ L)
    (hend : ∀ (bs : List va_W) (lv : List (Nat × Value)) (kc ks : Nat), kc ≤ 600172 → ks ≤ 7300668 → V E G A 12 bs kc ks Q 231 lv [.int (nI 1)]) : ∀ i, i ≤ N → ∀ (S : Nat → Nat) (n : Nat) (T : Nat → Nat → Nat) (P : Nat → Option (Nat → Nat)) (w : va_W), OJ G x (500 * i) S n T P w → V E G A 12 [w] (61 + 21 * i) (703 + 231 * i) Q 50 [(0, .ref b0), (1, .ref x), (2, .int (nI 1)), (3, .int (nI N)), (4, .int (nI i))] [] := by
  refine loopD N ?_ ?_
  · intro S n T P w hw
    refine V_iload (pc' := 52) 4 X dL_law_50 rfl rfl ?_
    refine V_iload_n (pc' := 53) 3 X dL_law_52 rfl rfl rfl ?_
    refine V_icmp_ge (pc' := 56) (C := N ≤ N) 230 X dL_law_53 (by decide) rfl (nI_leI (by omega) (by omega)) (fun _ => ?_) (fun hz => absurd (Nat.le_refl _) hz)
    refine V_iload_n (pc' := 231) 2 X dL_law_230 rfl rfl rfl ?_
    exact hend _ _ _ _ (by omega) (by omega)
  · intro i hi ih S n T P w hw
    refine law_turn X hX hbl hbA hL x N i hN h3 hi (500 * i) (61 + 21 * i) (703 + 231 * i) (by omega) (by omega) (by omega) S n T P w hw (fun S n T P w hw => ?_)
    have e1 : 61 + 21 * i + 21 = 61 + 21 * (i + 1) := by omega
    have e2 : 703 + 231 * i + 231 = 703 + 231 * (i + 1) := by omega
    have e3 : 500 * i + 500 = 500 * (i + 1) := by omega
    rw [e1, e2]
    rw [e3] at hw
    exact ih S n T P w hw
set_option maxHeartbeats 4000000 in
set_option maxRecDepth 100000 in
theorem law_entry {E : EE} {G : gT} {A : Nat → Prop} {Q : State → Prop} {l : Launch} {b0 L : Nat} {xs : Nat → Int32} (X : Cx E G A 12 cL_law RL wsL_law room_1 l) (hX : va_X b0 L xs (e_s E) (e_s E).heap) (hbl : b0 < (e_s E).heap.size) (hbA : ¬ A b0) (hL : L ≤ 260)
    (hend : ∀ (bs : List va_W) (lv : List (Nat × Value)) (kc ks : Nat), kc ≤ 600172 → ks ≤ 7300668 → V E G A 12 bs kc ks Q 231 lv [.int (nI 1)]) : V E G A 12 [] 0 0 Q 0 [(0, .ref b0)] [] := by
  show V E G A 12 [] 0 0 Q 0 [(0, .ref b0)] []
  refine V_new (pc' := 3) 5 [.null, .null, .null, .null, .null] X (by decide) (by decide +kernel) (by decide +kernel) (by decide +kernel) (by decide +kernel) (fun j hj => by have hj : j < 5 := hj; rcases (show j = 0 ∨ j = 1 ∨ j = 2 ∨ j = 3 ∨ j = 4 by omega) with rfl | rfl | rfl | rfl | rfl <;> rfl) (Nat.le_of_ble_eq_true rfl) (Nat.le_of_ble_eq_true rfl) dL_law_0 rfl (fun x => ?_)
  show V E G A 12 [[(x, .inr (5, [.null, .null, .null, .null, .null]))]] 1 5 Q 3 [(0, .ref b0)] [.ref x]
  refine V_dup (pc' := 4) X dL_law_3 rfl rfl ?_
  refine V_callI (pc' := 7) (As := []) (st := [.ref x]) [0] [] (show (List.range 1).Perm ([0] ++ []) by decide) X (c_Y5_init l G x) rfl gL_law_X5_init (by decide +kernel) (by decide +kernel) (by decide +kernel) rfl (fun _ _ _ _ h => (Cond.code.inj (List.cons.inj h).1).2.2.2.symm) rfl rfl (Nat.le_of_ble_eq_true rfl) ⟨Nat.le_of_ble_eq_true rfl, Nat.le_of_ble_eq_true rfl⟩ ⟨Nat.le_of_ble_eq_true rfl, Nat.le_of_ble_eq_true rfl⟩ dL_law_4 rfl (fun v_ u_ hp_ => ?_)
  obtain ⟨a, r, p, h, q, H, g, d, rfl, rfl⟩ := hp_
  show V E G A 12 [XB x (a 0) (r 0) (p 0) (h 0) q, DW G a (S0 3), RN G r H g, PD G p (fun _ => 0) 0, HI G h 0 d, HD G d (fun _ => S0 3), SA G q (fun _ => none)] 61 703 Q 7 [(0, .ref b0)] [.ref x]
  refine V_ws [OB G x a r p h q H g (fun _ => 0) d (fun _ => none) (S0 3) 0 (fun _ => S0 3) (fun _ => none)] (by simp only [OB, SL, sl, List.flatten_cons, List.flatten_nil, List.append_nil, List.append_assoc]) ?_
  have hw0 : OJ G x 0 (S0 3) 0 (fun _ => S0 3) (fun _ => none) (OB G x a r p h q H g (fun _ => 0) d (fun _ => none) (S0 3) 0 (fun _ => S0 3) (fun _ => none)) := ⟨⟨a, r, p, h, q, H, g, _, d, _, rfl, fun _ => rfl⟩, ⟨J_S0, Nat.zero_le _, fun k hk => absurd hk (Nat.not_lt_zero _), fun c O e => by cases e⟩⟩
  generalize OB G x a r p h q H g (fun _ => 0) d (fun _ => none) (S0 3) 0 (fun _ => S0 3) (fun _ => none) = w0 at hw0 ⊢
  show V E G A 12 [w0] 61 703 Q 7 [(0, .ref b0)] [.ref x]
  refine V_astore_n (pc' := 8) [(0, .ref b0), (1, .ref x)] [1, 0] X dL_law_7 rfl (Nat.le_of_ble_eq_true rfl) rfl rfl ?_
  refine V_aload_n (pc' := 9) 1 X dL_law_8 rfl rfl rfl ?_
  refine V_callS (pc' := 12) (As := [.ref x]) (st := []) [0] [] (List.Perm.refl _) X (c_L_holds l G x 0 (S0 3) 0 (fun _ => S0 3) (fun _ => none) w0 hw0 (by omega)) rfl gL_law_L_holds rfl rfl (Nat.le_of_ble_eq_true rfl) ⟨Nat.le_of_ble_eq_true rfl, Nat.le_of_ble_eq_true rfl⟩ ⟨Nat.le_of_ble_eq_true rfl, Nat.le_of_ble_eq_true rfl⟩ dL_law_9 rfl (fun v_ u_ hp_ => ?_)
  obtain ⟨rfl, w_1, hw_1, rfl⟩ := hp_
  show V E G A 12 [w_1] 61 703 Q 12 [(0, .ref b0), (1, .ref x)] [.int (nI 1)]
  refine V_if_eq (pc' := 15) (C := 1 = 0) 26 X dL_law_12 (by decide) rfl (z_eq0 (by omega)) (fun hz => absurd hz (by decide)) (fun _ => ?_)
  refine V_aload_n (pc' := 16) 1 X dL_law_15 rfl rfl rfl ?_
  refine O_undoable (pc' := 19) (st := []) hw_1 X gL_law_X5_undoable (Nat.le_of_ble_eq_true rfl) ⟨Nat.le_of_ble_eq_true rfl, Nat.le_of_ble_eq_true rfl⟩ ⟨Nat.le_of_ble_eq_true rfl, Nat.le_of_ble_eq_true rfl⟩ dL_law_16 rfl (fun w_2 hw_2 => ?_)
  refine V_if_ne (pc' := 22) (C := 0 = 0) 26 X dL_law_19 (by decide) rfl (z_eq0 (by omega)) (fun hz => absurd (by decide) hz) (fun _ => ?_)
  refine V_iconst (pc' := 23) (nI 1) X dL_law_22 ki_1 rfl ?_
  refine V_goto (pc' := 27) X dL_law_23 (by decide) ?_
  refine V_istore_n (pc' := 28) [(0, .ref b0), (1, .ref x), (2, .int (nI 1))] [1, 2, 0] X dL_law_27 rfl (Nat.le_of_ble_eq_true rfl) rfl rfl ?_
  refine V_aload_n (pc' := 29) 0 X dL_law_28 rfl rfl rfl ?_
  refine V_slen (pc' := 30) X hX hbl hbA dL_law_29 rfl ?_
  refine V_iconst (pc' := 31) (nI 3) X dL_law_30 ki_3 rfl ?_
  refine V_idiv (pc' := 32) (nI (L / 3)) X dL_law_31 (z_ne0 (by omega) (by omega)) (pk_div (by omega) (by omega) (by omega)) rfl ?_
  refine V_bipush (pc' := 34) (nI 24) X dL_law_32 kb_24 rfl ?_
  refine V_icmp_le (pc' := 37) (C := (L / 3) ≤ 24) 42 X dL_law_34 (by decide) rfl (nI_leI (by omega) (by omega)) (fun h34 => ?_) (fun h34 => ?_)
  · refine V_aload_n (pc' := 43) 0 X dL_law_42 rfl rfl rfl ?_
    refine V_slen (pc' := 44) X hX hbl hbA dL_law_43 rfl ?_
    refine V_iconst (pc' := 45) (nI 3) X dL_law_44 ki_3 rfl ?_
    refine V_idiv (pc' := 46) (nI (L / 3)) X dL_law_45 (z_ne0 (by omega) (by omega)) (pk_div (by omega) (by omega) (by omega)) rfl ?_
    refine V_istore_n (pc' := 47) [(0, .ref b0), (1, .ref x), (2, .int (nI 1)), (3, .int (nI (L / 3)))] [1, 2, 3, 0] X dL_law_46 rfl (Nat.le_of_ble_eq_true rfl) rfl rfl ?_
    refine V_iconst (pc' := 48) (nI 0) X dL_law_47 ki_0 rfl ?_
    refine V_istore (pc' := 50) [(0, .ref b0), (1, .ref x), (2, .int (nI 1)), (3, .int (nI (L / 3))), (4, .int (nI 0))] [1, 2, 3, 4, 0] X dL_law_48 (Nat.le_of_ble_eq_true rfl) rfl rfl ?_
    exact law_loop X hX hbl hbA hL x (L / 3) (by omega) (by omega) hend 0 (Nat.zero_le _) _ _ _ _ w_2 hw_2
  · refine V_bipush (pc' := 39) (nI 24) X dL_law_37 kb_24 rfl ?_
    refine V_goto (pc' := 46) X dL_law_39 (by decide) ?_
    refine V_istore_n (pc' := 47) [(0, .ref b0), (1, .ref x), (2, .int (nI 1)), (3, .int (nI 24))] [1, 2, 3, 0] X dL_law_46 rfl (Nat.le_of_ble_eq_true rfl) rfl rfl ?_
    refine V_iconst (pc' := 48) (nI 0) X dL_law_47 ki_0 rfl ?_
    refine V_istore (pc' := 50) [(0, .ref b0), (1, .ref x), (2, .int (nI 1)), (3, .int (nI 24)), (4, .int (nI 0))] [1, 2, 3, 4, 0] X dL_law_48 (Nat.le_of_ble_eq_true rfl) rfl rfl ?_
    exact law_loop X hX hbl hbA hL x 24 (by omega) (by omega) hend 0 (Nat.zero_le _) _ _ _ _ w_2 hw_2
