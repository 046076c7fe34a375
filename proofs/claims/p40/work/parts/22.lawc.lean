/-! the law's method change, by its kind -/
theorem CM.wider {l : Launch} {G : gT} {y : MethodName} {ws : List Cond} {nf nl n mc ms nf' nl' : Nat} {av : List Value} {bs : List va_W} {post : Option Value → List va_W → Prop} (h1 : nf ≤ nf') (h2 : nl ≤ nl') (h : CM l G y ws nf nl n av bs mc ms post) : CM l G y ws nf' nl' n av bs mc ms post := by
  obtain ⟨rm, by_, mL, rt, ws', e1, e2, e3, e4, e5, e6, e7⟩ := h
  exact ⟨rm, by_, mL, rt, ws', e1, e2, e3, Nat.le_trans e4 h1, Nat.le_trans e5 h2, e6, e7⟩
set_option maxHeartbeats 4000000 in
set_option maxRecDepth 100000 in
theorem c_L_change_0 (l : Launch) (G : gT) (x K : Nat) (S : Nat → Nat) (n : Nat) (T : Nat → Nat → Nat) (P : Nat → Option (Nat → Nat)) (w : va_W) (hw : OJ G x K S n T P w) (hK : K ≤ 90000) (a b : Int32) : CM l G yL_change wsL_change 6 164 4 [.ref x, .int (nI 0), .int a, .int b] [w] 7 77 (fun v u => v = some (.int (nI 1)) ∧ ∃ (S' : Nat → Nat) (n' : Nat) (T' : Nat → Nat → Nat) (P' : Nat → Option (Nat → Nat)) (w' : va_W), OJ G x (K + 400) S' n' T' P' w' ∧ P' 0 = P 0 ∧ u = [w']) := by
  refine CM_of RL 5 126 rfl rfl (by decide) (by decide +kernel) (Nat.le_of_ble_eq_true rfl) (fun E A X hrt hnm => ?_)
  generalize hQ : QM E G A _ _ _ = Q
  obtain ⟨i1, i2, i3, i4, i5, i6⟩ := hw.iv
  have j46 := hw.2.1.2.1
  have hn6 := hw.2.2.1
  have ha := lwN_lt a (n := 32) (by decide)
  have hb := lwN_lt b (n := 10) (by decide)
  have hp := i1 _ ha
  have hx10 : S (lwN a 32) ^^^ 2 ^ lwN b 10 < 1024 := Nat.xor_lt_two_pow (n := 10) hp (Nat.pow_lt_pow_right (by decide) hb)
  have hcp := cnt_peg _ hb _ hp
  have hup := pgs_up (S := S) (v := S (lwN a 32) ^^^ 2 ^ lwN b 10) ha
  show V E G A 19 [w] 0 0 Q 0 [(0, .ref x), (1, .int (nI 0)), (2, .int a), (3, .int b)] []
  refine V_aload_n (pc' := 1) 0 X dL_change_0 rfl rfl rfl ?_
  refine O_undoable (pc' := 4) (st := []) hw X gL_change_X5_undoable (Nat.le_of_ble_eq_true rfl) ⟨Nat.le_of_ble_eq_true rfl, Nat.le_of_ble_eq_true rfl⟩ ⟨Nat.le_of_ble_eq_true rfl, Nat.le_of_ble_eq_true rfl⟩ dL_change_1 rfl (fun w_1 hw_1 => ?_)
  refine V_istore (pc' := 6) [(0, .ref x), (1, .int (nI 0)), (2, .int a), (3, .int b), (4, .int (nI n))] [1, 2, 3, 4, 0] X dL_change_4 (Nat.le_of_ble_eq_true rfl) rfl rfl ?_
  refine V_aload_n (pc' := 7) 0 X dL_change_6 rfl rfl rfl ?_
  refine O_pegs (pc' := 10) (st := []) hw_1 X gL_change_X5_pegs (Nat.le_of_ble_eq_true rfl) ⟨Nat.le_of_ble_eq_true rfl, Nat.le_of_ble_eq_true rfl⟩ ⟨Nat.le_of_ble_eq_true rfl, Nat.le_of_ble_eq_true rfl⟩ dL_change_7 rfl (fun w_2 hw_2 => ?_)
  refine V_istore (pc' := 12) [(0, .ref x), (1, .int (nI 0)), (2, .int a), (3, .int b), (4, .int (nI n)), (5, .int (nI (pgs S)))] [1, 2, 3, 4, 5, 0] X dL_change_10 (Nat.le_of_ble_eq_true rfl) rfl rfl ?_
  refine V_iconst (pc' := 13) (nI 1) X dL_change_12 ki_1 rfl ?_
  refine V_istore (pc' := 15) [(0, .ref x), (1, .int (nI 0)), (2, .int a), (3, .int b), (4, .int (nI n)), (5, .int (nI (pgs S))), (6, .int (nI 1))] [1, 2, 3, 4, 5, 6, 0] X dL_change_13 (Nat.le_of_ble_eq_true rfl) rfl rfl ?_
  refine V_iload_n (pc' := 16) 1 X dL_change_15 rfl rfl rfl ?_
  refine V_tableIn (tgt := 76) (off := 60) X dL_change_16 (by decide +kernel) (by decide +kernel) (by decide +kernel) (by decide) ?_
  refine V_iload_n (pc' := 77) 2 X dL_change_76 rfl rfl rfl ?_
  refine V_bipush (pc' := 79) (nI 32) X dL_change_77 kb_32 rfl ?_
  refine V_callS (pc' := 82) (As := [.int a, .int (nI 32)]) (st := []) [] [0] (List.Perm.refl _) X (c_L_low l G a 32 (by decide) (by decide)) rfl gL_change_L_low rfl rfl (Nat.le_of_ble_eq_true rfl) ⟨Nat.le_of_ble_eq_true rfl, Nat.le_of_ble_eq_true rfl⟩ ⟨Nat.le_of_ble_eq_true rfl, Nat.le_of_ble_eq_true rfl⟩ dL_change_79 rfl (fun v_ u_ hp_ => ?_)
  obtain ⟨rfl, rfl⟩ := hp_
  show V E G A 19 [w_2] 0 0 Q 82 [(0, .ref x), (1, .int (nI 0)), (2, .int a), (3, .int b), (4, .int (nI n)), (5, .int (nI (pgs S))), (6, .int (nI 1))] [.int (nI (lwN a 32))]
  refine V_istore (pc' := 84) [(0, .ref x), (1, .int (nI 0)), (2, .int a), (3, .int b), (4, .int (nI n)), (5, .int (nI (pgs S))), (6, .int (nI 1)), (7, .int (nI (lwN a 32)))] [1, 2, 3, 4, 5, 6, 7, 0] X dL_change_82 (Nat.le_of_ble_eq_true rfl) rfl rfl ?_
  refine V_aload_n (pc' := 85) 0 X dL_change_84 rfl rfl rfl ?_
  refine V_iload (pc' := 87) 7 X dL_change_85 rfl rfl ?_
  refine O_pegsIn (pc' := 90) (st := []) (lwN a 32) ha hw_2 X gL_change_X5_pegsIn (Nat.le_of_ble_eq_true rfl) ⟨Nat.le_of_ble_eq_true rfl, Nat.le_of_ble_eq_true rfl⟩ ⟨Nat.le_of_ble_eq_true rfl, Nat.le_of_ble_eq_true rfl⟩ dL_change_87 rfl (fun w_3 hw_3 => ?_)
  refine V_iload_n (pc' := 91) 3 X dL_change_90 rfl rfl rfl ?_
  refine V_bipush (pc' := 93) (nI 10) X dL_change_91 kb_10 rfl ?_
  refine V_callS (pc' := 96) (As := [.int b, .int (nI 10)]) (st := [.int (nI (S (lwN a 32)))]) [] [0] (List.Perm.refl _) X (c_L_low l G b 10 (by decide) (by decide)) rfl gL_change_L_low rfl rfl (Nat.le_of_ble_eq_true rfl) ⟨Nat.le_of_ble_eq_true rfl, Nat.le_of_ble_eq_true rfl⟩ ⟨Nat.le_of_ble_eq_true rfl, Nat.le_of_ble_eq_true rfl⟩ dL_change_93 rfl (fun v_ u_ hp_ => ?_)
  obtain ⟨rfl, rfl⟩ := hp_
  show V E G A 19 [w_3] 0 0 Q 96 [(0, .ref x), (1, .int (nI 0)), (2, .int a), (3, .int b), (4, .int (nI n)), (5, .int (nI (pgs S))), (6, .int (nI 1)), (7, .int (nI (lwN a 32)))] [.int (nI (lwN b 10)), .int (nI (S (lwN a 32)))]
  refine V_ishr (pc' := 97) (nI ((S (lwN a 32)) / 2 ^ (lwN b 10))) X dL_change_96 (z_shr (by omega) (by omega)) rfl ?_
  refine V_iconst (pc' := 98) (nI 1) X dL_change_97 ki_1 rfl ?_
  refine V_iand (pc' := 99) (nI (bq (S (lwN a 32)) (lwN b 10))) X dL_change_98 (z_and1 _) rfl ?_
  refine V_iconst (pc' := 100) (nI 1) X dL_change_99 ki_1 rfl ?_
  rcases (show bq (S (lwN a 32)) (lwN b 10) = 0 ∨ bq (S (lwN a 32)) (lwN b 10) = 1 by have := bq_lt (S (lwN a 32)) (lwN b 10); omega) with e | e
  · refine V_icmp_ne (pc' := 103) (C := (bq (S (lwN a 32)) (lwN b 10)) = 1) 107 X dL_change_100 (by decide) rfl (nI_eq (by omega) (by omega)) (fun _ => ?_) (fun hz => absurd hz (by omega))
    refine V_iconst (pc' := 108) (nI 0) X dL_change_107 ki_0 rfl ?_
    refine V_istore (pc' := 110) [(0, .ref x), (1, .int (nI 0)), (2, .int a), (3, .int b), (4, .int (nI n)), (5, .int (nI (pgs S))), (6, .int (nI 1)), (7, .int (nI (lwN a 32))), (8, .int (nI 0))] [1, 2, 3, 4, 5, 6, 7, 8, 0] X dL_change_108 (Nat.le_of_ble_eq_true rfl) rfl rfl ?_
    refine V_aload_n (pc' := 111) 0 X dL_change_110 rfl rfl rfl ?_
    refine V_iload (pc' := 113) 7 X dL_change_111 rfl rfl ?_
    refine V_iload_n (pc' := 114) 3 X dL_change_113 rfl rfl rfl ?_
    refine V_bipush (pc' := 116) (nI 10) X dL_change_114 kb_10 rfl ?_
    refine V_callS (pc' := 119) (As := [.int b, .int (nI 10)]) (st := [.int (nI (lwN a 32)), .ref x]) [] [0] (List.Perm.refl _) X (c_L_low l G b 10 (by decide) (by decide)) rfl gL_change_L_low rfl rfl (Nat.le_of_ble_eq_true rfl) ⟨Nat.le_of_ble_eq_true rfl, Nat.le_of_ble_eq_true rfl⟩ ⟨Nat.le_of_ble_eq_true rfl, Nat.le_of_ble_eq_true rfl⟩ dL_change_116 rfl (fun v_ u_ hp_ => ?_)
    obtain ⟨rfl, rfl⟩ := hp_
    show V E G A 19 [w_3] 0 0 Q 119 [(0, .ref x), (1, .int (nI 0)), (2, .int a), (3, .int b), (4, .int (nI n)), (5, .int (nI (pgs S))), (6, .int (nI 1)), (7, .int (nI (lwN a 32))), (8, .int (nI 0))] [.int (nI (lwN b 10)), .int (nI (lwN a 32)), .ref x]
    refine O_turnPeg (pc' := 122) (st := []) (lwN a 32) (lwN b 10) ha hb hw_3 X gL_change_X5_turnPeg (Nat.le_of_ble_eq_true rfl) ⟨Nat.le_of_ble_eq_true rfl, Nat.le_of_ble_eq_true rfl⟩ ⟨Nat.le_of_ble_eq_true rfl, Nat.le_of_ble_eq_true rfl⟩ dL_change_119 rfl (fun w_4 hw_4 => ?_)
    refine V_iload (pc' := 124) 8 X dL_change_122 rfl rfl ?_
    refine V_if_ne (pc' := 127) (C := 0 = 0) 131 X dL_change_124 (by decide) rfl (z_eq0 (by omega)) (fun hz => absurd (by decide) hz) (fun _ => ?_)
    refine V_iconst (pc' := 128) (nI 1) X dL_change_127 ki_1 rfl ?_
    refine V_goto (pc' := 132) X dL_change_128 (by decide) ?_
    refine V_icmp_ne (pc' := 135) (C := (nI (bq (S (lwN a 32) ^^^ 2 ^ (lwN b 10)) (lwN b 10))) = (nI 1)) 187 X dL_change_132 (by decide) rfl Iff.rfl (fun hz => absurd (congrArg nI (by rw [hcp.2, e])) hz) (fun _ => ?_)
    refine V_aload_n (pc' := 136) 0 X dL_change_135 rfl rfl rfl ?_
    refine V_iload (pc' := 138) 7 X dL_change_136 rfl rfl ?_
    refine O_pegsIn (pc' := 141) (st := []) (lwN a 32) ha hw_4 X gL_change_X5_pegsIn (Nat.le_of_ble_eq_true rfl) ⟨Nat.le_of_ble_eq_true rfl, Nat.le_of_ble_eq_true rfl⟩ ⟨Nat.le_of_ble_eq_true rfl, Nat.le_of_ble_eq_true rfl⟩ dL_change_138 rfl (fun w_5 hw_5 => ?_)
    refine V_iload_n (pc' := 142) 3 X dL_change_141 rfl rfl rfl ?_
    refine V_bipush (pc' := 144) (nI 10) X dL_change_142 kb_10 rfl ?_
    refine V_callS (pc' := 147) (As := [.int b, .int (nI 10)]) (st := [.int (nI ((va_up S (lwN a 32) (S (lwN a 32) ^^^ 2 ^ (lwN b 10))) (lwN a 32)))]) [] [0] (List.Perm.refl _) X (c_L_low l G b 10 (by decide) (by decide)) rfl gL_change_L_low rfl rfl (Nat.le_of_ble_eq_true rfl) ⟨Nat.le_of_ble_eq_true rfl, Nat.le_of_ble_eq_true rfl⟩ ⟨Nat.le_of_ble_eq_true rfl, Nat.le_of_ble_eq_true rfl⟩ dL_change_144 rfl (fun v_ u_ hp_ => ?_)
    obtain ⟨rfl, rfl⟩ := hp_
    show V E G A 19 [w_5] 0 0 Q 147 [(0, .ref x), (1, .int (nI 0)), (2, .int a), (3, .int b), (4, .int (nI n)), (5, .int (nI (pgs S))), (6, .int (nI 1)), (7, .int (nI (lwN a 32))), (8, .int (nI 0))] [.int (nI (lwN b 10)), .int (nI ((va_up S (lwN a 32) (S (lwN a 32) ^^^ 2 ^ (lwN b 10))) (lwN a 32)))]
    refine V_ishr (pc' := 148) (nI (((va_up S (lwN a 32) (S (lwN a 32) ^^^ 2 ^ (lwN b 10))) (lwN a 32)) / 2 ^ (lwN b 10))) X dL_change_147 (z_shr (by first | (rw [va_up_self]; omega) | omega) (by first | (rw [va_up_self]; omega) | omega)) rfl ?_
    refine V_iconst (pc' := 149) (nI 1) X dL_change_148 ki_1 rfl ?_
    refine V_iand (pc' := 150) (nI (bq ((va_up S (lwN a 32) (S (lwN a 32) ^^^ 2 ^ (lwN b 10))) (lwN a 32)) (lwN b 10))) X dL_change_149 (z_and1 _) rfl ?_
    refine V_iload (pc' := 152) 8 X dL_change_150 rfl rfl ?_
    refine V_if_eq (pc' := 155) (C := 0 = 0) 159 X dL_change_152 (by decide) rfl (z_eq0 (by omega)) (fun _ => ?_) (fun hz => absurd (by decide) hz)
    refine V_iconst (pc' := 160) (nI 1) X dL_change_159 ki_1 rfl ?_
    refine V_icmp_ne (pc' := 163) (C := (nI (bq ((va_up S (lwN a 32) (S (lwN a 32) ^^^ 2 ^ (lwN b 10))) (lwN a 32)) (lwN b 10))) = (nI 1)) 187 X dL_change_160 (by decide) rfl Iff.rfl (fun hz => absurd (congrArg nI (by rw [va_up_self, hcp.2, e])) hz) (fun _ => ?_)
    refine V_aload_n (pc' := 164) 0 X dL_change_163 rfl rfl rfl ?_
    refine O_pegs (pc' := 167) (st := []) hw_5 X gL_change_X5_pegs (Nat.le_of_ble_eq_true rfl) ⟨Nat.le_of_ble_eq_true rfl, Nat.le_of_ble_eq_true rfl⟩ ⟨Nat.le_of_ble_eq_true rfl, Nat.le_of_ble_eq_true rfl⟩ dL_change_164 rfl (fun w_6 hw_6 => ?_)
    refine V_iload (pc' := 169) 5 X dL_change_167 rfl rfl ?_
    refine V_iload (pc' := 171) 8 X dL_change_169 rfl rfl ?_
    refine V_if_eq (pc' := 174) (C := 0 = 0) 178 X dL_change_171 (by decide) rfl (z_eq0 (by omega)) (fun _ => ?_) (fun hz => absurd (by decide) hz)
    refine V_iconst (pc' := 179) (nI 1) X dL_change_178 ki_1 rfl ?_
    refine V_iadd (pc' := 180) (nI ((pgs S) + 1)) X dL_change_179 (nI_add _ _) rfl ?_
    refine V_icmp_ne (pc' := 183) (C := (nI (pgs (va_up S (lwN a 32) (S (lwN a 32) ^^^ 2 ^ (lwN b 10))))) = (nI ((pgs S) + 1))) 187 X dL_change_180 (by decide) rfl Iff.rfl (fun hz => absurd (congrArg nI (by have h := hcp.1; omega)) hz) (fun _ => ?_)
    refine V_iconst (pc' := 184) (nI 1) X dL_change_183 ki_1 rfl ?_
    refine V_goto (pc' := 188) X dL_change_184 (by decide) ?_
    refine V_istore (pc' := 190) [(0, .ref x), (1, .int (nI 0)), (2, .int a), (3, .int b), (4, .int (nI n)), (5, .int (nI (pgs S))), (6, .int (nI 1)), (7, .int (nI (lwN a 32))), (8, .int (nI 0))] [1, 2, 3, 4, 5, 6, 0, 7, 8] X dL_change_188 (Nat.le_of_ble_eq_true rfl) rfl rfl ?_
    refine V_goto (pc' := 682) X dL_change_190 (by decide) ?_
    refine V_iload (pc' := 684) 6 X dL_change_682 rfl rfl ?_
    refine V_if_eq (pc' := 687) (C := 1 = 0) 714 X dL_change_684 (by decide) rfl (z_eq0 (by omega)) (fun hz => absurd hz (by decide)) (fun _ => ?_)
    refine V_aload_n (pc' := 688) 0 X dL_change_687 rfl rfl rfl ?_
    refine O_undoable (pc' := 691) (st := []) hw_6 X gL_change_X5_undoable (Nat.le_of_ble_eq_true rfl) ⟨Nat.le_of_ble_eq_true rfl, Nat.le_of_ble_eq_true rfl⟩ ⟨Nat.le_of_ble_eq_true rfl, Nat.le_of_ble_eq_true rfl⟩ dL_change_688 rfl (fun w_7 hw_7 => ?_)
    rcases aM_cases hn6 with ⟨r1, r2⟩ | ⟨r1, r2⟩
    · refine V_iload (pc' := 693) 4 X dL_change_691 rfl rfl ?_
      refine V_bipush (pc' := 695) (nI 6) X dL_change_693 kb_6 rfl ?_
      refine V_icmp_ne (pc' := 698) (C := (nI n) = (nI 6)) 703 X dL_change_695 (by decide) rfl Iff.rfl (fun hz => absurd (congrArg nI r1) hz) (fun _ => ?_)
      refine V_bipush (pc' := 700) (nI 6) X dL_change_698 kb_6 rfl ?_
      refine V_goto (pc' := 707) X dL_change_700 (by decide) ?_
      refine V_icmp_ne (pc' := 710) (C := (nI (aM n + 1)) = (nI 6)) 714 X dL_change_707 (by decide) rfl Iff.rfl (fun hz => absurd (congrArg nI r2) hz) (fun _ => ?_)
      refine V_iconst (pc' := 711) (nI 1) X dL_change_710 ki_1 rfl ?_
      refine V_goto (pc' := 715) X dL_change_711 (by decide) ?_
      exact V_ireturn (v := nI 1) [w_7] hQ X hrt rfl dL_change_715 (Nat.le_of_ble_eq_true rfl) (Nat.le_of_ble_eq_true rfl) (List.Perm.refl _) ⟨rfl, _, _, _, _, w_7, hw_7.mono (by omega), rfl, rfl⟩
    · refine V_iload (pc' := 693) 4 X dL_change_691 rfl rfl ?_
      refine V_bipush (pc' := 695) (nI 6) X dL_change_693 kb_6 rfl ?_
      refine V_icmp_ne (pc' := 698) (C := n = 6) 703 X dL_change_695 (by decide) rfl (nI_eq (by omega) (by omega)) (fun _ => ?_) (fun hz => absurd hz (by omega))
      refine V_iload (pc' := 705) 4 X dL_change_703 rfl rfl ?_
      refine V_iconst (pc' := 706) (nI 1) X dL_change_705 ki_1 rfl ?_
      refine V_iadd (pc' := 707) (nI (n + 1)) X dL_change_706 (nI_add _ _) rfl ?_
      refine V_icmp_ne (pc' := 710) (C := (nI (aM n + 1)) = (nI (n + 1))) 714 X dL_change_707 (by decide) rfl Iff.rfl (fun hz => absurd (congrArg nI r2) hz) (fun _ => ?_)
      refine V_iconst (pc' := 711) (nI 1) X dL_change_710 ki_1 rfl ?_
      refine V_goto (pc' := 715) X dL_change_711 (by decide) ?_
      exact V_ireturn (v := nI 1) [w_7] hQ X hrt rfl dL_change_715 (Nat.le_of_ble_eq_true rfl) (Nat.le_of_ble_eq_true rfl) (List.Perm.refl _) ⟨rfl, _, _, _, _, w_7, hw_7.mono (by omega), rfl, rfl⟩
  · refine V_icmp_ne (pc' := 103) (C := (nI (bq (S (lwN a 32)) (lwN b 10))) = (nI 1)) 107 X dL_change_100 (by decide) rfl Iff.rfl (fun hz => absurd (congrArg nI e) hz) (fun _ => ?_)
    refine V_iconst (pc' := 104) (nI 1) X dL_change_103 ki_1 rfl ?_
    refine V_goto (pc' := 108) X dL_change_104 (by decide) ?_
    refine V_istore (pc' := 110) [(0, .ref x), (1, .int (nI 0)), (2, .int a), (3, .int b), (4, .int (nI n)), (5, .int (nI (pgs S))), (6, .int (nI 1)), (7, .int (nI (lwN a 32))), (8, .int (nI 1))] [1, 2, 3, 4, 5, 6, 7, 8, 0] X dL_change_108 (Nat.le_of_ble_eq_true rfl) rfl rfl ?_
    refine V_aload_n (pc' := 111) 0 X dL_change_110 rfl rfl rfl ?_
    refine V_iload (pc' := 113) 7 X dL_change_111 rfl rfl ?_
    refine V_iload_n (pc' := 114) 3 X dL_change_113 rfl rfl rfl ?_
    refine V_bipush (pc' := 116) (nI 10) X dL_change_114 kb_10 rfl ?_
    refine V_callS (pc' := 119) (As := [.int b, .int (nI 10)]) (st := [.int (nI (lwN a 32)), .ref x]) [] [0] (List.Perm.refl _) X (c_L_low l G b 10 (by decide) (by decide)) rfl gL_change_L_low rfl rfl (Nat.le_of_ble_eq_true rfl) ⟨Nat.le_of_ble_eq_true rfl, Nat.le_of_ble_eq_true rfl⟩ ⟨Nat.le_of_ble_eq_true rfl, Nat.le_of_ble_eq_true rfl⟩ dL_change_116 rfl (fun v_ u_ hp_ => ?_)
    obtain ⟨rfl, rfl⟩ := hp_
    show V E G A 19 [w_3] 0 0 Q 119 [(0, .ref x), (1, .int (nI 0)), (2, .int a), (3, .int b), (4, .int (nI n)), (5, .int (nI (pgs S))), (6, .int (nI 1)), (7, .int (nI (lwN a 32))), (8, .int (nI 1))] [.int (nI (lwN b 10)), .int (nI (lwN a 32)), .ref x]
    refine O_turnPeg (pc' := 122) (st := []) (lwN a 32) (lwN b 10) ha hb hw_3 X gL_change_X5_turnPeg (Nat.le_of_ble_eq_true rfl) ⟨Nat.le_of_ble_eq_true rfl, Nat.le_of_ble_eq_true rfl⟩ ⟨Nat.le_of_ble_eq_true rfl, Nat.le_of_ble_eq_true rfl⟩ dL_change_119 rfl (fun w_8 hw_8 => ?_)
    refine V_iload (pc' := 124) 8 X dL_change_122 rfl rfl ?_
    refine V_if_ne (pc' := 127) (C := 1 = 0) 131 X dL_change_124 (by decide) rfl (z_eq0 (by omega)) (fun _ => ?_) (fun hz => absurd hz (by decide))
    refine V_iconst (pc' := 132) (nI 0) X dL_change_131 ki_0 rfl ?_
    refine V_icmp_ne (pc' := 135) (C := (nI (bq (S (lwN a 32) ^^^ 2 ^ (lwN b 10)) (lwN b 10))) = (nI 0)) 187 X dL_change_132 (by decide) rfl Iff.rfl (fun hz => absurd (congrArg nI (by rw [hcp.2, e])) hz) (fun _ => ?_)
    refine V_aload_n (pc' := 136) 0 X dL_change_135 rfl rfl rfl ?_
    refine V_iload (pc' := 138) 7 X dL_change_136 rfl rfl ?_
    refine O_pegsIn (pc' := 141) (st := []) (lwN a 32) ha hw_8 X gL_change_X5_pegsIn (Nat.le_of_ble_eq_true rfl) ⟨Nat.le_of_ble_eq_true rfl, Nat.le_of_ble_eq_true rfl⟩ ⟨Nat.le_of_ble_eq_true rfl, Nat.le_of_ble_eq_true rfl⟩ dL_change_138 rfl (fun w_9 hw_9 => ?_)
    refine V_iload_n (pc' := 142) 3 X dL_change_141 rfl rfl rfl ?_
    refine V_bipush (pc' := 144) (nI 10) X dL_change_142 kb_10 rfl ?_
    refine V_callS (pc' := 147) (As := [.int b, .int (nI 10)]) (st := [.int (nI ((va_up S (lwN a 32) (S (lwN a 32) ^^^ 2 ^ (lwN b 10))) (lwN a 32)))]) [] [0] (List.Perm.refl _) X (c_L_low l G b 10 (by decide) (by decide)) rfl gL_change_L_low rfl rfl (Nat.le_of_ble_eq_true rfl) ⟨Nat.le_of_ble_eq_true rfl, Nat.le_of_ble_eq_true rfl⟩ ⟨Nat.le_of_ble_eq_true rfl, Nat.le_of_ble_eq_true rfl⟩ dL_change_144 rfl (fun v_ u_ hp_ => ?_)
    obtain ⟨rfl, rfl⟩ := hp_
    show V E G A 19 [w_9] 0 0 Q 147 [(0, .ref x), (1, .int (nI 0)), (2, .int a), (3, .int b), (4, .int (nI n)), (5, .int (nI (pgs S))), (6, .int (nI 1)), (7, .int (nI (lwN a 32))), (8, .int (nI 1))] [.int (nI (lwN b 10)), .int (nI ((va_up S (lwN a 32) (S (lwN a 32) ^^^ 2 ^ (lwN b 10))) (lwN a 32)))]
    refine V_ishr (pc' := 148) (nI (((va_up S (lwN a 32) (S (lwN a 32) ^^^ 2 ^ (lwN b 10))) (lwN a 32)) / 2 ^ (lwN b 10))) X dL_change_147 (z_shr (by first | (rw [va_up_self]; omega) | omega) (by first | (rw [va_up_self]; omega) | omega)) rfl ?_
    refine V_iconst (pc' := 149) (nI 1) X dL_change_148 ki_1 rfl ?_
    refine V_iand (pc' := 150) (nI (bq ((va_up S (lwN a 32) (S (lwN a 32) ^^^ 2 ^ (lwN b 10))) (lwN a 32)) (lwN b 10))) X dL_change_149 (z_and1 _) rfl ?_
    refine V_iload (pc' := 152) 8 X dL_change_150 rfl rfl ?_
    refine V_if_eq (pc' := 155) (C := 1 = 0) 159 X dL_change_152 (by decide) rfl (z_eq0 (by omega)) (fun hz => absurd hz (by decide)) (fun _ => ?_)
    refine V_iconst (pc' := 156) (nI 0) X dL_change_155 ki_0 rfl ?_
    refine V_goto (pc' := 160) X dL_change_156 (by decide) ?_
    refine V_icmp_ne (pc' := 163) (C := (nI (bq ((va_up S (lwN a 32) (S (lwN a 32) ^^^ 2 ^ (lwN b 10))) (lwN a 32)) (lwN b 10))) = (nI 0)) 187 X dL_change_160 (by decide) rfl Iff.rfl (fun hz => absurd (congrArg nI (by rw [va_up_self, hcp.2, e])) hz) (fun _ => ?_)
    refine V_aload_n (pc' := 164) 0 X dL_change_163 rfl rfl rfl ?_
    refine O_pegs (pc' := 167) (st := []) hw_9 X gL_change_X5_pegs (Nat.le_of_ble_eq_true rfl) ⟨Nat.le_of_ble_eq_true rfl, Nat.le_of_ble_eq_true rfl⟩ ⟨Nat.le_of_ble_eq_true rfl, Nat.le_of_ble_eq_true rfl⟩ dL_change_164 rfl (fun w_10 hw_10 => ?_)
    refine V_iload (pc' := 169) 5 X dL_change_167 rfl rfl ?_
    refine V_iload (pc' := 171) 8 X dL_change_169 rfl rfl ?_
    refine V_if_eq (pc' := 174) (C := 1 = 0) 178 X dL_change_171 (by decide) rfl (z_eq0 (by omega)) (fun hz => absurd hz (by decide)) (fun _ => ?_)
    refine V_iconst (pc' := 175) (-1) X dL_change_174 rfl rfl ?_
    refine V_goto (pc' := 179) X dL_change_175 (by decide) ?_
    refine V_iadd (pc' := 180) (((nI (pgs S)) + (-1))) X dL_change_179 rfl rfl ?_
    refine V_icmp_ne (pc' := 183) (C := (nI (pgs (va_up S (lwN a 32) (S (lwN a 32) ^^^ 2 ^ (lwN b 10))))) = ((nI (pgs S)) + (-1))) 187 X dL_change_180 (by decide) rfl Iff.rfl (fun hz => absurd (z_m1 (by have h := hcp.1; omega)) hz) (fun _ => ?_)
    refine V_iconst (pc' := 184) (nI 1) X dL_change_183 ki_1 rfl ?_
    refine V_goto (pc' := 188) X dL_change_184 (by decide) ?_
    refine V_istore (pc' := 190) [(0, .ref x), (1, .int (nI 0)), (2, .int a), (3, .int b), (4, .int (nI n)), (5, .int (nI (pgs S))), (6, .int (nI 1)), (7, .int (nI (lwN a 32))), (8, .int (nI 1))] [1, 2, 3, 4, 5, 6, 0, 7, 8] X dL_change_188 (Nat.le_of_ble_eq_true rfl) rfl rfl ?_
    refine V_goto (pc' := 682) X dL_change_190 (by decide) ?_
    refine V_iload (pc' := 684) 6 X dL_change_682 rfl rfl ?_
    refine V_if_eq (pc' := 687) (C := 1 = 0) 714 X dL_change_684 (by decide) rfl (z_eq0 (by omega)) (fun hz => absurd hz (by decide)) (fun _ => ?_)
    refine V_aload_n (pc' := 688) 0 X dL_change_687 rfl rfl rfl ?_
    refine O_undoable (pc' := 691) (st := []) hw_10 X gL_change_X5_undoable (Nat.le_of_ble_eq_true rfl) ⟨Nat.le_of_ble_eq_true rfl, Nat.le_of_ble_eq_true rfl⟩ ⟨Nat.le_of_ble_eq_true rfl, Nat.le_of_ble_eq_true rfl⟩ dL_change_688 rfl (fun w_11 hw_11 => ?_)
    rcases aM_cases hn6 with ⟨r1, r2⟩ | ⟨r1, r2⟩
    · refine V_iload (pc' := 693) 4 X dL_change_691 rfl rfl ?_
      refine V_bipush (pc' := 695) (nI 6) X dL_change_693 kb_6 rfl ?_
      refine V_icmp_ne (pc' := 698) (C := (nI n) = (nI 6)) 703 X dL_change_695 (by decide) rfl Iff.rfl (fun hz => absurd (congrArg nI r1) hz) (fun _ => ?_)
      refine V_bipush (pc' := 700) (nI 6) X dL_change_698 kb_6 rfl ?_
      refine V_goto (pc' := 707) X dL_change_700 (by decide) ?_
      refine V_icmp_ne (pc' := 710) (C := (nI (aM n + 1)) = (nI 6)) 714 X dL_change_707 (by decide) rfl Iff.rfl (fun hz => absurd (congrArg nI r2) hz) (fun _ => ?_)
      refine V_iconst (pc' := 711) (nI 1) X dL_change_710 ki_1 rfl ?_
      refine V_goto (pc' := 715) X dL_change_711 (by decide) ?_
      exact V_ireturn (v := nI 1) [w_11] hQ X hrt rfl dL_change_715 (Nat.le_of_ble_eq_true rfl) (Nat.le_of_ble_eq_true rfl) (List.Perm.refl _) ⟨rfl, _, _, _, _, w_11, hw_11.mono (by omega), rfl, rfl⟩
    · refine V_iload (pc' := 693) 4 X dL_change_691 rfl rfl ?_
      refine V_bipush (pc' := 695) (nI 6) X dL_change_693 kb_6 rfl ?_
      refine V_icmp_ne (pc' := 698) (C := n = 6) 703 X dL_change_695 (by decide) rfl (nI_eq (by omega) (by omega)) (fun _ => ?_) (fun hz => absurd hz (by omega))
      refine V_iload (pc' := 705) 4 X dL_change_703 rfl rfl ?_
      refine V_iconst (pc' := 706) (nI 1) X dL_change_705 ki_1 rfl ?_
      refine V_iadd (pc' := 707) (nI (n + 1)) X dL_change_706 (nI_add _ _) rfl ?_
      refine V_icmp_ne (pc' := 710) (C := (nI (aM n + 1)) = (nI (n + 1))) 714 X dL_change_707 (by decide) rfl Iff.rfl (fun hz => absurd (congrArg nI r2) hz) (fun _ => ?_)
      refine V_iconst (pc' := 711) (nI 1) X dL_change_710 ki_1 rfl ?_
      refine V_goto (pc' := 715) X dL_change_711 (by decide) ?_
      exact V_ireturn (v := nI 1) [w_11] hQ X hrt rfl dL_change_715 (Nat.le_of_ble_eq_true rfl) (Nat.le_of_ble_eq_true rfl) (List.Perm.refl _) ⟨rfl, _, _, _, _, w_11, hw_11.mono (by omega), rfl, rfl⟩

set_option maxHeartbeats 4000000 in
set_option maxRecDepth 100000 in
theorem c_L_change_1 (l : Launch) (G : gT) (x K : Nat) (S : Nat → Nat) (n : Nat) (T : Nat → Nat → Nat) (P : Nat → Option (Nat → Nat)) (w : va_W) (hw : OJ G x K S n T P w) (hK : K ≤ 90000) (a b : Int32) : CM l G yL_change wsL_change 6 165 4 [.ref x, .int (nI 1), .int a, .int b] [w] 7 77 (fun v u => v = some (.int (nI 1)) ∧ ∃ (S' : Nat → Nat) (n' : Nat) (T' : Nat → Nat → Nat) (P' : Nat → Option (Nat → Nat)) (w' : va_W), OJ G x (K + 400) S' n' T' P' w' ∧ P' 0 = P 0 ∧ u = [w']) := by
  refine CM_of RL 5 127 rfl rfl (by decide) (by decide +kernel) (Nat.le_of_ble_eq_true rfl) (fun E A X hrt hnm => ?_)
  generalize hQ : QM E G A _ _ _ = Q
  obtain ⟨i1, i2, i3, i4, i5, i6⟩ := hw.iv
  have j46 := hw.2.1.2.1
  have hn6 := hw.2.2.1
  have ha := lwN_lt a (n := 32) (by decide)
  have hp := i1 _ ha
  have hcl := cnt_le_pgs (S := S) ha
  show V E G A 19 [w] 0 0 Q 0 [(0, .ref x), (1, .int (nI 1)), (2, .int a), (3, .int b)] []
  refine V_aload_n (pc' := 1) 0 X dL_change_0 rfl rfl rfl ?_
  refine O_undoable (pc' := 4) (st := []) hw X gL_change_X5_undoable (Nat.le_of_ble_eq_true rfl) ⟨Nat.le_of_ble_eq_true rfl, Nat.le_of_ble_eq_true rfl⟩ ⟨Nat.le_of_ble_eq_true rfl, Nat.le_of_ble_eq_true rfl⟩ dL_change_1 rfl (fun w_1 hw_1 => ?_)
  refine V_istore (pc' := 6) [(0, .ref x), (1, .int (nI 1)), (2, .int a), (3, .int b), (4, .int (nI n))] [1, 2, 3, 4, 0] X dL_change_4 (Nat.le_of_ble_eq_true rfl) rfl rfl ?_
  refine V_aload_n (pc' := 7) 0 X dL_change_6 rfl rfl rfl ?_
  refine O_pegs (pc' := 10) (st := []) hw_1 X gL_change_X5_pegs (Nat.le_of_ble_eq_true rfl) ⟨Nat.le_of_ble_eq_true rfl, Nat.le_of_ble_eq_true rfl⟩ ⟨Nat.le_of_ble_eq_true rfl, Nat.le_of_ble_eq_true rfl⟩ dL_change_7 rfl (fun w_2 hw_2 => ?_)
  refine V_istore (pc' := 12) [(0, .ref x), (1, .int (nI 1)), (2, .int a), (3, .int b), (4, .int (nI n)), (5, .int (nI (pgs S)))] [1, 2, 3, 4, 5, 0] X dL_change_10 (Nat.le_of_ble_eq_true rfl) rfl rfl ?_
  refine V_iconst (pc' := 13) (nI 1) X dL_change_12 ki_1 rfl ?_
  refine V_istore (pc' := 15) [(0, .ref x), (1, .int (nI 1)), (2, .int a), (3, .int b), (4, .int (nI n)), (5, .int (nI (pgs S))), (6, .int (nI 1))] [1, 2, 3, 4, 5, 6, 0] X dL_change_13 (Nat.le_of_ble_eq_true rfl) rfl rfl ?_
  refine V_iload_n (pc' := 16) 1 X dL_change_15 rfl rfl rfl ?_
  refine V_tableIn (tgt := 193) (off := 177) X dL_change_16 (by decide +kernel) (by decide +kernel) (by decide +kernel) (by decide) ?_
  refine V_iload_n (pc' := 194) 2 X dL_change_193 rfl rfl rfl ?_
  refine V_bipush (pc' := 196) (nI 32) X dL_change_194 kb_32 rfl ?_
  refine V_callS (pc' := 199) (As := [.int a, .int (nI 32)]) (st := []) [] [0] (List.Perm.refl _) X (c_L_low l G a 32 (by decide) (by decide)) rfl gL_change_L_low rfl rfl (Nat.le_of_ble_eq_true rfl) ⟨Nat.le_of_ble_eq_true rfl, Nat.le_of_ble_eq_true rfl⟩ ⟨Nat.le_of_ble_eq_true rfl, Nat.le_of_ble_eq_true rfl⟩ dL_change_196 rfl (fun v_ u_ hp_ => ?_)
  obtain ⟨rfl, rfl⟩ := hp_
  show V E G A 19 [w_2] 0 0 Q 199 [(0, .ref x), (1, .int (nI 1)), (2, .int a), (3, .int b), (4, .int (nI n)), (5, .int (nI (pgs S))), (6, .int (nI 1))] [.int (nI (lwN a 32))]
  refine V_istore (pc' := 201) [(0, .ref x), (1, .int (nI 1)), (2, .int a), (3, .int b), (4, .int (nI n)), (5, .int (nI (pgs S))), (6, .int (nI 1)), (9, .int (nI (lwN a 32)))] [1, 2, 3, 4, 5, 6, 7, 0] X dL_change_199 (Nat.le_of_ble_eq_true rfl) rfl rfl ?_
  refine V_iload_n (pc' := 202) 3 X dL_change_201 rfl rfl rfl ?_
  refine V_iconst (pc' := 203) (nI 3) X dL_change_202 ki_3 rfl ?_
  refine V_iand (pc' := 204) ((b &&& (nI 3))) X dL_change_203 rfl rfl ?_
  refine V_if_ne (pc' := 207) (C := (b &&& (nI 3)) = 0) 219 X dL_change_204 (by decide) rfl Iff.rfl (fun h204 => ?_) (fun h204 => ?_)
  · refine V_iload_n (pc' := 220) 3 X dL_change_219 rfl rfl rfl ?_
    refine V_iconst (pc' := 221) (nI 2) X dL_change_220 ki_2 rfl ?_
    refine V_ishr (pc' := 222) ((b >>> ((nI 2) &&& 31))) X dL_change_221 rfl rfl ?_
    refine V_sipush (pc' := 225) (nI 1024) X dL_change_222 ks_1024 rfl ?_
    refine V_callS (pc' := 228) (As := [.int (b >>> ((nI 2) &&& 31)), .int (nI 1024)]) (st := []) [] [0] (List.Perm.refl _) X (c_L_low l G (b >>> ((nI 2) &&& 31)) 1024 (by decide) (by decide)) rfl gL_change_L_low rfl rfl (Nat.le_of_ble_eq_true rfl) ⟨Nat.le_of_ble_eq_true rfl, Nat.le_of_ble_eq_true rfl⟩ ⟨Nat.le_of_ble_eq_true rfl, Nat.le_of_ble_eq_true rfl⟩ dL_change_225 rfl (fun v_ u_ hp_ => ?_)
    obtain ⟨rfl, rfl⟩ := hp_
    show V E G A 19 [w_2] 0 0 Q 228 [(0, .ref x), (1, .int (nI 1)), (2, .int a), (3, .int b), (4, .int (nI n)), (5, .int (nI (pgs S))), (6, .int (nI 1)), (9, .int (nI (lwN a 32)))] [.int (nI (lwN (b >>> ((nI 2) &&& 31)) 1024))]
    refine V_iload_n (pc' := 229) 3 X dL_change_228 rfl rfl rfl ?_
    refine V_bipush (pc' := 231) (nI 7) X dL_change_229 kb_7 rfl ?_
    refine V_ishr (pc' := 232) ((b >>> ((nI 7) &&& 31))) X dL_change_231 rfl rfl ?_
    refine V_sipush (pc' := 235) (nI 1024) X dL_change_232 ks_1024 rfl ?_
    refine V_callS (pc' := 238) (As := [.int (b >>> ((nI 7) &&& 31)), .int (nI 1024)]) (st := [.int (nI (lwN (b >>> ((nI 2) &&& 31)) 1024))]) [] [0] (List.Perm.refl _) X (c_L_low l G (b >>> ((nI 7) &&& 31)) 1024 (by decide) (by decide)) rfl gL_change_L_low rfl rfl (Nat.le_of_ble_eq_true rfl) ⟨Nat.le_of_ble_eq_true rfl, Nat.le_of_ble_eq_true rfl⟩ ⟨Nat.le_of_ble_eq_true rfl, Nat.le_of_ble_eq_true rfl⟩ dL_change_235 rfl (fun v_ u_ hp_ => ?_)
    obtain ⟨rfl, rfl⟩ := hp_
    show V E G A 19 [w_2] 0 0 Q 238 [(0, .ref x), (1, .int (nI 1)), (2, .int a), (3, .int b), (4, .int (nI n)), (5, .int (nI (pgs S))), (6, .int (nI 1)), (9, .int (nI (lwN a 32)))] [.int (nI (lwN (b >>> ((nI 7) &&& 31)) 1024)), .int (nI (lwN (b >>> ((nI 2) &&& 31)) 1024))]
    refine V_iand (pc' := 239) (nI ((lwN (b >>> ((nI 2) &&& 31)) 1024) &&& (lwN (b >>> ((nI 7) &&& 31)) 1024))) X dL_change_238 (z_and _ _) rfl ?_
    obtain ⟨sv, hv, hsv⟩ : ∃ sv, sv < 1024 ∧ (lwN (b >>> ((nI 2) &&& 31)) 1024) &&& (lwN (b >>> ((nI 7) &&& 31)) 1024) = sv := ⟨_, (Nat.and_lt_two_pow (n := 10) _ (lwN_lt _ (by decide))), rfl⟩
    rw [hsv]
    have hup := pgs_up (S := S) (v := sv) ha
    show V E G A 19 [w_2] 0 0 Q 239 [(0, .ref x), (1, .int (nI 1)), (2, .int a), (3, .int b), (4, .int (nI n)), (5, .int (nI (pgs S))), (6, .int (nI 1)), (9, .int (nI (lwN a 32)))] [.int (nI sv)]
    refine V_istore (pc' := 241) [(0, .ref x), (1, .int (nI 1)), (2, .int a), (3, .int b), (4, .int (nI n)), (5, .int (nI (pgs S))), (6, .int (nI 1)), (9, .int (nI (lwN a 32))), (10, .int (nI sv))] [1, 2, 3, 4, 5, 6, 7, 8, 0] X dL_change_239 (Nat.le_of_ble_eq_true rfl) rfl rfl ?_
    refine V_aload_n (pc' := 242) 0 X dL_change_241 rfl rfl rfl ?_
    refine V_iload (pc' := 244) 7 X dL_change_242 rfl rfl ?_
    refine O_pegsIn (pc' := 247) (st := []) (lwN a 32) ha hw_2 X gL_change_X5_pegsIn (Nat.le_of_ble_eq_true rfl) ⟨Nat.le_of_ble_eq_true rfl, Nat.le_of_ble_eq_true rfl⟩ ⟨Nat.le_of_ble_eq_true rfl, Nat.le_of_ble_eq_true rfl⟩ dL_change_244 rfl (fun w_3 hw_3 => ?_)
    refine V_istore (pc' := 249) [(0, .ref x), (1, .int (nI 1)), (2, .int a), (3, .int b), (4, .int (nI n)), (5, .int (nI (pgs S))), (6, .int (nI 1)), (9, .int (nI (lwN a 32))), (10, .int (nI sv)), (11, .int (nI (S (lwN a 32))))] [1, 2, 3, 4, 5, 6, 7, 8, 9, 0] X dL_change_247 (Nat.le_of_ble_eq_true rfl) rfl rfl ?_
    refine V_aload_n (pc' := 250) 0 X dL_change_249 rfl rfl rfl ?_
    refine V_iload (pc' := 252) 7 X dL_change_250 rfl rfl ?_
    refine V_iload (pc' := 254) 8 X dL_change_252 rfl rfl ?_
    refine O_setColumn (pc' := 257) (st := []) (lwN a 32) sv ha hv hw_3 X gL_change_X5_setColumn (Nat.le_of_ble_eq_true rfl) ⟨Nat.le_of_ble_eq_true rfl, Nat.le_of_ble_eq_true rfl⟩ ⟨Nat.le_of_ble_eq_true rfl, Nat.le_of_ble_eq_true rfl⟩ dL_change_254 rfl (fun w_4 hw_4 => ?_)
    refine V_iload (pc' := 259) 9 X dL_change_257 rfl rfl ?_
    refine V_iload (pc' := 261) 8 X dL_change_259 rfl rfl ?_
    refine V_ixor (pc' := 262) (nI ((S (lwN a 32)) ^^^ sv)) X dL_change_261 (z_xor _ _) rfl ?_
    refine V_callS (pc' := 265) (As := [.int (nI ((S (lwN a 32)) ^^^ sv))]) (st := [.int (nI (sm (fun k => cnt (va_up S (lwN a 32) sv k ^^^ S k)) 32))]) [] [0] (List.Perm.refl _) X (c_L_count l G ((S (lwN a 32)) ^^^ sv) (Nat.lt_trans (Nat.xor_lt_two_pow (n := 10) hp hv) (by decide))) rfl gL_change_L_count rfl rfl (Nat.le_of_ble_eq_true rfl) ⟨Nat.le_of_ble_eq_true rfl, Nat.le_of_ble_eq_true rfl⟩ ⟨Nat.le_of_ble_eq_true rfl, Nat.le_of_ble_eq_true rfl⟩ dL_change_262 rfl (fun v_ u_ hp_ => ?_)
    obtain ⟨rfl, rfl⟩ := hp_
    show V E G A 19 [w_4] 0 0 Q 265 [(0, .ref x), (1, .int (nI 1)), (2, .int a), (3, .int b), (4, .int (nI n)), (5, .int (nI (pgs S))), (6, .int (nI 1)), (9, .int (nI (lwN a 32))), (10, .int (nI sv)), (11, .int (nI (S (lwN a 32))))] [.int (nI (cnt ((S (lwN a 32)) ^^^ sv))), .int (nI (sm (fun k => cnt (va_up S (lwN a 32) sv k ^^^ S k)) 32))]
    refine V_icmp_ne (pc' := 268) (C := (nI (sm (fun k => cnt (va_up S (lwN a 32) sv k ^^^ S k)) 32)) = (nI (cnt ((S (lwN a 32)) ^^^ sv)))) 304 X dL_change_265 (by decide) rfl Iff.rfl (fun hz => absurd (congrArg nI (set_val ha)) hz) (fun _ => ?_)
    refine V_aload_n (pc' := 269) 0 X dL_change_268 rfl rfl rfl ?_
    refine V_iload (pc' := 271) 7 X dL_change_269 rfl rfl ?_
    refine O_pegsIn (pc' := 274) (st := []) (lwN a 32) ha hw_4 X gL_change_X5_pegsIn (Nat.le_of_ble_eq_true rfl) ⟨Nat.le_of_ble_eq_true rfl, Nat.le_of_ble_eq_true rfl⟩ ⟨Nat.le_of_ble_eq_true rfl, Nat.le_of_ble_eq_true rfl⟩ dL_change_271 rfl (fun w_5 hw_5 => ?_)
    refine V_iload (pc' := 276) 8 X dL_change_274 rfl rfl ?_
    refine V_icmp_ne (pc' := 279) (C := (nI ((va_up S (lwN a 32) sv) (lwN a 32))) = (nI sv)) 304 X dL_change_276 (by decide) rfl Iff.rfl (fun hz => absurd (congrArg nI (va_up_self _ _ _)) hz) (fun _ => ?_)
    refine V_aload_n (pc' := 280) 0 X dL_change_279 rfl rfl rfl ?_
    refine O_pegs (pc' := 283) (st := []) hw_5 X gL_change_X5_pegs (Nat.le_of_ble_eq_true rfl) ⟨Nat.le_of_ble_eq_true rfl, Nat.le_of_ble_eq_true rfl⟩ ⟨Nat.le_of_ble_eq_true rfl, Nat.le_of_ble_eq_true rfl⟩ dL_change_280 rfl (fun w_6 hw_6 => ?_)
    refine V_iload (pc' := 285) 5 X dL_change_283 rfl rfl ?_
    refine V_iload (pc' := 287) 9 X dL_change_285 rfl rfl ?_
    refine V_callS (pc' := 290) (As := [.int (nI (S (lwN a 32)))]) (st := [.int (nI (pgs S)), .int (nI (pgs (va_up S (lwN a 32) sv)))]) [] [0] (List.Perm.refl _) X (c_L_count l G (S (lwN a 32)) (by omega)) rfl gL_change_L_count rfl rfl (Nat.le_of_ble_eq_true rfl) ⟨Nat.le_of_ble_eq_true rfl, Nat.le_of_ble_eq_true rfl⟩ ⟨Nat.le_of_ble_eq_true rfl, Nat.le_of_ble_eq_true rfl⟩ dL_change_287 rfl (fun v_ u_ hp_ => ?_)
    obtain ⟨rfl, rfl⟩ := hp_
    show V E G A 19 [w_6] 0 0 Q 290 [(0, .ref x), (1, .int (nI 1)), (2, .int a), (3, .int b), (4, .int (nI n)), (5, .int (nI (pgs S))), (6, .int (nI 1)), (9, .int (nI (lwN a 32))), (10, .int (nI sv)), (11, .int (nI (S (lwN a 32))))] [.int (nI (cnt (S (lwN a 32)))), .int (nI (pgs S)), .int (nI (pgs (va_up S (lwN a 32) sv)))]
    refine V_isub (pc' := 291) (nI ((pgs S) - (cnt (S (lwN a 32))))) X dL_change_290 (pk_sub hcl) rfl ?_
    refine V_iload (pc' := 293) 8 X dL_change_291 rfl rfl ?_
    refine V_callS (pc' := 296) (As := [.int (nI sv)]) (st := [.int (nI ((pgs S) - (cnt (S (lwN a 32))))), .int (nI (pgs (va_up S (lwN a 32) sv)))]) [] [0] (List.Perm.refl _) X (c_L_count l G sv (by omega)) rfl gL_change_L_count rfl rfl (Nat.le_of_ble_eq_true rfl) ⟨Nat.le_of_ble_eq_true rfl, Nat.le_of_ble_eq_true rfl⟩ ⟨Nat.le_of_ble_eq_true rfl, Nat.le_of_ble_eq_true rfl⟩ dL_change_293 rfl (fun v_ u_ hp_ => ?_)
    obtain ⟨rfl, rfl⟩ := hp_
    show V E G A 19 [w_6] 0 0 Q 296 [(0, .ref x), (1, .int (nI 1)), (2, .int a), (3, .int b), (4, .int (nI n)), (5, .int (nI (pgs S))), (6, .int (nI 1)), (9, .int (nI (lwN a 32))), (10, .int (nI sv)), (11, .int (nI (S (lwN a 32))))] [.int (nI (cnt sv)), .int (nI ((pgs S) - (cnt (S (lwN a 32))))), .int (nI (pgs (va_up S (lwN a 32) sv)))]
    refine V_iadd (pc' := 297) (nI (((pgs S) - (cnt (S (lwN a 32)))) + (cnt sv))) X dL_change_296 (nI_add _ _) rfl ?_
    refine V_icmp_ne (pc' := 300) (C := (nI (pgs (va_up S (lwN a 32) sv))) = (nI (((pgs S) - (cnt (S (lwN a 32)))) + (cnt sv)))) 304 X dL_change_297 (by decide) rfl Iff.rfl (fun hz => absurd (congrArg nI (by omega)) hz) (fun _ => ?_)
    refine V_iconst (pc' := 301) (nI 1) X dL_change_300 ki_1 rfl ?_
    refine V_goto (pc' := 305) X dL_change_301 (by decide) ?_
    refine V_istore (pc' := 307) [(0, .ref x), (1, .int (nI 1)), (2, .int a), (3, .int b), (4, .int (nI n)), (5, .int (nI (pgs S))), (6, .int (nI 1)), (9, .int (nI (lwN a 32))), (10, .int (nI sv)), (11, .int (nI (S (lwN a 32))))] [1, 2, 3, 4, 5, 6, 0, 7, 8, 9] X dL_change_305 (Nat.le_of_ble_eq_true rfl) rfl rfl ?_
    refine V_goto (pc' := 682) X dL_change_307 (by decide) ?_
    refine V_iload (pc' := 684) 6 X dL_change_682 rfl rfl ?_
    refine V_if_eq (pc' := 687) (C := 1 = 0) 714 X dL_change_684 (by decide) rfl (z_eq0 (by omega)) (fun hz => absurd hz (by decide)) (fun _ => ?_)
    refine V_aload_n (pc' := 688) 0 X dL_change_687 rfl rfl rfl ?_
    refine O_undoable (pc' := 691) (st := []) hw_6 X gL_change_X5_undoable (Nat.le_of_ble_eq_true rfl) ⟨Nat.le_of_ble_eq_true rfl, Nat.le_of_ble_eq_true rfl⟩ ⟨Nat.le_of_ble_eq_true rfl, Nat.le_of_ble_eq_true rfl⟩ dL_change_688 rfl (fun w_7 hw_7 => ?_)
    rcases aM_cases hn6 with ⟨r1, r2⟩ | ⟨r1, r2⟩
    · refine V_iload (pc' := 693) 4 X dL_change_691 rfl rfl ?_
      refine V_bipush (pc' := 695) (nI 6) X dL_change_693 kb_6 rfl ?_
      refine V_icmp_ne (pc' := 698) (C := (nI n) = (nI 6)) 703 X dL_change_695 (by decide) rfl Iff.rfl (fun hz => absurd (congrArg nI r1) hz) (fun _ => ?_)
      refine V_bipush (pc' := 700) (nI 6) X dL_change_698 kb_6 rfl ?_
      refine V_goto (pc' := 707) X dL_change_700 (by decide) ?_
      refine V_icmp_ne (pc' := 710) (C := (nI (aM n + 1)) = (nI 6)) 714 X dL_change_707 (by decide) rfl Iff.rfl (fun hz => absurd (congrArg nI r2) hz) (fun _ => ?_)
      refine V_iconst (pc' := 711) (nI 1) X dL_change_710 ki_1 rfl ?_
      refine V_goto (pc' := 715) X dL_change_711 (by decide) ?_
      exact V_ireturn (v := nI 1) [w_7] hQ X hrt rfl dL_change_715 (Nat.le_of_ble_eq_true rfl) (Nat.le_of_ble_eq_true rfl) (List.Perm.refl _) ⟨rfl, _, _, _, _, w_7, hw_7.mono (by omega), rfl, rfl⟩
    · refine V_iload (pc' := 693) 4 X dL_change_691 rfl rfl ?_
      refine V_bipush (pc' := 695) (nI 6) X dL_change_693 kb_6 rfl ?_
      refine V_icmp_ne (pc' := 698) (C := n = 6) 703 X dL_change_695 (by decide) rfl (nI_eq (by omega) (by omega)) (fun _ => ?_) (fun hz => absurd hz (by omega))
      refine V_iload (pc' := 705) 4 X dL_change_703 rfl rfl ?_
      refine V_iconst (pc' := 706) (nI 1) X dL_change_705 ki_1 rfl ?_
      refine V_iadd (pc' := 707) (nI (n + 1)) X dL_change_706 (nI_add _ _) rfl ?_
      refine V_icmp_ne (pc' := 710) (C := (nI (aM n + 1)) = (nI (n + 1))) 714 X dL_change_707 (by decide) rfl Iff.rfl (fun hz => absurd (congrArg nI r2) hz) (fun _ => ?_)
      refine V_iconst (pc' := 711) (nI 1) X dL_change_710 ki_1 rfl ?_
      refine V_goto (pc' := 715) X dL_change_711 (by decide) ?_
      exact V_ireturn (v := nI 1) [w_7] hQ X hrt rfl dL_change_715 (Nat.le_of_ble_eq_true rfl) (Nat.le_of_ble_eq_true rfl) (List.Perm.refl _) ⟨rfl, _, _, _, _, w_7, hw_7.mono (by omega), rfl, rfl⟩
  · refine V_iload_n (pc' := 208) 3 X dL_change_207 rfl rfl rfl ?_
    refine V_iconst (pc' := 209) (nI 2) X dL_change_208 ki_2 rfl ?_
    refine V_ishr (pc' := 210) ((b >>> ((nI 2) &&& 31))) X dL_change_209 rfl rfl ?_
    refine V_sipush (pc' := 213) (nI 1024) X dL_change_210 ks_1024 rfl ?_
    refine V_callS (pc' := 216) (As := [.int (b >>> ((nI 2) &&& 31)), .int (nI 1024)]) (st := []) [] [0] (List.Perm.refl _) X (c_L_low l G (b >>> ((nI 2) &&& 31)) 1024 (by decide) (by decide)) rfl gL_change_L_low rfl rfl (Nat.le_of_ble_eq_true rfl) ⟨Nat.le_of_ble_eq_true rfl, Nat.le_of_ble_eq_true rfl⟩ ⟨Nat.le_of_ble_eq_true rfl, Nat.le_of_ble_eq_true rfl⟩ dL_change_213 rfl (fun v_ u_ hp_ => ?_)
    obtain ⟨rfl, rfl⟩ := hp_
    show V E G A 19 [w_2] 0 0 Q 216 [(0, .ref x), (1, .int (nI 1)), (2, .int a), (3, .int b), (4, .int (nI n)), (5, .int (nI (pgs S))), (6, .int (nI 1)), (9, .int (nI (lwN a 32)))] [.int (nI (lwN (b >>> ((nI 2) &&& 31)) 1024))]
    refine V_goto (pc' := 239) X dL_change_216 (by decide) ?_
    obtain ⟨sv, hv, hsv⟩ : ∃ sv, sv < 1024 ∧ lwN (b >>> ((nI 2) &&& 31)) 1024 = sv := ⟨_, (lwN_lt _ (by decide)), rfl⟩
    rw [hsv]
    have hup := pgs_up (S := S) (v := sv) ha
    show V E G A 19 [w_2] 0 0 Q 239 [(0, .ref x), (1, .int (nI 1)), (2, .int a), (3, .int b), (4, .int (nI n)), (5, .int (nI (pgs S))), (6, .int (nI 1)), (9, .int (nI (lwN a 32)))] [.int (nI sv)]
    refine V_istore (pc' := 241) [(0, .ref x), (1, .int (nI 1)), (2, .int a), (3, .int b), (4, .int (nI n)), (5, .int (nI (pgs S))), (6, .int (nI 1)), (9, .int (nI (lwN a 32))), (10, .int (nI sv))] [1, 2, 3, 4, 5, 6, 7, 8, 0] X dL_change_239 (Nat.le_of_ble_eq_true rfl) rfl rfl ?_
    refine V_aload_n (pc' := 242) 0 X dL_change_241 rfl rfl rfl ?_
    refine V_iload (pc' := 244) 7 X dL_change_242 rfl rfl ?_
    refine O_pegsIn (pc' := 247) (st := []) (lwN a 32) ha hw_2 X gL_change_X5_pegsIn (Nat.le_of_ble_eq_true rfl) ⟨Nat.le_of_ble_eq_true rfl, Nat.le_of_ble_eq_true rfl⟩ ⟨Nat.le_of_ble_eq_true rfl, Nat.le_of_ble_eq_true rfl⟩ dL_change_244 rfl (fun w_8 hw_8 => ?_)
    refine V_istore (pc' := 249) [(0, .ref x), (1, .int (nI 1)), (2, .int a), (3, .int b), (4, .int (nI n)), (5, .int (nI (pgs S))), (6, .int (nI 1)), (9, .int (nI (lwN a 32))), (10, .int (nI sv)), (11, .int (nI (S (lwN a 32))))] [1, 2, 3, 4, 5, 6, 7, 8, 9, 0] X dL_change_247 (Nat.le_of_ble_eq_true rfl) rfl rfl ?_
    refine V_aload_n (pc' := 250) 0 X dL_change_249 rfl rfl rfl ?_
    refine V_iload (pc' := 252) 7 X dL_change_250 rfl rfl ?_
    refine V_iload (pc' := 254) 8 X dL_change_252 rfl rfl ?_
    refine O_setColumn (pc' := 257) (st := []) (lwN a 32) sv ha hv hw_8 X gL_change_X5_setColumn (Nat.le_of_ble_eq_true rfl) ⟨Nat.le_of_ble_eq_true rfl, Nat.le_of_ble_eq_true rfl⟩ ⟨Nat.le_of_ble_eq_true rfl, Nat.le_of_ble_eq_true rfl⟩ dL_change_254 rfl (fun w_9 hw_9 => ?_)
    refine V_iload (pc' := 259) 9 X dL_change_257 rfl rfl ?_
    refine V_iload (pc' := 261) 8 X dL_change_259 rfl rfl ?_
    refine V_ixor (pc' := 262) (nI ((S (lwN a 32)) ^^^ sv)) X dL_change_261 (z_xor _ _) rfl ?_
    refine V_callS (pc' := 265) (As := [.int (nI ((S (lwN a 32)) ^^^ sv))]) (st := [.int (nI (sm (fun k => cnt (va_up S (lwN a 32) sv k ^^^ S k)) 32))]) [] [0] (List.Perm.refl _) X (c_L_count l G ((S (lwN a 32)) ^^^ sv) (Nat.lt_trans (Nat.xor_lt_two_pow (n := 10) hp hv) (by decide))) rfl gL_change_L_count rfl rfl (Nat.le_of_ble_eq_true rfl) ⟨Nat.le_of_ble_eq_true rfl, Nat.le_of_ble_eq_true rfl⟩ ⟨Nat.le_of_ble_eq_true rfl, Nat.le_of_ble_eq_true rfl⟩ dL_change_262 rfl (fun v_ u_ hp_ => ?_)
    obtain ⟨rfl, rfl⟩ := hp_
    show V E G A 19 [w_9] 0 0 Q 265 [(0, .ref x), (1, .int (nI 1)), (2, .int a), (3, .int b), (4, .int (nI n)), (5, .int (nI (pgs S))), (6, .int (nI 1)), (9, .int (nI (lwN a 32))), (10, .int (nI sv)), (11, .int (nI (S (lwN a 32))))] [.int (nI (cnt ((S (lwN a 32)) ^^^ sv))), .int (nI (sm (fun k => cnt (va_up S (lwN a 32) sv k ^^^ S k)) 32))]
    refine V_icmp_ne (pc' := 268) (C := (nI (sm (fun k => cnt (va_up S (lwN a 32) sv k ^^^ S k)) 32)) = (nI (cnt ((S (lwN a 32)) ^^^ sv)))) 304 X dL_change_265 (by decide) rfl Iff.rfl (fun hz => absurd (congrArg nI (set_val ha)) hz) (fun _ => ?_)
    refine V_aload_n (pc' := 269) 0 X dL_change_268 rfl rfl rfl ?_
    refine V_iload (pc' := 271) 7 X dL_change_269 rfl rfl ?_
    refine O_pegsIn (pc' := 274) (st := []) (lwN a 32) ha hw_9 X gL_change_X5_pegsIn (Nat.le_of_ble_eq_true rfl) ⟨Nat.le_of_ble_eq_true rfl, Nat.le_of_ble_eq_true rfl⟩ ⟨Nat.le_of_ble_eq_true rfl, Nat.le_of_ble_eq_true rfl⟩ dL_change_271 rfl (fun w_10 hw_10 => ?_)
    refine V_iload (pc' := 276) 8 X dL_change_274 rfl rfl ?_
    refine V_icmp_ne (pc' := 279) (C := (nI ((va_up S (lwN a 32) sv) (lwN a 32))) = (nI sv)) 304 X dL_change_276 (by decide) rfl Iff.rfl (fun hz => absurd (congrArg nI (va_up_self _ _ _)) hz) (fun _ => ?_)
    refine V_aload_n (pc' := 280) 0 X dL_change_279 rfl rfl rfl ?_
    refine O_pegs (pc' := 283) (st := []) hw_10 X gL_change_X5_pegs (Nat.le_of_ble_eq_true rfl) ⟨Nat.le_of_ble_eq_true rfl, Nat.le_of_ble_eq_true rfl⟩ ⟨Nat.le_of_ble_eq_true rfl, Nat.le_of_ble_eq_true rfl⟩ dL_change_280 rfl (fun w_11 hw_11 => ?_)
    refine V_iload (pc' := 285) 5 X dL_change_283 rfl rfl ?_
    refine V_iload (pc' := 287) 9 X dL_change_285 rfl rfl ?_
    refine V_callS (pc' := 290) (As := [.int (nI (S (lwN a 32)))]) (st := [.int (nI (pgs S)), .int (nI (pgs (va_up S (lwN a 32) sv)))]) [] [0] (List.Perm.refl _) X (c_L_count l G (S (lwN a 32)) (by omega)) rfl gL_change_L_count rfl rfl (Nat.le_of_ble_eq_true rfl) ⟨Nat.le_of_ble_eq_true rfl, Nat.le_of_ble_eq_true rfl⟩ ⟨Nat.le_of_ble_eq_true rfl, Nat.le_of_ble_eq_true rfl⟩ dL_change_287 rfl (fun v_ u_ hp_ => ?_)
    obtain ⟨rfl, rfl⟩ := hp_
    show V E G A 19 [w_11] 0 0 Q 290 [(0, .ref x), (1, .int (nI 1)), (2, .int a), (3, .int b), (4, .int (nI n)), (5, .int (nI (pgs S))), (6, .int (nI 1)), (9, .int (nI (lwN a 32))), (10, .int (nI sv)), (11, .int (nI (S (lwN a 32))))] [.int (nI (cnt (S (lwN a 32)))), .int (nI (pgs S)), .int (nI (pgs (va_up S (lwN a 32) sv)))]
    refine V_isub (pc' := 291) (nI ((pgs S) - (cnt (S (lwN a 32))))) X dL_change_290 (pk_sub hcl) rfl ?_
    refine V_iload (pc' := 293) 8 X dL_change_291 rfl rfl ?_
    refine V_callS (pc' := 296) (As := [.int (nI sv)]) (st := [.int (nI ((pgs S) - (cnt (S (lwN a 32))))), .int (nI (pgs (va_up S (lwN a 32) sv)))]) [] [0] (List.Perm.refl _) X (c_L_count l G sv (by omega)) rfl gL_change_L_count rfl rfl (Nat.le_of_ble_eq_true rfl) ⟨Nat.le_of_ble_eq_true rfl, Nat.le_of_ble_eq_true rfl⟩ ⟨Nat.le_of_ble_eq_true rfl, Nat.le_of_ble_eq_true rfl⟩ dL_change_293 rfl (fun v_ u_ hp_ => ?_)
    obtain ⟨rfl, rfl⟩ := hp_
    show V E G A 19 [w_11] 0 0 Q 296 [(0, .ref x), (1, .int (nI 1)), (2, .int a), (3, .int b), (4, .int (nI n)), (5, .int (nI (pgs S))), (6, .int (nI 1)), (9, .int (nI (lwN a 32))), (10, .int (nI sv)), (11, .int (nI (S (lwN a 32))))] [.int (nI (cnt sv)), .int (nI ((pgs S) - (cnt (S (lwN a 32))))), .int (nI (pgs (va_up S (lwN a 32) sv)))]
    refine V_iadd (pc' := 297) (nI (((pgs S) - (cnt (S (lwN a 32)))) + (cnt sv))) X dL_change_296 (nI_add _ _) rfl ?_
    refine V_icmp_ne (pc' := 300) (C := (nI (pgs (va_up S (lwN a 32) sv))) = (nI (((pgs S) - (cnt (S (lwN a 32)))) + (cnt sv)))) 304 X dL_change_297 (by decide) rfl Iff.rfl (fun hz => absurd (congrArg nI (by omega)) hz) (fun _ => ?_)
    refine V_iconst (pc' := 301) (nI 1) X dL_change_300 ki_1 rfl ?_
    refine V_goto (pc' := 305) X dL_change_301 (by decide) ?_
    refine V_istore (pc' := 307) [(0, .ref x), (1, .int (nI 1)), (2, .int a), (3, .int b), (4, .int (nI n)), (5, .int (nI (pgs S))), (6, .int (nI 1)), (9, .int (nI (lwN a 32))), (10, .int (nI sv)), (11, .int (nI (S (lwN a 32))))] [1, 2, 3, 4, 5, 6, 0, 7, 8, 9] X dL_change_305 (Nat.le_of_ble_eq_true rfl) rfl rfl ?_
    refine V_goto (pc' := 682) X dL_change_307 (by decide) ?_
    refine V_iload (pc' := 684) 6 X dL_change_682 rfl rfl ?_
    refine V_if_eq (pc' := 687) (C := 1 = 0) 714 X dL_change_684 (by decide) rfl (z_eq0 (by omega)) (fun hz => absurd hz (by decide)) (fun _ => ?_)
    refine V_aload_n (pc' := 688) 0 X dL_change_687 rfl rfl rfl ?_
    refine O_undoable (pc' := 691) (st := []) hw_11 X gL_change_X5_undoable (Nat.le_of_ble_eq_true rfl) ⟨Nat.le_of_ble_eq_true rfl, Nat.le_of_ble_eq_true rfl⟩ ⟨Nat.le_of_ble_eq_true rfl, Nat.le_of_ble_eq_true rfl⟩ dL_change_688 rfl (fun w_12 hw_12 => ?_)
    rcases aM_cases hn6 with ⟨r1, r2⟩ | ⟨r1, r2⟩
    · refine V_iload (pc' := 693) 4 X dL_change_691 rfl rfl ?_
      refine V_bipush (pc' := 695) (nI 6) X dL_change_693 kb_6 rfl ?_
      refine V_icmp_ne (pc' := 698) (C := (nI n) = (nI 6)) 703 X dL_change_695 (by decide) rfl Iff.rfl (fun hz => absurd (congrArg nI r1) hz) (fun _ => ?_)
      refine V_bipush (pc' := 700) (nI 6) X dL_change_698 kb_6 rfl ?_
      refine V_goto (pc' := 707) X dL_change_700 (by decide) ?_
      refine V_icmp_ne (pc' := 710) (C := (nI (aM n + 1)) = (nI 6)) 714 X dL_change_707 (by decide) rfl Iff.rfl (fun hz => absurd (congrArg nI r2) hz) (fun _ => ?_)
      refine V_iconst (pc' := 711) (nI 1) X dL_change_710 ki_1 rfl ?_
      refine V_goto (pc' := 715) X dL_change_711 (by decide) ?_
      exact V_ireturn (v := nI 1) [w_12] hQ X hrt rfl dL_change_715 (Nat.le_of_ble_eq_true rfl) (Nat.le_of_ble_eq_true rfl) (List.Perm.refl _) ⟨rfl, _, _, _, _, w_12, hw_12.mono (by omega), rfl, rfl⟩
    · refine V_iload (pc' := 693) 4 X dL_change_691 rfl rfl ?_
      refine V_bipush (pc' := 695) (nI 6) X dL_change_693 kb_6 rfl ?_
      refine V_icmp_ne (pc' := 698) (C := n = 6) 703 X dL_change_695 (by decide) rfl (nI_eq (by omega) (by omega)) (fun _ => ?_) (fun hz => absurd hz (by omega))
      refine V_iload (pc' := 705) 4 X dL_change_703 rfl rfl ?_
      refine V_iconst (pc' := 706) (nI 1) X dL_change_705 ki_1 rfl ?_
      refine V_iadd (pc' := 707) (nI (n + 1)) X dL_change_706 (nI_add _ _) rfl ?_
      refine V_icmp_ne (pc' := 710) (C := (nI (aM n + 1)) = (nI (n + 1))) 714 X dL_change_707 (by decide) rfl Iff.rfl (fun hz => absurd (congrArg nI r2) hz) (fun _ => ?_)
      refine V_iconst (pc' := 711) (nI 1) X dL_change_710 ki_1 rfl ?_
      refine V_goto (pc' := 715) X dL_change_711 (by decide) ?_
      exact V_ireturn (v := nI 1) [w_12] hQ X hrt rfl dL_change_715 (Nat.le_of_ble_eq_true rfl) (Nat.le_of_ble_eq_true rfl) (List.Perm.refl _) ⟨rfl, _, _, _, _, w_12, hw_12.mono (by omega), rfl, rfl⟩

set_option maxHeartbeats 4000000 in
set_option maxRecDepth 100000 in
theorem c_L_change_2 (l : Launch) (G : gT) (x K : Nat) (S : Nat → Nat) (n : Nat) (T : Nat → Nat → Nat) (P : Nat → Option (Nat → Nat)) (w : va_W) (hw : OJ G x K S n T P w) (hK : K ≤ 90000) (a b : Int32) : CM l G yL_change wsL_change 6 165 4 [.ref x, .int (nI 2), .int a, .int b] [w] 7 77 (fun v u => v = some (.int (nI 1)) ∧ ∃ (S' : Nat → Nat) (n' : Nat) (T' : Nat → Nat → Nat) (P' : Nat → Option (Nat → Nat)) (w' : va_W), OJ G x (K + 400) S' n' T' P' w' ∧ P' 0 = P 0 ∧ u = [w']) := by
  refine CM_of RL 5 127 rfl rfl (by decide) (by decide +kernel) (Nat.le_of_ble_eq_true rfl) (fun E A X hrt hnm => ?_)
  generalize hQ : QM E G A _ _ _ = Q
  obtain ⟨i1, i2, i3, i4, i5, i6⟩ := hw.iv
  have j46 := hw.2.1.2.1
  have hn6 := hw.2.2.1
  have ha := lwN_lt a (n := 32) (by decide)
  have hp := i1 _ ha
  have hcl := cnt_le_pgs (S := S) ha
  show V E G A 19 [w] 0 0 Q 0 [(0, .ref x), (1, .int (nI 2)), (2, .int a), (3, .int b)] []
  refine V_aload_n (pc' := 1) 0 X dL_change_0 rfl rfl rfl ?_
  refine O_undoable (pc' := 4) (st := []) hw X gL_change_X5_undoable (Nat.le_of_ble_eq_true rfl) ⟨Nat.le_of_ble_eq_true rfl, Nat.le_of_ble_eq_true rfl⟩ ⟨Nat.le_of_ble_eq_true rfl, Nat.le_of_ble_eq_true rfl⟩ dL_change_1 rfl (fun w_1 hw_1 => ?_)
  refine V_istore (pc' := 6) [(0, .ref x), (1, .int (nI 2)), (2, .int a), (3, .int b), (4, .int (nI n))] [1, 2, 3, 4, 0] X dL_change_4 (Nat.le_of_ble_eq_true rfl) rfl rfl ?_
  refine V_aload_n (pc' := 7) 0 X dL_change_6 rfl rfl rfl ?_
  refine O_pegs (pc' := 10) (st := []) hw_1 X gL_change_X5_pegs (Nat.le_of_ble_eq_true rfl) ⟨Nat.le_of_ble_eq_true rfl, Nat.le_of_ble_eq_true rfl⟩ ⟨Nat.le_of_ble_eq_true rfl, Nat.le_of_ble_eq_true rfl⟩ dL_change_7 rfl (fun w_2 hw_2 => ?_)
  refine V_istore (pc' := 12) [(0, .ref x), (1, .int (nI 2)), (2, .int a), (3, .int b), (4, .int (nI n)), (5, .int (nI (pgs S)))] [1, 2, 3, 4, 5, 0] X dL_change_10 (Nat.le_of_ble_eq_true rfl) rfl rfl ?_
  refine V_iconst (pc' := 13) (nI 1) X dL_change_12 ki_1 rfl ?_
  refine V_istore (pc' := 15) [(0, .ref x), (1, .int (nI 2)), (2, .int a), (3, .int b), (4, .int (nI n)), (5, .int (nI (pgs S))), (6, .int (nI 1))] [1, 2, 3, 4, 5, 6, 0] X dL_change_13 (Nat.le_of_ble_eq_true rfl) rfl rfl ?_
  refine V_iload_n (pc' := 16) 1 X dL_change_15 rfl rfl rfl ?_
  refine V_tableIn (tgt := 193) (off := 177) X dL_change_16 (by decide +kernel) (by decide +kernel) (by decide +kernel) (by decide) ?_
  refine V_iload_n (pc' := 194) 2 X dL_change_193 rfl rfl rfl ?_
  refine V_bipush (pc' := 196) (nI 32) X dL_change_194 kb_32 rfl ?_
  refine V_callS (pc' := 199) (As := [.int a, .int (nI 32)]) (st := []) [] [0] (List.Perm.refl _) X (c_L_low l G a 32 (by decide) (by decide)) rfl gL_change_L_low rfl rfl (Nat.le_of_ble_eq_true rfl) ⟨Nat.le_of_ble_eq_true rfl, Nat.le_of_ble_eq_true rfl⟩ ⟨Nat.le_of_ble_eq_true rfl, Nat.le_of_ble_eq_true rfl⟩ dL_change_196 rfl (fun v_ u_ hp_ => ?_)
  obtain ⟨rfl, rfl⟩ := hp_
  show V E G A 19 [w_2] 0 0 Q 199 [(0, .ref x), (1, .int (nI 2)), (2, .int a), (3, .int b), (4, .int (nI n)), (5, .int (nI (pgs S))), (6, .int (nI 1))] [.int (nI (lwN a 32))]
  refine V_istore (pc' := 201) [(0, .ref x), (1, .int (nI 2)), (2, .int a), (3, .int b), (4, .int (nI n)), (5, .int (nI (pgs S))), (6, .int (nI 1)), (9, .int (nI (lwN a 32)))] [1, 2, 3, 4, 5, 6, 7, 0] X dL_change_199 (Nat.le_of_ble_eq_true rfl) rfl rfl ?_
  refine V_iload_n (pc' := 202) 3 X dL_change_201 rfl rfl rfl ?_
  refine V_iconst (pc' := 203) (nI 3) X dL_change_202 ki_3 rfl ?_
  refine V_iand (pc' := 204) ((b &&& (nI 3))) X dL_change_203 rfl rfl ?_
  refine V_if_ne (pc' := 207) (C := (b &&& (nI 3)) = 0) 219 X dL_change_204 (by decide) rfl Iff.rfl (fun h204 => ?_) (fun h204 => ?_)
  · refine V_iload_n (pc' := 220) 3 X dL_change_219 rfl rfl rfl ?_
    refine V_iconst (pc' := 221) (nI 2) X dL_change_220 ki_2 rfl ?_
    refine V_ishr (pc' := 222) ((b >>> ((nI 2) &&& 31))) X dL_change_221 rfl rfl ?_
    refine V_sipush (pc' := 225) (nI 1024) X dL_change_222 ks_1024 rfl ?_
    refine V_callS (pc' := 228) (As := [.int (b >>> ((nI 2) &&& 31)), .int (nI 1024)]) (st := []) [] [0] (List.Perm.refl _) X (c_L_low l G (b >>> ((nI 2) &&& 31)) 1024 (by decide) (by decide)) rfl gL_change_L_low rfl rfl (Nat.le_of_ble_eq_true rfl) ⟨Nat.le_of_ble_eq_true rfl, Nat.le_of_ble_eq_true rfl⟩ ⟨Nat.le_of_ble_eq_true rfl, Nat.le_of_ble_eq_true rfl⟩ dL_change_225 rfl (fun v_ u_ hp_ => ?_)
    obtain ⟨rfl, rfl⟩ := hp_
    show V E G A 19 [w_2] 0 0 Q 228 [(0, .ref x), (1, .int (nI 2)), (2, .int a), (3, .int b), (4, .int (nI n)), (5, .int (nI (pgs S))), (6, .int (nI 1)), (9, .int (nI (lwN a 32)))] [.int (nI (lwN (b >>> ((nI 2) &&& 31)) 1024))]
    refine V_iload_n (pc' := 229) 3 X dL_change_228 rfl rfl rfl ?_
    refine V_bipush (pc' := 231) (nI 7) X dL_change_229 kb_7 rfl ?_
    refine V_ishr (pc' := 232) ((b >>> ((nI 7) &&& 31))) X dL_change_231 rfl rfl ?_
    refine V_sipush (pc' := 235) (nI 1024) X dL_change_232 ks_1024 rfl ?_
    refine V_callS (pc' := 238) (As := [.int (b >>> ((nI 7) &&& 31)), .int (nI 1024)]) (st := [.int (nI (lwN (b >>> ((nI 2) &&& 31)) 1024))]) [] [0] (List.Perm.refl _) X (c_L_low l G (b >>> ((nI 7) &&& 31)) 1024 (by decide) (by decide)) rfl gL_change_L_low rfl rfl (Nat.le_of_ble_eq_true rfl) ⟨Nat.le_of_ble_eq_true rfl, Nat.le_of_ble_eq_true rfl⟩ ⟨Nat.le_of_ble_eq_true rfl, Nat.le_of_ble_eq_true rfl⟩ dL_change_235 rfl (fun v_ u_ hp_ => ?_)
    obtain ⟨rfl, rfl⟩ := hp_
    show V E G A 19 [w_2] 0 0 Q 238 [(0, .ref x), (1, .int (nI 2)), (2, .int a), (3, .int b), (4, .int (nI n)), (5, .int (nI (pgs S))), (6, .int (nI 1)), (9, .int (nI (lwN a 32)))] [.int (nI (lwN (b >>> ((nI 7) &&& 31)) 1024)), .int (nI (lwN (b >>> ((nI 2) &&& 31)) 1024))]
    refine V_iand (pc' := 239) (nI ((lwN (b >>> ((nI 2) &&& 31)) 1024) &&& (lwN (b >>> ((nI 7) &&& 31)) 1024))) X dL_change_238 (z_and _ _) rfl ?_
    obtain ⟨sv, hv, hsv⟩ : ∃ sv, sv < 1024 ∧ (lwN (b >>> ((nI 2) &&& 31)) 1024) &&& (lwN (b >>> ((nI 7) &&& 31)) 1024) = sv := ⟨_, (Nat.and_lt_two_pow (n := 10) _ (lwN_lt _ (by decide))), rfl⟩
    rw [hsv]
    have hup := pgs_up (S := S) (v := sv) ha
    show V E G A 19 [w_2] 0 0 Q 239 [(0, .ref x), (1, .int (nI 2)), (2, .int a), (3, .int b), (4, .int (nI n)), (5, .int (nI (pgs S))), (6, .int (nI 1)), (9, .int (nI (lwN a 32)))] [.int (nI sv)]
    refine V_istore (pc' := 241) [(0, .ref x), (1, .int (nI 2)), (2, .int a), (3, .int b), (4, .int (nI n)), (5, .int (nI (pgs S))), (6, .int (nI 1)), (9, .int (nI (lwN a 32))), (10, .int (nI sv))] [1, 2, 3, 4, 5, 6, 7, 8, 0] X dL_change_239 (Nat.le_of_ble_eq_true rfl) rfl rfl ?_
    refine V_aload_n (pc' := 242) 0 X dL_change_241 rfl rfl rfl ?_
    refine V_iload (pc' := 244) 7 X dL_change_242 rfl rfl ?_
    refine O_pegsIn (pc' := 247) (st := []) (lwN a 32) ha hw_2 X gL_change_X5_pegsIn (Nat.le_of_ble_eq_true rfl) ⟨Nat.le_of_ble_eq_true rfl, Nat.le_of_ble_eq_true rfl⟩ ⟨Nat.le_of_ble_eq_true rfl, Nat.le_of_ble_eq_true rfl⟩ dL_change_244 rfl (fun w_3 hw_3 => ?_)
    refine V_istore (pc' := 249) [(0, .ref x), (1, .int (nI 2)), (2, .int a), (3, .int b), (4, .int (nI n)), (5, .int (nI (pgs S))), (6, .int (nI 1)), (9, .int (nI (lwN a 32))), (10, .int (nI sv)), (11, .int (nI (S (lwN a 32))))] [1, 2, 3, 4, 5, 6, 7, 8, 9, 0] X dL_change_247 (Nat.le_of_ble_eq_true rfl) rfl rfl ?_
    refine V_aload_n (pc' := 250) 0 X dL_change_249 rfl rfl rfl ?_
    refine V_iload (pc' := 252) 7 X dL_change_250 rfl rfl ?_
    refine V_iload (pc' := 254) 8 X dL_change_252 rfl rfl ?_
    refine O_setColumn (pc' := 257) (st := []) (lwN a 32) sv ha hv hw_3 X gL_change_X5_setColumn (Nat.le_of_ble_eq_true rfl) ⟨Nat.le_of_ble_eq_true rfl, Nat.le_of_ble_eq_true rfl⟩ ⟨Nat.le_of_ble_eq_true rfl, Nat.le_of_ble_eq_true rfl⟩ dL_change_254 rfl (fun w_4 hw_4 => ?_)
    refine V_iload (pc' := 259) 9 X dL_change_257 rfl rfl ?_
    refine V_iload (pc' := 261) 8 X dL_change_259 rfl rfl ?_
    refine V_ixor (pc' := 262) (nI ((S (lwN a 32)) ^^^ sv)) X dL_change_261 (z_xor _ _) rfl ?_
    refine V_callS (pc' := 265) (As := [.int (nI ((S (lwN a 32)) ^^^ sv))]) (st := [.int (nI (sm (fun k => cnt (va_up S (lwN a 32) sv k ^^^ S k)) 32))]) [] [0] (List.Perm.refl _) X (c_L_count l G ((S (lwN a 32)) ^^^ sv) (Nat.lt_trans (Nat.xor_lt_two_pow (n := 10) hp hv) (by decide))) rfl gL_change_L_count rfl rfl (Nat.le_of_ble_eq_true rfl) ⟨Nat.le_of_ble_eq_true rfl, Nat.le_of_ble_eq_true rfl⟩ ⟨Nat.le_of_ble_eq_true rfl, Nat.le_of_ble_eq_true rfl⟩ dL_change_262 rfl (fun v_ u_ hp_ => ?_)
    obtain ⟨rfl, rfl⟩ := hp_
    show V E G A 19 [w_4] 0 0 Q 265 [(0, .ref x), (1, .int (nI 2)), (2, .int a), (3, .int b), (4, .int (nI n)), (5, .int (nI (pgs S))), (6, .int (nI 1)), (9, .int (nI (lwN a 32))), (10, .int (nI sv)), (11, .int (nI (S (lwN a 32))))] [.int (nI (cnt ((S (lwN a 32)) ^^^ sv))), .int (nI (sm (fun k => cnt (va_up S (lwN a 32) sv k ^^^ S k)) 32))]
    refine V_icmp_ne (pc' := 268) (C := (nI (sm (fun k => cnt (va_up S (lwN a 32) sv k ^^^ S k)) 32)) = (nI (cnt ((S (lwN a 32)) ^^^ sv)))) 304 X dL_change_265 (by decide) rfl Iff.rfl (fun hz => absurd (congrArg nI (set_val ha)) hz) (fun _ => ?_)
    refine V_aload_n (pc' := 269) 0 X dL_change_268 rfl rfl rfl ?_
    refine V_iload (pc' := 271) 7 X dL_change_269 rfl rfl ?_
    refine O_pegsIn (pc' := 274) (st := []) (lwN a 32) ha hw_4 X gL_change_X5_pegsIn (Nat.le_of_ble_eq_true rfl) ⟨Nat.le_of_ble_eq_true rfl, Nat.le_of_ble_eq_true rfl⟩ ⟨Nat.le_of_ble_eq_true rfl, Nat.le_of_ble_eq_true rfl⟩ dL_change_271 rfl (fun w_5 hw_5 => ?_)
    refine V_iload (pc' := 276) 8 X dL_change_274 rfl rfl ?_
    refine V_icmp_ne (pc' := 279) (C := (nI ((va_up S (lwN a 32) sv) (lwN a 32))) = (nI sv)) 304 X dL_change_276 (by decide) rfl Iff.rfl (fun hz => absurd (congrArg nI (va_up_self _ _ _)) hz) (fun _ => ?_)
    refine V_aload_n (pc' := 280) 0 X dL_change_279 rfl rfl rfl ?_
    refine O_pegs (pc' := 283) (st := []) hw_5 X gL_change_X5_pegs (Nat.le_of_ble_eq_true rfl) ⟨Nat.le_of_ble_eq_true rfl, Nat.le_of_ble_eq_true rfl⟩ ⟨Nat.le_of_ble_eq_true rfl, Nat.le_of_ble_eq_true rfl⟩ dL_change_280 rfl (fun w_6 hw_6 => ?_)
    refine V_iload (pc' := 285) 5 X dL_change_283 rfl rfl ?_
    refine V_iload (pc' := 287) 9 X dL_change_285 rfl rfl ?_
    refine V_callS (pc' := 290) (As := [.int (nI (S (lwN a 32)))]) (st := [.int (nI (pgs S)), .int (nI (pgs (va_up S (lwN a 32) sv)))]) [] [0] (List.Perm.refl _) X (c_L_count l G (S (lwN a 32)) (by omega)) rfl gL_change_L_count rfl rfl (Nat.le_of_ble_eq_true rfl) ⟨Nat.le_of_ble_eq_true rfl, Nat.le_of_ble_eq_true rfl⟩ ⟨Nat.le_of_ble_eq_true rfl, Nat.le_of_ble_eq_true rfl⟩ dL_change_287 rfl (fun v_ u_ hp_ => ?_)
    obtain ⟨rfl, rfl⟩ := hp_
    show V E G A 19 [w_6] 0 0 Q 290 [(0, .ref x), (1, .int (nI 2)), (2, .int a), (3, .int b), (4, .int (nI n)), (5, .int (nI (pgs S))), (6, .int (nI 1)), (9, .int (nI (lwN a 32))), (10, .int (nI sv)), (11, .int (nI (S (lwN a 32))))] [.int (nI (cnt (S (lwN a 32)))), .int (nI (pgs S)), .int (nI (pgs (va_up S (lwN a 32) sv)))]
    refine V_isub (pc' := 291) (nI ((pgs S) - (cnt (S (lwN a 32))))) X dL_change_290 (pk_sub hcl) rfl ?_
    refine V_iload (pc' := 293) 8 X dL_change_291 rfl rfl ?_
    refine V_callS (pc' := 296) (As := [.int (nI sv)]) (st := [.int (nI ((pgs S) - (cnt (S (lwN a 32))))), .int (nI (pgs (va_up S (lwN a 32) sv)))]) [] [0] (List.Perm.refl _) X (c_L_count l G sv (by omega)) rfl gL_change_L_count rfl rfl (Nat.le_of_ble_eq_true rfl) ⟨Nat.le_of_ble_eq_true rfl, Nat.le_of_ble_eq_true rfl⟩ ⟨Nat.le_of_ble_eq_true rfl, Nat.le_of_ble_eq_true rfl⟩ dL_change_293 rfl (fun v_ u_ hp_ => ?_)
    obtain ⟨rfl, rfl⟩ := hp_
    show V E G A 19 [w_6] 0 0 Q 296 [(0, .ref x), (1, .int (nI 2)), (2, .int a), (3, .int b), (4, .int (nI n)), (5, .int (nI (pgs S))), (6, .int (nI 1)), (9, .int (nI (lwN a 32))), (10, .int (nI sv)), (11, .int (nI (S (lwN a 32))))] [.int (nI (cnt sv)), .int (nI ((pgs S) - (cnt (S (lwN a 32))))), .int (nI (pgs (va_up S (lwN a 32) sv)))]
    refine V_iadd (pc' := 297) (nI (((pgs S) - (cnt (S (lwN a 32)))) + (cnt sv))) X dL_change_296 (nI_add _ _) rfl ?_
    refine V_icmp_ne (pc' := 300) (C := (nI (pgs (va_up S (lwN a 32) sv))) = (nI (((pgs S) - (cnt (S (lwN a 32)))) + (cnt sv)))) 304 X dL_change_297 (by decide) rfl Iff.rfl (fun hz => absurd (congrArg nI (by omega)) hz) (fun _ => ?_)
    refine V_iconst (pc' := 301) (nI 1) X dL_change_300 ki_1 rfl ?_
    refine V_goto (pc' := 305) X dL_change_301 (by decide) ?_
    refine V_istore (pc' := 307) [(0, .ref x), (1, .int (nI 2)), (2, .int a), (3, .int b), (4, .int (nI n)), (5, .int (nI (pgs S))), (6, .int (nI 1)), (9, .int (nI (lwN a 32))), (10, .int (nI sv)), (11, .int (nI (S (lwN a 32))))] [1, 2, 3, 4, 5, 6, 0, 7, 8, 9] X dL_change_305 (Nat.le_of_ble_eq_true rfl) rfl rfl ?_
    refine V_goto (pc' := 682) X dL_change_307 (by decide) ?_
    refine V_iload (pc' := 684) 6 X dL_change_682 rfl rfl ?_
    refine V_if_eq (pc' := 687) (C := 1 = 0) 714 X dL_change_684 (by decide) rfl (z_eq0 (by omega)) (fun hz => absurd hz (by decide)) (fun _ => ?_)
    refine V_aload_n (pc' := 688) 0 X dL_change_687 rfl rfl rfl ?_
    refine O_undoable (pc' := 691) (st := []) hw_6 X gL_change_X5_undoable (Nat.le_of_ble_eq_true rfl) ⟨Nat.le_of_ble_eq_true rfl, Nat.le_of_ble_eq_true rfl⟩ ⟨Nat.le_of_ble_eq_true rfl, Nat.le_of_ble_eq_true rfl⟩ dL_change_688 rfl (fun w_7 hw_7 => ?_)
    rcases aM_cases hn6 with ⟨r1, r2⟩ | ⟨r1, r2⟩
    · refine V_iload (pc' := 693) 4 X dL_change_691 rfl rfl ?_
      refine V_bipush (pc' := 695) (nI 6) X dL_change_693 kb_6 rfl ?_
      refine V_icmp_ne (pc' := 698) (C := (nI n) = (nI 6)) 703 X dL_change_695 (by decide) rfl Iff.rfl (fun hz => absurd (congrArg nI r1) hz) (fun _ => ?_)
      refine V_bipush (pc' := 700) (nI 6) X dL_change_698 kb_6 rfl ?_
      refine V_goto (pc' := 707) X dL_change_700 (by decide) ?_
      refine V_icmp_ne (pc' := 710) (C := (nI (aM n + 1)) = (nI 6)) 714 X dL_change_707 (by decide) rfl Iff.rfl (fun hz => absurd (congrArg nI r2) hz) (fun _ => ?_)
      refine V_iconst (pc' := 711) (nI 1) X dL_change_710 ki_1 rfl ?_
      refine V_goto (pc' := 715) X dL_change_711 (by decide) ?_
      exact V_ireturn (v := nI 1) [w_7] hQ X hrt rfl dL_change_715 (Nat.le_of_ble_eq_true rfl) (Nat.le_of_ble_eq_true rfl) (List.Perm.refl _) ⟨rfl, _, _, _, _, w_7, hw_7.mono (by omega), rfl, rfl⟩
    · refine V_iload (pc' := 693) 4 X dL_change_691 rfl rfl ?_
      refine V_bipush (pc' := 695) (nI 6) X dL_change_693 kb_6 rfl ?_
      refine V_icmp_ne (pc' := 698) (C := n = 6) 703 X dL_change_695 (by decide) rfl (nI_eq (by omega) (by omega)) (fun _ => ?_) (fun hz => absurd hz (by omega))
      refine V_iload (pc' := 705) 4 X dL_change_703 rfl rfl ?_
      refine V_iconst (pc' := 706) (nI 1) X dL_change_705 ki_1 rfl ?_
      refine V_iadd (pc' := 707) (nI (n + 1)) X dL_change_706 (nI_add _ _) rfl ?_
      refine V_icmp_ne (pc' := 710) (C := (nI (aM n + 1)) = (nI (n + 1))) 714 X dL_change_707 (by decide) rfl Iff.rfl (fun hz => absurd (congrArg nI r2) hz) (fun _ => ?_)
      refine V_iconst (pc' := 711) (nI 1) X dL_change_710 ki_1 rfl ?_
      refine V_goto (pc' := 715) X dL_change_711 (by decide) ?_
      exact V_ireturn (v := nI 1) [w_7] hQ X hrt rfl dL_change_715 (Nat.le_of_ble_eq_true rfl) (Nat.le_of_ble_eq_true rfl) (List.Perm.refl _) ⟨rfl, _, _, _, _, w_7, hw_7.mono (by omega), rfl, rfl⟩
  · refine V_iload_n (pc' := 208) 3 X dL_change_207 rfl rfl rfl ?_
    refine V_iconst (pc' := 209) (nI 2) X dL_change_208 ki_2 rfl ?_
    refine V_ishr (pc' := 210) ((b >>> ((nI 2) &&& 31))) X dL_change_209 rfl rfl ?_
    refine V_sipush (pc' := 213) (nI 1024) X dL_change_210 ks_1024 rfl ?_
    refine V_callS (pc' := 216) (As := [.int (b >>> ((nI 2) &&& 31)), .int (nI 1024)]) (st := []) [] [0] (List.Perm.refl _) X (c_L_low l G (b >>> ((nI 2) &&& 31)) 1024 (by decide) (by decide)) rfl gL_change_L_low rfl rfl (Nat.le_of_ble_eq_true rfl) ⟨Nat.le_of_ble_eq_true rfl, Nat.le_of_ble_eq_true rfl⟩ ⟨Nat.le_of_ble_eq_true rfl, Nat.le_of_ble_eq_true rfl⟩ dL_change_213 rfl (fun v_ u_ hp_ => ?_)
    obtain ⟨rfl, rfl⟩ := hp_
    show V E G A 19 [w_2] 0 0 Q 216 [(0, .ref x), (1, .int (nI 2)), (2, .int a), (3, .int b), (4, .int (nI n)), (5, .int (nI (pgs S))), (6, .int (nI 1)), (9, .int (nI (lwN a 32)))] [.int (nI (lwN (b >>> ((nI 2) &&& 31)) 1024))]
    refine V_goto (pc' := 239) X dL_change_216 (by decide) ?_
    obtain ⟨sv, hv, hsv⟩ : ∃ sv, sv < 1024 ∧ lwN (b >>> ((nI 2) &&& 31)) 1024 = sv := ⟨_, (lwN_lt _ (by decide)), rfl⟩
    rw [hsv]
    have hup := pgs_up (S := S) (v := sv) ha
    show V E G A 19 [w_2] 0 0 Q 239 [(0, .ref x), (1, .int (nI 2)), (2, .int a), (3, .int b), (4, .int (nI n)), (5, .int (nI (pgs S))), (6, .int (nI 1)), (9, .int (nI (lwN a 32)))] [.int (nI sv)]
    refine V_istore (pc' := 241) [(0, .ref x), (1, .int (nI 2)), (2, .int a), (3, .int b), (4, .int (nI n)), (5, .int (nI (pgs S))), (6, .int (nI 1)), (9, .int (nI (lwN a 32))), (10, .int (nI sv))] [1, 2, 3, 4, 5, 6, 7, 8, 0] X dL_change_239 (Nat.le_of_ble_eq_true rfl) rfl rfl ?_
    refine V_aload_n (pc' := 242) 0 X dL_change_241 rfl rfl rfl ?_
    refine V_iload (pc' := 244) 7 X dL_change_242 rfl rfl ?_
    refine O_pegsIn (pc' := 247) (st := []) (lwN a 32) ha hw_2 X gL_change_X5_pegsIn (Nat.le_of_ble_eq_true rfl) ⟨Nat.le_of_ble_eq_true rfl, Nat.le_of_ble_eq_true rfl⟩ ⟨Nat.le_of_ble_eq_true rfl, Nat.le_of_ble_eq_true rfl⟩ dL_change_244 rfl (fun w_8 hw_8 => ?_)
    refine V_istore (pc' := 249) [(0, .ref x), (1, .int (nI 2)), (2, .int a), (3, .int b), (4, .int (nI n)), (5, .int (nI (pgs S))), (6, .int (nI 1)), (9, .int (nI (lwN a 32))), (10, .int (nI sv)), (11, .int (nI (S (lwN a 32))))] [1, 2, 3, 4, 5, 6, 7, 8, 9, 0] X dL_change_247 (Nat.le_of_ble_eq_true rfl) rfl rfl ?_
    refine V_aload_n (pc' := 250) 0 X dL_change_249 rfl rfl rfl ?_
    refine V_iload (pc' := 252) 7 X dL_change_250 rfl rfl ?_
    refine V_iload (pc' := 254) 8 X dL_change_252 rfl rfl ?_
    refine O_setColumn (pc' := 257) (st := []) (lwN a 32) sv ha hv hw_8 X gL_change_X5_setColumn (Nat.le_of_ble_eq_true rfl) ⟨Nat.le_of_ble_eq_true rfl, Nat.le_of_ble_eq_true rfl⟩ ⟨Nat.le_of_ble_eq_true rfl, Nat.le_of_ble_eq_true rfl⟩ dL_change_254 rfl (fun w_9 hw_9 => ?_)
    refine V_iload (pc' := 259) 9 X dL_change_257 rfl rfl ?_
    refine V_iload (pc' := 261) 8 X dL_change_259 rfl rfl ?_
    refine V_ixor (pc' := 262) (nI ((S (lwN a 32)) ^^^ sv)) X dL_change_261 (z_xor _ _) rfl ?_
    refine V_callS (pc' := 265) (As := [.int (nI ((S (lwN a 32)) ^^^ sv))]) (st := [.int (nI (sm (fun k => cnt (va_up S (lwN a 32) sv k ^^^ S k)) 32))]) [] [0] (List.Perm.refl _) X (c_L_count l G ((S (lwN a 32)) ^^^ sv) (Nat.lt_trans (Nat.xor_lt_two_pow (n := 10) hp hv) (by decide))) rfl gL_change_L_count rfl rfl (Nat.le_of_ble_eq_true rfl) ⟨Nat.le_of_ble_eq_true rfl, Nat.le_of_ble_eq_true rfl⟩ ⟨Nat.le_of_ble_eq_true rfl, Nat.le_of_ble_eq_true rfl⟩ dL_change_262 rfl (fun v_ u_ hp_ => ?_)
    obtain ⟨rfl, rfl⟩ := hp_
    show V E G A 19 [w_9] 0 0 Q 265 [(0, .ref x), (1, .int (nI 2)), (2, .int a), (3, .int b), (4, .int (nI n)), (5, .int (nI (pgs S))), (6, .int (nI 1)), (9, .int (nI (lwN a 32))), (10, .int (nI sv)), (11, .int (nI (S (lwN a 32))))] [.int (nI (cnt ((S (lwN a 32)) ^^^ sv))), .int (nI (sm (fun k => cnt (va_up S (lwN a 32) sv k ^^^ S k)) 32))]
    refine V_icmp_ne (pc' := 268) (C := (nI (sm (fun k => cnt (va_up S (lwN a 32) sv k ^^^ S k)) 32)) = (nI (cnt ((S (lwN a 32)) ^^^ sv)))) 304 X dL_change_265 (by decide) rfl Iff.rfl (fun hz => absurd (congrArg nI (set_val ha)) hz) (fun _ => ?_)
    refine V_aload_n (pc' := 269) 0 X dL_change_268 rfl rfl rfl ?_
    refine V_iload (pc' := 271) 7 X dL_change_269 rfl rfl ?_
    refine O_pegsIn (pc' := 274) (st := []) (lwN a 32) ha hw_9 X gL_change_X5_pegsIn (Nat.le_of_ble_eq_true rfl) ⟨Nat.le_of_ble_eq_true rfl, Nat.le_of_ble_eq_true rfl⟩ ⟨Nat.le_of_ble_eq_true rfl, Nat.le_of_ble_eq_true rfl⟩ dL_change_271 rfl (fun w_10 hw_10 => ?_)
    refine V_iload (pc' := 276) 8 X dL_change_274 rfl rfl ?_
    refine V_icmp_ne (pc' := 279) (C := (nI ((va_up S (lwN a 32) sv) (lwN a 32))) = (nI sv)) 304 X dL_change_276 (by decide) rfl Iff.rfl (fun hz => absurd (congrArg nI (va_up_self _ _ _)) hz) (fun _ => ?_)
    refine V_aload_n (pc' := 280) 0 X dL_change_279 rfl rfl rfl ?_
    refine O_pegs (pc' := 283) (st := []) hw_10 X gL_change_X5_pegs (Nat.le_of_ble_eq_true rfl) ⟨Nat.le_of_ble_eq_true rfl, Nat.le_of_ble_eq_true rfl⟩ ⟨Nat.le_of_ble_eq_true rfl, Nat.le_of_ble_eq_true rfl⟩ dL_change_280 rfl (fun w_11 hw_11 => ?_)
    refine V_iload (pc' := 285) 5 X dL_change_283 rfl rfl ?_
    refine V_iload (pc' := 287) 9 X dL_change_285 rfl rfl ?_
    refine V_callS (pc' := 290) (As := [.int (nI (S (lwN a 32)))]) (st := [.int (nI (pgs S)), .int (nI (pgs (va_up S (lwN a 32) sv)))]) [] [0] (List.Perm.refl _) X (c_L_count l G (S (lwN a 32)) (by omega)) rfl gL_change_L_count rfl rfl (Nat.le_of_ble_eq_true rfl) ⟨Nat.le_of_ble_eq_true rfl, Nat.le_of_ble_eq_true rfl⟩ ⟨Nat.le_of_ble_eq_true rfl, Nat.le_of_ble_eq_true rfl⟩ dL_change_287 rfl (fun v_ u_ hp_ => ?_)
    obtain ⟨rfl, rfl⟩ := hp_
    show V E G A 19 [w_11] 0 0 Q 290 [(0, .ref x), (1, .int (nI 2)), (2, .int a), (3, .int b), (4, .int (nI n)), (5, .int (nI (pgs S))), (6, .int (nI 1)), (9, .int (nI (lwN a 32))), (10, .int (nI sv)), (11, .int (nI (S (lwN a 32))))] [.int (nI (cnt (S (lwN a 32)))), .int (nI (pgs S)), .int (nI (pgs (va_up S (lwN a 32) sv)))]
    refine V_isub (pc' := 291) (nI ((pgs S) - (cnt (S (lwN a 32))))) X dL_change_290 (pk_sub hcl) rfl ?_
    refine V_iload (pc' := 293) 8 X dL_change_291 rfl rfl ?_
    refine V_callS (pc' := 296) (As := [.int (nI sv)]) (st := [.int (nI ((pgs S) - (cnt (S (lwN a 32))))), .int (nI (pgs (va_up S (lwN a 32) sv)))]) [] [0] (List.Perm.refl _) X (c_L_count l G sv (by omega)) rfl gL_change_L_count rfl rfl (Nat.le_of_ble_eq_true rfl) ⟨Nat.le_of_ble_eq_true rfl, Nat.le_of_ble_eq_true rfl⟩ ⟨Nat.le_of_ble_eq_true rfl, Nat.le_of_ble_eq_true rfl⟩ dL_change_293 rfl (fun v_ u_ hp_ => ?_)
    obtain ⟨rfl, rfl⟩ := hp_
    show V E G A 19 [w_11] 0 0 Q 296 [(0, .ref x), (1, .int (nI 2)), (2, .int a), (3, .int b), (4, .int (nI n)), (5, .int (nI (pgs S))), (6, .int (nI 1)), (9, .int (nI (lwN a 32))), (10, .int (nI sv)), (11, .int (nI (S (lwN a 32))))] [.int (nI (cnt sv)), .int (nI ((pgs S) - (cnt (S (lwN a 32))))), .int (nI (pgs (va_up S (lwN a 32) sv)))]
    refine V_iadd (pc' := 297) (nI (((pgs S) - (cnt (S (lwN a 32)))) + (cnt sv))) X dL_change_296 (nI_add _ _) rfl ?_
    refine V_icmp_ne (pc' := 300) (C := (nI (pgs (va_up S (lwN a 32) sv))) = (nI (((pgs S) - (cnt (S (lwN a 32)))) + (cnt sv)))) 304 X dL_change_297 (by decide) rfl Iff.rfl (fun hz => absurd (congrArg nI (by omega)) hz) (fun _ => ?_)
    refine V_iconst (pc' := 301) (nI 1) X dL_change_300 ki_1 rfl ?_
    refine V_goto (pc' := 305) X dL_change_301 (by decide) ?_
    refine V_istore (pc' := 307) [(0, .ref x), (1, .int (nI 2)), (2, .int a), (3, .int b), (4, .int (nI n)), (5, .int (nI (pgs S))), (6, .int (nI 1)), (9, .int (nI (lwN a 32))), (10, .int (nI sv)), (11, .int (nI (S (lwN a 32))))] [1, 2, 3, 4, 5, 6, 0, 7, 8, 9] X dL_change_305 (Nat.le_of_ble_eq_true rfl) rfl rfl ?_
    refine V_goto (pc' := 682) X dL_change_307 (by decide) ?_
    refine V_iload (pc' := 684) 6 X dL_change_682 rfl rfl ?_
    refine V_if_eq (pc' := 687) (C := 1 = 0) 714 X dL_change_684 (by decide) rfl (z_eq0 (by omega)) (fun hz => absurd hz (by decide)) (fun _ => ?_)
    refine V_aload_n (pc' := 688) 0 X dL_change_687 rfl rfl rfl ?_
    refine O_undoable (pc' := 691) (st := []) hw_11 X gL_change_X5_undoable (Nat.le_of_ble_eq_true rfl) ⟨Nat.le_of_ble_eq_true rfl, Nat.le_of_ble_eq_true rfl⟩ ⟨Nat.le_of_ble_eq_true rfl, Nat.le_of_ble_eq_true rfl⟩ dL_change_688 rfl (fun w_12 hw_12 => ?_)
    rcases aM_cases hn6 with ⟨r1, r2⟩ | ⟨r1, r2⟩
    · refine V_iload (pc' := 693) 4 X dL_change_691 rfl rfl ?_
      refine V_bipush (pc' := 695) (nI 6) X dL_change_693 kb_6 rfl ?_
      refine V_icmp_ne (pc' := 698) (C := (nI n) = (nI 6)) 703 X dL_change_695 (by decide) rfl Iff.rfl (fun hz => absurd (congrArg nI r1) hz) (fun _ => ?_)
      refine V_bipush (pc' := 700) (nI 6) X dL_change_698 kb_6 rfl ?_
      refine V_goto (pc' := 707) X dL_change_700 (by decide) ?_
      refine V_icmp_ne (pc' := 710) (C := (nI (aM n + 1)) = (nI 6)) 714 X dL_change_707 (by decide) rfl Iff.rfl (fun hz => absurd (congrArg nI r2) hz) (fun _ => ?_)
      refine V_iconst (pc' := 711) (nI 1) X dL_change_710 ki_1 rfl ?_
      refine V_goto (pc' := 715) X dL_change_711 (by decide) ?_
      exact V_ireturn (v := nI 1) [w_12] hQ X hrt rfl dL_change_715 (Nat.le_of_ble_eq_true rfl) (Nat.le_of_ble_eq_true rfl) (List.Perm.refl _) ⟨rfl, _, _, _, _, w_12, hw_12.mono (by omega), rfl, rfl⟩
    · refine V_iload (pc' := 693) 4 X dL_change_691 rfl rfl ?_
      refine V_bipush (pc' := 695) (nI 6) X dL_change_693 kb_6 rfl ?_
      refine V_icmp_ne (pc' := 698) (C := n = 6) 703 X dL_change_695 (by decide) rfl (nI_eq (by omega) (by omega)) (fun _ => ?_) (fun hz => absurd hz (by omega))
      refine V_iload (pc' := 705) 4 X dL_change_703 rfl rfl ?_
      refine V_iconst (pc' := 706) (nI 1) X dL_change_705 ki_1 rfl ?_
      refine V_iadd (pc' := 707) (nI (n + 1)) X dL_change_706 (nI_add _ _) rfl ?_
      refine V_icmp_ne (pc' := 710) (C := (nI (aM n + 1)) = (nI (n + 1))) 714 X dL_change_707 (by decide) rfl Iff.rfl (fun hz => absurd (congrArg nI r2) hz) (fun _ => ?_)
      refine V_iconst (pc' := 711) (nI 1) X dL_change_710 ki_1 rfl ?_
      refine V_goto (pc' := 715) X dL_change_711 (by decide) ?_
      exact V_ireturn (v := nI 1) [w_12] hQ X hrt rfl dL_change_715 (Nat.le_of_ble_eq_true rfl) (Nat.le_of_ble_eq_true rfl) (List.Perm.refl _) ⟨rfl, _, _, _, _, w_12, hw_12.mono (by omega), rfl, rfl⟩

set_option maxHeartbeats 4000000 in
set_option maxRecDepth 100000 in
theorem c_L_change_3 (l : Launch) (G : gT) (x K : Nat) (S : Nat → Nat) (n : Nat) (T : Nat → Nat → Nat) (P : Nat → Option (Nat → Nat)) (w : va_W) (hw : OJ G x K S n T P w) (hK : K ≤ 90000) (a b : Int32) : CM l G yL_change wsL_change 6 165 4 [.ref x, .int (nI 3), .int a, .int b] [w] 7 77 (fun v u => v = some (.int (nI 1)) ∧ ∃ (S' : Nat → Nat) (n' : Nat) (T' : Nat → Nat → Nat) (P' : Nat → Option (Nat → Nat)) (w' : va_W), OJ G x (K + 400) S' n' T' P' w' ∧ P' 0 = P 0 ∧ u = [w']) := by
  refine CM_of RL 5 127 rfl rfl (by decide) (by decide +kernel) (Nat.le_of_ble_eq_true rfl) (fun E A X hrt hnm => ?_)
  generalize hQ : QM E G A _ _ _ = Q
  obtain ⟨i1, i2, i3, i4, i5, i6⟩ := hw.iv
  have j46 := hw.2.1.2.1
  have hn6 := hw.2.2.1
  have ha := lwN_lt a (n := 32) (by decide)
  have hp := i1 _ ha
  have hcl := cnt_le_pgs (S := S) ha
  show V E G A 19 [w] 0 0 Q 0 [(0, .ref x), (1, .int (nI 3)), (2, .int a), (3, .int b)] []
  refine V_aload_n (pc' := 1) 0 X dL_change_0 rfl rfl rfl ?_
  refine O_undoable (pc' := 4) (st := []) hw X gL_change_X5_undoable (Nat.le_of_ble_eq_true rfl) ⟨Nat.le_of_ble_eq_true rfl, Nat.le_of_ble_eq_true rfl⟩ ⟨Nat.le_of_ble_eq_true rfl, Nat.le_of_ble_eq_true rfl⟩ dL_change_1 rfl (fun w_1 hw_1 => ?_)
  refine V_istore (pc' := 6) [(0, .ref x), (1, .int (nI 3)), (2, .int a), (3, .int b), (4, .int (nI n))] [1, 2, 3, 4, 0] X dL_change_4 (Nat.le_of_ble_eq_true rfl) rfl rfl ?_
  refine V_aload_n (pc' := 7) 0 X dL_change_6 rfl rfl rfl ?_
  refine O_pegs (pc' := 10) (st := []) hw_1 X gL_change_X5_pegs (Nat.le_of_ble_eq_true rfl) ⟨Nat.le_of_ble_eq_true rfl, Nat.le_of_ble_eq_true rfl⟩ ⟨Nat.le_of_ble_eq_true rfl, Nat.le_of_ble_eq_true rfl⟩ dL_change_7 rfl (fun w_2 hw_2 => ?_)
  refine V_istore (pc' := 12) [(0, .ref x), (1, .int (nI 3)), (2, .int a), (3, .int b), (4, .int (nI n)), (5, .int (nI (pgs S)))] [1, 2, 3, 4, 5, 0] X dL_change_10 (Nat.le_of_ble_eq_true rfl) rfl rfl ?_
  refine V_iconst (pc' := 13) (nI 1) X dL_change_12 ki_1 rfl ?_
  refine V_istore (pc' := 15) [(0, .ref x), (1, .int (nI 3)), (2, .int a), (3, .int b), (4, .int (nI n)), (5, .int (nI (pgs S))), (6, .int (nI 1))] [1, 2, 3, 4, 5, 6, 0] X dL_change_13 (Nat.le_of_ble_eq_true rfl) rfl rfl ?_
  refine V_iload_n (pc' := 16) 1 X dL_change_15 rfl rfl rfl ?_
  refine V_tableIn (tgt := 193) (off := 177) X dL_change_16 (by decide +kernel) (by decide +kernel) (by decide +kernel) (by decide) ?_
  refine V_iload_n (pc' := 194) 2 X dL_change_193 rfl rfl rfl ?_
  refine V_bipush (pc' := 196) (nI 32) X dL_change_194 kb_32 rfl ?_
  refine V_callS (pc' := 199) (As := [.int a, .int (nI 32)]) (st := []) [] [0] (List.Perm.refl _) X (c_L_low l G a 32 (by decide) (by decide)) rfl gL_change_L_low rfl rfl (Nat.le_of_ble_eq_true rfl) ⟨Nat.le_of_ble_eq_true rfl, Nat.le_of_ble_eq_true rfl⟩ ⟨Nat.le_of_ble_eq_true rfl, Nat.le_of_ble_eq_true rfl⟩ dL_change_196 rfl (fun v_ u_ hp_ => ?_)
  obtain ⟨rfl, rfl⟩ := hp_
  show V E G A 19 [w_2] 0 0 Q 199 [(0, .ref x), (1, .int (nI 3)), (2, .int a), (3, .int b), (4, .int (nI n)), (5, .int (nI (pgs S))), (6, .int (nI 1))] [.int (nI (lwN a 32))]
  refine V_istore (pc' := 201) [(0, .ref x), (1, .int (nI 3)), (2, .int a), (3, .int b), (4, .int (nI n)), (5, .int (nI (pgs S))), (6, .int (nI 1)), (9, .int (nI (lwN a 32)))] [1, 2, 3, 4, 5, 6, 7, 0] X dL_change_199 (Nat.le_of_ble_eq_true rfl) rfl rfl ?_
  refine V_iload_n (pc' := 202) 3 X dL_change_201 rfl rfl rfl ?_
  refine V_iconst (pc' := 203) (nI 3) X dL_change_202 ki_3 rfl ?_
  refine V_iand (pc' := 204) ((b &&& (nI 3))) X dL_change_203 rfl rfl ?_
  refine V_if_ne (pc' := 207) (C := (b &&& (nI 3)) = 0) 219 X dL_change_204 (by decide) rfl Iff.rfl (fun h204 => ?_) (fun h204 => ?_)
  · refine V_iload_n (pc' := 220) 3 X dL_change_219 rfl rfl rfl ?_
    refine V_iconst (pc' := 221) (nI 2) X dL_change_220 ki_2 rfl ?_
    refine V_ishr (pc' := 222) ((b >>> ((nI 2) &&& 31))) X dL_change_221 rfl rfl ?_
    refine V_sipush (pc' := 225) (nI 1024) X dL_change_222 ks_1024 rfl ?_
    refine V_callS (pc' := 228) (As := [.int (b >>> ((nI 2) &&& 31)), .int (nI 1024)]) (st := []) [] [0] (List.Perm.refl _) X (c_L_low l G (b >>> ((nI 2) &&& 31)) 1024 (by decide) (by decide)) rfl gL_change_L_low rfl rfl (Nat.le_of_ble_eq_true rfl) ⟨Nat.le_of_ble_eq_true rfl, Nat.le_of_ble_eq_true rfl⟩ ⟨Nat.le_of_ble_eq_true rfl, Nat.le_of_ble_eq_true rfl⟩ dL_change_225 rfl (fun v_ u_ hp_ => ?_)
    obtain ⟨rfl, rfl⟩ := hp_
    show V E G A 19 [w_2] 0 0 Q 228 [(0, .ref x), (1, .int (nI 3)), (2, .int a), (3, .int b), (4, .int (nI n)), (5, .int (nI (pgs S))), (6, .int (nI 1)), (9, .int (nI (lwN a 32)))] [.int (nI (lwN (b >>> ((nI 2) &&& 31)) 1024))]
    refine V_iload_n (pc' := 229) 3 X dL_change_228 rfl rfl rfl ?_
    refine V_bipush (pc' := 231) (nI 7) X dL_change_229 kb_7 rfl ?_
    refine V_ishr (pc' := 232) ((b >>> ((nI 7) &&& 31))) X dL_change_231 rfl rfl ?_
    refine V_sipush (pc' := 235) (nI 1024) X dL_change_232 ks_1024 rfl ?_
    refine V_callS (pc' := 238) (As := [.int (b >>> ((nI 7) &&& 31)), .int (nI 1024)]) (st := [.int (nI (lwN (b >>> ((nI 2) &&& 31)) 1024))]) [] [0] (List.Perm.refl _) X (c_L_low l G (b >>> ((nI 7) &&& 31)) 1024 (by decide) (by decide)) rfl gL_change_L_low rfl rfl (Nat.le_of_ble_eq_true rfl) ⟨Nat.le_of_ble_eq_true rfl, Nat.le_of_ble_eq_true rfl⟩ ⟨Nat.le_of_ble_eq_true rfl, Nat.le_of_ble_eq_true rfl⟩ dL_change_235 rfl (fun v_ u_ hp_ => ?_)
    obtain ⟨rfl, rfl⟩ := hp_
    show V E G A 19 [w_2] 0 0 Q 238 [(0, .ref x), (1, .int (nI 3)), (2, .int a), (3, .int b), (4, .int (nI n)), (5, .int (nI (pgs S))), (6, .int (nI 1)), (9, .int (nI (lwN a 32)))] [.int (nI (lwN (b >>> ((nI 7) &&& 31)) 1024)), .int (nI (lwN (b >>> ((nI 2) &&& 31)) 1024))]
    refine V_iand (pc' := 239) (nI ((lwN (b >>> ((nI 2) &&& 31)) 1024) &&& (lwN (b >>> ((nI 7) &&& 31)) 1024))) X dL_change_238 (z_and _ _) rfl ?_
    obtain ⟨sv, hv, hsv⟩ : ∃ sv, sv < 1024 ∧ (lwN (b >>> ((nI 2) &&& 31)) 1024) &&& (lwN (b >>> ((nI 7) &&& 31)) 1024) = sv := ⟨_, (Nat.and_lt_two_pow (n := 10) _ (lwN_lt _ (by decide))), rfl⟩
    rw [hsv]
    have hup := pgs_up (S := S) (v := sv) ha
    show V E G A 19 [w_2] 0 0 Q 239 [(0, .ref x), (1, .int (nI 3)), (2, .int a), (3, .int b), (4, .int (nI n)), (5, .int (nI (pgs S))), (6, .int (nI 1)), (9, .int (nI (lwN a 32)))] [.int (nI sv)]
    refine V_istore (pc' := 241) [(0, .ref x), (1, .int (nI 3)), (2, .int a), (3, .int b), (4, .int (nI n)), (5, .int (nI (pgs S))), (6, .int (nI 1)), (9, .int (nI (lwN a 32))), (10, .int (nI sv))] [1, 2, 3, 4, 5, 6, 7, 8, 0] X dL_change_239 (Nat.le_of_ble_eq_true rfl) rfl rfl ?_
    refine V_aload_n (pc' := 242) 0 X dL_change_241 rfl rfl rfl ?_
    refine V_iload (pc' := 244) 7 X dL_change_242 rfl rfl ?_
    refine O_pegsIn (pc' := 247) (st := []) (lwN a 32) ha hw_2 X gL_change_X5_pegsIn (Nat.le_of_ble_eq_true rfl) ⟨Nat.le_of_ble_eq_true rfl, Nat.le_of_ble_eq_true rfl⟩ ⟨Nat.le_of_ble_eq_true rfl, Nat.le_of_ble_eq_true rfl⟩ dL_change_244 rfl (fun w_3 hw_3 => ?_)
    refine V_istore (pc' := 249) [(0, .ref x), (1, .int (nI 3)), (2, .int a), (3, .int b), (4, .int (nI n)), (5, .int (nI (pgs S))), (6, .int (nI 1)), (9, .int (nI (lwN a 32))), (10, .int (nI sv)), (11, .int (nI (S (lwN a 32))))] [1, 2, 3, 4, 5, 6, 7, 8, 9, 0] X dL_change_247 (Nat.le_of_ble_eq_true rfl) rfl rfl ?_
    refine V_aload_n (pc' := 250) 0 X dL_change_249 rfl rfl rfl ?_
    refine V_iload (pc' := 252) 7 X dL_change_250 rfl rfl ?_
    refine V_iload (pc' := 254) 8 X dL_change_252 rfl rfl ?_
    refine O_setColumn (pc' := 257) (st := []) (lwN a 32) sv ha hv hw_3 X gL_change_X5_setColumn (Nat.le_of_ble_eq_true rfl) ⟨Nat.le_of_ble_eq_true rfl, Nat.le_of_ble_eq_true rfl⟩ ⟨Nat.le_of_ble_eq_true rfl, Nat.le_of_ble_eq_true rfl⟩ dL_change_254 rfl (fun w_4 hw_4 => ?_)
    refine V_iload (pc' := 259) 9 X dL_change_257 rfl rfl ?_
    refine V_iload (pc' := 261) 8 X dL_change_259 rfl rfl ?_
    refine V_ixor (pc' := 262) (nI ((S (lwN a 32)) ^^^ sv)) X dL_change_261 (z_xor _ _) rfl ?_
    refine V_callS (pc' := 265) (As := [.int (nI ((S (lwN a 32)) ^^^ sv))]) (st := [.int (nI (sm (fun k => cnt (va_up S (lwN a 32) sv k ^^^ S k)) 32))]) [] [0] (List.Perm.refl _) X (c_L_count l G ((S (lwN a 32)) ^^^ sv) (Nat.lt_trans (Nat.xor_lt_two_pow (n := 10) hp hv) (by decide))) rfl gL_change_L_count rfl rfl (Nat.le_of_ble_eq_true rfl) ⟨Nat.le_of_ble_eq_true rfl, Nat.le_of_ble_eq_true rfl⟩ ⟨Nat.le_of_ble_eq_true rfl, Nat.le_of_ble_eq_true rfl⟩ dL_change_262 rfl (fun v_ u_ hp_ => ?_)
    obtain ⟨rfl, rfl⟩ := hp_
    show V E G A 19 [w_4] 0 0 Q 265 [(0, .ref x), (1, .int (nI 3)), (2, .int a), (3, .int b), (4, .int (nI n)), (5, .int (nI (pgs S))), (6, .int (nI 1)), (9, .int (nI (lwN a 32))), (10, .int (nI sv)), (11, .int (nI (S (lwN a 32))))] [.int (nI (cnt ((S (lwN a 32)) ^^^ sv))), .int (nI (sm (fun k => cnt (va_up S (lwN a 32) sv k ^^^ S k)) 32))]
    refine V_icmp_ne (pc' := 268) (C := (nI (sm (fun k => cnt (va_up S (lwN a 32) sv k ^^^ S k)) 32)) = (nI (cnt ((S (lwN a 32)) ^^^ sv)))) 304 X dL_change_265 (by decide) rfl Iff.rfl (fun hz => absurd (congrArg nI (set_val ha)) hz) (fun _ => ?_)
    refine V_aload_n (pc' := 269) 0 X dL_change_268 rfl rfl rfl ?_
    refine V_iload (pc' := 271) 7 X dL_change_269 rfl rfl ?_
    refine O_pegsIn (pc' := 274) (st := []) (lwN a 32) ha hw_4 X gL_change_X5_pegsIn (Nat.le_of_ble_eq_true rfl) ⟨Nat.le_of_ble_eq_true rfl, Nat.le_of_ble_eq_true rfl⟩ ⟨Nat.le_of_ble_eq_true rfl, Nat.le_of_ble_eq_true rfl⟩ dL_change_271 rfl (fun w_5 hw_5 => ?_)
    refine V_iload (pc' := 276) 8 X dL_change_274 rfl rfl ?_
    refine V_icmp_ne (pc' := 279) (C := (nI ((va_up S (lwN a 32) sv) (lwN a 32))) = (nI sv)) 304 X dL_change_276 (by decide) rfl Iff.rfl (fun hz => absurd (congrArg nI (va_up_self _ _ _)) hz) (fun _ => ?_)
    refine V_aload_n (pc' := 280) 0 X dL_change_279 rfl rfl rfl ?_
    refine O_pegs (pc' := 283) (st := []) hw_5 X gL_change_X5_pegs (Nat.le_of_ble_eq_true rfl) ⟨Nat.le_of_ble_eq_true rfl, Nat.le_of_ble_eq_true rfl⟩ ⟨Nat.le_of_ble_eq_true rfl, Nat.le_of_ble_eq_true rfl⟩ dL_change_280 rfl (fun w_6 hw_6 => ?_)
    refine V_iload (pc' := 285) 5 X dL_change_283 rfl rfl ?_
    refine V_iload (pc' := 287) 9 X dL_change_285 rfl rfl ?_
    refine V_callS (pc' := 290) (As := [.int (nI (S (lwN a 32)))]) (st := [.int (nI (pgs S)), .int (nI (pgs (va_up S (lwN a 32) sv)))]) [] [0] (List.Perm.refl _) X (c_L_count l G (S (lwN a 32)) (by omega)) rfl gL_change_L_count rfl rfl (Nat.le_of_ble_eq_true rfl) ⟨Nat.le_of_ble_eq_true rfl, Nat.le_of_ble_eq_true rfl⟩ ⟨Nat.le_of_ble_eq_true rfl, Nat.le_of_ble_eq_true rfl⟩ dL_change_287 rfl (fun v_ u_ hp_ => ?_)
    obtain ⟨rfl, rfl⟩ := hp_
    show V E G A 19 [w_6] 0 0 Q 290 [(0, .ref x), (1, .int (nI 3)), (2, .int a), (3, .int b), (4, .int (nI n)), (5, .int (nI (pgs S))), (6, .int (nI 1)), (9, .int (nI (lwN a 32))), (10, .int (nI sv)), (11, .int (nI (S (lwN a 32))))] [.int (nI (cnt (S (lwN a 32)))), .int (nI (pgs S)), .int (nI (pgs (va_up S (lwN a 32) sv)))]
    refine V_isub (pc' := 291) (nI ((pgs S) - (cnt (S (lwN a 32))))) X dL_change_290 (pk_sub hcl) rfl ?_
    refine V_iload (pc' := 293) 8 X dL_change_291 rfl rfl ?_
    refine V_callS (pc' := 296) (As := [.int (nI sv)]) (st := [.int (nI ((pgs S) - (cnt (S (lwN a 32))))), .int (nI (pgs (va_up S (lwN a 32) sv)))]) [] [0] (List.Perm.refl _) X (c_L_count l G sv (by omega)) rfl gL_change_L_count rfl rfl (Nat.le_of_ble_eq_true rfl) ⟨Nat.le_of_ble_eq_true rfl, Nat.le_of_ble_eq_true rfl⟩ ⟨Nat.le_of_ble_eq_true rfl, Nat.le_of_ble_eq_true rfl⟩ dL_change_293 rfl (fun v_ u_ hp_ => ?_)
    obtain ⟨rfl, rfl⟩ := hp_
    show V E G A 19 [w_6] 0 0 Q 296 [(0, .ref x), (1, .int (nI 3)), (2, .int a), (3, .int b), (4, .int (nI n)), (5, .int (nI (pgs S))), (6, .int (nI 1)), (9, .int (nI (lwN a 32))), (10, .int (nI sv)), (11, .int (nI (S (lwN a 32))))] [.int (nI (cnt sv)), .int (nI ((pgs S) - (cnt (S (lwN a 32))))), .int (nI (pgs (va_up S (lwN a 32) sv)))]
    refine V_iadd (pc' := 297) (nI (((pgs S) - (cnt (S (lwN a 32)))) + (cnt sv))) X dL_change_296 (nI_add _ _) rfl ?_
    refine V_icmp_ne (pc' := 300) (C := (nI (pgs (va_up S (lwN a 32) sv))) = (nI (((pgs S) - (cnt (S (lwN a 32)))) + (cnt sv)))) 304 X dL_change_297 (by decide) rfl Iff.rfl (fun hz => absurd (congrArg nI (by omega)) hz) (fun _ => ?_)
    refine V_iconst (pc' := 301) (nI 1) X dL_change_300 ki_1 rfl ?_
    refine V_goto (pc' := 305) X dL_change_301 (by decide) ?_
    refine V_istore (pc' := 307) [(0, .ref x), (1, .int (nI 3)), (2, .int a), (3, .int b), (4, .int (nI n)), (5, .int (nI (pgs S))), (6, .int (nI 1)), (9, .int (nI (lwN a 32))), (10, .int (nI sv)), (11, .int (nI (S (lwN a 32))))] [1, 2, 3, 4, 5, 6, 0, 7, 8, 9] X dL_change_305 (Nat.le_of_ble_eq_true rfl) rfl rfl ?_
    refine V_goto (pc' := 682) X dL_change_307 (by decide) ?_
    refine V_iload (pc' := 684) 6 X dL_change_682 rfl rfl ?_
    refine V_if_eq (pc' := 687) (C := 1 = 0) 714 X dL_change_684 (by decide) rfl (z_eq0 (by omega)) (fun hz => absurd hz (by decide)) (fun _ => ?_)
    refine V_aload_n (pc' := 688) 0 X dL_change_687 rfl rfl rfl ?_
    refine O_undoable (pc' := 691) (st := []) hw_6 X gL_change_X5_undoable (Nat.le_of_ble_eq_true rfl) ⟨Nat.le_of_ble_eq_true rfl, Nat.le_of_ble_eq_true rfl⟩ ⟨Nat.le_of_ble_eq_true rfl, Nat.le_of_ble_eq_true rfl⟩ dL_change_688 rfl (fun w_7 hw_7 => ?_)
    rcases aM_cases hn6 with ⟨r1, r2⟩ | ⟨r1, r2⟩
    · refine V_iload (pc' := 693) 4 X dL_change_691 rfl rfl ?_
      refine V_bipush (pc' := 695) (nI 6) X dL_change_693 kb_6 rfl ?_
      refine V_icmp_ne (pc' := 698) (C := (nI n) = (nI 6)) 703 X dL_change_695 (by decide) rfl Iff.rfl (fun hz => absurd (congrArg nI r1) hz) (fun _ => ?_)
      refine V_bipush (pc' := 700) (nI 6) X dL_change_698 kb_6 rfl ?_
      refine V_goto (pc' := 707) X dL_change_700 (by decide) ?_
      refine V_icmp_ne (pc' := 710) (C := (nI (aM n + 1)) = (nI 6)) 714 X dL_change_707 (by decide) rfl Iff.rfl (fun hz => absurd (congrArg nI r2) hz) (fun _ => ?_)
      refine V_iconst (pc' := 711) (nI 1) X dL_change_710 ki_1 rfl ?_
      refine V_goto (pc' := 715) X dL_change_711 (by decide) ?_
      exact V_ireturn (v := nI 1) [w_7] hQ X hrt rfl dL_change_715 (Nat.le_of_ble_eq_true rfl) (Nat.le_of_ble_eq_true rfl) (List.Perm.refl _) ⟨rfl, _, _, _, _, w_7, hw_7.mono (by omega), rfl, rfl⟩
    · refine V_iload (pc' := 693) 4 X dL_change_691 rfl rfl ?_
      refine V_bipush (pc' := 695) (nI 6) X dL_change_693 kb_6 rfl ?_
      refine V_icmp_ne (pc' := 698) (C := n = 6) 703 X dL_change_695 (by decide) rfl (nI_eq (by omega) (by omega)) (fun _ => ?_) (fun hz => absurd hz (by omega))
      refine V_iload (pc' := 705) 4 X dL_change_703 rfl rfl ?_
      refine V_iconst (pc' := 706) (nI 1) X dL_change_705 ki_1 rfl ?_
      refine V_iadd (pc' := 707) (nI (n + 1)) X dL_change_706 (nI_add _ _) rfl ?_
      refine V_icmp_ne (pc' := 710) (C := (nI (aM n + 1)) = (nI (n + 1))) 714 X dL_change_707 (by decide) rfl Iff.rfl (fun hz => absurd (congrArg nI r2) hz) (fun _ => ?_)
      refine V_iconst (pc' := 711) (nI 1) X dL_change_710 ki_1 rfl ?_
      refine V_goto (pc' := 715) X dL_change_711 (by decide) ?_
      exact V_ireturn (v := nI 1) [w_7] hQ X hrt rfl dL_change_715 (Nat.le_of_ble_eq_true rfl) (Nat.le_of_ble_eq_true rfl) (List.Perm.refl _) ⟨rfl, _, _, _, _, w_7, hw_7.mono (by omega), rfl, rfl⟩
  · refine V_iload_n (pc' := 208) 3 X dL_change_207 rfl rfl rfl ?_
    refine V_iconst (pc' := 209) (nI 2) X dL_change_208 ki_2 rfl ?_
    refine V_ishr (pc' := 210) ((b >>> ((nI 2) &&& 31))) X dL_change_209 rfl rfl ?_
    refine V_sipush (pc' := 213) (nI 1024) X dL_change_210 ks_1024 rfl ?_
    refine V_callS (pc' := 216) (As := [.int (b >>> ((nI 2) &&& 31)), .int (nI 1024)]) (st := []) [] [0] (List.Perm.refl _) X (c_L_low l G (b >>> ((nI 2) &&& 31)) 1024 (by decide) (by decide)) rfl gL_change_L_low rfl rfl (Nat.le_of_ble_eq_true rfl) ⟨Nat.le_of_ble_eq_true rfl, Nat.le_of_ble_eq_true rfl⟩ ⟨Nat.le_of_ble_eq_true rfl, Nat.le_of_ble_eq_true rfl⟩ dL_change_213 rfl (fun v_ u_ hp_ => ?_)
    obtain ⟨rfl, rfl⟩ := hp_
    show V E G A 19 [w_2] 0 0 Q 216 [(0, .ref x), (1, .int (nI 3)), (2, .int a), (3, .int b), (4, .int (nI n)), (5, .int (nI (pgs S))), (6, .int (nI 1)), (9, .int (nI (lwN a 32)))] [.int (nI (lwN (b >>> ((nI 2) &&& 31)) 1024))]
    refine V_goto (pc' := 239) X dL_change_216 (by decide) ?_
    obtain ⟨sv, hv, hsv⟩ : ∃ sv, sv < 1024 ∧ lwN (b >>> ((nI 2) &&& 31)) 1024 = sv := ⟨_, (lwN_lt _ (by decide)), rfl⟩
    rw [hsv]
    have hup := pgs_up (S := S) (v := sv) ha
    show V E G A 19 [w_2] 0 0 Q 239 [(0, .ref x), (1, .int (nI 3)), (2, .int a), (3, .int b), (4, .int (nI n)), (5, .int (nI (pgs S))), (6, .int (nI 1)), (9, .int (nI (lwN a 32)))] [.int (nI sv)]
    refine V_istore (pc' := 241) [(0, .ref x), (1, .int (nI 3)), (2, .int a), (3, .int b), (4, .int (nI n)), (5, .int (nI (pgs S))), (6, .int (nI 1)), (9, .int (nI (lwN a 32))), (10, .int (nI sv))] [1, 2, 3, 4, 5, 6, 7, 8, 0] X dL_change_239 (Nat.le_of_ble_eq_true rfl) rfl rfl ?_
    refine V_aload_n (pc' := 242) 0 X dL_change_241 rfl rfl rfl ?_
    refine V_iload (pc' := 244) 7 X dL_change_242 rfl rfl ?_
    refine O_pegsIn (pc' := 247) (st := []) (lwN a 32) ha hw_2 X gL_change_X5_pegsIn (Nat.le_of_ble_eq_true rfl) ⟨Nat.le_of_ble_eq_true rfl, Nat.le_of_ble_eq_true rfl⟩ ⟨Nat.le_of_ble_eq_true rfl, Nat.le_of_ble_eq_true rfl⟩ dL_change_244 rfl (fun w_8 hw_8 => ?_)
    refine V_istore (pc' := 249) [(0, .ref x), (1, .int (nI 3)), (2, .int a), (3, .int b), (4, .int (nI n)), (5, .int (nI (pgs S))), (6, .int (nI 1)), (9, .int (nI (lwN a 32))), (10, .int (nI sv)), (11, .int (nI (S (lwN a 32))))] [1, 2, 3, 4, 5, 6, 7, 8, 9, 0] X dL_change_247 (Nat.le_of_ble_eq_true rfl) rfl rfl ?_
    refine V_aload_n (pc' := 250) 0 X dL_change_249 rfl rfl rfl ?_
    refine V_iload (pc' := 252) 7 X dL_change_250 rfl rfl ?_
    refine V_iload (pc' := 254) 8 X dL_change_252 rfl rfl ?_
    refine O_setColumn (pc' := 257) (st := []) (lwN a 32) sv ha hv hw_8 X gL_change_X5_setColumn (Nat.le_of_ble_eq_true rfl) ⟨Nat.le_of_ble_eq_true rfl, Nat.le_of_ble_eq_true rfl⟩ ⟨Nat.le_of_ble_eq_true rfl, Nat.le_of_ble_eq_true rfl⟩ dL_change_254 rfl (fun w_9 hw_9 => ?_)
    refine V_iload (pc' := 259) 9 X dL_change_257 rfl rfl ?_
    refine V_iload (pc' := 261) 8 X dL_change_259 rfl rfl ?_
    refine V_ixor (pc' := 262) (nI ((S (lwN a 32)) ^^^ sv)) X dL_change_261 (z_xor _ _) rfl ?_
    refine V_callS (pc' := 265) (As := [.int (nI ((S (lwN a 32)) ^^^ sv))]) (st := [.int (nI (sm (fun k => cnt (va_up S (lwN a 32) sv k ^^^ S k)) 32))]) [] [0] (List.Perm.refl _) X (c_L_count l G ((S (lwN a 32)) ^^^ sv) (Nat.lt_trans (Nat.xor_lt_two_pow (n := 10) hp hv) (by decide))) rfl gL_change_L_count rfl rfl (Nat.le_of_ble_eq_true rfl) ⟨Nat.le_of_ble_eq_true rfl, Nat.le_of_ble_eq_true rfl⟩ ⟨Nat.le_of_ble_eq_true rfl, Nat.le_of_ble_eq_true rfl⟩ dL_change_262 rfl (fun v_ u_ hp_ => ?_)
    obtain ⟨rfl, rfl⟩ := hp_
    show V E G A 19 [w_9] 0 0 Q 265 [(0, .ref x), (1, .int (nI 3)), (2, .int a), (3, .int b), (4, .int (nI n)), (5, .int (nI (pgs S))), (6, .int (nI 1)), (9, .int (nI (lwN a 32))), (10, .int (nI sv)), (11, .int (nI (S (lwN a 32))))] [.int (nI (cnt ((S (lwN a 32)) ^^^ sv))), .int (nI (sm (fun k => cnt (va_up S (lwN a 32) sv k ^^^ S k)) 32))]
    refine V_icmp_ne (pc' := 268) (C := (nI (sm (fun k => cnt (va_up S (lwN a 32) sv k ^^^ S k)) 32)) = (nI (cnt ((S (lwN a 32)) ^^^ sv)))) 304 X dL_change_265 (by decide) rfl Iff.rfl (fun hz => absurd (congrArg nI (set_val ha)) hz) (fun _ => ?_)
    refine V_aload_n (pc' := 269) 0 X dL_change_268 rfl rfl rfl ?_
    refine V_iload (pc' := 271) 7 X dL_change_269 rfl rfl ?_
    refine O_pegsIn (pc' := 274) (st := []) (lwN a 32) ha hw_9 X gL_change_X5_pegsIn (Nat.le_of_ble_eq_true rfl) ⟨Nat.le_of_ble_eq_true rfl, Nat.le_of_ble_eq_true rfl⟩ ⟨Nat.le_of_ble_eq_true rfl, Nat.le_of_ble_eq_true rfl⟩ dL_change_271 rfl (fun w_10 hw_10 => ?_)
    refine V_iload (pc' := 276) 8 X dL_change_274 rfl rfl ?_
    refine V_icmp_ne (pc' := 279) (C := (nI ((va_up S (lwN a 32) sv) (lwN a 32))) = (nI sv)) 304 X dL_change_276 (by decide) rfl Iff.rfl (fun hz => absurd (congrArg nI (va_up_self _ _ _)) hz) (fun _ => ?_)
    refine V_aload_n (pc' := 280) 0 X dL_change_279 rfl rfl rfl ?_
    refine O_pegs (pc' := 283) (st := []) hw_10 X gL_change_X5_pegs (Nat.le_of_ble_eq_true rfl) ⟨Nat.le_of_ble_eq_true rfl, Nat.le_of_ble_eq_true rfl⟩ ⟨Nat.le_of_ble_eq_true rfl, Nat.le_of_ble_eq_true rfl⟩ dL_change_280 rfl (fun w_11 hw_11 => ?_)
    refine V_iload (pc' := 285) 5 X dL_change_283 rfl rfl ?_
    refine V_iload (pc' := 287) 9 X dL_change_285 rfl rfl ?_
    refine V_callS (pc' := 290) (As := [.int (nI (S (lwN a 32)))]) (st := [.int (nI (pgs S)), .int (nI (pgs (va_up S (lwN a 32) sv)))]) [] [0] (List.Perm.refl _) X (c_L_count l G (S (lwN a 32)) (by omega)) rfl gL_change_L_count rfl rfl (Nat.le_of_ble_eq_true rfl) ⟨Nat.le_of_ble_eq_true rfl, Nat.le_of_ble_eq_true rfl⟩ ⟨Nat.le_of_ble_eq_true rfl, Nat.le_of_ble_eq_true rfl⟩ dL_change_287 rfl (fun v_ u_ hp_ => ?_)
    obtain ⟨rfl, rfl⟩ := hp_
    show V E G A 19 [w_11] 0 0 Q 290 [(0, .ref x), (1, .int (nI 3)), (2, .int a), (3, .int b), (4, .int (nI n)), (5, .int (nI (pgs S))), (6, .int (nI 1)), (9, .int (nI (lwN a 32))), (10, .int (nI sv)), (11, .int (nI (S (lwN a 32))))] [.int (nI (cnt (S (lwN a 32)))), .int (nI (pgs S)), .int (nI (pgs (va_up S (lwN a 32) sv)))]
    refine V_isub (pc' := 291) (nI ((pgs S) - (cnt (S (lwN a 32))))) X dL_change_290 (pk_sub hcl) rfl ?_
    refine V_iload (pc' := 293) 8 X dL_change_291 rfl rfl ?_
    refine V_callS (pc' := 296) (As := [.int (nI sv)]) (st := [.int (nI ((pgs S) - (cnt (S (lwN a 32))))), .int (nI (pgs (va_up S (lwN a 32) sv)))]) [] [0] (List.Perm.refl _) X (c_L_count l G sv (by omega)) rfl gL_change_L_count rfl rfl (Nat.le_of_ble_eq_true rfl) ⟨Nat.le_of_ble_eq_true rfl, Nat.le_of_ble_eq_true rfl⟩ ⟨Nat.le_of_ble_eq_true rfl, Nat.le_of_ble_eq_true rfl⟩ dL_change_293 rfl (fun v_ u_ hp_ => ?_)
    obtain ⟨rfl, rfl⟩ := hp_
    show V E G A 19 [w_11] 0 0 Q 296 [(0, .ref x), (1, .int (nI 3)), (2, .int a), (3, .int b), (4, .int (nI n)), (5, .int (nI (pgs S))), (6, .int (nI 1)), (9, .int (nI (lwN a 32))), (10, .int (nI sv)), (11, .int (nI (S (lwN a 32))))] [.int (nI (cnt sv)), .int (nI ((pgs S) - (cnt (S (lwN a 32))))), .int (nI (pgs (va_up S (lwN a 32) sv)))]
    refine V_iadd (pc' := 297) (nI (((pgs S) - (cnt (S (lwN a 32)))) + (cnt sv))) X dL_change_296 (nI_add _ _) rfl ?_
    refine V_icmp_ne (pc' := 300) (C := (nI (pgs (va_up S (lwN a 32) sv))) = (nI (((pgs S) - (cnt (S (lwN a 32)))) + (cnt sv)))) 304 X dL_change_297 (by decide) rfl Iff.rfl (fun hz => absurd (congrArg nI (by omega)) hz) (fun _ => ?_)
    refine V_iconst (pc' := 301) (nI 1) X dL_change_300 ki_1 rfl ?_
    refine V_goto (pc' := 305) X dL_change_301 (by decide) ?_
    refine V_istore (pc' := 307) [(0, .ref x), (1, .int (nI 3)), (2, .int a), (3, .int b), (4, .int (nI n)), (5, .int (nI (pgs S))), (6, .int (nI 1)), (9, .int (nI (lwN a 32))), (10, .int (nI sv)), (11, .int (nI (S (lwN a 32))))] [1, 2, 3, 4, 5, 6, 0, 7, 8, 9] X dL_change_305 (Nat.le_of_ble_eq_true rfl) rfl rfl ?_
    refine V_goto (pc' := 682) X dL_change_307 (by decide) ?_
    refine V_iload (pc' := 684) 6 X dL_change_682 rfl rfl ?_
    refine V_if_eq (pc' := 687) (C := 1 = 0) 714 X dL_change_684 (by decide) rfl (z_eq0 (by omega)) (fun hz => absurd hz (by decide)) (fun _ => ?_)
    refine V_aload_n (pc' := 688) 0 X dL_change_687 rfl rfl rfl ?_
    refine O_undoable (pc' := 691) (st := []) hw_11 X gL_change_X5_undoable (Nat.le_of_ble_eq_true rfl) ⟨Nat.le_of_ble_eq_true rfl, Nat.le_of_ble_eq_true rfl⟩ ⟨Nat.le_of_ble_eq_true rfl, Nat.le_of_ble_eq_true rfl⟩ dL_change_688 rfl (fun w_12 hw_12 => ?_)
    rcases aM_cases hn6 with ⟨r1, r2⟩ | ⟨r1, r2⟩
    · refine V_iload (pc' := 693) 4 X dL_change_691 rfl rfl ?_
      refine V_bipush (pc' := 695) (nI 6) X dL_change_693 kb_6 rfl ?_
      refine V_icmp_ne (pc' := 698) (C := (nI n) = (nI 6)) 703 X dL_change_695 (by decide) rfl Iff.rfl (fun hz => absurd (congrArg nI r1) hz) (fun _ => ?_)
      refine V_bipush (pc' := 700) (nI 6) X dL_change_698 kb_6 rfl ?_
      refine V_goto (pc' := 707) X dL_change_700 (by decide) ?_
      refine V_icmp_ne (pc' := 710) (C := (nI (aM n + 1)) = (nI 6)) 714 X dL_change_707 (by decide) rfl Iff.rfl (fun hz => absurd (congrArg nI r2) hz) (fun _ => ?_)
      refine V_iconst (pc' := 711) (nI 1) X dL_change_710 ki_1 rfl ?_
      refine V_goto (pc' := 715) X dL_change_711 (by decide) ?_
      exact V_ireturn (v := nI 1) [w_12] hQ X hrt rfl dL_change_715 (Nat.le_of_ble_eq_true rfl) (Nat.le_of_ble_eq_true rfl) (List.Perm.refl _) ⟨rfl, _, _, _, _, w_12, hw_12.mono (by omega), rfl, rfl⟩
    · refine V_iload (pc' := 693) 4 X dL_change_691 rfl rfl ?_
      refine V_bipush (pc' := 695) (nI 6) X dL_change_693 kb_6 rfl ?_
      refine V_icmp_ne (pc' := 698) (C := n = 6) 703 X dL_change_695 (by decide) rfl (nI_eq (by omega) (by omega)) (fun _ => ?_) (fun hz => absurd hz (by omega))
      refine V_iload (pc' := 705) 4 X dL_change_703 rfl rfl ?_
      refine V_iconst (pc' := 706) (nI 1) X dL_change_705 ki_1 rfl ?_
      refine V_iadd (pc' := 707) (nI (n + 1)) X dL_change_706 (nI_add _ _) rfl ?_
      refine V_icmp_ne (pc' := 710) (C := (nI (aM n + 1)) = (nI (n + 1))) 714 X dL_change_707 (by decide) rfl Iff.rfl (fun hz => absurd (congrArg nI r2) hz) (fun _ => ?_)
      refine V_iconst (pc' := 711) (nI 1) X dL_change_710 ki_1 rfl ?_
      refine V_goto (pc' := 715) X dL_change_711 (by decide) ?_
      exact V_ireturn (v := nI 1) [w_12] hQ X hrt rfl dL_change_715 (Nat.le_of_ble_eq_true rfl) (Nat.le_of_ble_eq_true rfl) (List.Perm.refl _) ⟨rfl, _, _, _, _, w_12, hw_12.mono (by omega), rfl, rfl⟩

set_option maxHeartbeats 4000000 in
set_option maxRecDepth 100000 in
theorem c_L_change_4 (l : Launch) (G : gT) (x K : Nat) (S : Nat → Nat) (n : Nat) (T : Nat → Nat → Nat) (P : Nat → Option (Nat → Nat)) (w : va_W) (hw : OJ G x K S n T P w) (hK : K ≤ 90000) (a b : Int32) : CM l G yL_change wsL_change 6 165 4 [.ref x, .int (nI 4), .int a, .int b] [w] 7 77 (fun v u => v = some (.int (nI 1)) ∧ ∃ (S' : Nat → Nat) (n' : Nat) (T' : Nat → Nat → Nat) (P' : Nat → Option (Nat → Nat)) (w' : va_W), OJ G x (K + 400) S' n' T' P' w' ∧ P' 0 = P 0 ∧ u = [w']) := by
  refine CM_of RL 5 127 rfl rfl (by decide) (by decide +kernel) (Nat.le_of_ble_eq_true rfl) (fun E A X hrt hnm => ?_)
  generalize hQ : QM E G A _ _ _ = Q
  obtain ⟨i1, i2, i3, i4, i5, i6⟩ := hw.iv
  have j46 := hw.2.1.2.1
  have hn6 := hw.2.2.1
  have ha := lwN_lt a (n := 4) (by decide)
  have hb := lwN_lt b (n := 9) (by decide)
  show V E G A 19 [w] 0 0 Q 0 [(0, .ref x), (1, .int (nI 4)), (2, .int a), (3, .int b)] []
  refine V_aload_n (pc' := 1) 0 X dL_change_0 rfl rfl rfl ?_
  refine O_undoable (pc' := 4) (st := []) hw X gL_change_X5_undoable (Nat.le_of_ble_eq_true rfl) ⟨Nat.le_of_ble_eq_true rfl, Nat.le_of_ble_eq_true rfl⟩ ⟨Nat.le_of_ble_eq_true rfl, Nat.le_of_ble_eq_true rfl⟩ dL_change_1 rfl (fun w_1 hw_1 => ?_)
  refine V_istore (pc' := 6) [(0, .ref x), (1, .int (nI 4)), (2, .int a), (3, .int b), (4, .int (nI n))] [1, 2, 3, 4, 0] X dL_change_4 (Nat.le_of_ble_eq_true rfl) rfl rfl ?_
  refine V_aload_n (pc' := 7) 0 X dL_change_6 rfl rfl rfl ?_
  refine O_pegs (pc' := 10) (st := []) hw_1 X gL_change_X5_pegs (Nat.le_of_ble_eq_true rfl) ⟨Nat.le_of_ble_eq_true rfl, Nat.le_of_ble_eq_true rfl⟩ ⟨Nat.le_of_ble_eq_true rfl, Nat.le_of_ble_eq_true rfl⟩ dL_change_7 rfl (fun w_2 hw_2 => ?_)
  refine V_istore (pc' := 12) [(0, .ref x), (1, .int (nI 4)), (2, .int a), (3, .int b), (4, .int (nI n)), (5, .int (nI (pgs S)))] [1, 2, 3, 4, 5, 0] X dL_change_10 (Nat.le_of_ble_eq_true rfl) rfl rfl ?_
  refine V_iconst (pc' := 13) (nI 1) X dL_change_12 ki_1 rfl ?_
  refine V_istore (pc' := 15) [(0, .ref x), (1, .int (nI 4)), (2, .int a), (3, .int b), (4, .int (nI n)), (5, .int (nI (pgs S))), (6, .int (nI 1))] [1, 2, 3, 4, 5, 6, 0] X dL_change_13 (Nat.le_of_ble_eq_true rfl) rfl rfl ?_
  refine V_iload_n (pc' := 16) 1 X dL_change_15 rfl rfl rfl ?_
  refine V_tableIn (tgt := 310) (off := 294) X dL_change_16 (by decide +kernel) (by decide +kernel) (by decide +kernel) (by decide) ?_
  refine V_aload_n (pc' := 311) 0 X dL_change_310 rfl rfl rfl ?_
  refine V_iload_n (pc' := 312) 2 X dL_change_311 rfl rfl rfl ?_
  refine V_iconst (pc' := 313) (nI 4) X dL_change_312 ki_4 rfl ?_
  refine V_callS (pc' := 316) (As := [.int a, .int (nI 4)]) (st := [.ref x]) [] [0] (List.Perm.refl _) X (c_L_low l G a 4 (by decide) (by decide)) rfl gL_change_L_low rfl rfl (Nat.le_of_ble_eq_true rfl) ⟨Nat.le_of_ble_eq_true rfl, Nat.le_of_ble_eq_true rfl⟩ ⟨Nat.le_of_ble_eq_true rfl, Nat.le_of_ble_eq_true rfl⟩ dL_change_313 rfl (fun v_ u_ hp_ => ?_)
  obtain ⟨rfl, rfl⟩ := hp_
  show V E G A 19 [w_2] 0 0 Q 316 [(0, .ref x), (1, .int (nI 4)), (2, .int a), (3, .int b), (4, .int (nI n)), (5, .int (nI (pgs S))), (6, .int (nI 1))] [.int (nI (lwN a 4)), .ref x]
  refine O_tempoOf (pc' := 319) (st := []) (lwN a 4) ha hw_2 X gL_change_X5_tempoOf (Nat.le_of_ble_eq_true rfl) ⟨Nat.le_of_ble_eq_true rfl, Nat.le_of_ble_eq_true rfl⟩ ⟨Nat.le_of_ble_eq_true rfl, Nat.le_of_ble_eq_true rfl⟩ dL_change_316 rfl (fun w_3 hw_3 => ?_)
  refine V_istore (pc' := 321) [(0, .ref x), (1, .int (nI 4)), (2, .int a), (3, .int b), (4, .int (nI n)), (5, .int (nI (pgs S))), (6, .int (nI 1)), (12, .int (nI (S (32 + (lwN a 4)))))] [1, 2, 3, 4, 5, 6, 7, 0] X dL_change_319 (Nat.le_of_ble_eq_true rfl) rfl rfl ?_
  refine V_aload_n (pc' := 322) 0 X dL_change_321 rfl rfl rfl ?_
  refine V_iconst (pc' := 323) (nI 1) X dL_change_322 ki_1 rfl ?_
  refine O_ticksOfRound (pc' := 326) (st := []) 1 (by decide) hw_3 X gL_change_X5_ticksOfRound (Nat.le_of_ble_eq_true rfl) ⟨Nat.le_of_ble_eq_true rfl, Nat.le_of_ble_eq_true rfl⟩ ⟨Nat.le_of_ble_eq_true rfl, Nat.le_of_ble_eq_true rfl⟩ dL_change_323 rfl (fun w_4 hw_4 => ?_)
  refine V_istore (pc' := 328) [(0, .ref x), (1, .int (nI 4)), (2, .int a), (3, .int b), (4, .int (nI n)), (5, .int (nI (pgs S))), (6, .int (nI 1)), (12, .int (nI (S (32 + (lwN a 4))))), (13, .int (nI (tks S)))] [1, 2, 3, 4, 5, 6, 7, 8, 0] X dL_change_326 (Nat.le_of_ble_eq_true rfl) rfl rfl ?_
  refine V_aload_n (pc' := 329) 0 X dL_change_328 rfl rfl rfl ?_
  refine V_iload_n (pc' := 330) 2 X dL_change_329 rfl rfl rfl ?_
  refine V_iconst (pc' := 331) (nI 4) X dL_change_330 ki_4 rfl ?_
  refine V_callS (pc' := 334) (As := [.int a, .int (nI 4)]) (st := [.ref x]) [] [0] (List.Perm.refl _) X (c_L_low l G a 4 (by decide) (by decide)) rfl gL_change_L_low rfl rfl (Nat.le_of_ble_eq_true rfl) ⟨Nat.le_of_ble_eq_true rfl, Nat.le_of_ble_eq_true rfl⟩ ⟨Nat.le_of_ble_eq_true rfl, Nat.le_of_ble_eq_true rfl⟩ dL_change_331 rfl (fun v_ u_ hp_ => ?_)
  obtain ⟨rfl, rfl⟩ := hp_
  show V E G A 19 [w_4] 0 0 Q 334 [(0, .ref x), (1, .int (nI 4)), (2, .int a), (3, .int b), (4, .int (nI n)), (5, .int (nI (pgs S))), (6, .int (nI 1)), (12, .int (nI (S (32 + (lwN a 4))))), (13, .int (nI (tks S)))] [.int (nI (lwN a 4)), .ref x]
  refine V_iconst (pc' := 335) (nI 1) X dL_change_334 ki_1 rfl ?_
  refine V_iload_n (pc' := 336) 3 X dL_change_335 rfl rfl rfl ?_
  refine V_bipush (pc' := 338) (nI 9) X dL_change_336 kb_9 rfl ?_
  refine V_callS (pc' := 341) (As := [.int b, .int (nI 9)]) (st := [.int (nI 1), .int (nI (lwN a 4)), .ref x]) [] [0] (List.Perm.refl _) X (c_L_low l G b 9 (by decide) (by decide)) rfl gL_change_L_low rfl rfl (Nat.le_of_ble_eq_true rfl) ⟨Nat.le_of_ble_eq_true rfl, Nat.le_of_ble_eq_true rfl⟩ ⟨Nat.le_of_ble_eq_true rfl, Nat.le_of_ble_eq_true rfl⟩ dL_change_338 rfl (fun v_ u_ hp_ => ?_)
  obtain ⟨rfl, rfl⟩ := hp_
  show V E G A 19 [w_4] 0 0 Q 341 [(0, .ref x), (1, .int (nI 4)), (2, .int a), (3, .int b), (4, .int (nI n)), (5, .int (nI (pgs S))), (6, .int (nI 1)), (12, .int (nI (S (32 + (lwN a 4))))), (13, .int (nI (tks S)))] [.int (nI (lwN b 9)), .int (nI 1), .int (nI (lwN a 4)), .ref x]
  refine V_iadd (pc' := 342) (nI (1 + (lwN b 9))) X dL_change_341 (nI_add _ _) rfl ?_
  refine O_setTempo (pc' := 345) (st := []) (lwN a 4) (1 + (lwN b 9)) ha (by omega) (by omega) hw_4 X gL_change_X5_setTempo (Nat.le_of_ble_eq_true rfl) ⟨Nat.le_of_ble_eq_true rfl, Nat.le_of_ble_eq_true rfl⟩ ⟨Nat.le_of_ble_eq_true rfl, Nat.le_of_ble_eq_true rfl⟩ dL_change_342 rfl (fun w_5 hw_5 => ?_)
  refine V_iload (pc' := 347) 7 X dL_change_345 rfl rfl ?_
  refine V_icmp_ne (pc' := 350) (C := (nI (S (32 + (lwN a 4)))) = (nI (S (32 + (lwN a 4))))) 379 X dL_change_347 (by decide) rfl Iff.rfl (fun hz => absurd (rfl) hz) (fun _ => ?_)
  refine V_aload_n (pc' := 351) 0 X dL_change_350 rfl rfl rfl ?_
  refine V_iconst (pc' := 352) (nI 0) X dL_change_351 ki_0 rfl ?_
  refine O_ticksOfRound (pc' := 355) (st := []) 0 (by decide) hw_5 X gL_change_X5_ticksOfRound (Nat.le_of_ble_eq_true rfl) ⟨Nat.le_of_ble_eq_true rfl, Nat.le_of_ble_eq_true rfl⟩ ⟨Nat.le_of_ble_eq_true rfl, Nat.le_of_ble_eq_true rfl⟩ dL_change_352 rfl (fun w_6 hw_6 => ?_)
  refine V_iload (pc' := 357) 8 X dL_change_355 rfl rfl ?_
  refine V_bipush (pc' := 359) (nI 8) X dL_change_357 kb_8 rfl ?_
  refine V_iconst (pc' := 360) (nI 1) X dL_change_359 ki_1 rfl ?_
  refine V_iload_n (pc' := 361) 3 X dL_change_360 rfl rfl rfl ?_
  refine V_bipush (pc' := 363) (nI 9) X dL_change_361 kb_9 rfl ?_
  refine V_callS (pc' := 366) (As := [.int b, .int (nI 9)]) (st := [.int (nI 1), .int (nI 8), .int (nI (tks S)), .int (nI (tks (va_up S (32 + (lwN a 4)) (1 + (lwN b 9)))))]) [] [0] (List.Perm.refl _) X (c_L_low l G b 9 (by decide) (by decide)) rfl gL_change_L_low rfl rfl (Nat.le_of_ble_eq_true rfl) ⟨Nat.le_of_ble_eq_true rfl, Nat.le_of_ble_eq_true rfl⟩ ⟨Nat.le_of_ble_eq_true rfl, Nat.le_of_ble_eq_true rfl⟩ dL_change_363 rfl (fun v_ u_ hp_ => ?_)
  obtain ⟨rfl, rfl⟩ := hp_
  show V E G A 19 [w_6] 0 0 Q 366 [(0, .ref x), (1, .int (nI 4)), (2, .int a), (3, .int b), (4, .int (nI n)), (5, .int (nI (pgs S))), (6, .int (nI 1)), (12, .int (nI (S (32 + (lwN a 4))))), (13, .int (nI (tks S)))] [.int (nI (lwN b 9)), .int (nI 1), .int (nI 8), .int (nI (tks S)), .int (nI (tks (va_up S (32 + (lwN a 4)) (1 + (lwN b 9)))))]
  refine V_iadd (pc' := 367) (nI (1 + (lwN b 9))) X dL_change_366 (nI_add _ _) rfl ?_
  refine V_iload (pc' := 369) 7 X dL_change_367 rfl rfl ?_
  refine V_isub (pc' := 370) ((nI (1 + lwN b 9) - nI (S (32 + lwN a 4)))) X dL_change_369 rfl rfl ?_
  refine V_imul (pc' := 371) (((nI 8) * (nI (1 + lwN b 9) - nI (S (32 + lwN a 4))))) X dL_change_370 rfl rfl ?_
  refine V_iadd (pc' := 372) (((nI (tks S)) + ((nI 8) * (nI (1 + lwN b 9) - nI (S (32 + lwN a 4)))))) X dL_change_371 rfl rfl ?_
  refine V_icmp_ne (pc' := 375) (C := (nI (tks (va_up S (32 + (lwN a 4)) (1 + (lwN b 9))))) = ((nI (tks S)) + ((nI 8) * (nI (1 + lwN b 9) - nI (S (32 + lwN a 4)))))) 379 X dL_change_372 (by decide) rfl Iff.rfl (fun hz => absurd (tempo_val ha (by omega) (i2 _ ha)) hz) (fun _ => ?_)
  refine V_iconst (pc' := 376) (nI 1) X dL_change_375 ki_1 rfl ?_
  refine V_goto (pc' := 380) X dL_change_376 (by decide) ?_
  refine V_istore (pc' := 382) [(0, .ref x), (1, .int (nI 4)), (2, .int a), (3, .int b), (4, .int (nI n)), (5, .int (nI (pgs S))), (6, .int (nI 1)), (12, .int (nI (S (32 + (lwN a 4))))), (13, .int (nI (tks S)))] [1, 2, 3, 4, 5, 6, 0, 7, 8] X dL_change_380 (Nat.le_of_ble_eq_true rfl) rfl rfl ?_
  refine V_goto (pc' := 682) X dL_change_382 (by decide) ?_
  refine V_iload (pc' := 684) 6 X dL_change_682 rfl rfl ?_
  refine V_if_eq (pc' := 687) (C := 1 = 0) 714 X dL_change_684 (by decide) rfl (z_eq0 (by omega)) (fun hz => absurd hz (by decide)) (fun _ => ?_)
  refine V_aload_n (pc' := 688) 0 X dL_change_687 rfl rfl rfl ?_
  refine O_undoable (pc' := 691) (st := []) hw_6 X gL_change_X5_undoable (Nat.le_of_ble_eq_true rfl) ⟨Nat.le_of_ble_eq_true rfl, Nat.le_of_ble_eq_true rfl⟩ ⟨Nat.le_of_ble_eq_true rfl, Nat.le_of_ble_eq_true rfl⟩ dL_change_688 rfl (fun w_7 hw_7 => ?_)
  rcases aM_cases hn6 with ⟨r1, r2⟩ | ⟨r1, r2⟩
  · refine V_iload (pc' := 693) 4 X dL_change_691 rfl rfl ?_
    refine V_bipush (pc' := 695) (nI 6) X dL_change_693 kb_6 rfl ?_
    refine V_icmp_ne (pc' := 698) (C := (nI n) = (nI 6)) 703 X dL_change_695 (by decide) rfl Iff.rfl (fun hz => absurd (congrArg nI r1) hz) (fun _ => ?_)
    refine V_bipush (pc' := 700) (nI 6) X dL_change_698 kb_6 rfl ?_
    refine V_goto (pc' := 707) X dL_change_700 (by decide) ?_
    refine V_icmp_ne (pc' := 710) (C := (nI (aM n + 1)) = (nI 6)) 714 X dL_change_707 (by decide) rfl Iff.rfl (fun hz => absurd (congrArg nI r2) hz) (fun _ => ?_)
    refine V_iconst (pc' := 711) (nI 1) X dL_change_710 ki_1 rfl ?_
    refine V_goto (pc' := 715) X dL_change_711 (by decide) ?_
    exact V_ireturn (v := nI 1) [w_7] hQ X hrt rfl dL_change_715 (Nat.le_of_ble_eq_true rfl) (Nat.le_of_ble_eq_true rfl) (List.Perm.refl _) ⟨rfl, _, _, _, _, w_7, hw_7.mono (by omega), rfl, rfl⟩
  · refine V_iload (pc' := 693) 4 X dL_change_691 rfl rfl ?_
    refine V_bipush (pc' := 695) (nI 6) X dL_change_693 kb_6 rfl ?_
    refine V_icmp_ne (pc' := 698) (C := n = 6) 703 X dL_change_695 (by decide) rfl (nI_eq (by omega) (by omega)) (fun _ => ?_) (fun hz => absurd hz (by omega))
    refine V_iload (pc' := 705) 4 X dL_change_703 rfl rfl ?_
    refine V_iconst (pc' := 706) (nI 1) X dL_change_705 ki_1 rfl ?_
    refine V_iadd (pc' := 707) (nI (n + 1)) X dL_change_706 (nI_add _ _) rfl ?_
    refine V_icmp_ne (pc' := 710) (C := (nI (aM n + 1)) = (nI (n + 1))) 714 X dL_change_707 (by decide) rfl Iff.rfl (fun hz => absurd (congrArg nI r2) hz) (fun _ => ?_)
    refine V_iconst (pc' := 711) (nI 1) X dL_change_710 ki_1 rfl ?_
    refine V_goto (pc' := 715) X dL_change_711 (by decide) ?_
    exact V_ireturn (v := nI 1) [w_7] hQ X hrt rfl dL_change_715 (Nat.le_of_ble_eq_true rfl) (Nat.le_of_ble_eq_true rfl) (List.Perm.refl _) ⟨rfl, _, _, _, _, w_7, hw_7.mono (by omega), rfl, rfl⟩

set_option maxHeartbeats 4000000 in
set_option maxRecDepth 100000 in
theorem c_L_change_5 (l : Launch) (G : gT) (x K : Nat) (S : Nat → Nat) (n : Nat) (T : Nat → Nat → Nat) (P : Nat → Option (Nat → Nat)) (w : va_W) (hw : OJ G x K S n T P w) (hK : K ≤ 90000) (a b : Int32) : CM l G yL_change wsL_change 6 165 4 [.ref x, .int (nI 5), .int a, .int b] [w] 7 77 (fun v u => v = some (.int (nI 1)) ∧ ∃ (S' : Nat → Nat) (n' : Nat) (T' : Nat → Nat → Nat) (P' : Nat → Option (Nat → Nat)) (w' : va_W), OJ G x (K + 400) S' n' T' P' w' ∧ P' 0 = P 0 ∧ u = [w']) := by
  refine CM_of RL 5 127 rfl rfl (by decide) (by decide +kernel) (Nat.le_of_ble_eq_true rfl) (fun E A X hrt hnm => ?_)
  generalize hQ : QM E G A _ _ _ = Q
  obtain ⟨i1, i2, i3, i4, i5, i6⟩ := hw.iv
  have j46 := hw.2.1.2.1
  have hn6 := hw.2.2.1
  have ha := lwN_lt a (n := 10) (by decide)
  have hb := lwN_lt b (n := 60) (by decide)
  show V E G A 19 [w] 0 0 Q 0 [(0, .ref x), (1, .int (nI 5)), (2, .int a), (3, .int b)] []
  refine V_aload_n (pc' := 1) 0 X dL_change_0 rfl rfl rfl ?_
  refine O_undoable (pc' := 4) (st := []) hw X gL_change_X5_undoable (Nat.le_of_ble_eq_true rfl) ⟨Nat.le_of_ble_eq_true rfl, Nat.le_of_ble_eq_true rfl⟩ ⟨Nat.le_of_ble_eq_true rfl, Nat.le_of_ble_eq_true rfl⟩ dL_change_1 rfl (fun w_1 hw_1 => ?_)
  refine V_istore (pc' := 6) [(0, .ref x), (1, .int (nI 5)), (2, .int a), (3, .int b), (4, .int (nI n))] [1, 2, 3, 4, 0] X dL_change_4 (Nat.le_of_ble_eq_true rfl) rfl rfl ?_
  refine V_aload_n (pc' := 7) 0 X dL_change_6 rfl rfl rfl ?_
  refine O_pegs (pc' := 10) (st := []) hw_1 X gL_change_X5_pegs (Nat.le_of_ble_eq_true rfl) ⟨Nat.le_of_ble_eq_true rfl, Nat.le_of_ble_eq_true rfl⟩ ⟨Nat.le_of_ble_eq_true rfl, Nat.le_of_ble_eq_true rfl⟩ dL_change_7 rfl (fun w_2 hw_2 => ?_)
  refine V_istore (pc' := 12) [(0, .ref x), (1, .int (nI 5)), (2, .int a), (3, .int b), (4, .int (nI n)), (5, .int (nI (pgs S)))] [1, 2, 3, 4, 5, 0] X dL_change_10 (Nat.le_of_ble_eq_true rfl) rfl rfl ?_
  refine V_iconst (pc' := 13) (nI 1) X dL_change_12 ki_1 rfl ?_
  refine V_istore (pc' := 15) [(0, .ref x), (1, .int (nI 5)), (2, .int a), (3, .int b), (4, .int (nI n)), (5, .int (nI (pgs S))), (6, .int (nI 1))] [1, 2, 3, 4, 5, 6, 0] X dL_change_13 (Nat.le_of_ble_eq_true rfl) rfl rfl ?_
  refine V_iload_n (pc' := 16) 1 X dL_change_15 rfl rfl rfl ?_
  refine V_tableIn (tgt := 385) (off := 369) X dL_change_16 (by decide +kernel) (by decide +kernel) (by decide +kernel) (by decide) ?_
  refine V_aload_n (pc' := 386) 0 X dL_change_385 rfl rfl rfl ?_
  refine V_iload_n (pc' := 387) 2 X dL_change_386 rfl rfl rfl ?_
  refine V_bipush (pc' := 389) (nI 10) X dL_change_387 kb_10 rfl ?_
  refine V_callS (pc' := 392) (As := [.int a, .int (nI 10)]) (st := [.ref x]) [] [0] (List.Perm.refl _) X (c_L_low l G a 10 (by decide) (by decide)) rfl gL_change_L_low rfl rfl (Nat.le_of_ble_eq_true rfl) ⟨Nat.le_of_ble_eq_true rfl, Nat.le_of_ble_eq_true rfl⟩ ⟨Nat.le_of_ble_eq_true rfl, Nat.le_of_ble_eq_true rfl⟩ dL_change_389 rfl (fun v_ u_ hp_ => ?_)
  obtain ⟨rfl, rfl⟩ := hp_
  show V E G A 19 [w_2] 0 0 Q 392 [(0, .ref x), (1, .int (nI 5)), (2, .int a), (3, .int b), (4, .int (nI n)), (5, .int (nI (pgs S))), (6, .int (nI 1))] [.int (nI (lwN a 10)), .ref x]
  refine O_weightOf (pc' := 395) (st := []) (lwN a 10) ha hw_2 X gL_change_X5_weightOf (Nat.le_of_ble_eq_true rfl) ⟨Nat.le_of_ble_eq_true rfl, Nat.le_of_ble_eq_true rfl⟩ ⟨Nat.le_of_ble_eq_true rfl, Nat.le_of_ble_eq_true rfl⟩ dL_change_392 rfl (fun w_3 hw_3 => ?_)
  refine V_istore (pc' := 397) [(0, .ref x), (1, .int (nI 5)), (2, .int a), (3, .int b), (4, .int (nI n)), (5, .int (nI (pgs S))), (6, .int (nI 1)), (14, .int (nI (S (36 + (lwN a 10)))))] [1, 2, 3, 4, 5, 6, 7, 0] X dL_change_395 (Nat.le_of_ble_eq_true rfl) rfl rfl ?_
  refine V_aload_n (pc' := 398) 0 X dL_change_397 rfl rfl rfl ?_
  refine V_iload_n (pc' := 399) 2 X dL_change_398 rfl rfl rfl ?_
  refine V_bipush (pc' := 401) (nI 10) X dL_change_399 kb_10 rfl ?_
  refine V_callS (pc' := 404) (As := [.int a, .int (nI 10)]) (st := [.ref x]) [] [0] (List.Perm.refl _) X (c_L_low l G a 10 (by decide) (by decide)) rfl gL_change_L_low rfl rfl (Nat.le_of_ble_eq_true rfl) ⟨Nat.le_of_ble_eq_true rfl, Nat.le_of_ble_eq_true rfl⟩ ⟨Nat.le_of_ble_eq_true rfl, Nat.le_of_ble_eq_true rfl⟩ dL_change_401 rfl (fun v_ u_ hp_ => ?_)
  obtain ⟨rfl, rfl⟩ := hp_
  show V E G A 19 [w_3] 0 0 Q 404 [(0, .ref x), (1, .int (nI 5)), (2, .int a), (3, .int b), (4, .int (nI n)), (5, .int (nI (pgs S))), (6, .int (nI 1)), (14, .int (nI (S (36 + (lwN a 10)))))] [.int (nI (lwN a 10)), .ref x]
  refine V_iconst (pc' := 405) (nI 1) X dL_change_404 ki_1 rfl ?_
  refine V_iload_n (pc' := 406) 3 X dL_change_405 rfl rfl rfl ?_
  refine V_bipush (pc' := 408) (nI 60) X dL_change_406 kb_60 rfl ?_
  refine V_callS (pc' := 411) (As := [.int b, .int (nI 60)]) (st := [.int (nI 1), .int (nI (lwN a 10)), .ref x]) [] [0] (List.Perm.refl _) X (c_L_low l G b 60 (by decide) (by decide)) rfl gL_change_L_low rfl rfl (Nat.le_of_ble_eq_true rfl) ⟨Nat.le_of_ble_eq_true rfl, Nat.le_of_ble_eq_true rfl⟩ ⟨Nat.le_of_ble_eq_true rfl, Nat.le_of_ble_eq_true rfl⟩ dL_change_408 rfl (fun v_ u_ hp_ => ?_)
  obtain ⟨rfl, rfl⟩ := hp_
  show V E G A 19 [w_3] 0 0 Q 411 [(0, .ref x), (1, .int (nI 5)), (2, .int a), (3, .int b), (4, .int (nI n)), (5, .int (nI (pgs S))), (6, .int (nI 1)), (14, .int (nI (S (36 + (lwN a 10)))))] [.int (nI (lwN b 60)), .int (nI 1), .int (nI (lwN a 10)), .ref x]
  refine V_iadd (pc' := 412) (nI (1 + (lwN b 60))) X dL_change_411 (nI_add _ _) rfl ?_
  refine O_setWeight (pc' := 415) (st := []) (lwN a 10) (1 + (lwN b 60)) ha (by omega) (by omega) hw_3 X gL_change_X5_setWeight (Nat.le_of_ble_eq_true rfl) ⟨Nat.le_of_ble_eq_true rfl, Nat.le_of_ble_eq_true rfl⟩ ⟨Nat.le_of_ble_eq_true rfl, Nat.le_of_ble_eq_true rfl⟩ dL_change_412 rfl (fun w_4 hw_4 => ?_)
  refine V_iload (pc' := 417) 7 X dL_change_415 rfl rfl ?_
  refine V_icmp_ne (pc' := 420) (C := (nI (S (36 + (lwN a 10)))) = (nI (S (36 + (lwN a 10))))) 445 X dL_change_417 (by decide) rfl Iff.rfl (fun hz => absurd (rfl) hz) (fun _ => ?_)
  refine V_aload_n (pc' := 421) 0 X dL_change_420 rfl rfl rfl ?_
  refine V_iload_n (pc' := 422) 2 X dL_change_421 rfl rfl rfl ?_
  refine V_bipush (pc' := 424) (nI 10) X dL_change_422 kb_10 rfl ?_
  refine V_callS (pc' := 427) (As := [.int a, .int (nI 10)]) (st := [.ref x]) [] [0] (List.Perm.refl _) X (c_L_low l G a 10 (by decide) (by decide)) rfl gL_change_L_low rfl rfl (Nat.le_of_ble_eq_true rfl) ⟨Nat.le_of_ble_eq_true rfl, Nat.le_of_ble_eq_true rfl⟩ ⟨Nat.le_of_ble_eq_true rfl, Nat.le_of_ble_eq_true rfl⟩ dL_change_424 rfl (fun v_ u_ hp_ => ?_)
  obtain ⟨rfl, rfl⟩ := hp_
  show V E G A 19 [w_4] 0 0 Q 427 [(0, .ref x), (1, .int (nI 5)), (2, .int a), (3, .int b), (4, .int (nI n)), (5, .int (nI (pgs S))), (6, .int (nI 1)), (14, .int (nI (S (36 + (lwN a 10)))))] [.int (nI (lwN a 10)), .ref x]
  refine O_weightOf (pc' := 430) (st := []) (lwN a 10) ha hw_4 X gL_change_X5_weightOf (Nat.le_of_ble_eq_true rfl) ⟨Nat.le_of_ble_eq_true rfl, Nat.le_of_ble_eq_true rfl⟩ ⟨Nat.le_of_ble_eq_true rfl, Nat.le_of_ble_eq_true rfl⟩ dL_change_427 rfl (fun w_5 hw_5 => ?_)
  refine V_iconst (pc' := 431) (nI 1) X dL_change_430 ki_1 rfl ?_
  refine V_iload_n (pc' := 432) 3 X dL_change_431 rfl rfl rfl ?_
  refine V_bipush (pc' := 434) (nI 60) X dL_change_432 kb_60 rfl ?_
  refine V_callS (pc' := 437) (As := [.int b, .int (nI 60)]) (st := [.int (nI 1), .int (nI ((va_up S (36 + (lwN a 10)) (1 + (lwN b 60))) (36 + (lwN a 10))))]) [] [0] (List.Perm.refl _) X (c_L_low l G b 60 (by decide) (by decide)) rfl gL_change_L_low rfl rfl (Nat.le_of_ble_eq_true rfl) ⟨Nat.le_of_ble_eq_true rfl, Nat.le_of_ble_eq_true rfl⟩ ⟨Nat.le_of_ble_eq_true rfl, Nat.le_of_ble_eq_true rfl⟩ dL_change_434 rfl (fun v_ u_ hp_ => ?_)
  obtain ⟨rfl, rfl⟩ := hp_
  show V E G A 19 [w_5] 0 0 Q 437 [(0, .ref x), (1, .int (nI 5)), (2, .int a), (3, .int b), (4, .int (nI n)), (5, .int (nI (pgs S))), (6, .int (nI 1)), (14, .int (nI (S (36 + (lwN a 10)))))] [.int (nI (lwN b 60)), .int (nI 1), .int (nI ((va_up S (36 + (lwN a 10)) (1 + (lwN b 60))) (36 + (lwN a 10))))]
  refine V_iadd (pc' := 438) (nI (1 + (lwN b 60))) X dL_change_437 (nI_add _ _) rfl ?_
  refine V_icmp_ne (pc' := 441) (C := (nI ((va_up S (36 + (lwN a 10)) (1 + (lwN b 60))) (36 + (lwN a 10)))) = (nI (1 + (lwN b 60)))) 445 X dL_change_438 (by decide) rfl Iff.rfl (fun hz => absurd (congrArg nI (va_up_self _ _ _)) hz) (fun _ => ?_)
  refine V_iconst (pc' := 442) (nI 1) X dL_change_441 ki_1 rfl ?_
  refine V_goto (pc' := 446) X dL_change_442 (by decide) ?_
  refine V_istore (pc' := 448) [(0, .ref x), (1, .int (nI 5)), (2, .int a), (3, .int b), (4, .int (nI n)), (5, .int (nI (pgs S))), (6, .int (nI 1)), (14, .int (nI (S (36 + (lwN a 10)))))] [1, 2, 3, 4, 5, 6, 0, 7] X dL_change_446 (Nat.le_of_ble_eq_true rfl) rfl rfl ?_
  refine V_goto (pc' := 682) X dL_change_448 (by decide) ?_
  refine V_iload (pc' := 684) 6 X dL_change_682 rfl rfl ?_
  refine V_if_eq (pc' := 687) (C := 1 = 0) 714 X dL_change_684 (by decide) rfl (z_eq0 (by omega)) (fun hz => absurd hz (by decide)) (fun _ => ?_)
  refine V_aload_n (pc' := 688) 0 X dL_change_687 rfl rfl rfl ?_
  refine O_undoable (pc' := 691) (st := []) hw_5 X gL_change_X5_undoable (Nat.le_of_ble_eq_true rfl) ⟨Nat.le_of_ble_eq_true rfl, Nat.le_of_ble_eq_true rfl⟩ ⟨Nat.le_of_ble_eq_true rfl, Nat.le_of_ble_eq_true rfl⟩ dL_change_688 rfl (fun w_6 hw_6 => ?_)
  rcases aM_cases hn6 with ⟨r1, r2⟩ | ⟨r1, r2⟩
  · refine V_iload (pc' := 693) 4 X dL_change_691 rfl rfl ?_
    refine V_bipush (pc' := 695) (nI 6) X dL_change_693 kb_6 rfl ?_
    refine V_icmp_ne (pc' := 698) (C := (nI n) = (nI 6)) 703 X dL_change_695 (by decide) rfl Iff.rfl (fun hz => absurd (congrArg nI r1) hz) (fun _ => ?_)
    refine V_bipush (pc' := 700) (nI 6) X dL_change_698 kb_6 rfl ?_
    refine V_goto (pc' := 707) X dL_change_700 (by decide) ?_
    refine V_icmp_ne (pc' := 710) (C := (nI (aM n + 1)) = (nI 6)) 714 X dL_change_707 (by decide) rfl Iff.rfl (fun hz => absurd (congrArg nI r2) hz) (fun _ => ?_)
    refine V_iconst (pc' := 711) (nI 1) X dL_change_710 ki_1 rfl ?_
    refine V_goto (pc' := 715) X dL_change_711 (by decide) ?_
    exact V_ireturn (v := nI 1) [w_6] hQ X hrt rfl dL_change_715 (Nat.le_of_ble_eq_true rfl) (Nat.le_of_ble_eq_true rfl) (List.Perm.refl _) ⟨rfl, _, _, _, _, w_6, hw_6.mono (by omega), rfl, rfl⟩
  · refine V_iload (pc' := 693) 4 X dL_change_691 rfl rfl ?_
    refine V_bipush (pc' := 695) (nI 6) X dL_change_693 kb_6 rfl ?_
    refine V_icmp_ne (pc' := 698) (C := n = 6) 703 X dL_change_695 (by decide) rfl (nI_eq (by omega) (by omega)) (fun _ => ?_) (fun hz => absurd hz (by omega))
    refine V_iload (pc' := 705) 4 X dL_change_703 rfl rfl ?_
    refine V_iconst (pc' := 706) (nI 1) X dL_change_705 ki_1 rfl ?_
    refine V_iadd (pc' := 707) (nI (n + 1)) X dL_change_706 (nI_add _ _) rfl ?_
    refine V_icmp_ne (pc' := 710) (C := (nI (aM n + 1)) = (nI (n + 1))) 714 X dL_change_707 (by decide) rfl Iff.rfl (fun hz => absurd (congrArg nI r2) hz) (fun _ => ?_)
    refine V_iconst (pc' := 711) (nI 1) X dL_change_710 ki_1 rfl ?_
    refine V_goto (pc' := 715) X dL_change_711 (by decide) ?_
    exact V_ireturn (v := nI 1) [w_6] hQ X hrt rfl dL_change_715 (Nat.le_of_ble_eq_true rfl) (Nat.le_of_ble_eq_true rfl) (List.Perm.refl _) ⟨rfl, _, _, _, _, w_6, hw_6.mono (by omega), rfl, rfl⟩

set_option maxHeartbeats 4000000 in
set_option maxRecDepth 100000 in
theorem c_L_change_6 (l : Launch) (G : gT) (x K : Nat) (S : Nat → Nat) (n : Nat) (T : Nat → Nat → Nat) (P : Nat → Option (Nat → Nat)) (w : va_W) (hw : OJ G x K S n T P w) (hK : K ≤ 90000) (a b : Int32) : CM l G yL_change wsL_change 6 164 4 [.ref x, .int (nI 6), .int a, .int b] [w] 7 77 (fun v u => v = some (.int (nI 1)) ∧ ∃ (S' : Nat → Nat) (n' : Nat) (T' : Nat → Nat → Nat) (P' : Nat → Option (Nat → Nat)) (w' : va_W), OJ G x (K + 400) S' n' T' P' w' ∧ P' 0 = P 0 ∧ u = [w']) := by
  refine CM_of RL 5 126 rfl rfl (by decide) (by decide +kernel) (Nat.le_of_ble_eq_true rfl) (fun E A X hrt hnm => ?_)
  generalize hQ : QM E G A _ _ _ = Q
  obtain ⟨i1, i2, i3, i4, i5, i6⟩ := hw.iv
  have j46 := hw.2.1.2.1
  have hn6 := hw.2.2.1
  have ha := lwN_lt a (n := 300) (by decide)
  show V E G A 19 [w] 0 0 Q 0 [(0, .ref x), (1, .int (nI 6)), (2, .int a), (3, .int b)] []
  refine V_aload_n (pc' := 1) 0 X dL_change_0 rfl rfl rfl ?_
  refine O_undoable (pc' := 4) (st := []) hw X gL_change_X5_undoable (Nat.le_of_ble_eq_true rfl) ⟨Nat.le_of_ble_eq_true rfl, Nat.le_of_ble_eq_true rfl⟩ ⟨Nat.le_of_ble_eq_true rfl, Nat.le_of_ble_eq_true rfl⟩ dL_change_1 rfl (fun w_1 hw_1 => ?_)
  refine V_istore (pc' := 6) [(0, .ref x), (1, .int (nI 6)), (2, .int a), (3, .int b), (4, .int (nI n))] [1, 2, 3, 4, 0] X dL_change_4 (Nat.le_of_ble_eq_true rfl) rfl rfl ?_
  refine V_aload_n (pc' := 7) 0 X dL_change_6 rfl rfl rfl ?_
  refine O_pegs (pc' := 10) (st := []) hw_1 X gL_change_X5_pegs (Nat.le_of_ble_eq_true rfl) ⟨Nat.le_of_ble_eq_true rfl, Nat.le_of_ble_eq_true rfl⟩ ⟨Nat.le_of_ble_eq_true rfl, Nat.le_of_ble_eq_true rfl⟩ dL_change_7 rfl (fun w_2 hw_2 => ?_)
  refine V_istore (pc' := 12) [(0, .ref x), (1, .int (nI 6)), (2, .int a), (3, .int b), (4, .int (nI n)), (5, .int (nI (pgs S)))] [1, 2, 3, 4, 5, 0] X dL_change_10 (Nat.le_of_ble_eq_true rfl) rfl rfl ?_
  refine V_iconst (pc' := 13) (nI 1) X dL_change_12 ki_1 rfl ?_
  refine V_istore (pc' := 15) [(0, .ref x), (1, .int (nI 6)), (2, .int a), (3, .int b), (4, .int (nI n)), (5, .int (nI (pgs S))), (6, .int (nI 1))] [1, 2, 3, 4, 5, 6, 0] X dL_change_13 (Nat.le_of_ble_eq_true rfl) rfl rfl ?_
  refine V_iload_n (pc' := 16) 1 X dL_change_15 rfl rfl rfl ?_
  refine V_tableIn (tgt := 451) (off := 435) X dL_change_16 (by decide +kernel) (by decide +kernel) (by decide +kernel) (by decide) ?_
  refine V_aload_n (pc' := 452) 0 X dL_change_451 rfl rfl rfl ?_
  refine V_iconst (pc' := 453) (nI 1) X dL_change_452 ki_1 rfl ?_
  refine V_iload_n (pc' := 454) 2 X dL_change_453 rfl rfl rfl ?_
  refine V_sipush (pc' := 457) (nI 300) X dL_change_454 ks_300 rfl ?_
  refine V_callS (pc' := 460) (As := [.int a, .int (nI 300)]) (st := [.int (nI 1), .ref x]) [] [0] (List.Perm.refl _) X (c_L_low l G a 300 (by decide) (by decide)) rfl gL_change_L_low rfl rfl (Nat.le_of_ble_eq_true rfl) ⟨Nat.le_of_ble_eq_true rfl, Nat.le_of_ble_eq_true rfl⟩ ⟨Nat.le_of_ble_eq_true rfl, Nat.le_of_ble_eq_true rfl⟩ dL_change_457 rfl (fun v_ u_ hp_ => ?_)
  obtain ⟨rfl, rfl⟩ := hp_
  show V E G A 19 [w_2] 0 0 Q 460 [(0, .ref x), (1, .int (nI 6)), (2, .int a), (3, .int b), (4, .int (nI n)), (5, .int (nI (pgs S))), (6, .int (nI 1))] [.int (nI (lwN a 300)), .int (nI 1), .ref x]
  refine V_iadd (pc' := 461) (nI (1 + (lwN a 300))) X dL_change_460 (nI_add _ _) rfl ?_
  refine O_setBound (pc' := 464) (st := []) (1 + (lwN a 300)) (by omega) (by omega) hw_2 X gL_change_X5_setBound (Nat.le_of_ble_eq_true rfl) ⟨Nat.le_of_ble_eq_true rfl, Nat.le_of_ble_eq_true rfl⟩ ⟨Nat.le_of_ble_eq_true rfl, Nat.le_of_ble_eq_true rfl⟩ dL_change_461 rfl (fun w_3 hw_3 => ?_)
  refine V_istore (pc' := 466) [(0, .ref x), (1, .int (nI 6)), (2, .int a), (3, .int b), (4, .int (nI n)), (5, .int (nI (pgs S))), (6, .int (nI 1)), (15, .int (nI (S 46)))] [1, 2, 3, 4, 5, 6, 7, 0] X dL_change_464 (Nat.le_of_ble_eq_true rfl) rfl rfl ?_
  refine V_iload (pc' := 468) 7 X dL_change_466 rfl rfl ?_
  refine V_iconst (pc' := 469) (nI 1) X dL_change_468 ki_1 rfl ?_
  refine V_icmp_lt (pc' := 472) (C := (S 46) < 1) 493 X dL_change_469 (by decide) rfl (nI_ltI (by omega) (by omega)) (fun hz => absurd hz (by omega)) (fun _ => ?_)
  refine V_iload (pc' := 474) 7 X dL_change_472 rfl rfl ?_
  refine V_sipush (pc' := 477) (nI 300) X dL_change_474 ks_300 rfl ?_
  refine V_icmp_gt (pc' := 480) (C := 300 < (S 46)) 493 X dL_change_477 (by decide) rfl (nI_ltI (by omega) (by omega)) (fun hz => absurd hz (by omega)) (fun _ => ?_)
  refine V_aload_n (pc' := 481) 0 X dL_change_480 rfl rfl rfl ?_
  refine O_pegs (pc' := 484) (st := []) hw_3 X gL_change_X5_pegs (Nat.le_of_ble_eq_true rfl) ⟨Nat.le_of_ble_eq_true rfl, Nat.le_of_ble_eq_true rfl⟩ ⟨Nat.le_of_ble_eq_true rfl, Nat.le_of_ble_eq_true rfl⟩ dL_change_481 rfl (fun w_4 hw_4 => ?_)
  refine V_iload (pc' := 486) 5 X dL_change_484 rfl rfl ?_
  refine V_icmp_ne (pc' := 489) (C := (nI (pgs (va_up S 46 (1 + (lwN a 300))))) = (nI (pgs S))) 493 X dL_change_486 (by decide) rfl Iff.rfl (fun hz => absurd (congrArg nI (pgs_same (fun k hk => va_up_ne S _ (by omega)))) hz) (fun _ => ?_)
  refine V_iconst (pc' := 490) (nI 1) X dL_change_489 ki_1 rfl ?_
  refine V_goto (pc' := 494) X dL_change_490 (by decide) ?_
  refine V_istore (pc' := 496) [(0, .ref x), (1, .int (nI 6)), (2, .int a), (3, .int b), (4, .int (nI n)), (5, .int (nI (pgs S))), (6, .int (nI 1)), (15, .int (nI (S 46)))] [1, 2, 3, 4, 5, 6, 0, 7] X dL_change_494 (Nat.le_of_ble_eq_true rfl) rfl rfl ?_
  refine V_goto (pc' := 682) X dL_change_496 (by decide) ?_
  refine V_iload (pc' := 684) 6 X dL_change_682 rfl rfl ?_
  refine V_if_eq (pc' := 687) (C := 1 = 0) 714 X dL_change_684 (by decide) rfl (z_eq0 (by omega)) (fun hz => absurd hz (by decide)) (fun _ => ?_)
  refine V_aload_n (pc' := 688) 0 X dL_change_687 rfl rfl rfl ?_
  refine O_undoable (pc' := 691) (st := []) hw_4 X gL_change_X5_undoable (Nat.le_of_ble_eq_true rfl) ⟨Nat.le_of_ble_eq_true rfl, Nat.le_of_ble_eq_true rfl⟩ ⟨Nat.le_of_ble_eq_true rfl, Nat.le_of_ble_eq_true rfl⟩ dL_change_688 rfl (fun w_5 hw_5 => ?_)
  rcases aM_cases hn6 with ⟨r1, r2⟩ | ⟨r1, r2⟩
  · refine V_iload (pc' := 693) 4 X dL_change_691 rfl rfl ?_
    refine V_bipush (pc' := 695) (nI 6) X dL_change_693 kb_6 rfl ?_
    refine V_icmp_ne (pc' := 698) (C := (nI n) = (nI 6)) 703 X dL_change_695 (by decide) rfl Iff.rfl (fun hz => absurd (congrArg nI r1) hz) (fun _ => ?_)
    refine V_bipush (pc' := 700) (nI 6) X dL_change_698 kb_6 rfl ?_
    refine V_goto (pc' := 707) X dL_change_700 (by decide) ?_
    refine V_icmp_ne (pc' := 710) (C := (nI (aM n + 1)) = (nI 6)) 714 X dL_change_707 (by decide) rfl Iff.rfl (fun hz => absurd (congrArg nI r2) hz) (fun _ => ?_)
    refine V_iconst (pc' := 711) (nI 1) X dL_change_710 ki_1 rfl ?_
    refine V_goto (pc' := 715) X dL_change_711 (by decide) ?_
    exact V_ireturn (v := nI 1) [w_5] hQ X hrt rfl dL_change_715 (Nat.le_of_ble_eq_true rfl) (Nat.le_of_ble_eq_true rfl) (List.Perm.refl _) ⟨rfl, _, _, _, _, w_5, hw_5.mono (by omega), rfl, rfl⟩
  · refine V_iload (pc' := 693) 4 X dL_change_691 rfl rfl ?_
    refine V_bipush (pc' := 695) (nI 6) X dL_change_693 kb_6 rfl ?_
    refine V_icmp_ne (pc' := 698) (C := n = 6) 703 X dL_change_695 (by decide) rfl (nI_eq (by omega) (by omega)) (fun _ => ?_) (fun hz => absurd hz (by omega))
    refine V_iload (pc' := 705) 4 X dL_change_703 rfl rfl ?_
    refine V_iconst (pc' := 706) (nI 1) X dL_change_705 ki_1 rfl ?_
    refine V_iadd (pc' := 707) (nI (n + 1)) X dL_change_706 (nI_add _ _) rfl ?_
    refine V_icmp_ne (pc' := 710) (C := (nI (aM n + 1)) = (nI (n + 1))) 714 X dL_change_707 (by decide) rfl Iff.rfl (fun hz => absurd (congrArg nI r2) hz) (fun _ => ?_)
    refine V_iconst (pc' := 711) (nI 1) X dL_change_710 ki_1 rfl ?_
    refine V_goto (pc' := 715) X dL_change_711 (by decide) ?_
    exact V_ireturn (v := nI 1) [w_5] hQ X hrt rfl dL_change_715 (Nat.le_of_ble_eq_true rfl) (Nat.le_of_ble_eq_true rfl) (List.Perm.refl _) ⟨rfl, _, _, _, _, w_5, hw_5.mono (by omega), rfl, rfl⟩

set_option maxHeartbeats 4000000 in
set_option maxRecDepth 100000 in
theorem c_L_change_7 (l : Launch) (G : gT) (x K : Nat) (S : Nat → Nat) (n : Nat) (T : Nat → Nat → Nat) (P : Nat → Option (Nat → Nat)) (w : va_W) (hw : OJ G x K S n T P w) (hK : K ≤ 90000) (a b : Int32) : CM l G yL_change wsL_change 7 191 4 [.ref x, .int (nI 7), .int a, .int b] [w] 7 77 (fun v u => v = some (.int (nI 1)) ∧ ∃ (S' : Nat → Nat) (n' : Nat) (T' : Nat → Nat → Nat) (P' : Nat → Option (Nat → Nat)) (w' : va_W), OJ G x (K + 400) S' n' T' P' w' ∧ P' 0 = P 0 ∧ u = [w']) := by
  refine CM_of RL 6 153 rfl rfl (by decide) (by decide +kernel) (Nat.le_of_ble_eq_true rfl) (fun E A X hrt hnm => ?_)
  generalize hQ : QM E G A _ _ _ = Q
  obtain ⟨i1, i2, i3, i4, i5, i6⟩ := hw.iv
  have j46 := hw.2.1.2.1
  have hn6 := hw.2.2.1
  show V E G A 19 [w] 0 0 Q 0 [(0, .ref x), (1, .int (nI 7)), (2, .int a), (3, .int b)] []
  refine V_aload_n (pc' := 1) 0 X dL_change_0 rfl rfl rfl ?_
  refine O_undoable (pc' := 4) (st := []) hw X gL_change_X5_undoable (Nat.le_of_ble_eq_true rfl) ⟨Nat.le_of_ble_eq_true rfl, Nat.le_of_ble_eq_true rfl⟩ ⟨Nat.le_of_ble_eq_true rfl, Nat.le_of_ble_eq_true rfl⟩ dL_change_1 rfl (fun w_1 hw_1 => ?_)
  refine V_istore (pc' := 6) [(0, .ref x), (1, .int (nI 7)), (2, .int a), (3, .int b), (4, .int (nI n))] [1, 2, 3, 4, 0] X dL_change_4 (Nat.le_of_ble_eq_true rfl) rfl rfl ?_
  refine V_aload_n (pc' := 7) 0 X dL_change_6 rfl rfl rfl ?_
  refine O_pegs (pc' := 10) (st := []) hw_1 X gL_change_X5_pegs (Nat.le_of_ble_eq_true rfl) ⟨Nat.le_of_ble_eq_true rfl, Nat.le_of_ble_eq_true rfl⟩ ⟨Nat.le_of_ble_eq_true rfl, Nat.le_of_ble_eq_true rfl⟩ dL_change_7 rfl (fun w_2 hw_2 => ?_)
  refine V_istore (pc' := 12) [(0, .ref x), (1, .int (nI 7)), (2, .int a), (3, .int b), (4, .int (nI n)), (5, .int (nI (pgs S)))] [1, 2, 3, 4, 5, 0] X dL_change_10 (Nat.le_of_ble_eq_true rfl) rfl rfl ?_
  refine V_iconst (pc' := 13) (nI 1) X dL_change_12 ki_1 rfl ?_
  refine V_istore (pc' := 15) [(0, .ref x), (1, .int (nI 7)), (2, .int a), (3, .int b), (4, .int (nI n)), (5, .int (nI (pgs S))), (6, .int (nI 1))] [1, 2, 3, 4, 5, 6, 0] X dL_change_13 (Nat.le_of_ble_eq_true rfl) rfl rfl ?_
  refine V_iload_n (pc' := 16) 1 X dL_change_15 rfl rfl rfl ?_
  refine V_tableIn (tgt := 499) (off := 483) X dL_change_16 (by decide +kernel) (by decide +kernel) (by decide +kernel) (by decide) ?_
  refine V_aload_n (pc' := 500) 0 X dL_change_499 rfl rfl rfl ?_
  refine V_callS (pc' := 503) (As := [.ref x]) (st := []) [0] [] (List.Perm.refl _) X (c_L_turns l G x K S n T P w_2 hw_2) rfl gL_change_L_turns rfl rfl (Nat.le_of_ble_eq_true rfl) ⟨Nat.le_of_ble_eq_true rfl, Nat.le_of_ble_eq_true rfl⟩ ⟨Nat.le_of_ble_eq_true rfl, Nat.le_of_ble_eq_true rfl⟩ dL_change_500 rfl (fun v_ u_ hp_ => ?_)
  obtain ⟨rfl, S', n', T', w_3, hw_3, rfl⟩ := hp_
  show V E G A 19 [w_3] 0 0 Q 503 [(0, .ref x), (1, .int (nI 7)), (2, .int a), (3, .int b), (4, .int (nI n)), (5, .int (nI (pgs S))), (6, .int (nI 1))] [.int (nI 1)]
  exact V_ireturn (v := nI 1) [w_3] hQ X hrt rfl dL_change_503 (Nat.le_of_ble_eq_true rfl) (Nat.le_of_ble_eq_true rfl) (List.Perm.refl _) ⟨rfl, _, _, _, _, w_3, hw_3.mono (by omega), rfl, rfl⟩

set_option maxHeartbeats 4000000 in
set_option maxRecDepth 100000 in
theorem c_L_change_8 (l : Launch) (G : gT) (x K : Nat) (S : Nat → Nat) (n : Nat) (T : Nat → Nat → Nat) (P : Nat → Option (Nat → Nat)) (w : va_W) (hw : OJ G x K S n T P w) (hK : K ≤ 90000) (a b : Int32) : CM l G yL_change wsL_change 7 194 4 [.ref x, .int (nI 8), .int a, .int b] [w] 7 77 (fun v u => v = some (.int (nI 1)) ∧ ∃ (S' : Nat → Nat) (n' : Nat) (T' : Nat → Nat → Nat) (P' : Nat → Option (Nat → Nat)) (w' : va_W), OJ G x (K + 400) S' n' T' P' w' ∧ P' 0 = P 0 ∧ u = [w']) := by
  refine CM_of RL 6 156 rfl rfl (by decide) (by decide +kernel) (Nat.le_of_ble_eq_true rfl) (fun E A X hrt hnm => ?_)
  generalize hQ : QM E G A _ _ _ = Q
  obtain ⟨i1, i2, i3, i4, i5, i6⟩ := hw.iv
  have j46 := hw.2.1.2.1
  have hn6 := hw.2.2.1
  have ha := lwN_lt a (n := 31) (by decide)
  show V E G A 19 [w] 0 0 Q 0 [(0, .ref x), (1, .int (nI 8)), (2, .int a), (3, .int b)] []
  refine V_aload_n (pc' := 1) 0 X dL_change_0 rfl rfl rfl ?_
  refine O_undoable (pc' := 4) (st := []) hw X gL_change_X5_undoable (Nat.le_of_ble_eq_true rfl) ⟨Nat.le_of_ble_eq_true rfl, Nat.le_of_ble_eq_true rfl⟩ ⟨Nat.le_of_ble_eq_true rfl, Nat.le_of_ble_eq_true rfl⟩ dL_change_1 rfl (fun w_1 hw_1 => ?_)
  refine V_istore (pc' := 6) [(0, .ref x), (1, .int (nI 8)), (2, .int a), (3, .int b), (4, .int (nI n))] [1, 2, 3, 4, 0] X dL_change_4 (Nat.le_of_ble_eq_true rfl) rfl rfl ?_
  refine V_aload_n (pc' := 7) 0 X dL_change_6 rfl rfl rfl ?_
  refine O_pegs (pc' := 10) (st := []) hw_1 X gL_change_X5_pegs (Nat.le_of_ble_eq_true rfl) ⟨Nat.le_of_ble_eq_true rfl, Nat.le_of_ble_eq_true rfl⟩ ⟨Nat.le_of_ble_eq_true rfl, Nat.le_of_ble_eq_true rfl⟩ dL_change_7 rfl (fun w_2 hw_2 => ?_)
  refine V_istore (pc' := 12) [(0, .ref x), (1, .int (nI 8)), (2, .int a), (3, .int b), (4, .int (nI n)), (5, .int (nI (pgs S)))] [1, 2, 3, 4, 5, 0] X dL_change_10 (Nat.le_of_ble_eq_true rfl) rfl rfl ?_
  refine V_iconst (pc' := 13) (nI 1) X dL_change_12 ki_1 rfl ?_
  refine V_istore (pc' := 15) [(0, .ref x), (1, .int (nI 8)), (2, .int a), (3, .int b), (4, .int (nI n)), (5, .int (nI (pgs S))), (6, .int (nI 1))] [1, 2, 3, 4, 5, 6, 0] X dL_change_13 (Nat.le_of_ble_eq_true rfl) rfl rfl ?_
  refine V_iload_n (pc' := 16) 1 X dL_change_15 rfl rfl rfl ?_
  refine V_tableIn (tgt := 504) (off := 488) X dL_change_16 (by decide +kernel) (by decide +kernel) (by decide +kernel) (by decide) ?_
  refine V_aload_n (pc' := 505) 0 X dL_change_504 rfl rfl rfl ?_
  refine V_iconst (pc' := 506) (nI 1) X dL_change_505 ki_1 rfl ?_
  refine V_iload_n (pc' := 507) 2 X dL_change_506 rfl rfl rfl ?_
  refine V_bipush (pc' := 509) (nI 31) X dL_change_507 kb_31 rfl ?_
  refine V_callS (pc' := 512) (As := [.int a, .int (nI 31)]) (st := [.int (nI 1), .ref x]) [] [0] (List.Perm.refl _) X (c_L_low l G a 31 (by decide) (by decide)) rfl gL_change_L_low rfl rfl (Nat.le_of_ble_eq_true rfl) ⟨Nat.le_of_ble_eq_true rfl, Nat.le_of_ble_eq_true rfl⟩ ⟨Nat.le_of_ble_eq_true rfl, Nat.le_of_ble_eq_true rfl⟩ dL_change_509 rfl (fun v_ u_ hp_ => ?_)
  obtain ⟨rfl, rfl⟩ := hp_
  show V E G A 19 [w_2] 0 0 Q 512 [(0, .ref x), (1, .int (nI 8)), (2, .int a), (3, .int b), (4, .int (nI n)), (5, .int (nI (pgs S))), (6, .int (nI 1))] [.int (nI (lwN a 31)), .int (nI 1), .ref x]
  refine V_iadd (pc' := 513) (nI (1 + (lwN a 31))) X dL_change_512 (nI_add _ _) rfl ?_
  refine V_callS (pc' := 516) (As := [.ref x, .int (nI (1 + (lwN a 31)))]) (st := []) [0] [] (List.Perm.refl _) X (c_L_moves l G x K S n T P w_2 hw_2 (1 + (lwN a 31)) (by omega) (by omega)) rfl gL_change_L_moves rfl rfl (Nat.le_of_ble_eq_true rfl) ⟨Nat.le_of_ble_eq_true rfl, Nat.le_of_ble_eq_true rfl⟩ ⟨Nat.le_of_ble_eq_true rfl, Nat.le_of_ble_eq_true rfl⟩ dL_change_513 rfl (fun v_ u_ hp_ => ?_)
  obtain ⟨rfl, S', n', T', w_3, hw_3, rfl⟩ := hp_
  show V E G A 19 [w_3] 0 0 Q 516 [(0, .ref x), (1, .int (nI 8)), (2, .int a), (3, .int b), (4, .int (nI n)), (5, .int (nI (pgs S))), (6, .int (nI 1))] [.int (nI 1)]
  exact V_ireturn (v := nI 1) [w_3] hQ X hrt rfl dL_change_516 (Nat.le_of_ble_eq_true rfl) (Nat.le_of_ble_eq_true rfl) (List.Perm.refl _) ⟨rfl, _, _, _, _, w_3, hw_3.mono (by omega), rfl, rfl⟩

set_option maxHeartbeats 4000000 in
set_option maxRecDepth 100000 in
theorem c_L_change_9 (l : Launch) (G : gT) (x K : Nat) (S : Nat → Nat) (n : Nat) (T : Nat → Nat → Nat) (P : Nat → Option (Nat → Nat)) (w : va_W) (hw : OJ G x K S n T P w) (hK : K ≤ 90000) (a b : Int32) : CM l G yL_change wsL_change 6 165 4 [.ref x, .int (nI 9), .int a, .int b] [w] 7 77 (fun v u => v = some (.int (nI 1)) ∧ ∃ (S' : Nat → Nat) (n' : Nat) (T' : Nat → Nat → Nat) (P' : Nat → Option (Nat → Nat)) (w' : va_W), OJ G x (K + 400) S' n' T' P' w' ∧ P' 0 = P 0 ∧ u = [w']) := by
  refine CM_of RL 5 127 rfl rfl (by decide) (by decide +kernel) (Nat.le_of_ble_eq_true rfl) (fun E A X hrt hnm => ?_)
  generalize hQ : QM E G A _ _ _ = Q
  obtain ⟨i1, i2, i3, i4, i5, i6⟩ := hw.iv
  have j46 := hw.2.1.2.1
  have hn6 := hw.2.2.1
  have hrs := pgs_rsd i1
  show V E G A 19 [w] 0 0 Q 0 [(0, .ref x), (1, .int (nI 9)), (2, .int a), (3, .int b)] []
  refine V_aload_n (pc' := 1) 0 X dL_change_0 rfl rfl rfl ?_
  refine O_undoable (pc' := 4) (st := []) hw X gL_change_X5_undoable (Nat.le_of_ble_eq_true rfl) ⟨Nat.le_of_ble_eq_true rfl, Nat.le_of_ble_eq_true rfl⟩ ⟨Nat.le_of_ble_eq_true rfl, Nat.le_of_ble_eq_true rfl⟩ dL_change_1 rfl (fun w_1 hw_1 => ?_)
  refine V_istore (pc' := 6) [(0, .ref x), (1, .int (nI 9)), (2, .int a), (3, .int b), (4, .int (nI n))] [1, 2, 3, 4, 0] X dL_change_4 (Nat.le_of_ble_eq_true rfl) rfl rfl ?_
  refine V_aload_n (pc' := 7) 0 X dL_change_6 rfl rfl rfl ?_
  refine O_pegs (pc' := 10) (st := []) hw_1 X gL_change_X5_pegs (Nat.le_of_ble_eq_true rfl) ⟨Nat.le_of_ble_eq_true rfl, Nat.le_of_ble_eq_true rfl⟩ ⟨Nat.le_of_ble_eq_true rfl, Nat.le_of_ble_eq_true rfl⟩ dL_change_7 rfl (fun w_2 hw_2 => ?_)
  refine V_istore (pc' := 12) [(0, .ref x), (1, .int (nI 9)), (2, .int a), (3, .int b), (4, .int (nI n)), (5, .int (nI (pgs S)))] [1, 2, 3, 4, 5, 0] X dL_change_10 (Nat.le_of_ble_eq_true rfl) rfl rfl ?_
  refine V_iconst (pc' := 13) (nI 1) X dL_change_12 ki_1 rfl ?_
  refine V_istore (pc' := 15) [(0, .ref x), (1, .int (nI 9)), (2, .int a), (3, .int b), (4, .int (nI n)), (5, .int (nI (pgs S))), (6, .int (nI 1))] [1, 2, 3, 4, 5, 6, 0] X dL_change_13 (Nat.le_of_ble_eq_true rfl) rfl rfl ?_
  refine V_iload_n (pc' := 16) 1 X dL_change_15 rfl rfl rfl ?_
  refine V_tableIn (tgt := 517) (off := 501) X dL_change_16 (by decide +kernel) (by decide +kernel) (by decide +kernel) (by decide) ?_
  refine V_iconst (pc' := 518) (nI 0) X dL_change_517 ki_0 rfl ?_
  refine V_istore (pc' := 520) [(0, .ref x), (1, .int (nI 9)), (2, .int a), (3, .int b), (4, .int (nI n)), (5, .int (nI (pgs S))), (6, .int (nI 1)), (16, .int (nI 0))] [1, 2, 3, 4, 5, 6, 7, 0] X dL_change_518 (Nat.le_of_ble_eq_true rfl) rfl rfl ?_
  refine V_iconst (pc' := 521) (nI 0) X dL_change_520 ki_0 rfl ?_
  refine V_istore (pc' := 523) [(0, .ref x), (1, .int (nI 9)), (2, .int a), (3, .int b), (4, .int (nI n)), (5, .int (nI (pgs S))), (6, .int (nI 1)), (16, .int (nI 0)), (17, .int (nI 0))] [1, 2, 3, 4, 5, 6, 7, 8, 0] X dL_change_521 (Nat.le_of_ble_eq_true rfl) rfl rfl ?_
  have lp_1 : ∀ i, i ≤ 32 → ∀ (wl_1 : va_W), OJ G x K S n T P wl_1 → V E G A 19 [wl_1] 0 0 Q 523 [(0, .ref x), (1, .int (nI 9)), (2, .int a), (3, .int b), (4, .int (nI n)), (5, .int (nI (pgs S))), (6, .int (nI 1)), (16, .int (nI (sm (fun k => S k / 2 ^ 9) i))), (17, .int (nI i))] [] := by
    refine loopD 32 ?_ ?_
    · intro wl_1 hl_1
      show V E G A 19 [wl_1] 0 0 Q 523 [(0, .ref x), (1, .int (nI 9)), (2, .int a), (3, .int b), (4, .int (nI n)), (5, .int (nI (pgs S))), (6, .int (nI 1)), (16, .int (nI (sm (fun k => S k / 2 ^ 9) 32))), (17, .int (nI 32))] []
      refine V_iload (pc' := 525) 8 X dL_change_523 rfl rfl ?_
      refine V_bipush (pc' := 527) (nI 32) X dL_change_525 kb_32 rfl ?_
      refine V_icmp_ge (pc' := 530) (C := 32 ≤ 32) 550 X dL_change_527 (by decide) rfl (nI_leI (by omega) (by omega)) (fun _ => ?_) (fun hz => absurd (by omega) hz)
      have hgo : sm (fun k => S k / 2 ^ 9) 32 ≤ 320 := by have := rsd_val i1; have h2 := sm_bq_le S 9 32; omega
      refine V_iload_n (pc' := 551) 3 X dL_change_550 rfl rfl rfl ?_
      refine V_iconst (pc' := 552) (nI 1) X dL_change_551 ki_1 rfl ?_
      refine V_iand (pc' := 553) ((b &&& (nI 1))) X dL_change_552 rfl rfl ?_
      refine V_if_ne (pc' := 556) (C := (b &&& (nI 1)) = 0) 579 X dL_change_553 (by decide) rfl Iff.rfl (fun h553 => ?_) (fun h553 => ?_)
      · refine V_aload_n (pc' := 580) 0 X dL_change_579 rfl rfl rfl ?_
        refine O_raise (pc' := 583) (st := []) hl_1 X gL_change_X5_raise (Nat.le_of_ble_eq_true rfl) ⟨Nat.le_of_ble_eq_true rfl, Nat.le_of_ble_eq_true rfl⟩ ⟨Nat.le_of_ble_eq_true rfl, Nat.le_of_ble_eq_true rfl⟩ dL_change_580 rfl (fun w_3 hw_3 => ?_)
        refine V_iload (pc' := 585) 7 X dL_change_583 rfl rfl ?_
        refine V_icmp_ne (pc' := 588) (C := (nI (sm (fun k => bq (S k) 9) 32)) = (nI (sm (fun k => S k / 2 ^ 9) 32))) 604 X dL_change_585 (by decide) rfl Iff.rfl (fun hz => absurd (congrArg nI (rsd_val i1)) hz) (fun _ => ?_)
        refine V_aload_n (pc' := 589) 0 X dL_change_588 rfl rfl rfl ?_
        refine O_pegs (pc' := 592) (st := []) hw_3 X gL_change_X5_pegs (Nat.le_of_ble_eq_true rfl) ⟨Nat.le_of_ble_eq_true rfl, Nat.le_of_ble_eq_true rfl⟩ ⟨Nat.le_of_ble_eq_true rfl, Nat.le_of_ble_eq_true rfl⟩ dL_change_589 rfl (fun w_4 hw_4 => ?_)
        refine V_iload (pc' := 594) 5 X dL_change_592 rfl rfl ?_
        refine V_iload (pc' := 596) 7 X dL_change_594 rfl rfl ?_
        refine V_isub (pc' := 597) (nI ((pgs S) - (sm (fun k => S k / 2 ^ 9) 32))) X dL_change_596 (pk_sub (by omega)) rfl ?_
        refine V_icmp_ne (pc' := 600) (C := (nI (pgs (rsd S))) = (nI ((pgs S) - (sm (fun k => S k / 2 ^ 9) 32)))) 604 X dL_change_597 (by decide) rfl Iff.rfl (fun hz => absurd (congrArg nI (by omega)) hz) (fun _ => ?_)
        refine V_iconst (pc' := 601) (nI 1) X dL_change_600 ki_1 rfl ?_
        refine V_goto (pc' := 605) X dL_change_601 (by decide) ?_
        refine V_istore (pc' := 607) [(0, .ref x), (1, .int (nI 9)), (2, .int a), (3, .int b), (4, .int (nI n)), (5, .int (nI (pgs S))), (6, .int (nI 1)), (16, .int (nI (sm (fun k => S k / 2 ^ 9) 32))), (17, .int (nI 32))] [1, 2, 3, 4, 5, 6, 0, 7, 8] X dL_change_605 (Nat.le_of_ble_eq_true rfl) rfl rfl ?_
        refine V_goto (pc' := 682) X dL_change_607 (by decide) ?_
        refine V_iload (pc' := 684) 6 X dL_change_682 rfl rfl ?_
        refine V_if_eq (pc' := 687) (C := 1 = 0) 714 X dL_change_684 (by decide) rfl (z_eq0 (by omega)) (fun hz => absurd hz (by decide)) (fun _ => ?_)
        refine V_aload_n (pc' := 688) 0 X dL_change_687 rfl rfl rfl ?_
        refine O_undoable (pc' := 691) (st := []) hw_4 X gL_change_X5_undoable (Nat.le_of_ble_eq_true rfl) ⟨Nat.le_of_ble_eq_true rfl, Nat.le_of_ble_eq_true rfl⟩ ⟨Nat.le_of_ble_eq_true rfl, Nat.le_of_ble_eq_true rfl⟩ dL_change_688 rfl (fun w_5 hw_5 => ?_)
        rcases aM_cases hn6 with ⟨r1, r2⟩ | ⟨r1, r2⟩
        · refine V_iload (pc' := 693) 4 X dL_change_691 rfl rfl ?_
          refine V_bipush (pc' := 695) (nI 6) X dL_change_693 kb_6 rfl ?_
          refine V_icmp_ne (pc' := 698) (C := (nI n) = (nI 6)) 703 X dL_change_695 (by decide) rfl Iff.rfl (fun hz => absurd (congrArg nI r1) hz) (fun _ => ?_)
          refine V_bipush (pc' := 700) (nI 6) X dL_change_698 kb_6 rfl ?_
          refine V_goto (pc' := 707) X dL_change_700 (by decide) ?_
          refine V_icmp_ne (pc' := 710) (C := (nI (aM n + 1)) = (nI 6)) 714 X dL_change_707 (by decide) rfl Iff.rfl (fun hz => absurd (congrArg nI r2) hz) (fun _ => ?_)
          refine V_iconst (pc' := 711) (nI 1) X dL_change_710 ki_1 rfl ?_
          refine V_goto (pc' := 715) X dL_change_711 (by decide) ?_
          exact V_ireturn (v := nI 1) [w_5] hQ X hrt rfl dL_change_715 (Nat.le_of_ble_eq_true rfl) (Nat.le_of_ble_eq_true rfl) (List.Perm.refl _) ⟨rfl, _, _, _, _, w_5, hw_5.mono (by omega), rfl, rfl⟩
        · refine V_iload (pc' := 693) 4 X dL_change_691 rfl rfl ?_
          refine V_bipush (pc' := 695) (nI 6) X dL_change_693 kb_6 rfl ?_
          refine V_icmp_ne (pc' := 698) (C := n = 6) 703 X dL_change_695 (by decide) rfl (nI_eq (by omega) (by omega)) (fun _ => ?_) (fun hz => absurd hz (by omega))
          refine V_iload (pc' := 705) 4 X dL_change_703 rfl rfl ?_
          refine V_iconst (pc' := 706) (nI 1) X dL_change_705 ki_1 rfl ?_
          refine V_iadd (pc' := 707) (nI (n + 1)) X dL_change_706 (nI_add _ _) rfl ?_
          refine V_icmp_ne (pc' := 710) (C := (nI (aM n + 1)) = (nI (n + 1))) 714 X dL_change_707 (by decide) rfl Iff.rfl (fun hz => absurd (congrArg nI r2) hz) (fun _ => ?_)
          refine V_iconst (pc' := 711) (nI 1) X dL_change_710 ki_1 rfl ?_
          refine V_goto (pc' := 715) X dL_change_711 (by decide) ?_
          exact V_ireturn (v := nI 1) [w_5] hQ X hrt rfl dL_change_715 (Nat.le_of_ble_eq_true rfl) (Nat.le_of_ble_eq_true rfl) (List.Perm.refl _) ⟨rfl, _, _, _, _, w_5, hw_5.mono (by omega), rfl, rfl⟩
      · refine V_iload (pc' := 558) 7 X dL_change_556 rfl rfl ?_
        refine V_iconst (pc' := 559) (nI 2) X dL_change_558 ki_2 rfl ?_
        refine V_icmp_le (pc' := 562) (C := (sm (fun k => S k / 2 ^ 9) 32) ≤ 2) 579 X dL_change_559 (by decide) rfl (nI_leI (by omega) (by decide)) (fun h559 => ?_) (fun h559 => ?_)
        · refine V_aload_n (pc' := 580) 0 X dL_change_579 rfl rfl rfl ?_
          refine O_raise (pc' := 583) (st := []) hl_1 X gL_change_X5_raise (Nat.le_of_ble_eq_true rfl) ⟨Nat.le_of_ble_eq_true rfl, Nat.le_of_ble_eq_true rfl⟩ ⟨Nat.le_of_ble_eq_true rfl, Nat.le_of_ble_eq_true rfl⟩ dL_change_580 rfl (fun w_6 hw_6 => ?_)
          refine V_iload (pc' := 585) 7 X dL_change_583 rfl rfl ?_
          refine V_icmp_ne (pc' := 588) (C := (nI (sm (fun k => bq (S k) 9) 32)) = (nI (sm (fun k => S k / 2 ^ 9) 32))) 604 X dL_change_585 (by decide) rfl Iff.rfl (fun hz => absurd (congrArg nI (rsd_val i1)) hz) (fun _ => ?_)
          refine V_aload_n (pc' := 589) 0 X dL_change_588 rfl rfl rfl ?_
          refine O_pegs (pc' := 592) (st := []) hw_6 X gL_change_X5_pegs (Nat.le_of_ble_eq_true rfl) ⟨Nat.le_of_ble_eq_true rfl, Nat.le_of_ble_eq_true rfl⟩ ⟨Nat.le_of_ble_eq_true rfl, Nat.le_of_ble_eq_true rfl⟩ dL_change_589 rfl (fun w_7 hw_7 => ?_)
          refine V_iload (pc' := 594) 5 X dL_change_592 rfl rfl ?_
          refine V_iload (pc' := 596) 7 X dL_change_594 rfl rfl ?_
          refine V_isub (pc' := 597) (nI ((pgs S) - (sm (fun k => S k / 2 ^ 9) 32))) X dL_change_596 (pk_sub (by omega)) rfl ?_
          refine V_icmp_ne (pc' := 600) (C := (nI (pgs (rsd S))) = (nI ((pgs S) - (sm (fun k => S k / 2 ^ 9) 32)))) 604 X dL_change_597 (by decide) rfl Iff.rfl (fun hz => absurd (congrArg nI (by omega)) hz) (fun _ => ?_)
          refine V_iconst (pc' := 601) (nI 1) X dL_change_600 ki_1 rfl ?_
          refine V_goto (pc' := 605) X dL_change_601 (by decide) ?_
          refine V_istore (pc' := 607) [(0, .ref x), (1, .int (nI 9)), (2, .int a), (3, .int b), (4, .int (nI n)), (5, .int (nI (pgs S))), (6, .int (nI 1)), (16, .int (nI (sm (fun k => S k / 2 ^ 9) 32))), (17, .int (nI 32))] [1, 2, 3, 4, 5, 6, 0, 7, 8] X dL_change_605 (Nat.le_of_ble_eq_true rfl) rfl rfl ?_
          refine V_goto (pc' := 682) X dL_change_607 (by decide) ?_
          refine V_iload (pc' := 684) 6 X dL_change_682 rfl rfl ?_
          refine V_if_eq (pc' := 687) (C := 1 = 0) 714 X dL_change_684 (by decide) rfl (z_eq0 (by omega)) (fun hz => absurd hz (by decide)) (fun _ => ?_)
          refine V_aload_n (pc' := 688) 0 X dL_change_687 rfl rfl rfl ?_
          refine O_undoable (pc' := 691) (st := []) hw_7 X gL_change_X5_undoable (Nat.le_of_ble_eq_true rfl) ⟨Nat.le_of_ble_eq_true rfl, Nat.le_of_ble_eq_true rfl⟩ ⟨Nat.le_of_ble_eq_true rfl, Nat.le_of_ble_eq_true rfl⟩ dL_change_688 rfl (fun w_8 hw_8 => ?_)
          rcases aM_cases hn6 with ⟨r1, r2⟩ | ⟨r1, r2⟩
          · refine V_iload (pc' := 693) 4 X dL_change_691 rfl rfl ?_
            refine V_bipush (pc' := 695) (nI 6) X dL_change_693 kb_6 rfl ?_
            refine V_icmp_ne (pc' := 698) (C := (nI n) = (nI 6)) 703 X dL_change_695 (by decide) rfl Iff.rfl (fun hz => absurd (congrArg nI r1) hz) (fun _ => ?_)
            refine V_bipush (pc' := 700) (nI 6) X dL_change_698 kb_6 rfl ?_
            refine V_goto (pc' := 707) X dL_change_700 (by decide) ?_
            refine V_icmp_ne (pc' := 710) (C := (nI (aM n + 1)) = (nI 6)) 714 X dL_change_707 (by decide) rfl Iff.rfl (fun hz => absurd (congrArg nI r2) hz) (fun _ => ?_)
            refine V_iconst (pc' := 711) (nI 1) X dL_change_710 ki_1 rfl ?_
            refine V_goto (pc' := 715) X dL_change_711 (by decide) ?_
            exact V_ireturn (v := nI 1) [w_8] hQ X hrt rfl dL_change_715 (Nat.le_of_ble_eq_true rfl) (Nat.le_of_ble_eq_true rfl) (List.Perm.refl _) ⟨rfl, _, _, _, _, w_8, hw_8.mono (by omega), rfl, rfl⟩
          · refine V_iload (pc' := 693) 4 X dL_change_691 rfl rfl ?_
            refine V_bipush (pc' := 695) (nI 6) X dL_change_693 kb_6 rfl ?_
            refine V_icmp_ne (pc' := 698) (C := n = 6) 703 X dL_change_695 (by decide) rfl (nI_eq (by omega) (by omega)) (fun _ => ?_) (fun hz => absurd hz (by omega))
            refine V_iload (pc' := 705) 4 X dL_change_703 rfl rfl ?_
            refine V_iconst (pc' := 706) (nI 1) X dL_change_705 ki_1 rfl ?_
            refine V_iadd (pc' := 707) (nI (n + 1)) X dL_change_706 (nI_add _ _) rfl ?_
            refine V_icmp_ne (pc' := 710) (C := (nI (aM n + 1)) = (nI (n + 1))) 714 X dL_change_707 (by decide) rfl Iff.rfl (fun hz => absurd (congrArg nI r2) hz) (fun _ => ?_)
            refine V_iconst (pc' := 711) (nI 1) X dL_change_710 ki_1 rfl ?_
            refine V_goto (pc' := 715) X dL_change_711 (by decide) ?_
            exact V_ireturn (v := nI 1) [w_8] hQ X hrt rfl dL_change_715 (Nat.le_of_ble_eq_true rfl) (Nat.le_of_ble_eq_true rfl) (List.Perm.refl _) ⟨rfl, _, _, _, _, w_8, hw_8.mono (by omega), rfl, rfl⟩
        · refine V_aload_n (pc' := 563) 0 X dL_change_562 rfl rfl rfl ?_
          refine V_bipush (pc' := 565) (nI 120) X dL_change_563 kb_120 rfl ?_
          refine O_setBound (pc' := 568) (st := []) 120 (by decide) (by decide) hl_1 X gL_change_X5_setBound (Nat.le_of_ble_eq_true rfl) ⟨Nat.le_of_ble_eq_true rfl, Nat.le_of_ble_eq_true rfl⟩ ⟨Nat.le_of_ble_eq_true rfl, Nat.le_of_ble_eq_true rfl⟩ dL_change_565 rfl (fun w_9 hw_9 => ?_)
          refine V_if_le (pc' := 571) (C := (S 46) = 0) 575 X dL_change_568 (by decide) rfl (z_le0 (by omega)) (fun hz => absurd hz (by omega)) (fun _ => ?_)
          refine V_iconst (pc' := 572) (nI 1) X dL_change_571 ki_1 rfl ?_
          refine V_goto (pc' := 605) X dL_change_572 (by decide) ?_
          refine V_istore (pc' := 607) [(0, .ref x), (1, .int (nI 9)), (2, .int a), (3, .int b), (4, .int (nI n)), (5, .int (nI (pgs S))), (6, .int (nI 1)), (16, .int (nI (sm (fun k => S k / 2 ^ 9) 32))), (17, .int (nI 32))] [1, 2, 3, 4, 5, 6, 0, 7, 8] X dL_change_605 (Nat.le_of_ble_eq_true rfl) rfl rfl ?_
          refine V_goto (pc' := 682) X dL_change_607 (by decide) ?_
          refine V_iload (pc' := 684) 6 X dL_change_682 rfl rfl ?_
          refine V_if_eq (pc' := 687) (C := 1 = 0) 714 X dL_change_684 (by decide) rfl (z_eq0 (by omega)) (fun hz => absurd hz (by decide)) (fun _ => ?_)
          refine V_aload_n (pc' := 688) 0 X dL_change_687 rfl rfl rfl ?_
          refine O_undoable (pc' := 691) (st := []) hw_9 X gL_change_X5_undoable (Nat.le_of_ble_eq_true rfl) ⟨Nat.le_of_ble_eq_true rfl, Nat.le_of_ble_eq_true rfl⟩ ⟨Nat.le_of_ble_eq_true rfl, Nat.le_of_ble_eq_true rfl⟩ dL_change_688 rfl (fun w_10 hw_10 => ?_)
          rcases aM_cases hn6 with ⟨r1, r2⟩ | ⟨r1, r2⟩
          · refine V_iload (pc' := 693) 4 X dL_change_691 rfl rfl ?_
            refine V_bipush (pc' := 695) (nI 6) X dL_change_693 kb_6 rfl ?_
            refine V_icmp_ne (pc' := 698) (C := (nI n) = (nI 6)) 703 X dL_change_695 (by decide) rfl Iff.rfl (fun hz => absurd (congrArg nI r1) hz) (fun _ => ?_)
            refine V_bipush (pc' := 700) (nI 6) X dL_change_698 kb_6 rfl ?_
            refine V_goto (pc' := 707) X dL_change_700 (by decide) ?_
            refine V_icmp_ne (pc' := 710) (C := (nI (aM n + 1)) = (nI 6)) 714 X dL_change_707 (by decide) rfl Iff.rfl (fun hz => absurd (congrArg nI r2) hz) (fun _ => ?_)
            refine V_iconst (pc' := 711) (nI 1) X dL_change_710 ki_1 rfl ?_
            refine V_goto (pc' := 715) X dL_change_711 (by decide) ?_
            exact V_ireturn (v := nI 1) [w_10] hQ X hrt rfl dL_change_715 (Nat.le_of_ble_eq_true rfl) (Nat.le_of_ble_eq_true rfl) (List.Perm.refl _) ⟨rfl, _, _, _, _, w_10, hw_10.mono (by omega), rfl, rfl⟩
          · refine V_iload (pc' := 693) 4 X dL_change_691 rfl rfl ?_
            refine V_bipush (pc' := 695) (nI 6) X dL_change_693 kb_6 rfl ?_
            refine V_icmp_ne (pc' := 698) (C := n = 6) 703 X dL_change_695 (by decide) rfl (nI_eq (by omega) (by omega)) (fun _ => ?_) (fun hz => absurd hz (by omega))
            refine V_iload (pc' := 705) 4 X dL_change_703 rfl rfl ?_
            refine V_iconst (pc' := 706) (nI 1) X dL_change_705 ki_1 rfl ?_
            refine V_iadd (pc' := 707) (nI (n + 1)) X dL_change_706 (nI_add _ _) rfl ?_
            refine V_icmp_ne (pc' := 710) (C := (nI (aM n + 1)) = (nI (n + 1))) 714 X dL_change_707 (by decide) rfl Iff.rfl (fun hz => absurd (congrArg nI r2) hz) (fun _ => ?_)
            refine V_iconst (pc' := 711) (nI 1) X dL_change_710 ki_1 rfl ?_
            refine V_goto (pc' := 715) X dL_change_711 (by decide) ?_
            exact V_ireturn (v := nI 1) [w_10] hQ X hrt rfl dL_change_715 (Nat.le_of_ble_eq_true rfl) (Nat.le_of_ble_eq_true rfl) (List.Perm.refl _) ⟨rfl, _, _, _, _, w_10, hw_10.mono (by omega), rfl, rfl⟩
    · intro i hi_i ih wl_1 hl_1
      show V E G A 19 [wl_1] 0 0 Q 523 [(0, .ref x), (1, .int (nI 9)), (2, .int a), (3, .int b), (4, .int (nI n)), (5, .int (nI (pgs S))), (6, .int (nI 1)), (16, .int (nI (sm (fun k => S k / 2 ^ 9) i))), (17, .int (nI i))] []
      have hpi := i1 i hi_i
      refine V_iload (pc' := 525) 8 X dL_change_523 rfl rfl ?_
      refine V_bipush (pc' := 527) (nI 32) X dL_change_525 kb_32 rfl ?_
      refine V_icmp_ge (pc' := 530) (C := 32 ≤ i) 550 X dL_change_527 (by decide) rfl (nI_leI (by omega) (by omega)) (fun hz => absurd hz (by omega)) (fun _ => ?_)
      refine V_iload (pc' := 532) 7 X dL_change_530 rfl rfl ?_
      refine V_aload_n (pc' := 533) 0 X dL_change_532 rfl rfl rfl ?_
      refine V_iload (pc' := 535) 8 X dL_change_533 rfl rfl ?_
      refine O_pegsIn (pc' := 538) (st := [.int (nI (sm (fun k => S k / 2 ^ 9) i))]) i (by omega) hl_1 X gL_change_X5_pegsIn (Nat.le_of_ble_eq_true rfl) ⟨Nat.le_of_ble_eq_true rfl, Nat.le_of_ble_eq_true rfl⟩ ⟨Nat.le_of_ble_eq_true rfl, Nat.le_of_ble_eq_true rfl⟩ dL_change_535 rfl (fun w_11 hw_11 => ?_)
      refine V_bipush (pc' := 540) (nI 9) X dL_change_538 kb_9 rfl ?_
      refine V_ishr (pc' := 541) (nI ((S i) / 2 ^ 9)) X dL_change_540 (z_shr (by omega) (by omega)) rfl ?_
      refine V_iadd (pc' := 542) (nI ((sm (fun k => S k / 2 ^ 9) i) + ((S i) / 2 ^ 9))) X dL_change_541 (nI_add _ _) rfl ?_
      refine V_istore (pc' := 544) [(0, .ref x), (1, .int (nI 9)), (2, .int a), (3, .int b), (4, .int (nI n)), (5, .int (nI (pgs S))), (6, .int (nI 1)), (16, .int (nI ((sm (fun k => S k / 2 ^ 9) i) + ((S i) / 2 ^ 9)))), (17, .int (nI i))] [1, 2, 3, 4, 5, 6, 7, 0, 8] X dL_change_542 (Nat.le_of_ble_eq_true rfl) rfl rfl ?_
      refine V_iinc (pc' := 547) [(0, .ref x), (1, .int (nI 9)), (2, .int a), (3, .int b), (4, .int (nI n)), (5, .int (nI (pgs S))), (6, .int (nI 1)), (16, .int (nI ((sm (fun k => S k / 2 ^ 9) i) + ((S i) / 2 ^ 9)))), (17, .int (nI (i + 1)))] 8 [1, 2, 3, 4, 5, 6, 7, 8, 0] X dL_change_544 rfl (nI_i1 _) (Nat.le_of_ble_eq_true rfl) rfl rfl ?_
      refine V_goto (pc' := 523) X dL_change_547 (by decide) ?_
      exact ih w_11 hw_11
  exact lp_1 0 (Nat.zero_le _) w_2 hw_2

set_option maxHeartbeats 4000000 in
set_option maxRecDepth 100000 in
theorem c_L_change_10 (l : Launch) (G : gT) (x K : Nat) (S : Nat → Nat) (n : Nat) (T : Nat → Nat → Nat) (P : Nat → Option (Nat → Nat)) (w : va_W) (hw : OJ G x K S n T P w) (hK : K ≤ 90000) (a b : Int32) : CM l G yL_change wsL_change 6 163 4 [.ref x, .int (nI 10), .int a, .int b] [w] 7 77 (fun v u => v = some (.int (nI 1)) ∧ ∃ (S' : Nat → Nat) (n' : Nat) (T' : Nat → Nat → Nat) (P' : Nat → Option (Nat → Nat)) (w' : va_W), OJ G x (K + 400) S' n' T' P' w' ∧ P' 0 = P 0 ∧ u = [w']) := by
  refine CM_of RL 5 125 rfl rfl (by decide) (by decide +kernel) (Nat.le_of_ble_eq_true rfl) (fun E A X hrt hnm => ?_)
  generalize hQ : QM E G A _ _ _ = Q
  obtain ⟨i1, i2, i3, i4, i5, i6⟩ := hw.iv
  have j46 := hw.2.1.2.1
  have hn6 := hw.2.2.1
  show V E G A 19 [w] 0 0 Q 0 [(0, .ref x), (1, .int (nI 10)), (2, .int a), (3, .int b)] []
  refine V_aload_n (pc' := 1) 0 X dL_change_0 rfl rfl rfl ?_
  refine O_undoable (pc' := 4) (st := []) hw X gL_change_X5_undoable (Nat.le_of_ble_eq_true rfl) ⟨Nat.le_of_ble_eq_true rfl, Nat.le_of_ble_eq_true rfl⟩ ⟨Nat.le_of_ble_eq_true rfl, Nat.le_of_ble_eq_true rfl⟩ dL_change_1 rfl (fun w_1 hw_1 => ?_)
  refine V_istore (pc' := 6) [(0, .ref x), (1, .int (nI 10)), (2, .int a), (3, .int b), (4, .int (nI n))] [1, 2, 3, 4, 0] X dL_change_4 (Nat.le_of_ble_eq_true rfl) rfl rfl ?_
  refine V_aload_n (pc' := 7) 0 X dL_change_6 rfl rfl rfl ?_
  refine O_pegs (pc' := 10) (st := []) hw_1 X gL_change_X5_pegs (Nat.le_of_ble_eq_true rfl) ⟨Nat.le_of_ble_eq_true rfl, Nat.le_of_ble_eq_true rfl⟩ ⟨Nat.le_of_ble_eq_true rfl, Nat.le_of_ble_eq_true rfl⟩ dL_change_7 rfl (fun w_2 hw_2 => ?_)
  refine V_istore (pc' := 12) [(0, .ref x), (1, .int (nI 10)), (2, .int a), (3, .int b), (4, .int (nI n)), (5, .int (nI (pgs S)))] [1, 2, 3, 4, 5, 0] X dL_change_10 (Nat.le_of_ble_eq_true rfl) rfl rfl ?_
  refine V_iconst (pc' := 13) (nI 1) X dL_change_12 ki_1 rfl ?_
  refine V_istore (pc' := 15) [(0, .ref x), (1, .int (nI 10)), (2, .int a), (3, .int b), (4, .int (nI n)), (5, .int (nI (pgs S))), (6, .int (nI 1))] [1, 2, 3, 4, 5, 6, 0] X dL_change_13 (Nat.le_of_ble_eq_true rfl) rfl rfl ?_
  refine V_iload_n (pc' := 16) 1 X dL_change_15 rfl rfl rfl ?_
  refine V_tableIn (tgt := 610) (off := 594) X dL_change_16 (by decide +kernel) (by decide +kernel) (by decide +kernel) (by decide) ?_
  refine V_aload_n (pc' := 611) 0 X dL_change_610 rfl rfl rfl ?_
  refine O_column (pc' := 614) (st := []) hw_2 X gL_change_X5_column (Nat.le_of_ble_eq_true rfl) ⟨Nat.le_of_ble_eq_true rfl, Nat.le_of_ble_eq_true rfl⟩ ⟨Nat.le_of_ble_eq_true rfl, Nat.le_of_ble_eq_true rfl⟩ dL_change_611 rfl (fun w_3 hw_3 => ?_)
  refine V_istore (pc' := 616) [(0, .ref x), (1, .int (nI 10)), (2, .int a), (3, .int b), (4, .int (nI n)), (5, .int (nI (pgs S))), (6, .int (nI 1)), (17, .int (nI (S 47)))] [1, 2, 3, 4, 5, 6, 7, 0] X dL_change_614 (Nat.le_of_ble_eq_true rfl) rfl rfl ?_
  refine V_aload_n (pc' := 617) 0 X dL_change_616 rfl rfl rfl ?_
  refine O_time (pc' := 620) (st := []) hw_3 X gL_change_X5_time (Nat.le_of_ble_eq_true rfl) ⟨Nat.le_of_ble_eq_true rfl, Nat.le_of_ble_eq_true rfl⟩ ⟨Nat.le_of_ble_eq_true rfl, Nat.le_of_ble_eq_true rfl⟩ dL_change_617 rfl (fun w_4 hw_4 => ?_)
  refine V_istore (pc' := 622) [(0, .ref x), (1, .int (nI 10)), (2, .int a), (3, .int b), (4, .int (nI n)), (5, .int (nI (pgs S))), (6, .int (nI 1)), (17, .int (nI (S 47))), (18, .int (nI (S 48)))] [1, 2, 3, 4, 5, 6, 7, 8, 0] X dL_change_620 (Nat.le_of_ble_eq_true rfl) rfl rfl ?_
  refine V_aload_n (pc' := 623) 0 X dL_change_622 rfl rfl rfl ?_
  refine O_turnBack (pc' := 626) (st := []) hw_4 X gL_change_X5_turnBack (Nat.le_of_ble_eq_true rfl) ⟨Nat.le_of_ble_eq_true rfl, Nat.le_of_ble_eq_true rfl⟩ ⟨Nat.le_of_ble_eq_true rfl, Nat.le_of_ble_eq_true rfl⟩ dL_change_623 rfl (fun w_5 hw_5 => ?_)
  refine V_iload (pc' := 628) 7 X dL_change_626 rfl rfl ?_
  refine V_icmp_ne (pc' := 631) (C := (nI (S 47)) = (nI (S 47))) 651 X dL_change_628 (by decide) rfl Iff.rfl (fun hz => absurd (rfl) hz) (fun _ => ?_)
  refine V_aload_n (pc' := 632) 0 X dL_change_631 rfl rfl rfl ?_
  refine O_column (pc' := 635) (st := []) hw_5 X gL_change_X5_column (Nat.le_of_ble_eq_true rfl) ⟨Nat.le_of_ble_eq_true rfl, Nat.le_of_ble_eq_true rfl⟩ ⟨Nat.le_of_ble_eq_true rfl, Nat.le_of_ble_eq_true rfl⟩ dL_change_632 rfl (fun w_6 hw_6 => ?_)
  refine V_if_ne (pc' := 638) (C := ((tbk 3 S) 47) = 0) 651 X dL_change_635 (by decide) rfl (z_eq0 (show 0 < 2 ^ 31 by decide)) (fun hz => absurd (rfl) hz) (fun _ => ?_)
  refine V_aload_n (pc' := 639) 0 X dL_change_638 rfl rfl rfl ?_
  refine O_time (pc' := 642) (st := []) hw_6 X gL_change_X5_time (Nat.le_of_ble_eq_true rfl) ⟨Nat.le_of_ble_eq_true rfl, Nat.le_of_ble_eq_true rfl⟩ ⟨Nat.le_of_ble_eq_true rfl, Nat.le_of_ble_eq_true rfl⟩ dL_change_639 rfl (fun w_7 hw_7 => ?_)
  refine V_iload (pc' := 644) 8 X dL_change_642 rfl rfl ?_
  refine V_icmp_ne (pc' := 647) (C := (nI ((tbk 3 S) 48)) = (nI (S 48))) 651 X dL_change_644 (by decide) rfl Iff.rfl (fun hz => absurd (congrArg nI rfl) hz) (fun _ => ?_)
  refine V_iconst (pc' := 648) (nI 1) X dL_change_647 ki_1 rfl ?_
  refine V_goto (pc' := 652) X dL_change_648 (by decide) ?_
  refine V_istore (pc' := 654) [(0, .ref x), (1, .int (nI 10)), (2, .int a), (3, .int b), (4, .int (nI n)), (5, .int (nI (pgs S))), (6, .int (nI 1)), (17, .int (nI (S 47))), (18, .int (nI (S 48)))] [1, 2, 3, 4, 5, 6, 0, 7, 8] X dL_change_652 (Nat.le_of_ble_eq_true rfl) rfl rfl ?_
  refine V_goto (pc' := 682) X dL_change_654 (by decide) ?_
  refine V_iload (pc' := 684) 6 X dL_change_682 rfl rfl ?_
  refine V_if_eq (pc' := 687) (C := 1 = 0) 714 X dL_change_684 (by decide) rfl (z_eq0 (by omega)) (fun hz => absurd hz (by decide)) (fun _ => ?_)
  refine V_aload_n (pc' := 688) 0 X dL_change_687 rfl rfl rfl ?_
  refine O_undoable (pc' := 691) (st := []) hw_7 X gL_change_X5_undoable (Nat.le_of_ble_eq_true rfl) ⟨Nat.le_of_ble_eq_true rfl, Nat.le_of_ble_eq_true rfl⟩ ⟨Nat.le_of_ble_eq_true rfl, Nat.le_of_ble_eq_true rfl⟩ dL_change_688 rfl (fun w_8 hw_8 => ?_)
  rcases aM_cases hn6 with ⟨r1, r2⟩ | ⟨r1, r2⟩
  · refine V_iload (pc' := 693) 4 X dL_change_691 rfl rfl ?_
    refine V_bipush (pc' := 695) (nI 6) X dL_change_693 kb_6 rfl ?_
    refine V_icmp_ne (pc' := 698) (C := (nI n) = (nI 6)) 703 X dL_change_695 (by decide) rfl Iff.rfl (fun hz => absurd (congrArg nI r1) hz) (fun _ => ?_)
    refine V_bipush (pc' := 700) (nI 6) X dL_change_698 kb_6 rfl ?_
    refine V_goto (pc' := 707) X dL_change_700 (by decide) ?_
    refine V_icmp_ne (pc' := 710) (C := (nI (aM n + 1)) = (nI 6)) 714 X dL_change_707 (by decide) rfl Iff.rfl (fun hz => absurd (congrArg nI r2) hz) (fun _ => ?_)
    refine V_iconst (pc' := 711) (nI 1) X dL_change_710 ki_1 rfl ?_
    refine V_goto (pc' := 715) X dL_change_711 (by decide) ?_
    exact V_ireturn (v := nI 1) [w_8] hQ X hrt rfl dL_change_715 (Nat.le_of_ble_eq_true rfl) (Nat.le_of_ble_eq_true rfl) (List.Perm.refl _) ⟨rfl, _, _, _, _, w_8, hw_8.mono (by omega), rfl, rfl⟩
  · refine V_iload (pc' := 693) 4 X dL_change_691 rfl rfl ?_
    refine V_bipush (pc' := 695) (nI 6) X dL_change_693 kb_6 rfl ?_
    refine V_icmp_ne (pc' := 698) (C := n = 6) 703 X dL_change_695 (by decide) rfl (nI_eq (by omega) (by omega)) (fun _ => ?_) (fun hz => absurd hz (by omega))
    refine V_iload (pc' := 705) 4 X dL_change_703 rfl rfl ?_
    refine V_iconst (pc' := 706) (nI 1) X dL_change_705 ki_1 rfl ?_
    refine V_iadd (pc' := 707) (nI (n + 1)) X dL_change_706 (nI_add _ _) rfl ?_
    refine V_icmp_ne (pc' := 710) (C := (nI (aM n + 1)) = (nI (n + 1))) 714 X dL_change_707 (by decide) rfl Iff.rfl (fun hz => absurd (congrArg nI r2) hz) (fun _ => ?_)
    refine V_iconst (pc' := 711) (nI 1) X dL_change_710 ki_1 rfl ?_
    refine V_goto (pc' := 715) X dL_change_711 (by decide) ?_
    exact V_ireturn (v := nI 1) [w_8] hQ X hrt rfl dL_change_715 (Nat.le_of_ble_eq_true rfl) (Nat.le_of_ble_eq_true rfl) (List.Perm.refl _) ⟨rfl, _, _, _, _, w_8, hw_8.mono (by omega), rfl, rfl⟩

set_option maxHeartbeats 4000000 in
set_option maxRecDepth 100000 in
theorem c_L_change_11 (l : Launch) (G : gT) (x K : Nat) (S : Nat → Nat) (n : Nat) (T : Nat → Nat → Nat) (P : Nat → Option (Nat → Nat)) (w : va_W) (hw : OJ G x K S n T P w) (hK : K ≤ 90000) (a b : Int32) : CM l G yL_change wsL_change 9 232 4 [.ref x, .int (nI 11), .int a, .int b] [w] 7 77 (fun v u => v = some (.int (nI 1)) ∧ ∃ (S' : Nat → Nat) (n' : Nat) (T' : Nat → Nat → Nat) (P' : Nat → Option (Nat → Nat)) (w' : va_W), OJ G x (K + 400) S' n' T' P' w' ∧ P' 0 = P 0 ∧ u = [w']) := by
  refine CM_of RL 8 194 rfl rfl (by decide) (by decide +kernel) (Nat.le_of_ble_eq_true rfl) (fun E A X hrt hnm => ?_)
  generalize hQ : QM E G A _ _ _ = Q
  obtain ⟨i1, i2, i3, i4, i5, i6⟩ := hw.iv
  have j46 := hw.2.1.2.1
  have hn6 := hw.2.2.1
  have ha := lwN_lt a (n := 200) (by decide)
  have ha2 := lwN_lt a (n := 12) (by decide)
  show V E G A 19 [w] 0 0 Q 0 [(0, .ref x), (1, .int (nI 11)), (2, .int a), (3, .int b)] []
  refine V_aload_n (pc' := 1) 0 X dL_change_0 rfl rfl rfl ?_
  refine O_undoable (pc' := 4) (st := []) hw X gL_change_X5_undoable (Nat.le_of_ble_eq_true rfl) ⟨Nat.le_of_ble_eq_true rfl, Nat.le_of_ble_eq_true rfl⟩ ⟨Nat.le_of_ble_eq_true rfl, Nat.le_of_ble_eq_true rfl⟩ dL_change_1 rfl (fun w_1 hw_1 => ?_)
  refine V_istore (pc' := 6) [(0, .ref x), (1, .int (nI 11)), (2, .int a), (3, .int b), (4, .int (nI n))] [1, 2, 3, 4, 0] X dL_change_4 (Nat.le_of_ble_eq_true rfl) rfl rfl ?_
  refine V_aload_n (pc' := 7) 0 X dL_change_6 rfl rfl rfl ?_
  refine O_pegs (pc' := 10) (st := []) hw_1 X gL_change_X5_pegs (Nat.le_of_ble_eq_true rfl) ⟨Nat.le_of_ble_eq_true rfl, Nat.le_of_ble_eq_true rfl⟩ ⟨Nat.le_of_ble_eq_true rfl, Nat.le_of_ble_eq_true rfl⟩ dL_change_7 rfl (fun w_2 hw_2 => ?_)
  refine V_istore (pc' := 12) [(0, .ref x), (1, .int (nI 11)), (2, .int a), (3, .int b), (4, .int (nI n)), (5, .int (nI (pgs S)))] [1, 2, 3, 4, 5, 0] X dL_change_10 (Nat.le_of_ble_eq_true rfl) rfl rfl ?_
  refine V_iconst (pc' := 13) (nI 1) X dL_change_12 ki_1 rfl ?_
  refine V_istore (pc' := 15) [(0, .ref x), (1, .int (nI 11)), (2, .int a), (3, .int b), (4, .int (nI n)), (5, .int (nI (pgs S))), (6, .int (nI 1))] [1, 2, 3, 4, 5, 6, 0] X dL_change_13 (Nat.le_of_ble_eq_true rfl) rfl rfl ?_
  refine V_iload_n (pc' := 16) 1 X dL_change_15 rfl rfl rfl ?_
  refine V_tableOut (tgt := 657) X dL_change_16 (by decide +kernel) (by decide) ?_
  refine V_aload_n (pc' := 658) 0 X dL_change_657 rfl rfl rfl ?_
  refine V_iconst (pc' := 659) (nI 1) X dL_change_658 ki_1 rfl ?_
  refine V_iload_n (pc' := 660) 2 X dL_change_659 rfl rfl rfl ?_
  refine V_iload_n (pc' := 661) 3 X dL_change_660 rfl rfl rfl ?_
  refine V_iconst (pc' := 662) (nI 3) X dL_change_661 ki_3 rfl ?_
  refine V_iand (pc' := 663) ((b &&& (nI 3))) X dL_change_662 rfl rfl ?_
  refine V_if_ne (pc' := 666) (C := (b &&& (nI 3)) = 0) 672 X dL_change_663 (by decide) rfl Iff.rfl (fun h663 => ?_) (fun h663 => ?_)
  · refine V_bipush (pc' := 674) (nI 12) X dL_change_672 kb_12 rfl ?_
    refine V_callS (pc' := 677) (As := [.int a, .int (nI 12)]) (st := [.int (nI 1), .ref x]) [] [0] (List.Perm.refl _) X (c_L_low l G a 12 (by decide) (by decide)) rfl gL_change_L_low rfl rfl (Nat.le_of_ble_eq_true rfl) ⟨Nat.le_of_ble_eq_true rfl, Nat.le_of_ble_eq_true rfl⟩ ⟨Nat.le_of_ble_eq_true rfl, Nat.le_of_ble_eq_true rfl⟩ dL_change_674 rfl (fun v_ u_ hp_ => ?_)
    obtain ⟨rfl, rfl⟩ := hp_
    show V E G A 19 [w_2] 0 0 Q 677 [(0, .ref x), (1, .int (nI 11)), (2, .int a), (3, .int b), (4, .int (nI n)), (5, .int (nI (pgs S))), (6, .int (nI 1))] [.int (nI (lwN a 12)), .int (nI 1), .ref x]
    refine V_iadd (pc' := 678) (nI (1 + (lwN a 12))) X dL_change_677 (nI_add _ _) rfl ?_
    refine V_callS (pc' := 681) (As := [.ref x, .int (nI (1 + (lwN a 12)))]) (st := []) [0] [] (List.Perm.refl _) X (c_L_cranks l G x K S n T P w_2 hw_2 (1 + (lwN a 12)) (by omega) (by omega) hK) rfl gL_change_L_cranks rfl rfl (Nat.le_of_ble_eq_true rfl) ⟨Nat.le_of_ble_eq_true rfl, Nat.le_of_ble_eq_true rfl⟩ ⟨Nat.le_of_ble_eq_true rfl, Nat.le_of_ble_eq_true rfl⟩ dL_change_678 rfl (fun v_ u_ hp_ => ?_)
    obtain ⟨rfl, S', n', T', P', w_3, hw_3, hP, rfl⟩ := hp_
    show V E G A 19 [w_3] 7 77 Q 681 [(0, .ref x), (1, .int (nI 11)), (2, .int a), (3, .int b), (4, .int (nI n)), (5, .int (nI (pgs S))), (6, .int (nI 1))] [.int (nI 1)]
    exact V_ireturn (v := nI 1) [w_3] hQ X hrt rfl dL_change_681 (Nat.le_of_ble_eq_true rfl) (Nat.le_of_ble_eq_true rfl) (List.Perm.refl _) ⟨rfl, _, _, _, _, w_3, hw_3.mono (by omega), hP, rfl⟩
  · refine V_sipush (pc' := 669) (nI 200) X dL_change_666 ks_200 rfl ?_
    refine V_goto (pc' := 674) X dL_change_669 (by decide) ?_
    refine V_callS (pc' := 677) (As := [.int a, .int (nI 200)]) (st := [.int (nI 1), .ref x]) [] [0] (List.Perm.refl _) X (c_L_low l G a 200 (by decide) (by decide)) rfl gL_change_L_low rfl rfl (Nat.le_of_ble_eq_true rfl) ⟨Nat.le_of_ble_eq_true rfl, Nat.le_of_ble_eq_true rfl⟩ ⟨Nat.le_of_ble_eq_true rfl, Nat.le_of_ble_eq_true rfl⟩ dL_change_674 rfl (fun v_ u_ hp_ => ?_)
    obtain ⟨rfl, rfl⟩ := hp_
    show V E G A 19 [w_2] 0 0 Q 677 [(0, .ref x), (1, .int (nI 11)), (2, .int a), (3, .int b), (4, .int (nI n)), (5, .int (nI (pgs S))), (6, .int (nI 1))] [.int (nI (lwN a 200)), .int (nI 1), .ref x]
    refine V_iadd (pc' := 678) (nI (1 + (lwN a 200))) X dL_change_677 (nI_add _ _) rfl ?_
    refine V_callS (pc' := 681) (As := [.ref x, .int (nI (1 + (lwN a 200)))]) (st := []) [0] [] (List.Perm.refl _) X (c_L_cranks l G x K S n T P w_2 hw_2 (1 + (lwN a 200)) (by omega) (by omega) hK) rfl gL_change_L_cranks rfl rfl (Nat.le_of_ble_eq_true rfl) ⟨Nat.le_of_ble_eq_true rfl, Nat.le_of_ble_eq_true rfl⟩ ⟨Nat.le_of_ble_eq_true rfl, Nat.le_of_ble_eq_true rfl⟩ dL_change_678 rfl (fun v_ u_ hp_ => ?_)
    obtain ⟨rfl, S', n', T', P', w_4, hw_4, hP, rfl⟩ := hp_
    show V E G A 19 [w_4] 7 77 Q 681 [(0, .ref x), (1, .int (nI 11)), (2, .int a), (3, .int b), (4, .int (nI n)), (5, .int (nI (pgs S))), (6, .int (nI 1))] [.int (nI 1)]
    exact V_ireturn (v := nI 1) [w_4] hQ X hrt rfl dL_change_681 (Nat.le_of_ble_eq_true rfl) (Nat.le_of_ble_eq_true rfl) (List.Perm.refl _) ⟨rfl, _, _, _, _, w_4, hw_4.mono (by omega), hP, rfl⟩

set_option maxHeartbeats 4000000 in
set_option maxRecDepth 100000 in
theorem c_L_change_12 (l : Launch) (G : gT) (x K : Nat) (S : Nat → Nat) (n : Nat) (T : Nat → Nat → Nat) (P : Nat → Option (Nat → Nat)) (w : va_W) (hw : OJ G x K S n T P w) (hK : K ≤ 90000) (a b : Int32) : CM l G yL_change wsL_change 9 232 4 [.ref x, .int (nI 12), .int a, .int b] [w] 7 77 (fun v u => v = some (.int (nI 1)) ∧ ∃ (S' : Nat → Nat) (n' : Nat) (T' : Nat → Nat → Nat) (P' : Nat → Option (Nat → Nat)) (w' : va_W), OJ G x (K + 400) S' n' T' P' w' ∧ P' 0 = P 0 ∧ u = [w']) := by
  refine CM_of RL 8 194 rfl rfl (by decide) (by decide +kernel) (Nat.le_of_ble_eq_true rfl) (fun E A X hrt hnm => ?_)
  generalize hQ : QM E G A _ _ _ = Q
  obtain ⟨i1, i2, i3, i4, i5, i6⟩ := hw.iv
  have j46 := hw.2.1.2.1
  have hn6 := hw.2.2.1
  have ha := lwN_lt a (n := 200) (by decide)
  have ha2 := lwN_lt a (n := 12) (by decide)
  show V E G A 19 [w] 0 0 Q 0 [(0, .ref x), (1, .int (nI 12)), (2, .int a), (3, .int b)] []
  refine V_aload_n (pc' := 1) 0 X dL_change_0 rfl rfl rfl ?_
  refine O_undoable (pc' := 4) (st := []) hw X gL_change_X5_undoable (Nat.le_of_ble_eq_true rfl) ⟨Nat.le_of_ble_eq_true rfl, Nat.le_of_ble_eq_true rfl⟩ ⟨Nat.le_of_ble_eq_true rfl, Nat.le_of_ble_eq_true rfl⟩ dL_change_1 rfl (fun w_1 hw_1 => ?_)
  refine V_istore (pc' := 6) [(0, .ref x), (1, .int (nI 12)), (2, .int a), (3, .int b), (4, .int (nI n))] [1, 2, 3, 4, 0] X dL_change_4 (Nat.le_of_ble_eq_true rfl) rfl rfl ?_
  refine V_aload_n (pc' := 7) 0 X dL_change_6 rfl rfl rfl ?_
  refine O_pegs (pc' := 10) (st := []) hw_1 X gL_change_X5_pegs (Nat.le_of_ble_eq_true rfl) ⟨Nat.le_of_ble_eq_true rfl, Nat.le_of_ble_eq_true rfl⟩ ⟨Nat.le_of_ble_eq_true rfl, Nat.le_of_ble_eq_true rfl⟩ dL_change_7 rfl (fun w_2 hw_2 => ?_)
  refine V_istore (pc' := 12) [(0, .ref x), (1, .int (nI 12)), (2, .int a), (3, .int b), (4, .int (nI n)), (5, .int (nI (pgs S)))] [1, 2, 3, 4, 5, 0] X dL_change_10 (Nat.le_of_ble_eq_true rfl) rfl rfl ?_
  refine V_iconst (pc' := 13) (nI 1) X dL_change_12 ki_1 rfl ?_
  refine V_istore (pc' := 15) [(0, .ref x), (1, .int (nI 12)), (2, .int a), (3, .int b), (4, .int (nI n)), (5, .int (nI (pgs S))), (6, .int (nI 1))] [1, 2, 3, 4, 5, 6, 0] X dL_change_13 (Nat.le_of_ble_eq_true rfl) rfl rfl ?_
  refine V_iload_n (pc' := 16) 1 X dL_change_15 rfl rfl rfl ?_
  refine V_tableOut (tgt := 657) X dL_change_16 (by decide +kernel) (by decide) ?_
  refine V_aload_n (pc' := 658) 0 X dL_change_657 rfl rfl rfl ?_
  refine V_iconst (pc' := 659) (nI 1) X dL_change_658 ki_1 rfl ?_
  refine V_iload_n (pc' := 660) 2 X dL_change_659 rfl rfl rfl ?_
  refine V_iload_n (pc' := 661) 3 X dL_change_660 rfl rfl rfl ?_
  refine V_iconst (pc' := 662) (nI 3) X dL_change_661 ki_3 rfl ?_
  refine V_iand (pc' := 663) ((b &&& (nI 3))) X dL_change_662 rfl rfl ?_
  refine V_if_ne (pc' := 666) (C := (b &&& (nI 3)) = 0) 672 X dL_change_663 (by decide) rfl Iff.rfl (fun h663 => ?_) (fun h663 => ?_)
  · refine V_bipush (pc' := 674) (nI 12) X dL_change_672 kb_12 rfl ?_
    refine V_callS (pc' := 677) (As := [.int a, .int (nI 12)]) (st := [.int (nI 1), .ref x]) [] [0] (List.Perm.refl _) X (c_L_low l G a 12 (by decide) (by decide)) rfl gL_change_L_low rfl rfl (Nat.le_of_ble_eq_true rfl) ⟨Nat.le_of_ble_eq_true rfl, Nat.le_of_ble_eq_true rfl⟩ ⟨Nat.le_of_ble_eq_true rfl, Nat.le_of_ble_eq_true rfl⟩ dL_change_674 rfl (fun v_ u_ hp_ => ?_)
    obtain ⟨rfl, rfl⟩ := hp_
    show V E G A 19 [w_2] 0 0 Q 677 [(0, .ref x), (1, .int (nI 12)), (2, .int a), (3, .int b), (4, .int (nI n)), (5, .int (nI (pgs S))), (6, .int (nI 1))] [.int (nI (lwN a 12)), .int (nI 1), .ref x]
    refine V_iadd (pc' := 678) (nI (1 + (lwN a 12))) X dL_change_677 (nI_add _ _) rfl ?_
    refine V_callS (pc' := 681) (As := [.ref x, .int (nI (1 + (lwN a 12)))]) (st := []) [0] [] (List.Perm.refl _) X (c_L_cranks l G x K S n T P w_2 hw_2 (1 + (lwN a 12)) (by omega) (by omega) hK) rfl gL_change_L_cranks rfl rfl (Nat.le_of_ble_eq_true rfl) ⟨Nat.le_of_ble_eq_true rfl, Nat.le_of_ble_eq_true rfl⟩ ⟨Nat.le_of_ble_eq_true rfl, Nat.le_of_ble_eq_true rfl⟩ dL_change_678 rfl (fun v_ u_ hp_ => ?_)
    obtain ⟨rfl, S', n', T', P', w_3, hw_3, hP, rfl⟩ := hp_
    show V E G A 19 [w_3] 7 77 Q 681 [(0, .ref x), (1, .int (nI 12)), (2, .int a), (3, .int b), (4, .int (nI n)), (5, .int (nI (pgs S))), (6, .int (nI 1))] [.int (nI 1)]
    exact V_ireturn (v := nI 1) [w_3] hQ X hrt rfl dL_change_681 (Nat.le_of_ble_eq_true rfl) (Nat.le_of_ble_eq_true rfl) (List.Perm.refl _) ⟨rfl, _, _, _, _, w_3, hw_3.mono (by omega), hP, rfl⟩
  · refine V_sipush (pc' := 669) (nI 200) X dL_change_666 ks_200 rfl ?_
    refine V_goto (pc' := 674) X dL_change_669 (by decide) ?_
    refine V_callS (pc' := 677) (As := [.int a, .int (nI 200)]) (st := [.int (nI 1), .ref x]) [] [0] (List.Perm.refl _) X (c_L_low l G a 200 (by decide) (by decide)) rfl gL_change_L_low rfl rfl (Nat.le_of_ble_eq_true rfl) ⟨Nat.le_of_ble_eq_true rfl, Nat.le_of_ble_eq_true rfl⟩ ⟨Nat.le_of_ble_eq_true rfl, Nat.le_of_ble_eq_true rfl⟩ dL_change_674 rfl (fun v_ u_ hp_ => ?_)
    obtain ⟨rfl, rfl⟩ := hp_
    show V E G A 19 [w_2] 0 0 Q 677 [(0, .ref x), (1, .int (nI 12)), (2, .int a), (3, .int b), (4, .int (nI n)), (5, .int (nI (pgs S))), (6, .int (nI 1))] [.int (nI (lwN a 200)), .int (nI 1), .ref x]
    refine V_iadd (pc' := 678) (nI (1 + (lwN a 200))) X dL_change_677 (nI_add _ _) rfl ?_
    refine V_callS (pc' := 681) (As := [.ref x, .int (nI (1 + (lwN a 200)))]) (st := []) [0] [] (List.Perm.refl _) X (c_L_cranks l G x K S n T P w_2 hw_2 (1 + (lwN a 200)) (by omega) (by omega) hK) rfl gL_change_L_cranks rfl rfl (Nat.le_of_ble_eq_true rfl) ⟨Nat.le_of_ble_eq_true rfl, Nat.le_of_ble_eq_true rfl⟩ ⟨Nat.le_of_ble_eq_true rfl, Nat.le_of_ble_eq_true rfl⟩ dL_change_678 rfl (fun v_ u_ hp_ => ?_)
    obtain ⟨rfl, S', n', T', P', w_4, hw_4, hP, rfl⟩ := hp_
    show V E G A 19 [w_4] 7 77 Q 681 [(0, .ref x), (1, .int (nI 12)), (2, .int a), (3, .int b), (4, .int (nI n)), (5, .int (nI (pgs S))), (6, .int (nI 1))] [.int (nI 1)]
    exact V_ireturn (v := nI 1) [w_4] hQ X hrt rfl dL_change_681 (Nat.le_of_ble_eq_true rfl) (Nat.le_of_ble_eq_true rfl) (List.Perm.refl _) ⟨rfl, _, _, _, _, w_4, hw_4.mono (by omega), hP, rfl⟩

set_option maxHeartbeats 4000000 in
theorem c_L_change (l : Launch) (G : gT) (k : Nat) (hk : k < 13) (x K : Nat) (S : Nat → Nat) (n : Nat) (T : Nat → Nat → Nat) (P : Nat → Option (Nat → Nat)) (w : va_W) (hw : OJ G x K S n T P w) (hK : K ≤ 90000) (a b : Int32) : CM l G yL_change wsL_change 9 232 4 [.ref x, .int (nI k), .int a, .int b] [w] 7 77 (fun v u => v = some (.int (nI 1)) ∧ ∃ (S' : Nat → Nat) (n' : Nat) (T' : Nat → Nat → Nat) (P' : Nat → Option (Nat → Nat)) (w' : va_W), OJ G x (K + 400) S' n' T' P' w' ∧ P' 0 = P 0 ∧ u = [w']) := by
  rcases (show k = 0 ∨ k = 1 ∨ k = 2 ∨ k = 3 ∨ k = 4 ∨ k = 5 ∨ k = 6 ∨ k = 7 ∨ k = 8 ∨ k = 9 ∨ k = 10 ∨ k = 11 ∨ k = 12 by omega) with rfl | rfl | rfl | rfl | rfl | rfl | rfl | rfl | rfl | rfl | rfl | rfl | rfl
  · exact (c_L_change_0 l G x K S n T P w hw hK a b).wider (Nat.le_of_ble_eq_true rfl) (Nat.le_of_ble_eq_true rfl)
  · exact (c_L_change_1 l G x K S n T P w hw hK a b).wider (Nat.le_of_ble_eq_true rfl) (Nat.le_of_ble_eq_true rfl)
  · exact (c_L_change_2 l G x K S n T P w hw hK a b).wider (Nat.le_of_ble_eq_true rfl) (Nat.le_of_ble_eq_true rfl)
  · exact (c_L_change_3 l G x K S n T P w hw hK a b).wider (Nat.le_of_ble_eq_true rfl) (Nat.le_of_ble_eq_true rfl)
  · exact (c_L_change_4 l G x K S n T P w hw hK a b).wider (Nat.le_of_ble_eq_true rfl) (Nat.le_of_ble_eq_true rfl)
  · exact (c_L_change_5 l G x K S n T P w hw hK a b).wider (Nat.le_of_ble_eq_true rfl) (Nat.le_of_ble_eq_true rfl)
  · exact (c_L_change_6 l G x K S n T P w hw hK a b).wider (Nat.le_of_ble_eq_true rfl) (Nat.le_of_ble_eq_true rfl)
  · exact (c_L_change_7 l G x K S n T P w hw hK a b).wider (Nat.le_of_ble_eq_true rfl) (Nat.le_of_ble_eq_true rfl)
  · exact (c_L_change_8 l G x K S n T P w hw hK a b).wider (Nat.le_of_ble_eq_true rfl) (Nat.le_of_ble_eq_true rfl)
  · exact (c_L_change_9 l G x K S n T P w hw hK a b).wider (Nat.le_of_ble_eq_true rfl) (Nat.le_of_ble_eq_true rfl)
  · exact (c_L_change_10 l G x K S n T P w hw hK a b).wider (Nat.le_of_ble_eq_true rfl) (Nat.le_of_ble_eq_true rfl)
  · exact (c_L_change_11 l G x K S n T P w hw hK a b).wider (Nat.le_of_ble_eq_true rfl) (Nat.le_of_ble_eq_true rfl)
  · exact (c_L_change_12 l G x K S n T P w hw hK a b).wider (Nat.le_of_ble_eq_true rfl) (Nat.le_of_ble_eq_true rfl)
