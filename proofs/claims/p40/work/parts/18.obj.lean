/-! the object: all its cells as one block; what holds of its states -/
theorem V_lreturn {E : EE} {G : gT} {A : Nat → Prop} {nL : Nat} {bs : List va_W} {kc ks : Nat} {Q : State → Prop} {pc : Nat} {lv : List (Nat × Value)} {cc : ByteArray} {own : String} {Ts : List Cond} {rm : Room} {l : Launch} {mc ms : Nat} {post : Option Value → List va_W → Prop} {v : Int64} (u : List va_W) (hQ : QM E G A post mc ms = Q) (X : Cx E G A nL cc own Ts rm l) (hr : (e_h E).sig.returnType = some .long) (d : decode cc pc = .ok (.lreturn, 1)) (hc : kc ≤ mc) (hs : ks ≤ ms) (h : bs.flatten.Perm u.flatten) (hp : post (some (.long v)) u) : V E G A nL bs kc ks Q pc lv [.long v] := by
  subst hQ
  exact fun H locs ls hP hD hS hl => W.widen hc hs (W.lret X.1.1 X.1.2.1 hr (QM.end_ hp h hP hD hS) hS.2.2 d X.2.2.2.2.1)
/-- a slot's drum, if there is one -/
def sl (G : gT) : Option (Nat → Nat) → Option (Nat → Nat) → va_W
  | some b, some O => DW G b O
  | _, _ => []
def SL (G : gT) (q : Nat) (o P : Nat → Option (Nat → Nat)) : va_W := SA G q o ++ (sl G (o 0) (P 0) ++ sl G (o 1) (P 1))
def OB (G : gT) (x : Nat) (a r p h : Nat → Nat) (q : Nat) (H g f : Nat → Nat) (d : Nat → Nat → Nat) (o : Nat → Option (Nat → Nat)) (S : Nat → Nat) (n : Nat) (T : Nat → Nat → Nat) (P : Nat → Option (Nat → Nat)) : va_W :=
  XB x (a 0) (r 0) (p 0) (h 0) q ++ (DW G a S ++ (RN G r H g ++ (PD G p f 0 ++ (HI G h n d ++ (HD G d T ++ SL G q o P)))))
/-- the cells of the object x: the drum S, n states T that can be undone, the slots P -/
def OW (G : gT) (x : Nat) (S : Nat → Nat) (n : Nat) (T : Nat → Nat → Nat) (P : Nat → Option (Nat → Nat)) (w : va_W) : Prop :=
  ∃ (a r p h : Nat → Nat) (q : Nat) (H g f : Nat → Nat) (d : Nat → Nat → Nat) (o : Nat → Option (Nat → Nat)), w = OB G x a r p h q H g f d o S n T P ∧ ∀ c, (o c).isSome = (P c).isSome
/-- a drum's numbers, when no more than K columns were struck -/
def J (K : Nat) (S : Nat → Nat) : Prop := IV S ∧ 1 ≤ S 46 ∧ S 70 = sm (fun k => S (49 + k)) 10 ∧ S 48 ≤ 9 * K ∧ ∀ k, k < 10 → S (49 + k) ≤ K
def JJ (K : Nat) (S : Nat → Nat) (n : Nat) (T : Nat → Nat → Nat) (P : Nat → Option (Nat → Nat)) : Prop := J K S ∧ n ≤ 6 ∧ (∀ k, k < n → J K (T k)) ∧ ∀ c O, P c = some O → J K O
def OJ (G : gT) (x K : Nat) (S : Nat → Nat) (n : Nat) (T : Nat → Nat → Nat) (P : Nat → Option (Nat → Nat)) (w : va_W) : Prop := OW G x S n T P w ∧ JJ K S n T P
theorem J.mono {K K' : Nat} {S : Nat → Nat} (h : K ≤ K') (j : J K S) : J K' S := ⟨j.1, j.2.1, j.2.2.1, Nat.le_trans j.2.2.2.1 (Nat.mul_le_mul_left 9 h), fun k hk => Nat.le_trans (j.2.2.2.2 k hk) h⟩
theorem JJ.mono {K K' : Nat} {S : Nat → Nat} {n : Nat} {T : Nat → Nat → Nat} {P : Nat → Option (Nat → Nat)} (h : K ≤ K') (j : JJ K S n T P) : JJ K' S n T P := ⟨j.1.mono h, j.2.1, fun k hk => (j.2.2.1 k hk).mono h, fun c O e => (j.2.2.2 c O e).mono h⟩
theorem OJ.mono {G : gT} {x K K' : Nat} {S : Nat → Nat} {n : Nat} {T : Nat → Nat → Nat} {P : Nat → Option (Nat → Nat)} {w : va_W} (h : K ≤ K') (j : OJ G x K S n T P w) : OJ G x K' S n T P w := ⟨j.1, j.2.mono h⟩
theorem OJ.iv {G : gT} {x K : Nat} {S : Nat → Nat} {n : Nat} {T : Nat → Nat → Nat} {P : Nat → Option (Nat → Nat)} {w : va_W} (j : OJ G x K S n T P w) : IV S := j.2.1.1
theorem hT_self {n : Nat} {S : Nat → Nat} {T : Nat → Nat → Nat} : hT n S T (aM n) = S := if_pos rfl
theorem aM_le {n : Nat} (h : n ≤ 6) : aM n + 1 ≤ 6 := aM_lt h
theorem rot_ok {α : Type} {p : α → Prop} {f : Nat → α} (h : ∀ k, k < 6 → p (f k)) : ∀ k, p (rot f k)
  | 0 => h 1 (by decide) | 1 => h 2 (by decide) | 2 => h 3 (by decide) | 3 => h 4 (by decide) | 4 => h 5 (by decide) | _ + 5 => h 0 (by decide)
/-- a change is recorded -/
theorem JJ.step {K K' : Nat} {S S' : Nat → Nat} {n : Nat} {T : Nat → Nat → Nat} {P : Nat → Option (Nat → Nat)} (h : K ≤ K') (j : JJ K S n T P) (j' : J K' S') : JJ K' S' (aM n + 1) (hT n S T) P := by
  obtain ⟨j1, j2, j3, j4⟩ := j.mono h
  refine ⟨j', aM_le j2, fun k hk => ?_, j4⟩
  unfold hT
  by_cases e : k = aM n
  · rw [if_pos e]; exact j1
  · rw [if_neg e]
    unfold aD
    by_cases e6 : n = 6
    · rw [if_pos e6]; subst e6; exact rot_ok j3 k
    · rw [if_neg e6]
      have e7 : aM n = n := if_neg e6
      exact j3 k (by omega)
theorem J_same {K : Nat} {S S' : Nat → Nat} (h : sameB 0 46 S S') (hI : IV S') (j : J K S) : J K S' := by
  obtain ⟨_, j2, j3, j4, j5⟩ := j
  refine ⟨hI, by rw [h 46 (by decide)]; exact j2, ?_, by rw [h 48 (by decide)]; exact j4, fun k hk => by rw [h _ (by omega)]; exact j5 k hk⟩
  rw [h 70 (by decide), j3]
  exact sm_congr (fun k hk => (h _ (by omega)).symm)
theorem sameB_le {lo hi lo' hi' : Nat} {S S' : Nat → Nat} (h1 : lo' ≤ lo) (h2 : hi ≤ hi') (h : sameB lo hi S S') : sameB lo' hi' S S' := fun k hk => h k (by omega)
theorem J_peg {K : Nat} {S : Nat → Nat} {c v : Nat} (hc : c < 32) (hv : v < 1024) (j : J K S) : J K (va_up S c v) := J_same (sameB_up (Nat.zero_le _) (by omega)) (IV_peg hc hv j.1) j
theorem J_turnPeg {K : Nat} {S : Nat → Nat} {c b : Nat} (hc : c < 32) (hb : b < 10) (j : J K S) : J K (va_up S c (S c ^^^ 2 ^ b)) := J_peg hc (Nat.xor_lt_two_pow (n := 10) (j.1.1 c hc) (Nat.pow_lt_pow_right (by decide) hb)) j
theorem J_tempo {K : Nat} {S : Nat → Nat} {c v : Nat} (hc : c < 4) (hv : v ≤ 9) (j : J K S) : J K (va_up S (32 + c) v) := by
  refine J_same (sameB_up (Nat.zero_le _) (by omega)) ?_ j
  obtain ⟨i1, i2, i3, i4, i5, i6⟩ := j.1
  refine ⟨fun k hk => by rw [va_up_ne _ _ (by omega)]; exact i1 k hk, fun k hk => ?_, fun k hk => by rw [va_up_ne _ _ (by omega)]; exact i3 k hk, by rw [va_up_ne _ _ (by omega)]; exact i4, by rw [va_up_ne _ _ (by omega)]; exact i5, fun k hk => by rw [va_up_ne _ _ (by omega)]; exact i6 k hk⟩
  unfold va_up; split
  · exact hv
  · exact i2 k hk
theorem J_weight {K : Nat} {S : Nat → Nat} {c v : Nat} (hc : c < 10) (hv : v ≤ 60) (j : J K S) : J K (va_up S (36 + c) v) := by
  refine J_same (sameB_up (Nat.zero_le _) (by omega)) ?_ j
  obtain ⟨i1, i2, i3, i4, i5, i6⟩ := j.1
  refine ⟨fun k hk => by rw [va_up_ne _ _ (by omega)]; exact i1 k hk, fun k hk => by rw [va_up_ne _ _ (by omega)]; exact i2 k hk, fun k hk => ?_, by rw [va_up_ne _ _ (by omega)]; exact i4, by rw [va_up_ne _ _ (by omega)]; exact i5, fun k hk => by rw [va_up_ne _ _ (by omega)]; exact i6 k hk⟩
  unfold va_up; split
  · exact hv
  · exact i3 k hk
theorem J_bound {K : Nat} {S : Nat → Nat} {v : Nat} (h1 : 1 ≤ v) (hv : v ≤ 300) (j : J K S) : J K (va_up S 46 v) := by
  obtain ⟨⟨i1, i2, i3, i4, i5, i6⟩, j2, j3, j4, j5⟩ := j
  have e : ∀ k, k ≠ 46 → va_up S 46 v k = S k := fun k hk => va_up_ne S v hk
  refine ⟨⟨fun k hk => by rw [e _ (by omega)]; exact i1 k hk, fun k hk => by rw [e _ (by omega)]; exact i2 k hk, fun k hk => by rw [e _ (by omega)]; exact i3 k hk, by rw [va_up_self]; exact hv, by rw [e _ (by omega)]; exact i5, fun k hk => by rw [e _ (by omega)]; exact i6 k hk⟩, by rw [va_up_self]; exact h1, ?_, by rw [e _ (by omega)]; exact j4, fun k hk => by rw [e _ (by omega)]; exact j5 k hk⟩
  rw [e _ (by omega), j3]
  exact sm_congr (fun k hk => (e _ (by omega)).symm)
theorem J_trn {K : Nat} {S : Nat → Nat} (j : J K S) : J K (trn S) :=
  J_same (sameB_le (Nat.le_refl _) (by decide) (sameB_trn S)) (IV_pegs (sameB_trn S) (fun k hk => by unfold trn; rw [if_pos hk]; exact j.1.1 _ (by omega)) j.1) j
theorem J_mvd {K : Nat} {S : Nat → Nat} {m : Nat} (j : J K S) : J K (mvd m S) :=
  J_same (sameB_le (Nat.le_refl _) (by decide) (sameB_mvd m S)) (IV_pegs (sameB_mvd m S) (fun k hk => by unfold mvd; rw [if_pos hk]; exact j.1.1 _ (Nat.mod_lt _ (by decide))) j.1) j
theorem J_rsd {K : Nat} {S : Nat → Nat} (j : J K S) : J K (rsd S) :=
  J_same (sameB_le (Nat.le_refl _) (by decide) (sameB_rsd S)) (IV_pegs (sameB_rsd S) (fun k hk => by unfold rsd; rw [if_pos hk]; exact Nat.mod_lt _ (by decide)) j.1) j
theorem J_stk {K : Nat} {S : Nat → Nat} (j : J K S) : J (K + 1) (stk 3 S) := by
  have hI := IV_stk (c := 3) (by decide) j.1
  obtain ⟨⟨i1, i2, i3, i4, i5, i6⟩, j2, j3, j4, j5⟩ := j
  refine ⟨hI, by rw [stk_lo (by decide)]; exact j2, ?_, ?_, fun k hk => ?_⟩
  · show S 70 + cnt (hs S) = _
    rw [sm_split (f := fun k => stk 3 S (49 + k)) (g := fun k => S (49 + k)) (e := bq (hs S)) (fun k hk => stk_th hk), ← j3]
    rfl
  · show S 48 + S (32 + S 47 / 8) ≤ _
    have := i2 (S 47 / 8) (by omega)
    omega
  · rw [stk_th hk]
    have h1 := j5 k hk
    have h2 := bq_lt (hs S) k
    omega
theorem J_stkN {K : Nat} {S : Nat → Nat} (j : J K S) : ∀ i, J (K + i) (stkN 3 S i)
  | 0 => j
  | i + 1 => J_stk (J_stkN j i)
theorem J_tbk {K : Nat} {S : Nat → Nat} (j : J K S) : J K (tbk 3 S) := by
  obtain ⟨⟨i1, i2, i3, i4, i5, i6⟩, j2, j3, j4, j5⟩ := j
  have e : ∀ k, k ≠ 47 → (k < 60 ∨ 70 ≤ k) → tbk 3 S k = S k := fun k h1 h2 => by unfold tbk; rw [if_neg h1, if_neg (by omega)]
  refine ⟨⟨fun k hk => by rw [e _ (by omega) (by omega)]; exact i1 k hk, fun k hk => by rw [e _ (by omega) (by omega)]; exact i2 k hk, fun k hk => by rw [e _ (by omega) (by omega)]; exact i3 k hk, by rw [e _ (by omega) (by omega)]; exact i4, (show 0 < 32 by decide), fun k hk => ?_⟩, by rw [e _ (by omega) (by omega)]; exact j2, ?_, by rw [e _ (by omega) (by omega)]; exact j4, fun k hk => by rw [e _ (by omega) (by omega)]; exact j5 k hk⟩
  · unfold tbk; rw [if_neg (by omega), if_pos (by omega)]; decide
  · rw [e _ (by omega) (by omega), j3]
    exact sm_congr (fun k hk => (e _ (by omega) (by omega)).symm)
theorem J_S0 : J 0 (S0 3) := ⟨IV_S0 (by decide), by decide, by decide, by decide, by decide⟩
/-- how many pegs -/
def pgs (S : Nat → Nat) : Nat := sm (fun k => cnt (S k)) 32
/-- the ticks of a round -/
def tks (S : Nat → Nat) : Nat := sm (fun k => 8 * S (32 + k)) 4
theorem tks_eq (S : Nat → Nat) : sm (fun k => S (32 + k / 8)) 32 = tks S := by
  unfold tks
  simp only [sm]
  show 0 + S 32 + S 32 + S 32 + S 32 + S 32 + S 32 + S 32 + S 32 + S 33 + S 33 + S 33 + S 33 + S 33 + S 33 + S 33 + S 33 + S 34 + S 34 + S 34 + S 34 + S 34 + S 34 + S 34 + S 34 + S 35 + S 35 + S 35 + S 35 + S 35 + S 35 + S 35 + S 35 = 0 + 8 * S 32 + 8 * S 33 + 8 * S 34 + 8 * S 35
  omega
section VO
variable {E : EE} {G : gT} {A : Nat → Prop} {nL : Nat} {kc ks : Nat} {Q : State → Prop} {pc pc' : Nat} {lv : List (Nat × Value)} {st : List Value} {cc : ByteArray} {own : String} {Ts : List Cond} {rm : Room} {l : Launch} {x K n index : Nat} {S : Nat → Nat} {T : Nat → Nat → Nat} {P : Nat → Option (Nat → Nat)} {w : va_W}
theorem O_pegsIn (c : Nat) (hc : c < 32) (hw : OJ G x K S n T P w) (X : Cx E G A nL cc own Ts rm l) (hG : GoodIn Ts (wsV own index RX5 yX5_pegsIn wsX5_pegsIn)) (hW : (st.map fun v => v.category).sum ≤ 8) (hR : 2 ≤ rm.frames ∧ 41 ≤ rm.locals) (hf : kc ≤ rm.cells ∧ ks ≤ rm.slots) (d : decode cc pc = .ok (.invokevirtual index, 3)) (hq : pc + 3 = pc')
    (kk : ∀ w, OJ G x K S n T P w → V E G A nL [w] kc ks Q pc' lv (.int (nI (S c)) :: st)) : V E G A nL [w] kc ks Q pc lv (.int (nI c) :: .ref x :: st) := by
  obtain ⟨⟨a, r, p, h, q, H, g, f, d_, o, rfl, ho⟩, hJ⟩ := hw
  have hI : IV S := hJ.1.1
  refine V_ws [XB x (a 0) (r 0) (p 0) (h 0) q, DW G a S, RN G r H g, PD G p f 0, HI G h n d_, HD G d_ T, SL G q o P] (by simp only [OB, SL, List.flatten_cons, List.flatten_nil, List.append_nil, List.append_assoc]) ?_
  refine V_callV (As := [.int (nI c)]) (st := st) 5 0 [0, 1] [2, 3, 4, 5, 6] (show (List.range 7).Perm [0, 1, 2, 3, 4, 5, 6] by decide) X (c_X5_pegsIn l G x (r 0) (p 0) (h 0) q a S hI c hc) rfl hG rfl (by decide) rfl rfl rfl hW hR hf d hq (fun v_ u_ hp_ => ?_)
  obtain ⟨rfl, rfl⟩ := hp_
  refine V_ord [5, 6, 0, 1, 2, 3, 4] [XB x (a 0) (r 0) (p 0) (h 0) q, DW G a S, RN G r H g, PD G p f 0, HI G h n d_, HD G d_ T, SL G q o P] (show (List.range 7).Perm [5, 6, 0, 1, 2, 3, 4] by decide) rfl ?_
  refine V_ws [OB G x a r p h q H g f d_ o S n T P] (by simp only [OB, SL, List.flatten_cons, List.flatten_nil, List.append_nil, List.append_assoc]) ?_
  exact kk _ ⟨⟨a, r, p, h, q, _, _, f, _, o, rfl, ho⟩, hJ⟩
theorem O_pegs (hw : OJ G x K S n T P w) (X : Cx E G A nL cc own Ts rm l) (hG : GoodIn Ts (wsV own index RX5 yX5_pegs wsX5_pegs)) (hW : (st.map fun v => v.category).sum ≤ 8) (hR : 3 ≤ rm.frames ∧ 62 ≤ rm.locals) (hf : kc ≤ rm.cells ∧ ks ≤ rm.slots) (d : decode cc pc = .ok (.invokevirtual index, 3)) (hq : pc + 3 = pc')
    (kk : ∀ w, OJ G x K S n T P w → V E G A nL [w] kc ks Q pc' lv (.int (nI (pgs S)) :: st)) : V E G A nL [w] kc ks Q pc lv (.ref x :: st) := by
  obtain ⟨⟨a, r, p, h, q, H, g, f, d_, o, rfl, ho⟩, hJ⟩ := hw
  have hI : IV S := hJ.1.1
  refine V_ws [XB x (a 0) (r 0) (p 0) (h 0) q, DW G a S, RN G r H g, PD G p f 0, HI G h n d_, HD G d_ T, SL G q o P] (by simp only [OB, SL, List.flatten_cons, List.flatten_nil, List.append_nil, List.append_assoc]) ?_
  refine V_callV (As := []) (st := st) 5 0 [0, 1] [2, 3, 4, 5, 6] (show (List.range 7).Perm [0, 1, 2, 3, 4, 5, 6] by decide) X (c_X5_pegs l G x (r 0) (p 0) (h 0) q a S hI) rfl hG rfl (by decide) rfl rfl rfl hW hR hf d hq (fun v_ u_ hp_ => ?_)
  obtain ⟨rfl, rfl⟩ := hp_
  refine V_ord [5, 6, 0, 1, 2, 3, 4] [XB x (a 0) (r 0) (p 0) (h 0) q, DW G a S, RN G r H g, PD G p f 0, HI G h n d_, HD G d_ T, SL G q o P] (show (List.range 7).Perm [5, 6, 0, 1, 2, 3, 4] by decide) rfl ?_
  refine V_ws [OB G x a r p h q H g f d_ o S n T P] (by simp only [OB, SL, List.flatten_cons, List.flatten_nil, List.append_nil, List.append_assoc]) ?_
  exact kk _ ⟨⟨a, r, p, h, q, _, _, f, _, o, rfl, ho⟩, hJ⟩
theorem O_tempoOf (c : Nat) (hc : c < 4) (hw : OJ G x K S n T P w) (X : Cx E G A nL cc own Ts rm l) (hG : GoodIn Ts (wsV own index RX5 yX5_tempoOf wsX5_tempoOf)) (hW : (st.map fun v => v.category).sum ≤ 8) (hR : 2 ≤ rm.frames ∧ 41 ≤ rm.locals) (hf : kc ≤ rm.cells ∧ ks ≤ rm.slots) (d : decode cc pc = .ok (.invokevirtual index, 3)) (hq : pc + 3 = pc')
    (kk : ∀ w, OJ G x K S n T P w → V E G A nL [w] kc ks Q pc' lv (.int (nI (S (32 + c))) :: st)) : V E G A nL [w] kc ks Q pc lv (.int (nI c) :: .ref x :: st) := by
  obtain ⟨⟨a, r, p, h, q, H, g, f, d_, o, rfl, ho⟩, hJ⟩ := hw
  have hI : IV S := hJ.1.1
  refine V_ws [XB x (a 0) (r 0) (p 0) (h 0) q, DW G a S, RN G r H g, PD G p f 0, HI G h n d_, HD G d_ T, SL G q o P] (by simp only [OB, SL, List.flatten_cons, List.flatten_nil, List.append_nil, List.append_assoc]) ?_
  refine V_callV (As := [.int (nI c)]) (st := st) 5 0 [0, 1] [2, 3, 4, 5, 6] (show (List.range 7).Perm [0, 1, 2, 3, 4, 5, 6] by decide) X (c_X5_tempoOf l G x (r 0) (p 0) (h 0) q a S hI c hc) rfl hG rfl (by decide) rfl rfl rfl hW hR hf d hq (fun v_ u_ hp_ => ?_)
  obtain ⟨rfl, rfl⟩ := hp_
  refine V_ord [5, 6, 0, 1, 2, 3, 4] [XB x (a 0) (r 0) (p 0) (h 0) q, DW G a S, RN G r H g, PD G p f 0, HI G h n d_, HD G d_ T, SL G q o P] (show (List.range 7).Perm [5, 6, 0, 1, 2, 3, 4] by decide) rfl ?_
  refine V_ws [OB G x a r p h q H g f d_ o S n T P] (by simp only [OB, SL, List.flatten_cons, List.flatten_nil, List.append_nil, List.append_assoc]) ?_
  exact kk _ ⟨⟨a, r, p, h, q, _, _, f, _, o, rfl, ho⟩, hJ⟩
theorem O_weightOf (c : Nat) (hc : c < 10) (hw : OJ G x K S n T P w) (X : Cx E G A nL cc own Ts rm l) (hG : GoodIn Ts (wsV own index RX5 yX5_weightOf wsX5_weightOf)) (hW : (st.map fun v => v.category).sum ≤ 8) (hR : 2 ≤ rm.frames ∧ 41 ≤ rm.locals) (hf : kc ≤ rm.cells ∧ ks ≤ rm.slots) (d : decode cc pc = .ok (.invokevirtual index, 3)) (hq : pc + 3 = pc')
    (kk : ∀ w, OJ G x K S n T P w → V E G A nL [w] kc ks Q pc' lv (.int (nI (S (36 + c))) :: st)) : V E G A nL [w] kc ks Q pc lv (.int (nI c) :: .ref x :: st) := by
  obtain ⟨⟨a, r, p, h, q, H, g, f, d_, o, rfl, ho⟩, hJ⟩ := hw
  have hI : IV S := hJ.1.1
  refine V_ws [XB x (a 0) (r 0) (p 0) (h 0) q, DW G a S, RN G r H g, PD G p f 0, HI G h n d_, HD G d_ T, SL G q o P] (by simp only [OB, SL, List.flatten_cons, List.flatten_nil, List.append_nil, List.append_assoc]) ?_
  refine V_callV (As := [.int (nI c)]) (st := st) 5 0 [0, 1] [2, 3, 4, 5, 6] (show (List.range 7).Perm [0, 1, 2, 3, 4, 5, 6] by decide) X (c_X5_weightOf l G x (r 0) (p 0) (h 0) q a S hI c hc) rfl hG rfl (by decide) rfl rfl rfl hW hR hf d hq (fun v_ u_ hp_ => ?_)
  obtain ⟨rfl, rfl⟩ := hp_
  refine V_ord [5, 6, 0, 1, 2, 3, 4] [XB x (a 0) (r 0) (p 0) (h 0) q, DW G a S, RN G r H g, PD G p f 0, HI G h n d_, HD G d_ T, SL G q o P] (show (List.range 7).Perm [5, 6, 0, 1, 2, 3, 4] by decide) rfl ?_
  refine V_ws [OB G x a r p h q H g f d_ o S n T P] (by simp only [OB, SL, List.flatten_cons, List.flatten_nil, List.append_nil, List.append_assoc]) ?_
  exact kk _ ⟨⟨a, r, p, h, q, _, _, f, _, o, rfl, ho⟩, hJ⟩
theorem O_heardOf (c : Nat) (hc : c < 10) (hw : OJ G x K S n T P w) (X : Cx E G A nL cc own Ts rm l) (hG : GoodIn Ts (wsV own index RX5 yX5_heardOf wsX5_heardOf)) (hW : (st.map fun v => v.category).sum ≤ 8) (hR : 2 ≤ rm.frames ∧ 41 ≤ rm.locals) (hf : kc ≤ rm.cells ∧ ks ≤ rm.slots) (d : decode cc pc = .ok (.invokevirtual index, 3)) (hq : pc + 3 = pc')
    (kk : ∀ w, OJ G x K S n T P w → V E G A nL [w] kc ks Q pc' lv (.int (nI (S (49 + c))) :: st)) : V E G A nL [w] kc ks Q pc lv (.int (nI c) :: .ref x :: st) := by
  obtain ⟨⟨a, r, p, h, q, H, g, f, d_, o, rfl, ho⟩, hJ⟩ := hw
  have hI : IV S := hJ.1.1
  refine V_ws [XB x (a 0) (r 0) (p 0) (h 0) q, DW G a S, RN G r H g, PD G p f 0, HI G h n d_, HD G d_ T, SL G q o P] (by simp only [OB, SL, List.flatten_cons, List.flatten_nil, List.append_nil, List.append_assoc]) ?_
  refine V_callV (As := [.int (nI c)]) (st := st) 5 0 [0, 1] [2, 3, 4, 5, 6] (show (List.range 7).Perm [0, 1, 2, 3, 4, 5, 6] by decide) X (c_X5_heardOf l G x (r 0) (p 0) (h 0) q a S hI c hc) rfl hG rfl (by decide) rfl rfl rfl hW hR hf d hq (fun v_ u_ hp_ => ?_)
  obtain ⟨rfl, rfl⟩ := hp_
  refine V_ord [5, 6, 0, 1, 2, 3, 4] [XB x (a 0) (r 0) (p 0) (h 0) q, DW G a S, RN G r H g, PD G p f 0, HI G h n d_, HD G d_ T, SL G q o P] (show (List.range 7).Perm [5, 6, 0, 1, 2, 3, 4] by decide) rfl ?_
  refine V_ws [OB G x a r p h q H g f d_ o S n T P] (by simp only [OB, SL, List.flatten_cons, List.flatten_nil, List.append_nil, List.append_assoc]) ?_
  exact kk _ ⟨⟨a, r, p, h, q, _, _, f, _, o, rfl, ho⟩, hJ⟩
theorem O_column (hw : OJ G x K S n T P w) (X : Cx E G A nL cc own Ts rm l) (hG : GoodIn Ts (wsV own index RX5 yX5_column wsX5_column)) (hW : (st.map fun v => v.category).sum ≤ 8) (hR : 1 ≤ rm.frames ∧ 20 ≤ rm.locals) (hf : kc ≤ rm.cells ∧ ks ≤ rm.slots) (d : decode cc pc = .ok (.invokevirtual index, 3)) (hq : pc + 3 = pc')
    (kk : ∀ w, OJ G x K S n T P w → V E G A nL [w] kc ks Q pc' lv (.int (nI (S 47)) :: st)) : V E G A nL [w] kc ks Q pc lv (.ref x :: st) := by
  obtain ⟨⟨a, r, p, h, q, H, g, f, d_, o, rfl, ho⟩, hJ⟩ := hw
  have hI : IV S := hJ.1.1
  refine V_ws [XB x (a 0) (r 0) (p 0) (h 0) q, DW G a S, RN G r H g, PD G p f 0, HI G h n d_, HD G d_ T, SL G q o P] (by simp only [OB, SL, List.flatten_cons, List.flatten_nil, List.append_nil, List.append_assoc]) ?_
  refine V_callV (As := []) (st := st) 5 0 [0, 1] [2, 3, 4, 5, 6] (show (List.range 7).Perm [0, 1, 2, 3, 4, 5, 6] by decide) X (c_X5_column l G x (r 0) (p 0) (h 0) q a S hI) rfl hG rfl (by decide) rfl rfl rfl hW hR hf d hq (fun v_ u_ hp_ => ?_)
  obtain ⟨rfl, rfl⟩ := hp_
  refine V_ord [5, 6, 0, 1, 2, 3, 4] [XB x (a 0) (r 0) (p 0) (h 0) q, DW G a S, RN G r H g, PD G p f 0, HI G h n d_, HD G d_ T, SL G q o P] (show (List.range 7).Perm [5, 6, 0, 1, 2, 3, 4] by decide) rfl ?_
  refine V_ws [OB G x a r p h q H g f d_ o S n T P] (by simp only [OB, SL, List.flatten_cons, List.flatten_nil, List.append_nil, List.append_assoc]) ?_
  exact kk _ ⟨⟨a, r, p, h, q, _, _, f, _, o, rfl, ho⟩, hJ⟩
theorem O_time (hw : OJ G x K S n T P w) (X : Cx E G A nL cc own Ts rm l) (hG : GoodIn Ts (wsV own index RX5 yX5_time wsX5_time)) (hW : (st.map fun v => v.category).sum ≤ 8) (hR : 1 ≤ rm.frames ∧ 20 ≤ rm.locals) (hf : kc ≤ rm.cells ∧ ks ≤ rm.slots) (d : decode cc pc = .ok (.invokevirtual index, 3)) (hq : pc + 3 = pc')
    (kk : ∀ w, OJ G x K S n T P w → V E G A nL [w] kc ks Q pc' lv (.int (nI (S 48)) :: st)) : V E G A nL [w] kc ks Q pc lv (.ref x :: st) := by
  obtain ⟨⟨a, r, p, h, q, H, g, f, d_, o, rfl, ho⟩, hJ⟩ := hw
  have hI : IV S := hJ.1.1
  refine V_ws [XB x (a 0) (r 0) (p 0) (h 0) q, DW G a S, RN G r H g, PD G p f 0, HI G h n d_, HD G d_ T, SL G q o P] (by simp only [OB, SL, List.flatten_cons, List.flatten_nil, List.append_nil, List.append_assoc]) ?_
  refine V_callV (As := []) (st := st) 5 0 [0, 1] [2, 3, 4, 5, 6] (show (List.range 7).Perm [0, 1, 2, 3, 4, 5, 6] by decide) X (c_X5_time l G x (r 0) (p 0) (h 0) q a S hI) rfl hG rfl (by decide) rfl rfl rfl hW hR hf d hq (fun v_ u_ hp_ => ?_)
  obtain ⟨rfl, rfl⟩ := hp_
  refine V_ord [5, 6, 0, 1, 2, 3, 4] [XB x (a 0) (r 0) (p 0) (h 0) q, DW G a S, RN G r H g, PD G p f 0, HI G h n d_, HD G d_ T, SL G q o P] (show (List.range 7).Perm [5, 6, 0, 1, 2, 3, 4] by decide) rfl ?_
  refine V_ws [OB G x a r p h q H g f d_ o S n T P] (by simp only [OB, SL, List.flatten_cons, List.flatten_nil, List.append_nil, List.append_assoc]) ?_
  exact kk _ ⟨⟨a, r, p, h, q, _, _, f, _, o, rfl, ho⟩, hJ⟩
theorem O_missed (hw : OJ G x K S n T P w) (X : Cx E G A nL cc own Ts rm l) (hG : GoodIn Ts (wsV own index RX5 yX5_missed wsX5_missed)) (hW : (st.map fun v => v.category).sum ≤ 8) (hR : 1 ≤ rm.frames ∧ 20 ≤ rm.locals) (hf : kc ≤ rm.cells ∧ ks ≤ rm.slots) (d : decode cc pc = .ok (.invokevirtual index, 3)) (hq : pc + 3 = pc')
    (kk : ∀ w, OJ G x K S n T P w → V E G A nL [w] kc ks Q pc' lv (.int (nI (S 59)) :: st)) : V E G A nL [w] kc ks Q pc lv (.ref x :: st) := by
  obtain ⟨⟨a, r, p, h, q, H, g, f, d_, o, rfl, ho⟩, hJ⟩ := hw
  have hI : IV S := hJ.1.1
  refine V_ws [XB x (a 0) (r 0) (p 0) (h 0) q, DW G a S, RN G r H g, PD G p f 0, HI G h n d_, HD G d_ T, SL G q o P] (by simp only [OB, SL, List.flatten_cons, List.flatten_nil, List.append_nil, List.append_assoc]) ?_
  refine V_callV (As := []) (st := st) 5 0 [0, 1] [2, 3, 4, 5, 6] (show (List.range 7).Perm [0, 1, 2, 3, 4, 5, 6] by decide) X (c_X5_missed l G x (r 0) (p 0) (h 0) q a S hI) rfl hG rfl (by decide) rfl rfl rfl hW hR hf d hq (fun v_ u_ hp_ => ?_)
  obtain ⟨rfl, rfl⟩ := hp_
  refine V_ord [5, 6, 0, 1, 2, 3, 4] [XB x (a 0) (r 0) (p 0) (h 0) q, DW G a S, RN G r H g, PD G p f 0, HI G h n d_, HD G d_ T, SL G q o P] (show (List.range 7).Perm [5, 6, 0, 1, 2, 3, 4] by decide) rfl ?_
  refine V_ws [OB G x a r p h q H g f d_ o S n T P] (by simp only [OB, SL, List.flatten_cons, List.flatten_nil, List.append_nil, List.append_assoc]) ?_
  exact kk _ ⟨⟨a, r, p, h, q, _, _, f, _, o, rfl, ho⟩, hJ⟩
theorem O_heard (b : Nat) (hb : b < 2) (hw : OJ G x K S n T P w) (X : Cx E G A nL cc own Ts rm l) (hG : GoodIn Ts (wsV own index RX5 yX5_heard wsX5_heard)) (hW : (st.map fun v => v.category).sum ≤ 8) (hR : 2 ≤ rm.frames ∧ 43 ≤ rm.locals) (hf : kc ≤ rm.cells ∧ ks ≤ rm.slots) (d : decode cc pc = .ok (.invokevirtual index, 3)) (hq : pc + 3 = pc')
    (kk : ∀ w, OJ G x K S n T P w → V E G A nL [w] kc ks Q pc' lv (.int (nI (S 70)) :: st)) : V E G A nL [w] kc ks Q pc lv (.int (nI b) :: .ref x :: st) := by
  obtain ⟨⟨a, r, p, h, q, H, g, f, d_, o, rfl, ho⟩, hJ⟩ := hw
  have hI : IV S := hJ.1.1
  refine V_ws [XB x (a 0) (r 0) (p 0) (h 0) q, DW G a S, RN G r H g, PD G p f 0, HI G h n d_, HD G d_ T, SL G q o P] (by simp only [OB, SL, List.flatten_cons, List.flatten_nil, List.append_nil, List.append_assoc]) ?_
  refine V_callV (As := [.int (nI b)]) (st := st) 5 0 [0, 1] [2, 3, 4, 5, 6] (show (List.range 7).Perm [0, 1, 2, 3, 4, 5, 6] by decide) X (c_X5_heard l G x (r 0) (p 0) (h 0) q a S hI b hb) rfl hG rfl (by decide) rfl rfl rfl hW hR hf d hq (fun v_ u_ hp_ => ?_)
  obtain ⟨rfl, rfl⟩ := hp_
  rw [show (if b = 0 then S 70 else sm (fun k => S (49 + k)) 10) = S 70 by split; rfl; exact hJ.1.2.2.1.symm]
  refine V_ord [5, 6, 0, 1, 2, 3, 4] [XB x (a 0) (r 0) (p 0) (h 0) q, DW G a S, RN G r H g, PD G p f 0, HI G h n d_, HD G d_ T, SL G q o P] (show (List.range 7).Perm [5, 6, 0, 1, 2, 3, 4] by decide) rfl ?_
  refine V_ws [OB G x a r p h q H g f d_ o S n T P] (by simp only [OB, SL, List.flatten_cons, List.flatten_nil, List.append_nil, List.append_assoc]) ?_
  exact kk _ ⟨⟨a, r, p, h, q, _, _, f, _, o, rfl, ho⟩, hJ⟩
theorem O_ticksOfRound (b : Nat) (hb : b < 2) (hw : OJ G x K S n T P w) (X : Cx E G A nL cc own Ts rm l) (hG : GoodIn Ts (wsV own index RX5 yX5_ticksOfRound wsX5_ticksOfRound)) (hW : (st.map fun v => v.category).sum ≤ 8) (hR : 2 ≤ rm.frames ∧ 43 ≤ rm.locals) (hf : kc ≤ rm.cells ∧ ks ≤ rm.slots) (d : decode cc pc = .ok (.invokevirtual index, 3)) (hq : pc + 3 = pc')
    (kk : ∀ w, OJ G x K S n T P w → V E G A nL [w] kc ks Q pc' lv (.int (nI (tks S)) :: st)) : V E G A nL [w] kc ks Q pc lv (.int (nI b) :: .ref x :: st) := by
  obtain ⟨⟨a, r, p, h, q, H, g, f, d_, o, rfl, ho⟩, hJ⟩ := hw
  have hI : IV S := hJ.1.1
  refine V_ws [XB x (a 0) (r 0) (p 0) (h 0) q, DW G a S, RN G r H g, PD G p f 0, HI G h n d_, HD G d_ T, SL G q o P] (by simp only [OB, SL, List.flatten_cons, List.flatten_nil, List.append_nil, List.append_assoc]) ?_
  refine V_callV (As := [.int (nI b)]) (st := st) 5 0 [0, 1] [2, 3, 4, 5, 6] (show (List.range 7).Perm [0, 1, 2, 3, 4, 5, 6] by decide) X (c_X5_ticksOfRound l G x (r 0) (p 0) (h 0) q a S hI b hb) rfl hG rfl (by decide) rfl rfl rfl hW hR hf d hq (fun v_ u_ hp_ => ?_)
  obtain ⟨rfl, rfl⟩ := hp_
  rw [show (if b = 0 then sm (fun k => S (32 + k / 8)) 32 else sm (fun k => 8 * S (32 + k)) 4) = tks S by split; exact tks_eq S; rfl]
  refine V_ord [5, 6, 0, 1, 2, 3, 4] [XB x (a 0) (r 0) (p 0) (h 0) q, DW G a S, RN G r H g, PD G p f 0, HI G h n d_, HD G d_ T, SL G q o P] (show (List.range 7).Perm [5, 6, 0, 1, 2, 3, 4] by decide) rfl ?_
  refine V_ws [OB G x a r p h q H g f d_ o S n T P] (by simp only [OB, SL, List.flatten_cons, List.flatten_nil, List.append_nil, List.append_assoc]) ?_
  exact kk _ ⟨⟨a, r, p, h, q, _, _, f, _, o, rfl, ho⟩, hJ⟩
theorem O_whyMissed (b : Nat) (hb : b < 10) (hw : OJ G x K S n T P w) (X : Cx E G A nL cc own Ts rm l) (hG : GoodIn Ts (wsV own index RX5 yX5_whyMissed wsX5_whyMissed)) (hW : (st.map fun v => v.category).sum ≤ 8) (hR : 4 ≤ rm.frames ∧ 90 ≤ rm.locals) (hf : kc ≤ rm.cells ∧ ks ≤ rm.slots) (d : decode cc pc = .ok (.invokevirtual index, 3)) (hq : pc + 3 = pc')
    (kk : ∀ w, OJ G x K S n T P w → V E G A nL [w] kc ks Q pc' lv (.int (nI (why S b)) :: st)) : V E G A nL [w] kc ks Q pc lv (.int (nI b) :: .ref x :: st) := by
  obtain ⟨⟨a, r, p, h, q, H, g, f, d_, o, rfl, ho⟩, hJ⟩ := hw
  have hI : IV S := hJ.1.1
  refine V_ws [XB x (a 0) (r 0) (p 0) (h 0) q, DW G a S, RN G r H g, PD G p f 0, HI G h n d_, HD G d_ T, SL G q o P] (by simp only [OB, SL, List.flatten_cons, List.flatten_nil, List.append_nil, List.append_assoc]) ?_
  refine V_callV (As := [.int (nI b)]) (st := st) 5 0 [0, 1] [2, 3, 4, 5, 6] (show (List.range 7).Perm [0, 1, 2, 3, 4, 5, 6] by decide) X (c_X5_whyMissed l G x (r 0) (p 0) (h 0) q a S hI b hb) rfl hG rfl (by decide) rfl rfl rfl hW hR hf d hq (fun v_ u_ hp_ => ?_)
  obtain ⟨rfl, rfl⟩ := hp_
  refine V_ord [5, 6, 0, 1, 2, 3, 4] [XB x (a 0) (r 0) (p 0) (h 0) q, DW G a S, RN G r H g, PD G p f 0, HI G h n d_, HD G d_ T, SL G q o P] (show (List.range 7).Perm [5, 6, 0, 1, 2, 3, 4] by decide) rfl ?_
  refine V_ws [OB G x a r p h q H g f d_ o S n T P] (by simp only [OB, SL, List.flatten_cons, List.flatten_nil, List.append_nil, List.append_assoc]) ?_
  exact kk _ ⟨⟨a, r, p, h, q, _, _, f, _, o, rfl, ho⟩, hJ⟩
theorem O_inRound (c : Nat) (hc : c < 32) (hw : OJ G x K S n T P w) (X : Cx E G A nL cc own Ts rm l) (hG : GoodIn Ts (wsV own index RX5 yX5_inRound wsX5_inRound)) (hW : (st.map fun v => v.category).sum ≤ 8) (hR : 4 ≤ rm.frames ∧ 95 ≤ rm.locals) (hf : kc ≤ rm.cells ∧ ks ≤ rm.slots) (d : decode cc pc = .ok (.invokevirtual index, 3)) (hq : pc + 3 = pc')
    (kk : ∀ w, OJ G x K S n T P w → V E G A nL [w] kc ks Q pc' lv (.int (nI (rh 3 S (S 46) c)) :: st)) : V E G A nL [w] kc ks Q pc lv (.int (nI c) :: .ref x :: st) := by
  obtain ⟨⟨a, r, p, h, q, H, g, f, d_, o, rfl, ho⟩, hJ⟩ := hw
  have hI : IV S := hJ.1.1
  refine V_ws [XB x (a 0) (r 0) (p 0) (h 0) q, DW G a S, RN G r H g, PD G p f 0, HI G h n d_, HD G d_ T, SL G q o P] (by simp only [OB, SL, List.flatten_cons, List.flatten_nil, List.append_nil, List.append_assoc]) ?_
  refine V_callV (As := [.int (nI c)]) (st := st) 5 0 [0, 1, 2] [3, 4, 5, 6] (show (List.range 7).Perm [0, 1, 2, 3, 4, 5, 6] by decide) X (c_X5_inRound l G x (p 0) (h 0) q a S r H g hI c hc) rfl hG rfl (by decide) rfl rfl rfl hW hR hf d hq (fun v_ u_ hp_ => ?_)
  obtain ⟨rfl, rfl⟩ := hp_
  refine V_ord [4, 5, 6, 0, 1, 2, 3] [XB x (a 0) (r 0) (p 0) (h 0) q, DW G a S, RN G r (rh 3 S (S 46)) (rsp 3 S (S 46) 32), PD G p f 0, HI G h n d_, HD G d_ T, SL G q o P] (show (List.range 7).Perm [4, 5, 6, 0, 1, 2, 3] by decide) rfl ?_
  refine V_ws [OB G x a r p h q (rh 3 S (S 46)) (rsp 3 S (S 46) 32) f d_ o S n T P] (by simp only [OB, SL, List.flatten_cons, List.flatten_nil, List.append_nil, List.append_assoc]) ?_
  exact kk _ ⟨⟨a, r, p, h, q, _, _, f, _, o, rfl, ho⟩, hJ⟩
theorem O_heardInRound (b : Nat) (hb : b < 2) (hw : OJ G x K S n T P w) (X : Cx E G A nL cc own Ts rm l) (hG : GoodIn Ts (wsV own index RX5 yX5_heardInRound wsX5_heardInRound)) (hW : (st.map fun v => v.category).sum ≤ 8) (hR : 4 ≤ rm.frames ∧ 96 ≤ rm.locals) (hf : kc ≤ rm.cells ∧ ks ≤ rm.slots) (d : decode cc pc = .ok (.invokevirtual index, 3)) (hq : pc + 3 = pc')
    (kk : ∀ w, OJ G x K S n T P w → V E G A nL [w] kc ks Q pc' lv (.int (nI (sm (fun k => cnt (rh 3 S (S 46) k)) 32)) :: st)) : V E G A nL [w] kc ks Q pc lv (.int (nI b) :: .ref x :: st) := by
  obtain ⟨⟨a, r, p, h, q, H, g, f, d_, o, rfl, ho⟩, hJ⟩ := hw
  have hI : IV S := hJ.1.1
  refine V_ws [XB x (a 0) (r 0) (p 0) (h 0) q, DW G a S, RN G r H g, PD G p f 0, HI G h n d_, HD G d_ T, SL G q o P] (by simp only [OB, SL, List.flatten_cons, List.flatten_nil, List.append_nil, List.append_assoc]) ?_
  refine V_callV (As := [.int (nI b)]) (st := st) 5 0 [0, 1, 2] [3, 4, 5, 6] (show (List.range 7).Perm [0, 1, 2, 3, 4, 5, 6] by decide) X (c_X5_heardInRound l G x (p 0) (h 0) q a S r H g hI b hb) rfl hG rfl (by decide) rfl rfl rfl hW hR hf d hq (fun v_ u_ hp_ => ?_)
  obtain ⟨rfl, rfl⟩ := hp_
  refine V_ord [4, 5, 6, 0, 1, 2, 3] [XB x (a 0) (r 0) (p 0) (h 0) q, DW G a S, RN G r (rh 3 S (S 46)) (rsp 3 S (S 46) 32), PD G p f 0, HI G h n d_, HD G d_ T, SL G q o P] (show (List.range 7).Perm [4, 5, 6, 0, 1, 2, 3] by decide) rfl ?_
  refine V_ws [OB G x a r p h q (rh 3 S (S 46)) (rsp 3 S (S 46) 32) f d_ o S n T P] (by simp only [OB, SL, List.flatten_cons, List.flatten_nil, List.append_nil, List.append_assoc]) ?_
  exact kk _ ⟨⟨a, r, p, h, q, _, _, f, _, o, rfl, ho⟩, hJ⟩
theorem O_missedInRound (hw : OJ G x K S n T P w) (X : Cx E G A nL cc own Ts rm l) (hG : GoodIn Ts (wsV own index RX5 yX5_missedInRound wsX5_missedInRound)) (hW : (st.map fun v => v.category).sum ≤ 8) (hR : 4 ≤ rm.frames ∧ 94 ≤ rm.locals) (hf : kc ≤ rm.cells ∧ ks ≤ rm.slots) (d : decode cc pc = .ok (.invokevirtual index, 3)) (hq : pc + 3 = pc')
    (kk : ∀ w, OJ G x K S n T P w → V E G A nL [w] kc ks Q pc' lv (.int (nI (pgs S - sm (fun k => cnt (rh 3 S (S 46) k)) 32)) :: st)) : V E G A nL [w] kc ks Q pc lv (.ref x :: st) := by
  obtain ⟨⟨a, r, p, h, q, H, g, f, d_, o, rfl, ho⟩, hJ⟩ := hw
  have hI : IV S := hJ.1.1
  refine V_ws [XB x (a 0) (r 0) (p 0) (h 0) q, DW G a S, RN G r H g, PD G p f 0, HI G h n d_, HD G d_ T, SL G q o P] (by simp only [OB, SL, List.flatten_cons, List.flatten_nil, List.append_nil, List.append_assoc]) ?_
  refine V_callV (As := []) (st := st) 5 0 [0, 1, 2] [3, 4, 5, 6] (show (List.range 7).Perm [0, 1, 2, 3, 4, 5, 6] by decide) X (c_X5_missedInRound l G x (p 0) (h 0) q a S r H g hI) rfl hG rfl (by decide) rfl rfl rfl hW hR hf d hq (fun v_ u_ hp_ => ?_)
  obtain ⟨rfl, rfl⟩ := hp_
  refine V_ord [4, 5, 6, 0, 1, 2, 3] [XB x (a 0) (r 0) (p 0) (h 0) q, DW G a S, RN G r (rh 3 S (S 46)) (rsp 3 S (S 46) 32), PD G p f 0, HI G h n d_, HD G d_ T, SL G q o P] (show (List.range 7).Perm [4, 5, 6, 0, 1, 2, 3] by decide) rfl ?_
  refine V_ws [OB G x a r p h q (rh 3 S (S 46)) (rsp 3 S (S 46) 32) f d_ o S n T P] (by simp only [OB, SL, List.flatten_cons, List.flatten_nil, List.append_nil, List.append_assoc]) ?_
  exact kk _ ⟨⟨a, r, p, h, q, _, _, f, _, o, rfl, ho⟩, hJ⟩
theorem O_busiest (hw : OJ G x K S n T P w) (X : Cx E G A nL cc own Ts rm l) (hG : GoodIn Ts (wsV own index RX5 yX5_busiest wsX5_busiest)) (hW : (st.map fun v => v.category).sum ≤ 8) (hR : 4 ≤ rm.frames ∧ 98 ≤ rm.locals) (hf : kc ≤ rm.cells ∧ ks ≤ rm.slots) (d : decode cc pc = .ok (.invokevirtual index, 3)) (hq : pc + 3 = pc')
    (kk : ∀ w, OJ G x K S n T P w → V E G A nL [w] kc ks Q pc' lv (.int (rN (bz (fun k => sm (fun j => bq (rh 3 S (S 46) j) k) 32) 10).1) :: st)) : V E G A nL [w] kc ks Q pc lv (.ref x :: st) := by
  obtain ⟨⟨a, r, p, h, q, H, g, f, d_, o, rfl, ho⟩, hJ⟩ := hw
  have hI : IV S := hJ.1.1
  refine V_ws [XB x (a 0) (r 0) (p 0) (h 0) q, DW G a S, RN G r H g, PD G p f 0, HI G h n d_, HD G d_ T, SL G q o P] (by simp only [OB, SL, List.flatten_cons, List.flatten_nil, List.append_nil, List.append_assoc]) ?_
  refine V_callV (As := []) (st := st) 5 0 [0, 1, 2] [3, 4, 5, 6] (show (List.range 7).Perm [0, 1, 2, 3, 4, 5, 6] by decide) X (c_X5_busiest l G x (p 0) (h 0) q a S r H g hI) rfl hG rfl (by decide) rfl rfl rfl hW hR hf d hq (fun v_ u_ hp_ => ?_)
  obtain ⟨rfl, rfl⟩ := hp_
  refine V_ord [4, 5, 6, 0, 1, 2, 3] [XB x (a 0) (r 0) (p 0) (h 0) q, DW G a S, RN G r (rh 3 S (S 46)) (rsp 3 S (S 46) 32), PD G p f 0, HI G h n d_, HD G d_ T, SL G q o P] (show (List.range 7).Perm [4, 5, 6, 0, 1, 2, 3] by decide) rfl ?_
  refine V_ws [OB G x a r p h q (rh 3 S (S 46)) (rsp 3 S (S 46) 32) f d_ o S n T P] (by simp only [OB, SL, List.flatten_cons, List.flatten_nil, List.append_nil, List.append_assoc]) ?_
  exact kk _ ⟨⟨a, r, p, h, q, _, _, f, _, o, rfl, ho⟩, hJ⟩
theorem O_heaviestColumn (hw : OJ G x K S n T P w) (X : Cx E G A nL cc own Ts rm l) (hG : GoodIn Ts (wsV own index RX5 yX5_heaviestColumn wsX5_heaviestColumn)) (hW : (st.map fun v => v.category).sum ≤ 8) (hR : 4 ≤ rm.frames ∧ 98 ≤ rm.locals) (hf : kc ≤ rm.cells ∧ ks ≤ rm.slots) (d : decode cc pc = .ok (.invokevirtual index, 3)) (hq : pc + 3 = pc')
    (kk : ∀ w, OJ G x K S n T P w → V E G A nL [w] kc ks Q pc' lv (.int (rN (bz (fun k => wIn (fun k => S (36 + k)) (rh 3 S (S 46) k)) 32).1) :: st)) : V E G A nL [w] kc ks Q pc lv (.ref x :: st) := by
  obtain ⟨⟨a, r, p, h, q, H, g, f, d_, o, rfl, ho⟩, hJ⟩ := hw
  have hI : IV S := hJ.1.1
  refine V_ws [XB x (a 0) (r 0) (p 0) (h 0) q, DW G a S, RN G r H g, PD G p f 0, HI G h n d_, HD G d_ T, SL G q o P] (by simp only [OB, SL, List.flatten_cons, List.flatten_nil, List.append_nil, List.append_assoc]) ?_
  refine V_callV (As := []) (st := st) 5 0 [0, 1, 2] [3, 4, 5, 6] (show (List.range 7).Perm [0, 1, 2, 3, 4, 5, 6] by decide) X (c_X5_heaviestColumn l G x (p 0) (h 0) q a S r H g hI) rfl hG rfl (by decide) rfl rfl rfl hW hR hf d hq (fun v_ u_ hp_ => ?_)
  obtain ⟨rfl, rfl⟩ := hp_
  refine V_ord [4, 5, 6, 0, 1, 2, 3] [XB x (a 0) (r 0) (p 0) (h 0) q, DW G a S, RN G r (rh 3 S (S 46)) (rsp 3 S (S 46) 32), PD G p f 0, HI G h n d_, HD G d_ T, SL G q o P] (show (List.range 7).Perm [4, 5, 6, 0, 1, 2, 3] by decide) rfl ?_
  refine V_ws [OB G x a r p h q (rh 3 S (S 46)) (rsp 3 S (S 46) 32) f d_ o S n T P] (by simp only [OB, SL, List.flatten_cons, List.flatten_nil, List.append_nil, List.append_assoc]) ?_
  exact kk _ ⟨⟨a, r, p, h, q, _, _, f, _, o, rfl, ho⟩, hJ⟩
theorem O_longestSilence (hw : OJ G x K S n T P w) (X : Cx E G A nL cc own Ts rm l) (hG : GoodIn Ts (wsV own index RX5 yX5_longestSilence wsX5_longestSilence)) (hW : (st.map fun v => v.category).sum ≤ 8) (hR : 4 ≤ rm.frames ∧ 97 ≤ rm.locals) (hf : kc ≤ rm.cells ∧ ks ≤ rm.slots) (d : decode cc pc = .ok (.invokevirtual index, 3)) (hq : pc + 3 = pc')
    (kk : ∀ w, OJ G x K S n T P w → V E G A nL [w] kc ks Q pc' lv (.int (nI (lsn (rh 3 S (S 46)) 32).1) :: st)) : V E G A nL [w] kc ks Q pc lv (.ref x :: st) := by
  obtain ⟨⟨a, r, p, h, q, H, g, f, d_, o, rfl, ho⟩, hJ⟩ := hw
  have hI : IV S := hJ.1.1
  refine V_ws [XB x (a 0) (r 0) (p 0) (h 0) q, DW G a S, RN G r H g, PD G p f 0, HI G h n d_, HD G d_ T, SL G q o P] (by simp only [OB, SL, List.flatten_cons, List.flatten_nil, List.append_nil, List.append_assoc]) ?_
  refine V_callV (As := []) (st := st) 5 0 [0, 1, 2] [3, 4, 5, 6] (show (List.range 7).Perm [0, 1, 2, 3, 4, 5, 6] by decide) X (c_X5_longestSilence l G x (p 0) (h 0) q a S r H g hI) rfl hG rfl (by decide) rfl rfl rfl hW hR hf d hq (fun v_ u_ hp_ => ?_)
  obtain ⟨rfl, rfl⟩ := hp_
  refine V_ord [4, 5, 6, 0, 1, 2, 3] [XB x (a 0) (r 0) (p 0) (h 0) q, DW G a S, RN G r (rh 3 S (S 46)) (rsp 3 S (S 46) 32), PD G p f 0, HI G h n d_, HD G d_ T, SL G q o P] (show (List.range 7).Perm [4, 5, 6, 0, 1, 2, 3] by decide) rfl ?_
  refine V_ws [OB G x a r p h q (rh 3 S (S 46)) (rsp 3 S (S 46) 32) f d_ o S n T P] (by simp only [OB, SL, List.flatten_cons, List.flatten_nil, List.append_nil, List.append_assoc]) ?_
  exact kk _ ⟨⟨a, r, p, h, q, _, _, f, _, o, rfl, ho⟩, hJ⟩
theorem O_enoughBound (hw : OJ G x K S n T P w) (X : Cx E G A nL cc own Ts rm l) (hG : GoodIn Ts (wsV own index RX5 yX5_enoughBound wsX5_enoughBound)) (hW : (st.map fun v => v.category).sum ≤ 8) (hR : 4 ≤ rm.frames ∧ 96 ≤ rm.locals) (hf : kc ≤ rm.cells ∧ ks ≤ rm.slots) (d : decode cc pc = .ok (.invokevirtual index, 3)) (hq : pc + 3 = pc')
    (kk : ∀ w, OJ G x K S n T P w → V E G A nL [w] kc ks Q pc' lv (.int (rN (if mxs (fun k => wIn (fun k => S (36 + k)) (rh 3 S 601 k)) 32 ≤ 300 then some (mxs (fun k => wIn (fun k => S (36 + k)) (rh 3 S 601 k)) 32) else none)) :: st)) : V E G A nL [w] kc ks Q pc lv (.ref x :: st) := by
  obtain ⟨⟨a, r, p, h, q, H, g, f, d_, o, rfl, ho⟩, hJ⟩ := hw
  have hI : IV S := hJ.1.1
  refine V_ws [XB x (a 0) (r 0) (p 0) (h 0) q, DW G a S, RN G r H g, PD G p f 0, HI G h n d_, HD G d_ T, SL G q o P] (by simp only [OB, SL, List.flatten_cons, List.flatten_nil, List.append_nil, List.append_assoc]) ?_
  refine V_callV (As := []) (st := st) 5 0 [0, 1, 2] [3, 4, 5, 6] (show (List.range 7).Perm [0, 1, 2, 3, 4, 5, 6] by decide) X (c_X5_enoughBound l G x (p 0) (h 0) q a S r H g hI) rfl hG rfl (by decide) rfl rfl rfl hW hR hf d hq (fun v_ u_ hp_ => ?_)
  obtain ⟨rfl, rfl⟩ := hp_
  refine V_ord [4, 5, 6, 0, 1, 2, 3] [XB x (a 0) (r 0) (p 0) (h 0) q, DW G a S, RN G r (rh 3 S 601) (rsp 3 S 601 32), PD G p f 0, HI G h n d_, HD G d_ T, SL G q o P] (show (List.range 7).Perm [4, 5, 6, 0, 1, 2, 3] by decide) rfl ?_
  refine V_ws [OB G x a r p h q (rh 3 S 601) (rsp 3 S 601 32) f d_ o S n T P] (by simp only [OB, SL, List.flatten_cons, List.flatten_nil, List.append_nil, List.append_assoc]) ?_
  exact kk _ ⟨⟨a, r, p, h, q, _, _, f, _, o, rfl, ho⟩, hJ⟩
theorem O_undoable (hw : OJ G x K S n T P w) (X : Cx E G A nL cc own Ts rm l) (hG : GoodIn Ts (wsV own index RX5 yX5_undoable wsX5_undoable)) (hW : (st.map fun v => v.category).sum ≤ 8) (hR : 1 ≤ rm.frames ∧ 20 ≤ rm.locals) (hf : kc ≤ rm.cells ∧ ks ≤ rm.slots) (d : decode cc pc = .ok (.invokevirtual index, 3)) (hq : pc + 3 = pc')
    (kk : ∀ w, OJ G x K S n T P w → V E G A nL [w] kc ks Q pc' lv (.int (nI n) :: st)) : V E G A nL [w] kc ks Q pc lv (.ref x :: st) := by
  obtain ⟨⟨a, r, p, h, q, H, g, f, d_, o, rfl, ho⟩, hJ⟩ := hw
  have hI : IV S := hJ.1.1
  refine V_ws [XB x (a 0) (r 0) (p 0) (h 0) q, DW G a S, RN G r H g, PD G p f 0, HI G h n d_, HD G d_ T, SL G q o P] (by simp only [OB, SL, List.flatten_cons, List.flatten_nil, List.append_nil, List.append_assoc]) ?_
  refine V_callV (As := []) (st := st) 5 0 [0, 4] [1, 2, 3, 5, 6] (show (List.range 7).Perm [0, 4, 1, 2, 3, 5, 6] by decide) X (c_X5_undoable l G x (a 0) (r 0) (p 0) q h n d_) rfl hG rfl (by decide) rfl rfl rfl hW hR hf d hq (fun v_ u_ hp_ => ?_)
  obtain ⟨rfl, rfl⟩ := hp_
  refine V_ord [5, 0, 1, 2, 6, 3, 4] [XB x (a 0) (r 0) (p 0) (h 0) q, DW G a S, RN G r H g, PD G p f 0, HI G h n d_, HD G d_ T, SL G q o P] (show (List.range 7).Perm [5, 0, 1, 2, 6, 3, 4] by decide) rfl ?_
  refine V_ws [OB G x a r p h q H g f d_ o S n T P] (by simp only [OB, SL, List.flatten_cons, List.flatten_nil, List.append_nil, List.append_assoc]) ?_
  exact kk _ ⟨⟨a, r, p, h, q, _, _, f, _, o, rfl, ho⟩, hJ⟩
theorem O_turnPeg (c b : Nat) (hc : c < 32) (hb : b < 10) (hw : OJ G x K S n T P w) (X : Cx E G A nL cc own Ts rm l) (hG : GoodIn Ts (wsV own index RX5 yX5_turnPeg wsX5_turnPeg)) (hW : (st.map fun v => v.category).sum ≤ 8) (hR : 5 ≤ rm.frames ∧ 126 ≤ rm.locals) (hf : kc ≤ rm.cells ∧ ks ≤ rm.slots) (d : decode cc pc = .ok (.invokevirtual index, 3)) (hq : pc + 3 = pc')
    (kk : ∀ w, OJ G x K (va_up S c (S c ^^^ 2 ^ b)) (aM n + 1) (hT n S T) P w → V E G A nL [w] kc ks Q pc' lv (.int (nI (bq (S c ^^^ 2 ^ b) b)) :: st)) : V E G A nL [w] kc ks Q pc lv (.int (nI b) :: .int (nI c) :: .ref x :: st) := by
  obtain ⟨⟨a, r, p, h, q, H, g, f, d_, o, rfl, ho⟩, hJ⟩ := hw
  have hI : IV S := hJ.1.1
  refine V_ws [XB x (a 0) (r 0) (p 0) (h 0) q, DW G a S, RN G r H g, PD G p f 0, HI G h n d_, HD G d_ T, SL G q o P] (by simp only [OB, SL, List.flatten_cons, List.flatten_nil, List.append_nil, List.append_assoc]) ?_
  refine V_callV (As := [.int (nI c), .int (nI b)]) (st := st) 5 0 [0, 1, 4, 5] [2, 3, 6] (show (List.range 7).Perm [0, 1, 4, 5, 2, 3, 6] by decide) X (c_X5_turnPeg l G x (r 0) (p 0) q a S h n d_ T hJ.2.1 hI c b hc hb) rfl hG rfl (by decide) rfl rfl rfl hW hR hf d hq (fun v_ u_ hp_ => ?_)
  obtain ⟨rfl, rfl⟩ := hp_
  refine V_ord [3, 4, 0, 1, 5, 6, 2] [XB x (a 0) (r 0) (p 0) (h 0) q, DW G a (va_up S c (S c ^^^ 2 ^ b)), RN G r H g, PD G p f 0, HI G h (aM n + 1) (aD n d_), HD G (aD n d_) (hT n S T), SL G q o P] (show (List.range 7).Perm [3, 4, 0, 1, 5, 6, 2] by decide) rfl ?_
  refine V_ws [OB G x a r p h q H g f (aD n d_) o (va_up S c (S c ^^^ 2 ^ b)) (aM n + 1) (hT n S T) P] (by simp only [OB, SL, List.flatten_cons, List.flatten_nil, List.append_nil, List.append_assoc]) ?_
  exact kk _ ⟨⟨a, r, p, h, q, _, _, f, _, o, rfl, ho⟩, hJ.step (Nat.le_refl _) (J_turnPeg hc hb hJ.1)⟩
theorem O_setColumn (c v : Nat) (hc : c < 32) (hv : v < 1024) (hw : OJ G x K S n T P w) (X : Cx E G A nL cc own Ts rm l) (hG : GoodIn Ts (wsV own index RX5 yX5_setColumn wsX5_setColumn)) (hW : (st.map fun v => v.category).sum ≤ 8) (hR : 5 ≤ rm.frames ∧ 127 ≤ rm.locals) (hf : kc ≤ rm.cells ∧ ks ≤ rm.slots) (d : decode cc pc = .ok (.invokevirtual index, 3)) (hq : pc + 3 = pc')
    (kk : ∀ w, OJ G x K (va_up S c v) (aM n + 1) (hT n S T) P w → V E G A nL [w] kc ks Q pc' lv (.int (nI (sm (fun k => cnt (va_up S c v k ^^^ S k)) 32)) :: st)) : V E G A nL [w] kc ks Q pc lv (.int (nI v) :: .int (nI c) :: .ref x :: st) := by
  obtain ⟨⟨a, r, p, h, q, H, g, f, d_, o, rfl, ho⟩, hJ⟩ := hw
  have hI : IV S := hJ.1.1
  refine V_ws [XB x (a 0) (r 0) (p 0) (h 0) q, DW G a S, RN G r H g, PD G p f 0, HI G h n d_, HD G d_ T, SL G q o P] (by simp only [OB, SL, List.flatten_cons, List.flatten_nil, List.append_nil, List.append_assoc]) ?_
  refine V_callV (As := [.int (nI c), .int (nI v)]) (st := st) 5 0 [0, 1, 4, 5] [2, 3, 6] (show (List.range 7).Perm [0, 1, 4, 5, 2, 3, 6] by decide) X (c_X5_setColumn l G x (r 0) (p 0) q a S h n d_ T hJ.2.1 hI c v hc hv) rfl hG rfl (by decide) rfl rfl rfl hW hR hf d hq (fun v_ u_ hp_ => ?_)
  obtain ⟨rfl, rfl⟩ := hp_
  refine V_ord [3, 4, 0, 1, 5, 6, 2] [XB x (a 0) (r 0) (p 0) (h 0) q, DW G a (va_up S c v), RN G r H g, PD G p f 0, HI G h (aM n + 1) (aD n d_), HD G (aD n d_) (hT n S T), SL G q o P] (show (List.range 7).Perm [3, 4, 0, 1, 5, 6, 2] by decide) rfl ?_
  refine V_ws [OB G x a r p h q H g f (aD n d_) o (va_up S c v) (aM n + 1) (hT n S T) P] (by simp only [OB, SL, List.flatten_cons, List.flatten_nil, List.append_nil, List.append_assoc]) ?_
  exact kk _ ⟨⟨a, r, p, h, q, _, _, f, _, o, rfl, ho⟩, hJ.step (Nat.le_refl _) (J_peg hc hv hJ.1)⟩
theorem O_setTempo (c v : Nat) (hc : c < 4) (hv1 : 1 ≤ v) (hv : v ≤ 9) (hw : OJ G x K S n T P w) (X : Cx E G A nL cc own Ts rm l) (hG : GoodIn Ts (wsV own index RX5 yX5_setTempo wsX5_setTempo)) (hW : (st.map fun v => v.category).sum ≤ 8) (hR : 5 ≤ rm.frames ∧ 127 ≤ rm.locals) (hf : kc ≤ rm.cells ∧ ks ≤ rm.slots) (d : decode cc pc = .ok (.invokevirtual index, 3)) (hq : pc + 3 = pc')
    (kk : ∀ w, OJ G x K (va_up S (32 + c) v) (aM n + 1) (hT n S T) P w → V E G A nL [w] kc ks Q pc' lv (.int (nI (S (32 + c))) :: st)) : V E G A nL [w] kc ks Q pc lv (.int (nI v) :: .int (nI c) :: .ref x :: st) := by
  obtain ⟨⟨a, r, p, h, q, H, g, f, d_, o, rfl, ho⟩, hJ⟩ := hw
  have hI : IV S := hJ.1.1
  refine V_ws [XB x (a 0) (r 0) (p 0) (h 0) q, DW G a S, RN G r H g, PD G p f 0, HI G h n d_, HD G d_ T, SL G q o P] (by simp only [OB, SL, List.flatten_cons, List.flatten_nil, List.append_nil, List.append_assoc]) ?_
  refine V_callV (As := [.int (nI c), .int (nI v)]) (st := st) 5 0 [0, 1, 4, 5] [2, 3, 6] (show (List.range 7).Perm [0, 1, 4, 5, 2, 3, 6] by decide) X (c_X5_setTempo l G x (r 0) (p 0) q a S h n d_ T hJ.2.1 hI c v hc hv1 hv) rfl hG rfl (by decide) rfl rfl rfl hW hR hf d hq (fun v_ u_ hp_ => ?_)
  obtain ⟨rfl, rfl⟩ := hp_
  refine V_ord [3, 4, 0, 1, 5, 6, 2] [XB x (a 0) (r 0) (p 0) (h 0) q, DW G a (va_up S (32 + c) v), RN G r H g, PD G p f 0, HI G h (aM n + 1) (aD n d_), HD G (aD n d_) (hT n S T), SL G q o P] (show (List.range 7).Perm [3, 4, 0, 1, 5, 6, 2] by decide) rfl ?_
  refine V_ws [OB G x a r p h q H g f (aD n d_) o (va_up S (32 + c) v) (aM n + 1) (hT n S T) P] (by simp only [OB, SL, List.flatten_cons, List.flatten_nil, List.append_nil, List.append_assoc]) ?_
  exact kk _ ⟨⟨a, r, p, h, q, _, _, f, _, o, rfl, ho⟩, hJ.step (Nat.le_refl _) (J_tempo hc hv hJ.1)⟩
theorem O_setWeight (c v : Nat) (hc : c < 10) (hv1 : 1 ≤ v) (hv : v ≤ 60) (hw : OJ G x K S n T P w) (X : Cx E G A nL cc own Ts rm l) (hG : GoodIn Ts (wsV own index RX5 yX5_setWeight wsX5_setWeight)) (hW : (st.map fun v => v.category).sum ≤ 8) (hR : 5 ≤ rm.frames ∧ 127 ≤ rm.locals) (hf : kc ≤ rm.cells ∧ ks ≤ rm.slots) (d : decode cc pc = .ok (.invokevirtual index, 3)) (hq : pc + 3 = pc')
    (kk : ∀ w, OJ G x K (va_up S (36 + c) v) (aM n + 1) (hT n S T) P w → V E G A nL [w] kc ks Q pc' lv (.int (nI (S (36 + c))) :: st)) : V E G A nL [w] kc ks Q pc lv (.int (nI v) :: .int (nI c) :: .ref x :: st) := by
  obtain ⟨⟨a, r, p, h, q, H, g, f, d_, o, rfl, ho⟩, hJ⟩ := hw
  have hI : IV S := hJ.1.1
  refine V_ws [XB x (a 0) (r 0) (p 0) (h 0) q, DW G a S, RN G r H g, PD G p f 0, HI G h n d_, HD G d_ T, SL G q o P] (by simp only [OB, SL, List.flatten_cons, List.flatten_nil, List.append_nil, List.append_assoc]) ?_
  refine V_callV (As := [.int (nI c), .int (nI v)]) (st := st) 5 0 [0, 1, 4, 5] [2, 3, 6] (show (List.range 7).Perm [0, 1, 4, 5, 2, 3, 6] by decide) X (c_X5_setWeight l G x (r 0) (p 0) q a S h n d_ T hJ.2.1 hI c v hc hv1 hv) rfl hG rfl (by decide) rfl rfl rfl hW hR hf d hq (fun v_ u_ hp_ => ?_)
  obtain ⟨rfl, rfl⟩ := hp_
  refine V_ord [3, 4, 0, 1, 5, 6, 2] [XB x (a 0) (r 0) (p 0) (h 0) q, DW G a (va_up S (36 + c) v), RN G r H g, PD G p f 0, HI G h (aM n + 1) (aD n d_), HD G (aD n d_) (hT n S T), SL G q o P] (show (List.range 7).Perm [3, 4, 0, 1, 5, 6, 2] by decide) rfl ?_
  refine V_ws [OB G x a r p h q H g f (aD n d_) o (va_up S (36 + c) v) (aM n + 1) (hT n S T) P] (by simp only [OB, SL, List.flatten_cons, List.flatten_nil, List.append_nil, List.append_assoc]) ?_
  exact kk _ ⟨⟨a, r, p, h, q, _, _, f, _, o, rfl, ho⟩, hJ.step (Nat.le_refl _) (J_weight hc hv hJ.1)⟩
theorem O_setBound (v : Nat) (hv1 : 1 ≤ v) (hv : v ≤ 300) (hw : OJ G x K S n T P w) (X : Cx E G A nL cc own Ts rm l) (hG : GoodIn Ts (wsV own index RX5 yX5_setBound wsX5_setBound)) (hW : (st.map fun v => v.category).sum ≤ 8) (hR : 5 ≤ rm.frames ∧ 126 ≤ rm.locals) (hf : kc ≤ rm.cells ∧ ks ≤ rm.slots) (d : decode cc pc = .ok (.invokevirtual index, 3)) (hq : pc + 3 = pc')
    (kk : ∀ w, OJ G x K (va_up S 46 v) (aM n + 1) (hT n S T) P w → V E G A nL [w] kc ks Q pc' lv (.int (nI (S 46)) :: st)) : V E G A nL [w] kc ks Q pc lv (.int (nI v) :: .ref x :: st) := by
  obtain ⟨⟨a, r, p, h, q, H, g, f, d_, o, rfl, ho⟩, hJ⟩ := hw
  have hI : IV S := hJ.1.1
  refine V_ws [XB x (a 0) (r 0) (p 0) (h 0) q, DW G a S, RN G r H g, PD G p f 0, HI G h n d_, HD G d_ T, SL G q o P] (by simp only [OB, SL, List.flatten_cons, List.flatten_nil, List.append_nil, List.append_assoc]) ?_
  refine V_callV (As := [.int (nI v)]) (st := st) 5 0 [0, 1, 4, 5] [2, 3, 6] (show (List.range 7).Perm [0, 1, 4, 5, 2, 3, 6] by decide) X (c_X5_setBound l G x (r 0) (p 0) q a S h n d_ T hJ.2.1 hI v hv1 hv) rfl hG rfl (by decide) rfl rfl rfl hW hR hf d hq (fun v_ u_ hp_ => ?_)
  obtain ⟨rfl, rfl⟩ := hp_
  refine V_ord [3, 4, 0, 1, 5, 6, 2] [XB x (a 0) (r 0) (p 0) (h 0) q, DW G a (va_up S 46 v), RN G r H g, PD G p f 0, HI G h (aM n + 1) (aD n d_), HD G (aD n d_) (hT n S T), SL G q o P] (show (List.range 7).Perm [3, 4, 0, 1, 5, 6, 2] by decide) rfl ?_
  refine V_ws [OB G x a r p h q H g f (aD n d_) o (va_up S 46 v) (aM n + 1) (hT n S T) P] (by simp only [OB, SL, List.flatten_cons, List.flatten_nil, List.append_nil, List.append_assoc]) ?_
  exact kk _ ⟨⟨a, r, p, h, q, _, _, f, _, o, rfl, ho⟩, hJ.step (Nat.le_refl _) (J_bound hv1 hv hJ.1)⟩
theorem O_turnRound (hw : OJ G x K S n T P w) (X : Cx E G A nL cc own Ts rm l) (hG : GoodIn Ts (wsV own index RX5 yX5_turnRound wsX5_turnRound)) (hW : (st.map fun v => v.category).sum ≤ 8) (hR : 5 ≤ rm.frames ∧ 126 ≤ rm.locals) (hf : kc ≤ rm.cells ∧ ks ≤ rm.slots) (d : decode cc pc = .ok (.invokevirtual index, 3)) (hq : pc + 3 = pc')
    (kk : ∀ w, OJ G x K (trn S) (aM n + 1) (hT n S T) P w → V E G A nL [w] kc ks Q pc' lv (.int (nI (sm (fun k => cnt (trn S k ^^^ S k)) 32)) :: st)) : V E G A nL [w] kc ks Q pc lv (.ref x :: st) := by
  obtain ⟨⟨a, r, p, h, q, H, g, f, d_, o, rfl, ho⟩, hJ⟩ := hw
  have hI : IV S := hJ.1.1
  refine V_ws [XB x (a 0) (r 0) (p 0) (h 0) q, DW G a S, RN G r H g, PD G p f 0, HI G h n d_, HD G d_ T, SL G q o P] (by simp only [OB, SL, List.flatten_cons, List.flatten_nil, List.append_nil, List.append_assoc]) ?_
  refine V_callV (As := []) (st := st) 5 0 [0, 1, 4, 5] [2, 3, 6] (show (List.range 7).Perm [0, 1, 4, 5, 2, 3, 6] by decide) X (c_X5_turnRound l G x (r 0) (p 0) q a S h n d_ T hJ.2.1 hI) rfl hG rfl (by decide) rfl rfl rfl hW hR hf d hq (fun v_ u_ hp_ => ?_)
  obtain ⟨rfl, rfl⟩ := hp_
  refine V_ord [3, 4, 0, 1, 5, 6, 2] [XB x (a 0) (r 0) (p 0) (h 0) q, DW G a (trn S), RN G r H g, PD G p f 0, HI G h (aM n + 1) (aD n d_), HD G (aD n d_) (hT n S T), SL G q o P] (show (List.range 7).Perm [3, 4, 0, 1, 5, 6, 2] by decide) rfl ?_
  refine V_ws [OB G x a r p h q H g f (aD n d_) o (trn S) (aM n + 1) (hT n S T) P] (by simp only [OB, SL, List.flatten_cons, List.flatten_nil, List.append_nil, List.append_assoc]) ?_
  exact kk _ ⟨⟨a, r, p, h, q, _, _, f, _, o, rfl, ho⟩, hJ.step (Nat.le_refl _) (J_trn hJ.1)⟩
theorem O_move (m : Nat) (hm1 : 1 ≤ m) (hm : m < 32) (hw : OJ G x K S n T P w) (X : Cx E G A nL cc own Ts rm l) (hG : GoodIn Ts (wsV own index RX5 yX5_move wsX5_move)) (hW : (st.map fun v => v.category).sum ≤ 8) (hR : 5 ≤ rm.frames ∧ 127 ≤ rm.locals) (hf : kc ≤ rm.cells ∧ ks ≤ rm.slots) (d : decode cc pc = .ok (.invokevirtual index, 3)) (hq : pc + 3 = pc')
    (kk : ∀ w, OJ G x K (mvd m S) (aM n + 1) (hT n S T) P w → V E G A nL [w] kc ks Q pc' lv (.int (nI (sm (fun k => cnt (mvd m S k ^^^ S k)) 32)) :: st)) : V E G A nL [w] kc ks Q pc lv (.int (nI m) :: .ref x :: st) := by
  obtain ⟨⟨a, r, p, h, q, H, g, f, d_, o, rfl, ho⟩, hJ⟩ := hw
  have hI : IV S := hJ.1.1
  refine V_ws [XB x (a 0) (r 0) (p 0) (h 0) q, DW G a S, RN G r H g, PD G p f 0, HI G h n d_, HD G d_ T, SL G q o P] (by simp only [OB, SL, List.flatten_cons, List.flatten_nil, List.append_nil, List.append_assoc]) ?_
  refine V_callV (As := [.int (nI m)]) (st := st) 5 0 [0, 1, 4, 5] [2, 3, 6] (show (List.range 7).Perm [0, 1, 4, 5, 2, 3, 6] by decide) X (c_X5_move l G x (r 0) (p 0) q a S h n d_ T hJ.2.1 hI m hm1 hm) rfl hG rfl (by decide) rfl rfl rfl hW hR hf d hq (fun v_ u_ hp_ => ?_)
  obtain ⟨rfl, rfl⟩ := hp_
  refine V_ord [3, 4, 0, 1, 5, 6, 2] [XB x (a 0) (r 0) (p 0) (h 0) q, DW G a (mvd m S), RN G r H g, PD G p f 0, HI G h (aM n + 1) (aD n d_), HD G (aD n d_) (hT n S T), SL G q o P] (show (List.range 7).Perm [3, 4, 0, 1, 5, 6, 2] by decide) rfl ?_
  refine V_ws [OB G x a r p h q H g f (aD n d_) o (mvd m S) (aM n + 1) (hT n S T) P] (by simp only [OB, SL, List.flatten_cons, List.flatten_nil, List.append_nil, List.append_assoc]) ?_
  exact kk _ ⟨⟨a, r, p, h, q, _, _, f, _, o, rfl, ho⟩, hJ.step (Nat.le_refl _) (J_mvd hJ.1)⟩
theorem O_raise (hw : OJ G x K S n T P w) (X : Cx E G A nL cc own Ts rm l) (hG : GoodIn Ts (wsV own index RX5 yX5_raise wsX5_raise)) (hW : (st.map fun v => v.category).sum ≤ 8) (hR : 5 ≤ rm.frames ∧ 127 ≤ rm.locals) (hf : kc ≤ rm.cells ∧ ks ≤ rm.slots) (d : decode cc pc = .ok (.invokevirtual index, 3)) (hq : pc + 3 = pc')
    (kk : ∀ w, OJ G x K (rsd S) (aM n + 1) (hT n S T) P w → V E G A nL [w] kc ks Q pc' lv (.int (nI (sm (fun k => bq (S k) 9) 32)) :: st)) : V E G A nL [w] kc ks Q pc lv (.ref x :: st) := by
  obtain ⟨⟨a, r, p, h, q, H, g, f, d_, o, rfl, ho⟩, hJ⟩ := hw
  have hI : IV S := hJ.1.1
  refine V_ws [XB x (a 0) (r 0) (p 0) (h 0) q, DW G a S, RN G r H g, PD G p f 0, HI G h n d_, HD G d_ T, SL G q o P] (by simp only [OB, SL, List.flatten_cons, List.flatten_nil, List.append_nil, List.append_assoc]) ?_
  refine V_callV (As := []) (st := st) 5 0 [0, 1, 4, 5] [2, 3, 6] (show (List.range 7).Perm [0, 1, 4, 5, 2, 3, 6] by decide) X (c_X5_raise l G x (r 0) (p 0) q a S h n d_ T hJ.2.1 hI) rfl hG rfl (by decide) rfl rfl rfl hW hR hf d hq (fun v_ u_ hp_ => ?_)
  obtain ⟨rfl, rfl⟩ := hp_
  refine V_ord [3, 4, 0, 1, 5, 6, 2] [XB x (a 0) (r 0) (p 0) (h 0) q, DW G a (rsd S), RN G r H g, PD G p f 0, HI G h (aM n + 1) (aD n d_), HD G (aD n d_) (hT n S T), SL G q o P] (show (List.range 7).Perm [3, 4, 0, 1, 5, 6, 2] by decide) rfl ?_
  refine V_ws [OB G x a r p h q H g f (aD n d_) o (rsd S) (aM n + 1) (hT n S T) P] (by simp only [OB, SL, List.flatten_cons, List.flatten_nil, List.append_nil, List.append_assoc]) ?_
  exact kk _ ⟨⟨a, r, p, h, q, _, _, f, _, o, rfl, ho⟩, hJ.step (Nat.le_refl _) (J_rsd hJ.1)⟩
theorem O_crank (m : Nat) (hm1 : 1 ≤ m) (hm : m ≤ 200) (hw : OJ G x K S n T P w) (X : Cx E G A nL cc own Ts rm l) (hG : GoodIn Ts (wsV own index RX5 yX5_crank wsX5_crank)) (hW : (st.map fun v => v.category).sum ≤ 8) (hR : 6 ≤ rm.frames ∧ 134 ≤ rm.locals) (hf : kc ≤ rm.cells ∧ ks ≤ rm.slots) (d : decode cc pc = .ok (.invokevirtual index, 3)) (hq : pc + 3 = pc')
    (kk : ∀ w, OJ G x (K + m) (stkN 3 S m) (aM n + 1) (hT n S T) P w → V E G A nL [w] kc ks Q pc' lv (.int (nI (stkN 3 S m 70 - S 70)) :: st)) : V E G A nL [w] kc ks Q pc lv (.int (nI m) :: .ref x :: st) := by
  obtain ⟨⟨a, r, p, h, q, H, g, f, d_, o, rfl, ho⟩, hJ⟩ := hw
  have hI : IV S := hJ.1.1
  refine V_ws [XB x (a 0) (r 0) (p 0) (h 0) q, DW G a S, RN G r H g, PD G p f 0, HI G h n d_, HD G d_ T, SL G q o P] (by simp only [OB, SL, List.flatten_cons, List.flatten_nil, List.append_nil, List.append_assoc]) ?_
  refine V_callV (As := [.int (nI m)]) (st := st) 5 0 [0, 1, 4, 5] [2, 3, 6] (show (List.range 7).Perm [0, 1, 4, 5, 2, 3, 6] by decide) X (c_X5_crank l G x (r 0) (p 0) q a S h n d_ T hJ.2.1 hI m hm1 hm) rfl hG rfl (by decide) rfl rfl rfl hW hR hf d hq (fun v_ u_ hp_ => ?_)
  obtain ⟨rfl, rfl⟩ := hp_
  refine V_ord [3, 4, 0, 1, 5, 6, 2] [XB x (a 0) (r 0) (p 0) (h 0) q, DW G a (stkN 3 S m), RN G r H g, PD G p f 0, HI G h (aM n + 1) (aD n d_), HD G (aD n d_) (hT n S T), SL G q o P] (show (List.range 7).Perm [3, 4, 0, 1, 5, 6, 2] by decide) rfl ?_
  refine V_ws [OB G x a r p h q H g f (aD n d_) o (stkN 3 S m) (aM n + 1) (hT n S T) P] (by simp only [OB, SL, List.flatten_cons, List.flatten_nil, List.append_nil, List.append_assoc]) ?_
  exact kk _ ⟨⟨a, r, p, h, q, _, _, f, _, o, rfl, ho⟩, hJ.step (Nat.le_add_right _ _) (J_stkN hJ.1 m)⟩
theorem O_turnBack (hw : OJ G x K S n T P w) (X : Cx E G A nL cc own Ts rm l) (hG : GoodIn Ts (wsV own index RX5 yX5_turnBack wsX5_turnBack)) (hW : (st.map fun v => v.category).sum ≤ 8) (hR : 5 ≤ rm.frames ∧ 125 ≤ rm.locals) (hf : kc ≤ rm.cells ∧ ks ≤ rm.slots) (d : decode cc pc = .ok (.invokevirtual index, 3)) (hq : pc + 3 = pc')
    (kk : ∀ w, OJ G x K (tbk 3 S) (aM n + 1) (hT n S T) P w → V E G A nL [w] kc ks Q pc' lv (.int (nI (S 47)) :: st)) : V E G A nL [w] kc ks Q pc lv (.ref x :: st) := by
  obtain ⟨⟨a, r, p, h, q, H, g, f, d_, o, rfl, ho⟩, hJ⟩ := hw
  have hI : IV S := hJ.1.1
  refine V_ws [XB x (a 0) (r 0) (p 0) (h 0) q, DW G a S, RN G r H g, PD G p f 0, HI G h n d_, HD G d_ T, SL G q o P] (by simp only [OB, SL, List.flatten_cons, List.flatten_nil, List.append_nil, List.append_assoc]) ?_
  refine V_callV (As := []) (st := st) 5 0 [0, 1, 4, 5] [2, 3, 6] (show (List.range 7).Perm [0, 1, 4, 5, 2, 3, 6] by decide) X (c_X5_turnBack l G x (r 0) (p 0) q a S h n d_ T hJ.2.1 hI) rfl hG rfl (by decide) rfl rfl rfl hW hR hf d hq (fun v_ u_ hp_ => ?_)
  obtain ⟨rfl, rfl⟩ := hp_
  refine V_ord [3, 4, 0, 1, 5, 6, 2] [XB x (a 0) (r 0) (p 0) (h 0) q, DW G a (tbk 3 S), RN G r H g, PD G p f 0, HI G h (aM n + 1) (aD n d_), HD G (aD n d_) (hT n S T), SL G q o P] (show (List.range 7).Perm [3, 4, 0, 1, 5, 6, 2] by decide) rfl ?_
  refine V_ws [OB G x a r p h q H g f (aD n d_) o (tbk 3 S) (aM n + 1) (hT n S T) P] (by simp only [OB, SL, List.flatten_cons, List.flatten_nil, List.append_nil, List.append_assoc]) ?_
  exact kk _ ⟨⟨a, r, p, h, q, _, _, f, _, o, rfl, ho⟩, hJ.step (Nat.le_refl _) (J_tbk hJ.1)⟩
theorem O_undo (hw : OJ G x K S (n + 1) T P w) (X : Cx E G A nL cc own Ts rm l) (hG : GoodIn Ts (wsV own index RX5 yX5_undo wsX5_undo)) (hW : (st.map fun v => v.category).sum ≤ 8) (hR : 4 ≤ rm.frames ∧ 102 ≤ rm.locals) (hf : kc ≤ rm.cells ∧ ks ≤ rm.slots) (d : decode cc pc = .ok (.invokevirtual index, 3)) (hq : pc + 3 = pc')
    (kk : ∀ w, OJ G x K (T n) n T P w → V E G A nL [w] kc ks Q pc' lv (.int (nI n) :: st)) : V E G A nL [w] kc ks Q pc lv (.ref x :: st) := by
  obtain ⟨⟨a, r, p, h, q, H, g, f, d_, o, rfl, ho⟩, hJ⟩ := hw
  have hI : IV S := hJ.1.1
  refine V_ws [XB x (a 0) (r 0) (p 0) (h 0) q, DW G a S, RN G r H g, PD G p f 0, HI G h (n + 1) d_, HD G d_ T, SL G q o P] (by simp only [OB, SL, List.flatten_cons, List.flatten_nil, List.append_nil, List.append_assoc]) ?_
  refine V_callV (As := []) (st := st) 5 0 [0, 1, 4, 5] [2, 3, 6] (show (List.range 7).Perm [0, 1, 4, 5, 2, 3, 6] by decide) X (c_X5_undo l G x (r 0) (p 0) q a S h n d_ T (Nat.lt_of_succ_le hJ.2.1)) rfl hG rfl (by decide) rfl rfl rfl hW hR hf d hq (fun v_ u_ hp_ => ?_)
  obtain ⟨rfl, rfl⟩ := hp_
  refine V_ord [3, 4, 0, 1, 5, 6, 2] [XB x (a 0) (r 0) (p 0) (h 0) q, DW G a (T n), RN G r H g, PD G p f 0, HI G h n d_, HD G d_ T, SL G q o P] (show (List.range 7).Perm [3, 4, 0, 1, 5, 6, 2] by decide) rfl ?_
  refine V_ws [OB G x a r p h q H g f d_ o (T n) n T P] (by simp only [OB, SL, List.flatten_cons, List.flatten_nil, List.append_nil, List.append_assoc]) ?_
  exact kk _ ⟨⟨a, r, p, h, q, _, _, f, _, o, rfl, ho⟩, ⟨hJ.2.2.1 n (Nat.lt_succ_self n), Nat.le_of_succ_le hJ.2.1, fun k hk => hJ.2.2.1 k (Nat.lt_succ_of_lt hk), hJ.2.2.2⟩⟩
theorem isSome_of {α : Type} {a : Option α} (h : a.isSome = true) : ∃ b, a = some b := by cases a with | none => cases h | some b => exact ⟨b, rfl⟩
theorem sl_none (G : gT) (P : Option (Nat → Nat)) : sl G none P = [] := by cases P <;> rfl
theorem JJ.save {K : Nat} {S : Nat → Nat} {n : Nat} {T : Nat → Nat → Nat} {P : Nat → Option (Nat → Nat)} {c : Nat} (j : JJ K S n T P) : JJ K S n T (va_up P c (some S)) :=
  ⟨j.1, j.2.1, j.2.2.1, fun k O e => by
    unfold va_up at e
    by_cases h : k = c
    · rw [if_pos h] at e; cases e; exact j.1
    · rw [if_neg h] at e; exact j.2.2.2 k O e⟩
theorem isSome_up {o P : Nat → Option (Nat → Nat)} {c : Nat} {b S : Nat → Nat} (ho : ∀ k, (o k).isSome = (P k).isSome) : ∀ k, (va_up o c (some b) k).isSome = (va_up P c (some S) k).isSome := fun k => by
  unfold va_up
  by_cases h : k = c
  · rw [if_pos h, if_pos h]; rfl
  · rw [if_neg h, if_neg h]; exact ho k
theorem O_save0 (hw : OJ G x K S n T P w) (X : Cx E G A nL cc own Ts rm l) (hG : GoodIn Ts (wsV own index RX5 yX5_save wsX5_save)) (hW : (st.map fun v => v.category).sum ≤ 8) (hR : 4 ≤ rm.frames ∧ 104 ≤ rm.locals) (hf : kc + 7 ≤ rm.cells ∧ ks + 77 ≤ rm.slots) (d : decode cc pc = .ok (.invokevirtual index, 3)) (hq : pc + 3 = pc')
    (kk : ∀ w, OJ G x K S n T (va_up P 0 (some S)) w → V E G A nL [w] (kc + 7) (ks + 77) Q pc' lv (.int (nI (pgs S)) :: st)) : V E G A nL [w] kc ks Q pc lv (.int (nI 0) :: .ref x :: st) := by
  obtain ⟨⟨a, r, p, h, q, H, g, f, d_, o, rfl, ho⟩, hJ⟩ := hw
  have hI : IV S := hJ.1.1
  have hc := ho 0
  cases h1 : o 0 with
  | some b =>
    rw [h1] at hc
    obtain ⟨O, h2⟩ := isSome_of (show (P 0).isSome = true from hc.symm)
    have e0 : sl G (o 0) (P 0) = DW G b O := by rw [h1, h2]; rfl
    refine V_ws [XB x (a 0) (r 0) (p 0) (h 0) q, DW G a S, RN G r H g, PD G p f 0, HI G h n d_, HD G d_ T, SA G q o, DW G b O, sl G (o 1) (P 1)] (by simp only [OB, SL, e0, List.flatten_cons, List.flatten_nil, List.append_nil, List.append_assoc]) ?_
    refine V_callV (As := [.int (nI 0)]) (st := st) 5 0 [0, 1, 6, 7] [2, 3, 4, 5, 8] (show (List.range 9).Perm [0, 1, 6, 7, 2, 3, 4, 5, 8] by decide) X (c_X5_save_some l G x (r 0) (p 0) (h 0) q a S o 0 (by decide) hI b O h1) rfl hG rfl (by decide) rfl rfl rfl hW hR ⟨Nat.le_trans (Nat.le_add_right _ _) hf.1, Nat.le_trans (Nat.le_add_right _ _) hf.2⟩ d hq (fun v_ u_ hp_ => ?_)
    obtain ⟨rfl, rfl⟩ := hp_
    refine V_ord [5, 6, 0, 1, 2, 3, 7, 8, 4] [XB x (a 0) (r 0) (p 0) (h 0) q, DW G a S, RN G r H g, PD G p f 0, HI G h n d_, HD G d_ T, SA G q o, DW G b S, sl G (o 1) (P 1)] (show (List.range 9).Perm [5, 6, 0, 1, 2, 3, 7, 8, 4] by decide) rfl ?_
    have e1 : sl G (o 0) (va_up P 0 (some S) 0) = DW G b S := by rw [h1, va_up_self]; rfl
    have e2 : va_up P 0 (some S) 1 = P 1 := va_up_ne _ _ (by decide)
    refine V_ws [OB G x a r p h q H g f d_ o S n T (va_up P 0 (some S))] (by simp only [OB, SL, e1, e2, List.flatten_cons, List.flatten_nil, List.append_nil, List.append_assoc]) ?_
    refine V_widen (Nat.le_add_right _ 7) (Nat.le_add_right _ 77) ?_
    exact kk _ ⟨⟨a, r, p, h, q, _, _, f, _, o, rfl, fun k => by rw [ho k]; unfold va_up; by_cases e : k = 0; rw [if_pos e, e, h2]; rfl; rw [if_neg e]⟩, hJ.save⟩
  | none =>
    have e0 : sl G (o 0) (P 0) = [] := by rw [h1]; exact sl_none _ _
    refine V_ws [XB x (a 0) (r 0) (p 0) (h 0) q, DW G a S, RN G r H g, PD G p f 0, HI G h n d_, HD G d_ T, SA G q o, sl G (o 1) (P 1)] (by simp only [OB, SL, e0, List.nil_append, List.flatten_cons, List.flatten_nil, List.append_nil, List.append_assoc]) ?_
    refine V_callV (As := [.int (nI 0)]) (st := st) 5 0 [0, 1, 6] [2, 3, 4, 5, 7] (show (List.range 8).Perm [0, 1, 6, 2, 3, 4, 5, 7] by decide) X (c_X5_save_none l G x (r 0) (p 0) (h 0) q a S o 0 (by decide) hI h1) rfl hG rfl (by decide) rfl rfl rfl hW hR hf d hq (fun v_ u_ hp_ => ?_)
    obtain ⟨b, rfl, rfl⟩ := hp_
    refine V_ord [5, 6, 0, 1, 2, 3, 7, 8, 4] [XB x (a 0) (r 0) (p 0) (h 0) q, DW G a S, RN G r H g, PD G p f 0, HI G h n d_, HD G d_ T, SA G q (va_up o 0 (some b)), DW G b S, sl G (o 1) (P 1)] (show (List.range 9).Perm [5, 6, 0, 1, 2, 3, 7, 8, 4] by decide) rfl ?_
    have e1 : sl G (va_up o 0 (some b) 0) (va_up P 0 (some S) 0) = DW G b S := by rw [va_up_self, va_up_self]; rfl
    have e2 : va_up P 0 (some S) 1 = P 1 := va_up_ne _ _ (by decide)
    have e3 : va_up o 0 (some b) 1 = o 1 := va_up_ne _ _ (by decide)
    refine V_ws [OB G x a r p h q H g f d_ (va_up o 0 (some b)) S n T (va_up P 0 (some S))] (by simp only [OB, SL, e1, e2, e3, List.flatten_cons, List.flatten_nil, List.append_nil, List.append_assoc]) ?_
    exact kk _ ⟨⟨a, r, p, h, q, _, _, f, _, _, rfl, isSome_up ho⟩, hJ.save⟩
theorem O_save1 (hw : OJ G x K S n T P w) (X : Cx E G A nL cc own Ts rm l) (hG : GoodIn Ts (wsV own index RX5 yX5_save wsX5_save)) (hW : (st.map fun v => v.category).sum ≤ 8) (hR : 4 ≤ rm.frames ∧ 104 ≤ rm.locals) (hf : kc + 7 ≤ rm.cells ∧ ks + 77 ≤ rm.slots) (d : decode cc pc = .ok (.invokevirtual index, 3)) (hq : pc + 3 = pc')
    (kk : ∀ w, OJ G x K S n T (va_up P 1 (some S)) w → V E G A nL [w] (kc + 7) (ks + 77) Q pc' lv (.int (nI (pgs S)) :: st)) : V E G A nL [w] kc ks Q pc lv (.int (nI 1) :: .ref x :: st) := by
  obtain ⟨⟨a, r, p, h, q, H, g, f, d_, o, rfl, ho⟩, hJ⟩ := hw
  have hI : IV S := hJ.1.1
  have hc := ho 1
  cases h1 : o 1 with
  | some b =>
    rw [h1] at hc
    obtain ⟨O, h2⟩ := isSome_of (show (P 1).isSome = true from hc.symm)
    have e0 : sl G (o 1) (P 1) = DW G b O := by rw [h1, h2]; rfl
    refine V_ws [XB x (a 0) (r 0) (p 0) (h 0) q, DW G a S, RN G r H g, PD G p f 0, HI G h n d_, HD G d_ T, SA G q o, sl G (o 0) (P 0), DW G b O] (by simp only [OB, SL, e0, List.flatten_cons, List.flatten_nil, List.append_nil, List.append_assoc]) ?_
    refine V_callV (As := [.int (nI 1)]) (st := st) 5 0 [0, 1, 6, 8] [2, 3, 4, 5, 7] (show (List.range 9).Perm [0, 1, 6, 8, 2, 3, 4, 5, 7] by decide) X (c_X5_save_some l G x (r 0) (p 0) (h 0) q a S o 1 (by decide) hI b O h1) rfl hG rfl (by decide) rfl rfl rfl hW hR ⟨Nat.le_trans (Nat.le_add_right _ _) hf.1, Nat.le_trans (Nat.le_add_right _ _) hf.2⟩ d hq (fun v_ u_ hp_ => ?_)
    obtain ⟨rfl, rfl⟩ := hp_
    refine V_ord [5, 6, 0, 1, 2, 3, 7, 4, 8] [XB x (a 0) (r 0) (p 0) (h 0) q, DW G a S, RN G r H g, PD G p f 0, HI G h n d_, HD G d_ T, SA G q o, sl G (o 0) (P 0), DW G b S] (show (List.range 9).Perm [5, 6, 0, 1, 2, 3, 7, 4, 8] by decide) rfl ?_
    have e1 : sl G (o 1) (va_up P 1 (some S) 1) = DW G b S := by rw [h1, va_up_self]; rfl
    have e2 : va_up P 1 (some S) 0 = P 0 := va_up_ne _ _ (by decide)
    refine V_ws [OB G x a r p h q H g f d_ o S n T (va_up P 1 (some S))] (by simp only [OB, SL, e1, e2, List.flatten_cons, List.flatten_nil, List.append_nil, List.append_assoc]) ?_
    refine V_widen (Nat.le_add_right _ 7) (Nat.le_add_right _ 77) ?_
    exact kk _ ⟨⟨a, r, p, h, q, _, _, f, _, o, rfl, fun k => by rw [ho k]; unfold va_up; by_cases e : k = 1; rw [if_pos e, e, h2]; rfl; rw [if_neg e]⟩, hJ.save⟩
  | none =>
    have e0 : sl G (o 1) (P 1) = [] := by rw [h1]; exact sl_none _ _
    refine V_ws [XB x (a 0) (r 0) (p 0) (h 0) q, DW G a S, RN G r H g, PD G p f 0, HI G h n d_, HD G d_ T, SA G q o, sl G (o 0) (P 0)] (by simp only [OB, SL, e0, List.nil_append, List.flatten_cons, List.flatten_nil, List.append_nil, List.append_assoc]) ?_
    refine V_callV (As := [.int (nI 1)]) (st := st) 5 0 [0, 1, 6] [2, 3, 4, 5, 7] (show (List.range 8).Perm [0, 1, 6, 2, 3, 4, 5, 7] by decide) X (c_X5_save_none l G x (r 0) (p 0) (h 0) q a S o 1 (by decide) hI h1) rfl hG rfl (by decide) rfl rfl rfl hW hR hf d hq (fun v_ u_ hp_ => ?_)
    obtain ⟨b, rfl, rfl⟩ := hp_
    refine V_ord [5, 6, 0, 1, 2, 3, 7, 4, 8] [XB x (a 0) (r 0) (p 0) (h 0) q, DW G a S, RN G r H g, PD G p f 0, HI G h n d_, HD G d_ T, SA G q (va_up o 1 (some b)), sl G (o 0) (P 0), DW G b S] (show (List.range 9).Perm [5, 6, 0, 1, 2, 3, 7, 4, 8] by decide) rfl ?_
    have e1 : sl G (va_up o 1 (some b) 1) (va_up P 1 (some S) 1) = DW G b S := by rw [va_up_self, va_up_self]; rfl
    have e2 : va_up P 1 (some S) 0 = P 0 := va_up_ne _ _ (by decide)
    have e3 : va_up o 1 (some b) 0 = o 0 := va_up_ne _ _ (by decide)
    refine V_ws [OB G x a r p h q H g f d_ (va_up o 1 (some b)) S n T (va_up P 1 (some S))] (by simp only [OB, SL, e1, e2, e3, List.flatten_cons, List.flatten_nil, List.append_nil, List.append_assoc]) ?_
    exact kk _ ⟨⟨a, r, p, h, q, _, _, f, _, _, rfl, isSome_up ho⟩, hJ.save⟩
theorem O_restore0 (O : Nat → Nat) (hP : P 0 = some O) (hw : OJ G x K S n T P w) (X : Cx E G A nL cc own Ts rm l) (hG : GoodIn Ts (wsV own index RX5 yX5_restore wsX5_restore)) (hW : (st.map fun v => v.category).sum ≤ 8) (hR : 5 ≤ rm.frames ∧ 126 ≤ rm.locals) (hf : kc ≤ rm.cells ∧ ks ≤ rm.slots) (d : decode cc pc = .ok (.invokevirtual index, 3)) (hq : pc + 3 = pc')
    (kk : ∀ w, OJ G x K O (aM n + 1) (hT n S T) P w → V E G A nL [w] kc ks Q pc' lv (.int (nI (pgs O)) :: st)) : V E G A nL [w] kc ks Q pc lv (.int (nI 0) :: .ref x :: st) := by
  obtain ⟨⟨a, r, p, h, q, H, g, f, d_, o, rfl, ho⟩, hJ⟩ := hw
  have hO : J K O := hJ.2.2.2 0 O hP
  obtain ⟨b, h1⟩ := isSome_of (show (o 0).isSome = true by rw [ho, hP]; rfl)
  have e0 : sl G (o 0) (P 0) = DW G b O := by rw [h1, hP]; rfl
  refine V_ws [XB x (a 0) (r 0) (p 0) (h 0) q, DW G a S, RN G r H g, PD G p f 0, HI G h n d_, HD G d_ T, SA G q o, DW G b O, sl G (o 1) (P 1)] (by simp only [OB, SL, e0, List.flatten_cons, List.flatten_nil, List.append_nil, List.append_assoc]) ?_
  refine V_callV (As := [.int (nI 0)]) (st := st) 5 0 [0, 1, 4, 5, 6, 7] [2, 3, 8] (show (List.range 9).Perm [0, 1, 4, 5, 6, 7, 2, 3, 8] by decide) X (c_X5_restore l G x (r 0) (p 0) q a S h n d_ T hJ.2.1 o 0 (by decide) b O h1 hO.1) rfl hG rfl (by decide) rfl rfl rfl hW hR hf d hq (fun v_ u_ hp_ => ?_)
  obtain ⟨rfl, rfl⟩ := hp_
  refine V_ord [3, 4, 0, 1, 5, 6, 7, 8, 2] [XB x (a 0) (r 0) (p 0) (h 0) q, DW G a O, RN G r H g, PD G p f 0, HI G h (aM n + 1) (aD n d_), HD G (aD n d_) (hT n S T), SA G q o, DW G b O, sl G (o 1) (P 1)] (show (List.range 9).Perm [3, 4, 0, 1, 5, 6, 7, 8, 2] by decide) rfl ?_
  refine V_ws [OB G x a r p h q H g f (aD n d_) o O (aM n + 1) (hT n S T) P] (by simp only [OB, SL, e0, List.flatten_cons, List.flatten_nil, List.append_nil, List.append_assoc]) ?_
  exact kk _ ⟨⟨a, r, p, h, q, _, _, f, _, o, rfl, ho⟩, hJ.step (Nat.le_refl _) hO⟩
theorem O_restore1 (O : Nat → Nat) (hP : P 1 = some O) (hw : OJ G x K S n T P w) (X : Cx E G A nL cc own Ts rm l) (hG : GoodIn Ts (wsV own index RX5 yX5_restore wsX5_restore)) (hW : (st.map fun v => v.category).sum ≤ 8) (hR : 5 ≤ rm.frames ∧ 126 ≤ rm.locals) (hf : kc ≤ rm.cells ∧ ks ≤ rm.slots) (d : decode cc pc = .ok (.invokevirtual index, 3)) (hq : pc + 3 = pc')
    (kk : ∀ w, OJ G x K O (aM n + 1) (hT n S T) P w → V E G A nL [w] kc ks Q pc' lv (.int (nI (pgs O)) :: st)) : V E G A nL [w] kc ks Q pc lv (.int (nI 1) :: .ref x :: st) := by
  obtain ⟨⟨a, r, p, h, q, H, g, f, d_, o, rfl, ho⟩, hJ⟩ := hw
  have hO : J K O := hJ.2.2.2 1 O hP
  obtain ⟨b, h1⟩ := isSome_of (show (o 1).isSome = true by rw [ho, hP]; rfl)
  have e0 : sl G (o 1) (P 1) = DW G b O := by rw [h1, hP]; rfl
  refine V_ws [XB x (a 0) (r 0) (p 0) (h 0) q, DW G a S, RN G r H g, PD G p f 0, HI G h n d_, HD G d_ T, SA G q o, sl G (o 0) (P 0), DW G b O] (by simp only [OB, SL, e0, List.flatten_cons, List.flatten_nil, List.append_nil, List.append_assoc]) ?_
  refine V_callV (As := [.int (nI 1)]) (st := st) 5 0 [0, 1, 4, 5, 6, 8] [2, 3, 7] (show (List.range 9).Perm [0, 1, 4, 5, 6, 8, 2, 3, 7] by decide) X (c_X5_restore l G x (r 0) (p 0) q a S h n d_ T hJ.2.1 o 1 (by decide) b O h1 hO.1) rfl hG rfl (by decide) rfl rfl rfl hW hR hf d hq (fun v_ u_ hp_ => ?_)
  obtain ⟨rfl, rfl⟩ := hp_
  refine V_ord [3, 4, 0, 1, 5, 6, 7, 2, 8] [XB x (a 0) (r 0) (p 0) (h 0) q, DW G a O, RN G r H g, PD G p f 0, HI G h (aM n + 1) (aD n d_), HD G (aD n d_) (hT n S T), SA G q o, sl G (o 0) (P 0), DW G b O] (show (List.range 9).Perm [3, 4, 0, 1, 5, 6, 7, 2, 8] by decide) rfl ?_
  refine V_ws [OB G x a r p h q H g f (aD n d_) o O (aM n + 1) (hT n S T) P] (by simp only [OB, SL, e0, List.flatten_cons, List.flatten_nil, List.append_nil, List.append_assoc]) ?_
  exact kk _ ⟨⟨a, r, p, h, q, _, _, f, _, o, rfl, ho⟩, hJ.step (Nat.le_refl _) hO⟩
end VO
