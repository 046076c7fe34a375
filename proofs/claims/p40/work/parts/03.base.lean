/-! THE BASE: the tables' knowledge, the judgement V (frame, locals, stack, a world in blocks), its rows -/
abbrev gT : Type := va_G × (Nat → ClassId)
abbrev tyL (G : gT) : List (ClassId × FieldType) := [(G.2 0, .int), (G.2 1, .char), (G.2 0, .int), (G.2 3, .object "PeggedBells$Drum")]
/-- what the tables say, all that the methods need beside their words; it depends on the tables alone -/
def TB (l : Launch) (G : gT) (U : State) : Prop :=
  va_K G.1 vwCl (tyL G) U ∧ True ∧ True ∧ True ∧
  (va_Nw (.methodLinkNest RX5 18 yX4_init RX5) U ∧ va_Nw (.methodLinkNest RX5 25 yX3_init RX5) U ∧ va_Nw (.methodLinkNest RX0 87 yX5_holds RX5) U ∧ va_Nw (.methodLinkNest RX1 27 yX5_holds RX5) U ∧ va_Nw (.methodLinkNest RX4 47 yX5_holds RX5) U) ∧
  va_AO "PeggedBells$Drum" U ∧ True
theorem TB.warm {l : Launch} {G : gT} {s U : State} (hW : s.WarmedH U.vm) (h : TB l G s) : TB l G U := by
  obtain ⟨h1, -, -, -, ⟨m1, m2, m3, m4, m5⟩, h6, -⟩ := h
  exact ⟨va_K.moved hW.alike h1, trivial, trivial, trivial,
    ⟨va_Nw.warmM hW m1, va_Nw.warmM hW m2, va_Nw.warmM hW m3, va_Nw.warmM hW m4, va_Nw.warmM hW m5⟩, va_AO.moved hW.alike h6, trivial⟩
def ZZ (_ : Nat → Prop) (_ : State) (_ : Heap) : Prop := True
theorem ZZ.moved {A : Nat → Prop} {u U : State} {H : Heap} (_ : u.vm.Alike U.vm) (_ : ZZ A u H) : ZZ A U H := trivial
theorem ZZ.kept {A : Nat → Prop} {U : State} {H H1 : Heap} (_ : ZZ A U H) (_ : ∀ a : Nat, a < H.size → ¬ A a → H1[a]? = H[a]?) : ZZ A U H1 := trivial
theorem ZZ.narrow {A B : Nat → Prop} {U : State} {H : Heap} (_ : ZZ A U H) (_ : ∀ q, B q → A q) : ZZ B U H := trivial
/-! worlds by their members -/
theorem va_P_iff {D : va_G} {cl : List vw_C} {ws : va_W} {H : Heap} : va_P D cl ws H ↔ ∀ q ∈ ws, va_at D cl q H :=
  ⟨fun h q hq => by obtain ⟨k, hk⟩ := List.getElem?_of_mem hq; exact h k q hk, fun h _ q hk => h q (List.mem_of_getElem? hk)⟩
theorem va_D_iff {A : Nat → Prop} {ws : va_W} : va_D A ws ↔ (ws.map (·.1)).Nodup ∧ ∀ q ∈ ws, A q.1 := by
  constructor
  · intro h
    refine ⟨?_, fun q hq => by obtain ⟨k, hk⟩ := List.getElem?_of_mem hq; exact h.2 k q hk⟩
    rw [List.nodup_iff_pairwise_ne, List.pairwise_iff_getElem]
    intro i j hi hj hij he
    rw [List.length_map] at hi hj
    rw [List.getElem_map, List.getElem_map] at he
    exact absurd (h.1 i j _ _ (List.getElem?_eq_getElem hi) (List.getElem?_eq_getElem hj) he) (by omega)
  · intro h
    refine ⟨fun i j p q hi hj hpq => ?_, fun k q hk => h.2 q (List.mem_of_getElem? hk)⟩
    have hn := h.1
    rw [List.nodup_iff_pairwise_ne, List.pairwise_iff_getElem] at hn
    obtain ⟨hi1, hi2⟩ := List.getElem?_eq_some_iff.mp hi
    obtain ⟨hj1, hj2⟩ := List.getElem?_eq_some_iff.mp hj
    rcases Nat.lt_trichotomy i j with c | c | c
    · exact absurd (by rw [List.getElem_map, List.getElem_map, hi2, hj2]; exact hpq) (hn i j (by rw [List.length_map]; exact hi1) (by rw [List.length_map]; exact hj1) c)
    · exact c
    · exact absurd (by rw [List.getElem_map, List.getElem_map, hi2, hj2]; exact hpq.symm) (hn j i (by rw [List.length_map]; exact hj1) (by rw [List.length_map]; exact hi1) c)
theorem va_P_perm {D : va_G} {cl : List vw_C} {ws ws' : va_W} {H : Heap} (p : ws.Perm ws') (h : va_P D cl ws H) : va_P D cl ws' H := va_P_iff.mpr fun q hq => va_P_iff.mp h q (p.mem_iff.mpr hq)
theorem va_D_perm {A : Nat → Prop} {ws ws' : va_W} (p : ws.Perm ws') (h : va_D A ws) : va_D A ws' := by
  obtain ⟨h1, h2⟩ := va_D_iff.mp h
  exact va_D_iff.mpr ⟨(p.map (·.1)).nodup_iff.mp h1, fun q hq => h2 q (p.mem_iff.mpr hq)⟩
/-- blocks by their places -/
def pk (bs : List va_W) (is : List Nat) : List va_W := is.filterMap (fun i => bs[i]?)
theorem pk_perm (bs : List va_W) {is js : List Nat} (p : is.Perm js) : (pk bs is).Perm (pk bs js) := p.filterMap _
theorem flatten_perm {a b : List va_W} (p : a.Perm b) : a.flatten.Perm b.flatten := by
  induction p with
  | nil => exact List.Perm.refl _
  | cons x _ ih => rw [List.flatten_cons, List.flatten_cons]; exact List.Perm.append_left x ih
  | swap x y l =>
    simp only [List.flatten_cons]
    rw [← List.append_assoc, ← List.append_assoc]
    exact List.Perm.append_right _ List.perm_append_comm
  | trans _ _ i1 i2 => exact i1.trans i2
theorem pk_range (bs : List va_W) : pk bs (List.range bs.length) = bs := by
  unfold pk
  apply List.ext_getElem?
  intro i
  have h : ∀ (l : List va_W) (n : Nat), n ≤ l.length → (List.range n).filterMap (fun i => l[i]?) = l.take n := by
    intro l n
    induction n with
    | zero => intro _; simp
    | succ n ih =>
      intro hn
      rw [List.range_succ, List.filterMap_append, ih (by omega)]
      simp only [List.filterMap_cons, List.filterMap_nil]
      rw [List.getElem?_eq_getElem (by omega : n < l.length)]
      simp only []
      rw [List.take_append_getElem (by omega)]
  rw [h bs bs.length (Nat.le_refl _), List.take_length]
/-- cells that hold the same: rows that agree below their length -/
theorem arrV_congr {cA : ClassId} {n : Nat} {f g : Nat → Value} (h : ∀ k, k < n → f k = g k) : arrV cA n f = arrV cA n g := by
  unfold arrV
  congr 1
  apply Array.ext
  · simp
  · intro i h1 h2
    simp at h1
    simp [h i h1]
def weq (e e' : va_E) : Prop := ∀ (D : va_G) (cl : List vw_C) (a : Nat) (H : Heap), va_at D cl (a, e) H → va_at D cl (a, e') H
theorem weq.rf (e : va_E) : weq e e := fun _ _ _ _ h => h
theorem weq.row {cA : ClassId} {n : Nat} {f g : Nat → Int32} (h : ∀ k, k < n → f k = g k) : weq (.inl (cA, n, .inl f)) (.inl (cA, n, .inl g)) := by
  intro D cl a H hh
  have h1 : H[a]? = some (vp_cell cA (n, .inl f)) := hh
  show H[a]? = some (vp_cell cA (n, .inl g))
  rw [h1, vp_cell_i, vp_cell_i, arrV_congr (fun k hk => by rw [h k hk])]
theorem weq.rowq {cA : ClassId} {n : Nat} {f g : Nat → Option Nat} (h : ∀ k, k < n → f k = g k) : weq (.inl (cA, n, .inr (.inr (.inr (.inr f))))) (.inl (cA, n, .inr (.inr (.inr (.inr g))))) := by
  intro D cl a H hh
  have h1 : H[a]? = some (vp_cell cA (n, .inr (.inr (.inr (.inr f))))) := hh
  show H[a]? = some (vp_cell cA (n, .inr (.inr (.inr (.inr g)))))
  rw [h1, vp_cell_q, vp_cell_q, arrV_congr (fun k hk => by rw [h k hk])]
def wsq (w w' : va_W) : Prop := ∀ (D : va_G) (cl : List vw_C) (A : Nat → Prop) (H : Heap), (va_P D cl w H → va_P D cl w' H) ∧ w.map (·.1) = w'.map (·.1)
theorem wsq.rf (w : va_W) : wsq w w := fun _ _ _ _ => ⟨id, rfl⟩
theorem wsq.cons {a : Nat} {e e' : va_E} {w w' : va_W} (h : weq e e') (k : wsq w w') : wsq ((a, e) :: w) ((a, e') :: w') := by
  intro D cl A H
  obtain ⟨k1, k2⟩ := k D cl A H
  refine ⟨fun hP => va_P_iff.mpr fun q hq => ?_, by simp [k2]⟩
  have hP' := va_P_iff.mp hP
  rcases List.mem_cons.mp hq with rfl | hq
  · exact h D cl a H (hP' _ List.mem_cons_self)
  · exact va_P_iff.mp (k1 (va_P_iff.mpr fun q hq => hP' q (List.mem_cons_of_mem _ hq))) q hq
theorem wsq.app {a a' b b' : va_W} (h : wsq a a') (k : wsq b b') : wsq (a ++ b) (a' ++ b') := by
  intro D cl A H
  obtain ⟨h1, h2⟩ := h D cl A H
  obtain ⟨k1, k2⟩ := k D cl A H
  refine ⟨fun hP => va_P_iff.mpr fun q hq => ?_, by simp [h2, k2]⟩
  have hP' := va_P_iff.mp hP
  rcases List.mem_append.mp hq with hq | hq
  · exact va_P_iff.mp (h1 (va_P_iff.mpr fun q hq => hP' q (List.mem_append_left _ hq))) q hq
  · exact va_P_iff.mp (k1 (va_P_iff.mpr fun q hq => hP' q (List.mem_append_right _ hq))) q hq
theorem wsq.D {A : Nat → Prop} {w w' : va_W} (h : wsq w w') (hD : va_D A w) : va_D A w' := by
  obtain ⟨h1, h2⟩ := va_D_iff.mp hD
  have e : w.map (·.1) = w'.map (·.1) := (h (fun _ => 0, fun _ _ => 0) [] A #[]).2
  refine va_D_iff.mpr ⟨e ▸ h1, fun q hq => ?_⟩
  have h3 : q.1 ∈ w.map (·.1) := by rw [e]; exact List.mem_map_of_mem hq
  obtain ⟨q', hq', e'⟩ := List.mem_map.mp h3
  exact e' ▸ h2 q' hq'
/-! the judgement -/
abbrev EE := Program × Launch × Env × Room × State × MethodId × Array Value × List Frame × Method × Code
abbrev e_p (E : EE) : Program := E.1
abbrev e_l (E : EE) : Launch := E.2.1
abbrev e_e (E : EE) : Env := E.2.2.1
abbrev e_R (E : EE) : Room := E.2.2.2.1
abbrev e_s (E : EE) : State := E.2.2.2.2.1
abbrev e_m (E : EE) : MethodId := E.2.2.2.2.2.1
abbrev e_a (E : EE) : Array Value := E.2.2.2.2.2.2.1
abbrev e_b (E : EE) : List Frame := E.2.2.2.2.2.2.2.1
abbrev e_h (E : EE) : Method := E.2.2.2.2.2.2.2.2.1
abbrev e_c (E : EE) : Code := E.2.2.2.2.2.2.2.2.2
/-- what stands fixed in a body: the machine, the code, the words, the tables, the statics; A: what it may change -/
def Cx (E : EE) (G : gT) (A : Nat → Prop) (nL : Nat) (cc : ByteArray) (own : String) (Ts : List Cond) (rm : Room) (l : Launch) : Prop :=
  CallFix (e_p E) (e_m E) (e_c E) cc nL (e_s E) (e_a E) Ts own ∧ TB (e_l E) G (e_s E) ∧ ZZ A (e_s E) (e_s E).heap ∧ (∀ q, (e_s E).heap.size ≤ q → A q) ∧ (e_h E).locks = false ∧ e_R E = rm ∧ e_l E = l
/-- from here (pc, locals, stack, the world in blocks) the body comes to Q -/
def V (E : EE) (G : gT) (A : Nat → Prop) (nL : Nat) (bs : List va_W) (kc ks : Nat) (Q : State → Prop) (pc : Nat) (lv : List (Nat × Value)) (st : List Value) : Prop :=
  ∀ (H : Heap) (locs : List Loc) (ls : Array Slot), va_P G.1 vwCl bs.flatten H → va_D A bs.flatten → va_S A (e_s E).heap H locs → lv_has ls nL lv →
    W (e_p E) (e_l E) (e_e E) (e_R E) (e_s E) (e_m E) (e_a E) (e_b E) (e_h E) (e_c E) H locs kc ks Q (F0 (e_m E) pc ls st)
section VR
variable {E : EE} {G : gT} {A : Nat → Prop} {nL : Nat} {bs bs' : List va_W} {kc ks : Nat} {Q : State → Prop} {pc pc' : Nat} {lv lv' : List (Nat × Value)} {st : List Value} {cc : ByteArray} {own : String} {Ts : List Cond} {rm : Room} {l : Launch}
theorem V_iconst {n : Int} (v : Int32) (X : Cx E G A nL cc own Ts rm l) (d : decode cc pc = .ok (.iconst n, 1)) (hv : Int32.ofInt n = v) (hq : pc + 1 = pc') (kk : V E G A nL bs kc ks Q pc' lv (.int v :: st)) : V E G A nL bs kc ks Q pc lv st := by
  subst hq; intro H locs ls hP hD hS hl; exact lv_iconst X.1.1 X.1.2.1 d hv (kk H locs ls hP hD hS hl)
theorem V_bipush {n : Int} (v : Int32) (X : Cx E G A nL cc own Ts rm l) (d : decode cc pc = .ok (.bipush n, 2)) (hv : (Int8.ofInt n).toInt32 = v) (hq : pc + 2 = pc') (kk : V E G A nL bs kc ks Q pc' lv (.int v :: st)) : V E G A nL bs kc ks Q pc lv st := by
  subst hq; intro H locs ls hP hD hS hl; exact lv_bipush X.1.1 X.1.2.1 d hv (kk H locs ls hP hD hS hl)
theorem V_sipush {n : Int} (v : Int32) (X : Cx E G A nL cc own Ts rm l) (d : decode cc pc = .ok (.sipush n, 3)) (hv : (Int16.ofInt n).toInt32 = v) (hq : pc + 3 = pc') (kk : V E G A nL bs kc ks Q pc' lv (.int v :: st)) : V E G A nL bs kc ks Q pc lv st := by
  subst hq; intro H locs ls hP hD hS hl; exact lv_sipush X.1.1 X.1.2.1 d hv (kk H locs ls hP hD hS hl)
theorem V_ldc {i : Nat} {v : Int32} (X : Cx E G A nL cc own Ts rm l) (hc : Cond.constant own i v ∈ Ts) (d : decode cc pc = .ok (.ldc i, 2)) (hq : pc + 2 = pc') (kk : V E G A nL bs kc ks Q pc' lv (.int v :: st)) : V E G A nL bs kc ks Q pc lv st := by
  subst hq; intro H locs ls hP hD hS hl; exact lv_ldc X.1.1 X.1.2.1 X.1.2.2.2.1 (X.1.2.2.2.2 _ hc) d (kk H locs ls hP hD hS hl)
theorem V_ldcw {i : Nat} {v : Int32} (X : Cx E G A nL cc own Ts rm l) (hc : Cond.constant own i v ∈ Ts) (d : decode cc pc = .ok (.ldc_w i, 3)) (hq : pc + 3 = pc') (kk : V E G A nL bs kc ks Q pc' lv (.int v :: st)) : V E G A nL bs kc ks Q pc lv st := by
  subst hq; intro H locs ls hP hD hS hl; exact lv_ldcw X.1.1 X.1.2.1 X.1.2.2.2.1 (X.1.2.2.2.2 _ hc) d (kk H locs ls hP hD hS hl)
theorem V_lconst {n : Fin 2} (v : Int64) (X : Cx E G A nL cc own Ts rm l) (d : decode cc pc = .ok (.lconst n, 1)) (hv : Int64.ofNat (n : Nat) = v) (hq : pc + 1 = pc') (kk : V E G A nL bs kc ks Q pc' lv (.long v :: st)) : V E G A nL bs kc ks Q pc lv st := by
  subst hq; intro H locs ls hP hD hS hl; exact lv_lconst X.1.1 X.1.2.1 d hv (kk H locs ls hP hD hS hl)
theorem V_ldc2 {i : Nat} {v : Int64} (w : Int64) (X : Cx E G A nL cc own Ts rm l) (hc : Cond.constantLong own i v ∈ Ts) (hw : v = w) (d : decode cc pc = .ok (.ldc2_w i, 3)) (hq : pc + 3 = pc') (kk : V E G A nL bs kc ks Q pc' lv (.long w :: st)) : V E G A nL bs kc ks Q pc lv st := by
  subst hq; subst hw; intro H locs ls hP hD hS hl; exact lv_ldc2 X.1.1 X.1.2.1 X.1.2.2.2.1 (X.1.2.2.2.2 _ hc) d (kk H locs ls hP hD hS hl)
theorem V_iload_n {k : Fin 4} {i : Nat} {x : Int32} (j : Nat) (X : Cx E G A nL cc own Ts rm l) (d : decode cc pc = .ok (.iload_n k, 1)) (hi : (k : Nat) = i) (hj : lv[j]? = some (i, .int x)) (hq : pc + 1 = pc') (kk : V E G A nL bs kc ks Q pc' lv (.int x :: st)) : V E G A nL bs kc ks Q pc lv st := by
  subst hq; intro H locs ls hP hD hS hl; exact lv_iload_n X.1.1 X.1.2.1 d hi (lv_at hl j hj) (kk H locs ls hP hD hS hl)
theorem V_iload {i : Nat} {x : Int32} (j : Nat) (X : Cx E G A nL cc own Ts rm l) (d : decode cc pc = .ok (.iload i, 2)) (hj : lv[j]? = some (i, .int x)) (hq : pc + 2 = pc') (kk : V E G A nL bs kc ks Q pc' lv (.int x :: st)) : V E G A nL bs kc ks Q pc lv st := by
  subst hq; intro H locs ls hP hD hS hl; exact lv_iload X.1.1 X.1.2.1 d (lv_at hl j hj) (kk H locs ls hP hD hS hl)
theorem V_lload_n {k : Fin 4} {i : Nat} {x : Int64} (j : Nat) (X : Cx E G A nL cc own Ts rm l) (d : decode cc pc = .ok (.lload_n k, 1)) (hi : (k : Nat) = i) (hj : lv[j]? = some (i, .long x)) (hq : pc + 1 = pc') (kk : V E G A nL bs kc ks Q pc' lv (.long x :: st)) : V E G A nL bs kc ks Q pc lv st := by
  subst hq; intro H locs ls hP hD hS hl; exact lv_lload_n X.1.1 X.1.2.1 d hi (lv_at hl j hj) (kk H locs ls hP hD hS hl)
theorem V_lload {i : Nat} {x : Int64} (j : Nat) (X : Cx E G A nL cc own Ts rm l) (d : decode cc pc = .ok (.lload i, 2)) (hj : lv[j]? = some (i, .long x)) (hq : pc + 2 = pc') (kk : V E G A nL bs kc ks Q pc' lv (.long x :: st)) : V E G A nL bs kc ks Q pc lv st := by
  subst hq; intro H locs ls hP hD hS hl; exact lv_lload X.1.1 X.1.2.1 d (lv_at hl j hj) (kk H locs ls hP hD hS hl)
theorem V_aload_n {k : Fin 4} {i : Nat} {x : Nat} (j : Nat) (X : Cx E G A nL cc own Ts rm l) (d : decode cc pc = .ok (.aload_n k, 1)) (hi : (k : Nat) = i) (hj : lv[j]? = some (i, .ref x)) (hq : pc + 1 = pc') (kk : V E G A nL bs kc ks Q pc' lv (.ref x :: st)) : V E G A nL bs kc ks Q pc lv st := by
  subst hq; intro H locs ls hP hD hS hl; exact lv_aload_n X.1.1 X.1.2.1 d hi (lv_at hl j hj) (kk H locs ls hP hD hS hl)
theorem V_aload {i : Nat} {x : Nat} (j : Nat) (X : Cx E G A nL cc own Ts rm l) (d : decode cc pc = .ok (.aload i, 2)) (hj : lv[j]? = some (i, .ref x)) (hq : pc + 2 = pc') (kk : V E G A nL bs kc ks Q pc' lv (.ref x :: st)) : V E G A nL bs kc ks Q pc lv st := by
  subst hq; intro H locs ls hP hD hS hl; exact lv_aload X.1.1 X.1.2.1 d (lv_at hl j hj) (kk H locs ls hP hD hS hl)
theorem V_aload_nN {k : Fin 4} {i : Nat} (j : Nat) (X : Cx E G A nL cc own Ts rm l) (d : decode cc pc = .ok (.aload_n k, 1)) (hi : (k : Nat) = i) (hj : lv[j]? = some (i, .null)) (hq : pc + 1 = pc') (kk : V E G A nL bs kc ks Q pc' lv (.null :: st)) : V E G A nL bs kc ks Q pc lv st := by
  subst hq; intro H locs ls hP hD hS hl; exact lv_aload_nN X.1.1 X.1.2.1 d hi (lv_at hl j hj) (kk H locs ls hP hD hS hl)
theorem V_istore_n {k : Fin 4} {i : Nat} {x : Int32} (lv' : List (Nat × Value)) (js : List Nat) (X : Cx E G A nL cc own Ts rm l) (d : decode cc pc = .ok (.istore_n k, 1)) (hi : (k : Nat) = i) (hn : i < nL) (hl' : lv_pick ((i, Value.int x) :: lv.filter (fun q => !(q.1 == i) && !(q.1 + 1 == i && q.2.category == 2))) js = lv') (hq : pc + 1 = pc') (kk : V E G A nL bs kc ks Q pc' lv' st) : V E G A nL bs kc ks Q pc lv (.int x :: st) := by
  subst hq; intro H locs ls hP hD hS hl; exact lv_istore_n X.1.1 X.1.2.1 d hi hl hn rfl (fun ls' h' => kk H locs ls' hP hD hS (lv_sub h' js hl'))
theorem V_istore {i : Nat} {x : Int32} (lv' : List (Nat × Value)) (js : List Nat) (X : Cx E G A nL cc own Ts rm l) (d : decode cc pc = .ok (.istore i, 2)) (hn : i < nL) (hl' : lv_pick ((i, Value.int x) :: lv.filter (fun q => !(q.1 == i) && !(q.1 + 1 == i && q.2.category == 2))) js = lv') (hq : pc + 2 = pc') (kk : V E G A nL bs kc ks Q pc' lv' st) : V E G A nL bs kc ks Q pc lv (.int x :: st) := by
  subst hq; intro H locs ls hP hD hS hl; exact lv_istore X.1.1 X.1.2.1 d hl hn rfl (fun ls' h' => kk H locs ls' hP hD hS (lv_sub h' js hl'))
theorem V_astore_n {k : Fin 4} {i : Nat} {x : Nat} (lv' : List (Nat × Value)) (js : List Nat) (X : Cx E G A nL cc own Ts rm l) (d : decode cc pc = .ok (.astore_n k, 1)) (hi : (k : Nat) = i) (hn : i < nL) (hl' : lv_pick ((i, Value.ref x) :: lv.filter (fun q => !(q.1 == i) && !(q.1 + 1 == i && q.2.category == 2))) js = lv') (hq : pc + 1 = pc') (kk : V E G A nL bs kc ks Q pc' lv' st) : V E G A nL bs kc ks Q pc lv (.ref x :: st) := by
  subst hq; intro H locs ls hP hD hS hl; exact lv_astore_n X.1.1 X.1.2.1 d hi hl hn rfl (fun ls' h' => kk H locs ls' hP hD hS (lv_sub h' js hl'))
theorem V_astore {i : Nat} {x : Nat} (lv' : List (Nat × Value)) (js : List Nat) (X : Cx E G A nL cc own Ts rm l) (d : decode cc pc = .ok (.astore i, 2)) (hn : i < nL) (hl' : lv_pick ((i, Value.ref x) :: lv.filter (fun q => !(q.1 == i) && !(q.1 + 1 == i && q.2.category == 2))) js = lv') (hq : pc + 2 = pc') (kk : V E G A nL bs kc ks Q pc' lv' st) : V E G A nL bs kc ks Q pc lv (.ref x :: st) := by
  subst hq; intro H locs ls hP hD hS hl; exact lv_astore X.1.1 X.1.2.1 d hl hn rfl (fun ls' h' => kk H locs ls' hP hD hS (lv_sub h' js hl'))
theorem V_astore_nN {k : Fin 4} {i : Nat} (lv' : List (Nat × Value)) (js : List Nat) (X : Cx E G A nL cc own Ts rm l) (d : decode cc pc = .ok (.astore_n k, 1)) (hi : (k : Nat) = i) (hn : i < nL) (hl' : lv_pick ((i, Value.null) :: lv.filter (fun q => !(q.1 == i) && !(q.1 + 1 == i && q.2.category == 2))) js = lv') (hq : pc + 1 = pc') (kk : V E G A nL bs kc ks Q pc' lv' st) : V E G A nL bs kc ks Q pc lv (.null :: st) := by
  subst hq; intro H locs ls hP hD hS hl; exact lv_astore_nN X.1.1 X.1.2.1 d hi hl hn rfl (fun ls' h' => kk H locs ls' hP hD hS (lv_sub h' js hl'))
theorem V_lstore_n {k : Fin 4} {i : Nat} {x : Int64} (lv' : List (Nat × Value)) (js : List Nat) (X : Cx E G A nL cc own Ts rm l) (d : decode cc pc = .ok (.lstore_n k, 1)) (hi : (k : Nat) = i) (hn : i + 1 < nL) (hl' : lv_pick ((i, Value.long x) :: lv.filter (fun q => !(q.1 == i) && (!(q.1 == i + 1) && !(q.1 + 1 == i && q.2.category == 2)))) js = lv') (hq : pc + 1 = pc') (kk : V E G A nL bs kc ks Q pc' lv' st) : V E G A nL bs kc ks Q pc lv (.long x :: st) := by
  subst hq; intro H locs ls hP hD hS hl; exact lv_lstore_n X.1.1 X.1.2.1 d hi hl hn rfl (fun ls' h' => kk H locs ls' hP hD hS (lv_sub h' js hl'))
theorem V_lstore {i : Nat} {x : Int64} (lv' : List (Nat × Value)) (js : List Nat) (X : Cx E G A nL cc own Ts rm l) (d : decode cc pc = .ok (.lstore i, 2)) (hn : i + 1 < nL) (hl' : lv_pick ((i, Value.long x) :: lv.filter (fun q => !(q.1 == i) && (!(q.1 == i + 1) && !(q.1 + 1 == i && q.2.category == 2)))) js = lv') (hq : pc + 2 = pc') (kk : V E G A nL bs kc ks Q pc' lv' st) : V E G A nL bs kc ks Q pc lv (.long x :: st) := by
  subst hq; intro H locs ls hP hD hS hl; exact lv_lstore X.1.1 X.1.2.1 d hl hn rfl (fun ls' h' => kk H locs ls' hP hD hS (lv_sub h' js hl'))
theorem V_iinc {i : Nat} {n : Int} {x v : Int32} (lv' : List (Nat × Value)) (j : Nat) (js : List Nat) (X : Cx E G A nL cc own Ts rm l) (d : decode cc pc = .ok (.iinc i n, 3)) (hj : lv[j]? = some (i, .int x)) (hv : x + Int32.ofInt n = v) (hn : i < nL) (hl' : lv_pick ((i, Value.int v) :: lv.filter (fun q => !(q.1 == i) && !(q.1 + 1 == i && q.2.category == 2))) js = lv') (hq : pc + 3 = pc') (kk : V E G A nL bs kc ks Q pc' lv' st) : V E G A nL bs kc ks Q pc lv st := by
  subst hq; intro H locs ls hP hD hS hl; exact lv_iinc X.1.1 X.1.2.1 d hl hj hv hn rfl (fun ls' h' => kk H locs ls' hP hD hS (lv_sub h' js hl'))
theorem V_iadd {x y : Int32} (v : Int32) (X : Cx E G A nL cc own Ts rm l) (d : decode cc pc = .ok (.iadd, 1)) (hv : x + y = v) (hq : pc + 1 = pc') (kk : V E G A nL bs kc ks Q pc' lv (.int v :: st)) : V E G A nL bs kc ks Q pc lv (.int y :: .int x :: st) := by
  subst hq; subst hv; intro H locs ls hP hD hS hl; exact lv_iadd X.1.1 X.1.2.1 d (kk H locs ls hP hD hS hl)
theorem V_isub {x y : Int32} (v : Int32) (X : Cx E G A nL cc own Ts rm l) (d : decode cc pc = .ok (.isub, 1)) (hv : x - y = v) (hq : pc + 1 = pc') (kk : V E G A nL bs kc ks Q pc' lv (.int v :: st)) : V E G A nL bs kc ks Q pc lv (.int y :: .int x :: st) := by
  subst hq; subst hv; intro H locs ls hP hD hS hl; exact lv_isub X.1.1 X.1.2.1 d (kk H locs ls hP hD hS hl)
theorem V_imul {x y : Int32} (v : Int32) (X : Cx E G A nL cc own Ts rm l) (d : decode cc pc = .ok (.imul, 1)) (hv : x * y = v) (hq : pc + 1 = pc') (kk : V E G A nL bs kc ks Q pc' lv (.int v :: st)) : V E G A nL bs kc ks Q pc lv (.int y :: .int x :: st) := by
  subst hq; subst hv; intro H locs ls hP hD hS hl; exact lv_imul X.1.1 X.1.2.1 d (kk H locs ls hP hD hS hl)
theorem V_iand {x y : Int32} (v : Int32) (X : Cx E G A nL cc own Ts rm l) (d : decode cc pc = .ok (.iand, 1)) (hv : x &&& y = v) (hq : pc + 1 = pc') (kk : V E G A nL bs kc ks Q pc' lv (.int v :: st)) : V E G A nL bs kc ks Q pc lv (.int y :: .int x :: st) := by
  subst hq; subst hv; intro H locs ls hP hD hS hl; exact lv_iand X.1.1 X.1.2.1 d (kk H locs ls hP hD hS hl)
theorem V_ior {x y : Int32} (v : Int32) (X : Cx E G A nL cc own Ts rm l) (d : decode cc pc = .ok (.ior, 1)) (hv : x ||| y = v) (hq : pc + 1 = pc') (kk : V E G A nL bs kc ks Q pc' lv (.int v :: st)) : V E G A nL bs kc ks Q pc lv (.int y :: .int x :: st) := by
  subst hq; subst hv; intro H locs ls hP hD hS hl; exact lv_ior X.1.1 X.1.2.1 d (kk H locs ls hP hD hS hl)
theorem V_ixor {x y : Int32} (v : Int32) (X : Cx E G A nL cc own Ts rm l) (d : decode cc pc = .ok (.ixor, 1)) (hv : x ^^^ y = v) (hq : pc + 1 = pc') (kk : V E G A nL bs kc ks Q pc' lv (.int v :: st)) : V E G A nL bs kc ks Q pc lv (.int y :: .int x :: st) := by
  subst hq; subst hv; intro H locs ls hP hD hS hl; exact lv_ixor X.1.1 X.1.2.1 d (kk H locs ls hP hD hS hl)
theorem V_ishl {x y : Int32} (v : Int32) (X : Cx E G A nL cc own Ts rm l) (d : decode cc pc = .ok (.ishl, 1)) (hv : x <<< (y &&& 31) = v) (hq : pc + 1 = pc') (kk : V E G A nL bs kc ks Q pc' lv (.int v :: st)) : V E G A nL bs kc ks Q pc lv (.int y :: .int x :: st) := by
  subst hq; subst hv; intro H locs ls hP hD hS hl; exact lv_ishl X.1.1 X.1.2.1 d (kk H locs ls hP hD hS hl)
theorem V_ishr {x y : Int32} (v : Int32) (X : Cx E G A nL cc own Ts rm l) (d : decode cc pc = .ok (.ishr, 1)) (hv : x >>> (y &&& 31) = v) (hq : pc + 1 = pc') (kk : V E G A nL bs kc ks Q pc' lv (.int v :: st)) : V E G A nL bs kc ks Q pc lv (.int y :: .int x :: st) := by
  subst hq; subst hv; intro H locs ls hP hD hS hl; exact lv_ishr X.1.1 X.1.2.1 d (kk H locs ls hP hD hS hl)
theorem V_iushr {x y : Int32} (v : Int32) (X : Cx E G A nL cc own Ts rm l) (d : decode cc pc = .ok (.iushr, 1)) (hv : (x.toUInt32 >>> (y.toUInt32 &&& Int32.toUInt32 31)).toInt32 = v) (hq : pc + 1 = pc') (kk : V E G A nL bs kc ks Q pc' lv (.int v :: st)) : V E G A nL bs kc ks Q pc lv (.int y :: .int x :: st) := by
  subst hq; intro H locs ls hP hD hS hl; exact lv_iushr X.1.1 X.1.2.1 d hv (kk H locs ls hP hD hS hl)
theorem V_idiv {x y : Int32} (v : Int32) (X : Cx E G A nL cc own Ts rm l) (d : decode cc pc = .ok (.idiv, 1)) (hn : ¬ y = 0) (hv : x / y = v) (hq : pc + 1 = pc') (kk : V E G A nL bs kc ks Q pc' lv (.int v :: st)) : V E G A nL bs kc ks Q pc lv (.int y :: .int x :: st) := by
  subst hq; subst hv; intro H locs ls hP hD hS hl; exact lv_idiv X.1.1 X.1.2.1 d hn (kk H locs ls hP hD hS hl)
theorem V_irem {x y : Int32} (v : Int32) (X : Cx E G A nL cc own Ts rm l) (d : decode cc pc = .ok (.irem, 1)) (hn : ¬ y = 0) (hv : x - x / y * y = v) (hq : pc + 1 = pc') (kk : V E G A nL bs kc ks Q pc' lv (.int v :: st)) : V E G A nL bs kc ks Q pc lv (.int y :: .int x :: st) := by
  subst hq; subst hv; intro H locs ls hP hD hS hl; exact lv_irem X.1.1 X.1.2.1 d hn (kk H locs ls hP hD hS hl)
theorem V_i2l {x : Int32} (v : Int64) (X : Cx E G A nL cc own Ts rm l) (d : decode cc pc = .ok (.i2l, 1)) (hv : x.toInt64 = v) (hq : pc + 1 = pc') (kk : V E G A nL bs kc ks Q pc' lv (.long v :: st)) : V E G A nL bs kc ks Q pc lv (.int x :: st) := by
  subst hq; intro H locs ls hP hD hS hl; exact lv_i2l X.1.1 X.1.2.1 d hv (kk H locs ls hP hD hS hl)
theorem V_l2i {x : Int64} (v : Int32) (X : Cx E G A nL cc own Ts rm l) (d : decode cc pc = .ok (.l2i, 1)) (hv : x.toInt32 = v) (hq : pc + 1 = pc') (kk : V E G A nL bs kc ks Q pc' lv (.int v :: st)) : V E G A nL bs kc ks Q pc lv (.long x :: st) := by
  subst hq; intro H locs ls hP hD hS hl; exact lv_l2i X.1.1 X.1.2.1 d hv (kk H locs ls hP hD hS hl)
theorem V_i2c {x : Int32} (v : Int32) (X : Cx E G A nL cc own Ts rm l) (d : decode cc pc = .ok (.i2c, 1)) (hv : (x.toUInt32 % 65536).toInt32 = v) (hq : pc + 1 = pc') (kk : V E G A nL bs kc ks Q pc' lv (.int v :: st)) : V E G A nL bs kc ks Q pc lv (.int x :: st) := by
  subst hq; intro H locs ls hP hD hS hl; exact lv_i2c X.1.1 X.1.2.1 d hv (kk H locs ls hP hD hS hl)
theorem V_lushr {x : Int64} {y : Int32} (v : Int64) (X : Cx E G A nL cc own Ts rm l) (d : decode cc pc = .ok (.lushr, 1)) (hv : (x.toUInt64 >>> (y.toInt64.toUInt64 &&& Int64.toUInt64 63)).toInt64 = v) (hq : pc + 1 = pc') (kk : V E G A nL bs kc ks Q pc' lv (.long v :: st)) : V E G A nL bs kc ks Q pc lv (.int y :: .long x :: st) := by
  subst hq; intro H locs ls hP hD hS hl; exact lv_lushr X.1.1 X.1.2.1 d hv (kk H locs ls hP hD hS hl)
theorem V_lshl {x : Int64} {y : Int32} (v : Int64) (X : Cx E G A nL cc own Ts rm l) (d : decode cc pc = .ok (.lshl, 1)) (hv : x <<< (y.toInt64 &&& 63) = v) (hq : pc + 1 = pc') (kk : V E G A nL bs kc ks Q pc' lv (.long v :: st)) : V E G A nL bs kc ks Q pc lv (.int y :: .long x :: st) := by
  subst hq; intro H locs ls hP hD hS hl; exact lv_lshl X.1.1 X.1.2.1 d hv (kk H locs ls hP hD hS hl)
theorem V_ladd {x y : Int64} (v : Int64) (X : Cx E G A nL cc own Ts rm l) (d : decode cc pc = .ok (.ladd, 1)) (hv : x + y = v) (hq : pc + 1 = pc') (kk : V E G A nL bs kc ks Q pc' lv (.long v :: st)) : V E G A nL bs kc ks Q pc lv (.long y :: .long x :: st) := by
  subst hq; subst hv; intro H locs ls hP hD hS hl; exact lv_ladd X.1.1 X.1.2.1 d (kk H locs ls hP hD hS hl)
theorem V_lmul {x y : Int64} (v : Int64) (X : Cx E G A nL cc own Ts rm l) (d : decode cc pc = .ok (.lmul, 1)) (hv : x * y = v) (hq : pc + 1 = pc') (kk : V E G A nL bs kc ks Q pc' lv (.long v :: st)) : V E G A nL bs kc ks Q pc lv (.long y :: .long x :: st) := by
  subst hq; subst hv; intro H locs ls hP hD hS hl; exact lv_lmul X.1.1 X.1.2.1 d (kk H locs ls hP hD hS hl)
theorem V_land {x y : Int64} (v : Int64) (X : Cx E G A nL cc own Ts rm l) (d : decode cc pc = .ok (.land, 1)) (hv : x &&& y = v) (hq : pc + 1 = pc') (kk : V E G A nL bs kc ks Q pc' lv (.long v :: st)) : V E G A nL bs kc ks Q pc lv (.long y :: .long x :: st) := by
  subst hq; subst hv; intro H locs ls hP hD hS hl; exact lv_land X.1.1 X.1.2.1 d (kk H locs ls hP hD hS hl)
theorem V_lor {x y : Int64} (v : Int64) (X : Cx E G A nL cc own Ts rm l) (d : decode cc pc = .ok (.lor, 1)) (hv : x ||| y = v) (hq : pc + 1 = pc') (kk : V E G A nL bs kc ks Q pc' lv (.long v :: st)) : V E G A nL bs kc ks Q pc lv (.long y :: .long x :: st) := by
  subst hq; subst hv; intro H locs ls hP hD hS hl; exact lv_lor X.1.1 X.1.2.1 d (kk H locs ls hP hD hS hl)
theorem V_dup {a : Value} (X : Cx E G A nL cc own Ts rm l) (d : decode cc pc = .ok (.dup, 1)) (ha : a.category = 1) (hq : pc + 1 = pc') (kk : V E G A nL bs kc ks Q pc' lv (a :: a :: st)) : V E G A nL bs kc ks Q pc lv (a :: st) := by
  subst hq; intro H locs ls hP hD hS hl; exact lv_dup X.1.1 X.1.2.1 d ha (kk H locs ls hP hD hS hl)
theorem V_pop {a : Value} (X : Cx E G A nL cc own Ts rm l) (d : decode cc pc = .ok (.pop, 1)) (ha : a.category = 1) (hq : pc + 1 = pc') (kk : V E G A nL bs kc ks Q pc' lv st) : V E G A nL bs kc ks Q pc lv (a :: st) := by
  subst hq; intro H locs ls hP hD hS hl; exact lv_pop X.1.1 X.1.2.1 d ha (kk H locs ls hP hD hS hl)
theorem V_dup_x1 {a b : Value} (X : Cx E G A nL cc own Ts rm l) (d : decode cc pc = .ok (.dup_x1, 1)) (ha : a.category = 1) (hb : b.category = 1) (hq : pc + 1 = pc') (kk : V E G A nL bs kc ks Q pc' lv (a :: b :: a :: st)) : V E G A nL bs kc ks Q pc lv (a :: b :: st) := by
  subst hq; intro H locs ls hP hD hS hl; exact lv_dup_x1 X.1.1 X.1.2.1 d ha hb (kk H locs ls hP hD hS hl)
theorem V_dup_x2 {a b c : Value} (X : Cx E G A nL cc own Ts rm l) (d : decode cc pc = .ok (.dup_x2, 1)) (ha : a.category = 1) (hb : b.category = 1) (hc : c.category = 1) (hq : pc + 1 = pc') (kk : V E G A nL bs kc ks Q pc' lv (a :: b :: c :: a :: st)) : V E G A nL bs kc ks Q pc lv (a :: b :: c :: st) := by
  subst hq; intro H locs ls hP hD hS hl; exact lv_dup_x2 X.1.1 X.1.2.1 d ha hb hc (kk H locs ls hP hD hS hl)
theorem V_dup2 {a b : Value} (X : Cx E G A nL cc own Ts rm l) (d : decode cc pc = .ok (.dup2, 1)) (ha : a.category = 1) (hb : b.category = 1) (hq : pc + 1 = pc') (kk : V E G A nL bs kc ks Q pc' lv (a :: b :: a :: b :: st)) : V E G A nL bs kc ks Q pc lv (a :: b :: st) := by
  subst hq; intro H locs ls hP hD hS hl; exact lv_dup2_11 X.1.1 X.1.2.1 d ha hb (kk H locs ls hP hD hS hl)
theorem V_lcmp {x y : Int64} (v : Int32) (X : Cx E G A nL cc own Ts rm l) (d : decode cc pc = .ok (.lcmp, 1)) (hv : lg_cmp x y = v) (hq : pc + 1 = pc') (kk : V E G A nL bs kc ks Q pc' lv (.int v :: st)) : V E G A nL bs kc ks Q pc lv (.long y :: .long x :: st) := by
  subst hq; subst hv; intro H locs ls hP hD hS hl
  exact W.lcmp X.1.1 X.1.2.1 d (kk H locs ls hP hD hS hl)
theorem V_goto {off : Int} (X : Cx E G A nL cc own Ts rm l) (d : decode cc pc = .ok (.goto off, 3)) (ht : (pc : Int) + off = (pc' : Int)) (kk : V E G A nL bs kc ks Q pc' lv st) : V E G A nL bs kc ks Q pc lv st := by
  intro H locs ls hP hD hS hl; exact lv_goto X.1.1 X.1.2.1 d ht (kk H locs ls hP hD hS hl)
theorem V_tableIn {dflt lo hi : Int} {offs : Array Int} {len : Nat} {x : Int32} {off : Int} {tgt : Nat} (X : Cx E G A nL cc own Ts rm l) (d : decode cc pc = .ok (.tableswitch dflt lo hi offs, len)) (h1 : ¬ x.toInt < lo) (h2 : ¬ hi < x.toInt) (ho : offs[(x.toInt - lo).toNat]? = some off) (ht : (pc : Int) + off = (tgt : Int)) (kk : V E G A nL bs kc ks Q tgt lv st) : V E G A nL bs kc ks Q pc lv (.int x :: st) := by
  intro H locs ls hP hD hS hl; exact lv_tableIn X.1.1 X.1.2.1 d h1 h2 ho ht (kk H locs ls hP hD hS hl)
theorem V_tableOut {dflt lo hi : Int} {offs : Array Int} {len : Nat} {x : Int32} {tgt : Nat} (X : Cx E G A nL cc own Ts rm l) (d : decode cc pc = .ok (.tableswitch dflt lo hi offs, len)) (h : x.toInt < lo ∨ hi < x.toInt) (ht : (pc : Int) + dflt = (tgt : Int)) (kk : V E G A nL bs kc ks Q tgt lv st) : V E G A nL bs kc ks Q pc lv (.int x :: st) := by
  intro H locs ls hP hD hS hl; exact lv_tableOut X.1.1 X.1.2.1 d h ht (kk H locs ls hP hD hS hl)
theorem V_ifnull {x : Nat} {off : Int} (X : Cx E G A nL cc own Ts rm l) (d : decode cc pc = .ok (.ifnull off, 3)) (hq : pc + 3 = pc') (kk : V E G A nL bs kc ks Q pc' lv st) : V E G A nL bs kc ks Q pc lv (.ref x :: st) := by
  subst hq; intro H locs ls hP hD hS hl; exact lv_ifnull X.1.1 X.1.2.1 d (kk H locs ls hP hD hS hl)
theorem V_ifnullN {off : Int} (X : Cx E G A nL cc own Ts rm l) (d : decode cc pc = .ok (.ifnull off, 3)) (ht : (pc : Int) + off = (pc' : Int)) (kk : V E G A nL bs kc ks Q pc' lv st) : V E G A nL bs kc ks Q pc lv (.null :: st) := by
  intro H locs ls hP hD hS hl; exact lv_ifnullN X.1.1 X.1.2.1 d ht (kk H locs ls hP hD hS hl)
theorem V_ifnonnull {x : Nat} {off : Int} (X : Cx E G A nL cc own Ts rm l) (d : decode cc pc = .ok (.ifnonnull off, 3)) (ht : (pc : Int) + off = (pc' : Int)) (kk : V E G A nL bs kc ks Q pc' lv st) : V E G A nL bs kc ks Q pc lv (.ref x :: st) := by
  intro H locs ls hP hD hS hl; exact lv_ifnonnull X.1.1 X.1.2.1 d ht (kk H locs ls hP hD hS hl)
theorem V_ifnonnullN {off : Int} (X : Cx E G A nL cc own Ts rm l) (d : decode cc pc = .ok (.ifnonnull off, 3)) (hq : pc + 3 = pc') (kk : V E G A nL bs kc ks Q pc' lv st) : V E G A nL bs kc ks Q pc lv (.null :: st) := by
  subst hq; intro H locs ls hP hD hS hl; exact lv_ifnonnullN X.1.1 X.1.2.1 d (kk H locs ls hP hD hS hl)
theorem V_if_eq {x : Int32} {off : Int} {C : Prop} (tgt : Nat) (X : Cx E G A nL cc own Ts rm l) (d : decode cc pc = .ok (.ifCond .eq off, 3)) (ht : (pc : Int) + off = (tgt : Int)) (hq : pc + 3 = pc') (hc : (x = 0) ↔ C) (kt : C → V E G A nL bs kc ks Q tgt lv st) (kf : ¬ C → V E G A nL bs kc ks Q pc' lv st) : V E G A nL bs kc ks Q pc lv (.int x :: st) := by
  subst hq; intro H locs ls hP hD hS hl; exact lv_if_eq X.1.1 X.1.2.1 d ht (fun h => kt (hc.mp h) H locs ls hP hD hS hl) (fun h => kf (fun q => h (hc.mpr q)) H locs ls hP hD hS hl)
theorem V_icmp_eq {x y : Int32} {off : Int} {C : Prop} (tgt : Nat) (X : Cx E G A nL cc own Ts rm l) (d : decode cc pc = .ok (.if_icmp .eq off, 3)) (ht : (pc : Int) + off = (tgt : Int)) (hq : pc + 3 = pc') (hc : (x = y) ↔ C) (kt : C → V E G A nL bs kc ks Q tgt lv st) (kf : ¬ C → V E G A nL bs kc ks Q pc' lv st) : V E G A nL bs kc ks Q pc lv (.int y :: .int x :: st) := by
  subst hq; intro H locs ls hP hD hS hl; exact lv_icmp_eq X.1.1 X.1.2.1 d ht (fun h => kt (hc.mp h) H locs ls hP hD hS hl) (fun h => kf (fun q => h (hc.mpr q)) H locs ls hP hD hS hl)
theorem V_if_ne {x : Int32} {off : Int} {C : Prop} (tgt : Nat) (X : Cx E G A nL cc own Ts rm l) (d : decode cc pc = .ok (.ifCond .ne off, 3)) (ht : (pc : Int) + off = (tgt : Int)) (hq : pc + 3 = pc') (hc : (x = 0) ↔ C) (kt : ¬ C → V E G A nL bs kc ks Q tgt lv st) (kf : C → V E G A nL bs kc ks Q pc' lv st) : V E G A nL bs kc ks Q pc lv (.int x :: st) := by
  subst hq; intro H locs ls hP hD hS hl; exact lv_if_ne X.1.1 X.1.2.1 d ht (fun h => kt (fun q => h (hc.mpr q)) H locs ls hP hD hS hl) (fun h => kf (hc.mp h) H locs ls hP hD hS hl)
theorem V_icmp_ne {x y : Int32} {off : Int} {C : Prop} (tgt : Nat) (X : Cx E G A nL cc own Ts rm l) (d : decode cc pc = .ok (.if_icmp .ne off, 3)) (ht : (pc : Int) + off = (tgt : Int)) (hq : pc + 3 = pc') (hc : (x = y) ↔ C) (kt : ¬ C → V E G A nL bs kc ks Q tgt lv st) (kf : C → V E G A nL bs kc ks Q pc' lv st) : V E G A nL bs kc ks Q pc lv (.int y :: .int x :: st) := by
  subst hq; intro H locs ls hP hD hS hl; exact lv_icmp_ne X.1.1 X.1.2.1 d ht (fun h => kt (fun q => h (hc.mpr q)) H locs ls hP hD hS hl) (fun h => kf (hc.mp h) H locs ls hP hD hS hl)
theorem V_if_lt {x : Int32} {off : Int} {C : Prop} (tgt : Nat) (X : Cx E G A nL cc own Ts rm l) (d : decode cc pc = .ok (.ifCond .lt off, 3)) (ht : (pc : Int) + off = (tgt : Int)) (hq : pc + 3 = pc') (hc : (x < 0) ↔ C) (kt : C → V E G A nL bs kc ks Q tgt lv st) (kf : ¬ C → V E G A nL bs kc ks Q pc' lv st) : V E G A nL bs kc ks Q pc lv (.int x :: st) := by
  subst hq; intro H locs ls hP hD hS hl; exact lv_if_lt X.1.1 X.1.2.1 d ht (fun h => kt (hc.mp h) H locs ls hP hD hS hl) (fun h => kf (fun q => h (hc.mpr q)) H locs ls hP hD hS hl)
theorem V_icmp_lt {x y : Int32} {off : Int} {C : Prop} (tgt : Nat) (X : Cx E G A nL cc own Ts rm l) (d : decode cc pc = .ok (.if_icmp .lt off, 3)) (ht : (pc : Int) + off = (tgt : Int)) (hq : pc + 3 = pc') (hc : (x < y) ↔ C) (kt : C → V E G A nL bs kc ks Q tgt lv st) (kf : ¬ C → V E G A nL bs kc ks Q pc' lv st) : V E G A nL bs kc ks Q pc lv (.int y :: .int x :: st) := by
  subst hq; intro H locs ls hP hD hS hl; exact lv_icmp_lt X.1.1 X.1.2.1 d ht (fun h => kt (hc.mp h) H locs ls hP hD hS hl) (fun h => kf (fun q => h (hc.mpr q)) H locs ls hP hD hS hl)
theorem V_if_ge {x : Int32} {off : Int} {C : Prop} (tgt : Nat) (X : Cx E G A nL cc own Ts rm l) (d : decode cc pc = .ok (.ifCond .ge off, 3)) (ht : (pc : Int) + off = (tgt : Int)) (hq : pc + 3 = pc') (hc : (0 ≤ x) ↔ C) (kt : C → V E G A nL bs kc ks Q tgt lv st) (kf : ¬ C → V E G A nL bs kc ks Q pc' lv st) : V E G A nL bs kc ks Q pc lv (.int x :: st) := by
  subst hq; intro H locs ls hP hD hS hl; exact lv_if_ge X.1.1 X.1.2.1 d ht (fun h => kt (hc.mp h) H locs ls hP hD hS hl) (fun h => kf (fun q => h (hc.mpr q)) H locs ls hP hD hS hl)
theorem V_icmp_ge {x y : Int32} {off : Int} {C : Prop} (tgt : Nat) (X : Cx E G A nL cc own Ts rm l) (d : decode cc pc = .ok (.if_icmp .ge off, 3)) (ht : (pc : Int) + off = (tgt : Int)) (hq : pc + 3 = pc') (hc : (y ≤ x) ↔ C) (kt : C → V E G A nL bs kc ks Q tgt lv st) (kf : ¬ C → V E G A nL bs kc ks Q pc' lv st) : V E G A nL bs kc ks Q pc lv (.int y :: .int x :: st) := by
  subst hq; intro H locs ls hP hD hS hl; exact lv_icmp_ge X.1.1 X.1.2.1 d ht (fun h => kt (hc.mp h) H locs ls hP hD hS hl) (fun h => kf (fun q => h (hc.mpr q)) H locs ls hP hD hS hl)
theorem V_if_gt {x : Int32} {off : Int} {C : Prop} (tgt : Nat) (X : Cx E G A nL cc own Ts rm l) (d : decode cc pc = .ok (.ifCond .gt off, 3)) (ht : (pc : Int) + off = (tgt : Int)) (hq : pc + 3 = pc') (hc : (0 < x) ↔ C) (kt : C → V E G A nL bs kc ks Q tgt lv st) (kf : ¬ C → V E G A nL bs kc ks Q pc' lv st) : V E G A nL bs kc ks Q pc lv (.int x :: st) := by
  subst hq; intro H locs ls hP hD hS hl; exact lv_if_gt X.1.1 X.1.2.1 d ht (fun h => kt (hc.mp h) H locs ls hP hD hS hl) (fun h => kf (fun q => h (hc.mpr q)) H locs ls hP hD hS hl)
theorem V_icmp_gt {x y : Int32} {off : Int} {C : Prop} (tgt : Nat) (X : Cx E G A nL cc own Ts rm l) (d : decode cc pc = .ok (.if_icmp .gt off, 3)) (ht : (pc : Int) + off = (tgt : Int)) (hq : pc + 3 = pc') (hc : (y < x) ↔ C) (kt : C → V E G A nL bs kc ks Q tgt lv st) (kf : ¬ C → V E G A nL bs kc ks Q pc' lv st) : V E G A nL bs kc ks Q pc lv (.int y :: .int x :: st) := by
  subst hq; intro H locs ls hP hD hS hl; exact lv_icmp_gt X.1.1 X.1.2.1 d ht (fun h => kt (hc.mp h) H locs ls hP hD hS hl) (fun h => kf (fun q => h (hc.mpr q)) H locs ls hP hD hS hl)
theorem V_if_le {x : Int32} {off : Int} {C : Prop} (tgt : Nat) (X : Cx E G A nL cc own Ts rm l) (d : decode cc pc = .ok (.ifCond .le off, 3)) (ht : (pc : Int) + off = (tgt : Int)) (hq : pc + 3 = pc') (hc : (x ≤ 0) ↔ C) (kt : C → V E G A nL bs kc ks Q tgt lv st) (kf : ¬ C → V E G A nL bs kc ks Q pc' lv st) : V E G A nL bs kc ks Q pc lv (.int x :: st) := by
  subst hq; intro H locs ls hP hD hS hl; exact lv_if_le X.1.1 X.1.2.1 d ht (fun h => kt (hc.mp h) H locs ls hP hD hS hl) (fun h => kf (fun q => h (hc.mpr q)) H locs ls hP hD hS hl)
theorem V_icmp_le {x y : Int32} {off : Int} {C : Prop} (tgt : Nat) (X : Cx E G A nL cc own Ts rm l) (d : decode cc pc = .ok (.if_icmp .le off, 3)) (ht : (pc : Int) + off = (tgt : Int)) (hq : pc + 3 = pc') (hc : (x ≤ y) ↔ C) (kt : C → V E G A nL bs kc ks Q tgt lv st) (kf : ¬ C → V E G A nL bs kc ks Q pc' lv st) : V E G A nL bs kc ks Q pc lv (.int y :: .int x :: st) := by
  subst hq; intro H locs ls hP hD hS hl; exact lv_icmp_le X.1.1 X.1.2.1 d ht (fun h => kt (hc.mp h) H locs ls hP hD hS hl) (fun h => kf (fun q => h (hc.mpr q)) H locs ls hP hD hS hl)
end VR
def cN (ci : Nat) : Nat := match ci with | 0 => 10 | 1 => 1 | 2 => 2 | 3 => 2 | 4 => 2 | _ => 5
def cT (ci : Nat) : u_T := match ci with | 0 => TX0 | 1 => TX1 | 2 => TX2 | 3 => TX3 | 4 => TX4 | _ => TX5
def cR (ci : Nat) : String := match ci with | 0 => RX0 | 1 => RX1 | 2 => RX2 | 3 => RX3 | 4 => RX4 | _ => RX5
def cty (ci : Nat) : Nat → FieldType := match ci with | 0 => tyX0 | 1 => tyX1 | 2 => tyX2 | 3 => tyX3 | 4 => tyX4 | _ => tyX5
theorem c_cl : ∀ {ci : Nat}, ci < 6 → vwCl[ci]? = some (cR ci, cT ci, cN ci)
  | 0, _ => rfl | 1, _ => rfl | 2, _ => rfl | 3, _ => rfl | 4, _ => rfl | 5, _ => rfl
  | n + 6, h => absurd h (by omega)
theorem c_nm : ∀ {ci : Nat}, ci < 6 → ∀ a, a < cN ci → ∀ b, b < cN ci → a ≠ b → (cT ci a).2.1 ≠ (cT ci b).2.1
  | 0, _ => nmX0 | 1, _ => nmX1 | 2, _ => nmX2 | 3, _ => nmX3 | 4, _ => nmX4 | 5, _ => nmX5
  | n + 6, h => absurd h (by omega)
theorem c_ty : ∀ {ci : Nat}, ci < 6 → ∀ k, k < cN ci → parseFieldDescriptor (cT ci k).2.2.1 = some (cty ci k)
  | 0, _ => tyX0_ok | 1, _ => tyX1_ok | 2, _ => tyX2_ok | 3, _ => tyX3_ok | 4, _ => tyX4_ok | 5, _ => tyX5_ok
  | n + 6, h => absurd h (by omega)
/-- a field's link from this body -/
def Fld (E : EE) (own : String) (ci k idx : Nat) : Prop := ci < 6 ∧ k < cN ci ∧ (Cond.fieldLink own idx (cT ci k).1 (cT ci k).2.1 (cT ci k).2.2.1).before (e_a E) (e_s E) = true ∧ ∀ w ∈ u_ws (cR ci) (cT ci) (cN ci), w.before (e_a E) (e_s E) = true
theorem va_K_id {D : va_G} {cl : List vw_C} {tys : List (ClassId × FieldType)} {cA c0 : ClassId} {ty : FieldType} {U : State} (h : va_K D cl (tys ++ [(cA, ty)]) U) (k : Nat) (hk : tys[k]? = some (c0, ty)) : cA = c0 := by
  have h1 := (h.2 tys.length (cA, ty) (by rw [List.getElem?_append_right (Nat.le_refl _), Nat.sub_self]; rfl)).2
  have hl : k < tys.length := (List.getElem?_eq_some_iff.mp hk).1
  have h2 := (h.2 k (c0, ty) (by rw [List.getElem?_append_left hl]; exact hk)).2
  cases ty with
  | object C =>
    obtain ⟨_, _, -, -, -, e1⟩ := h1
    obtain ⟨_, _, -, -, -, e2⟩ := h2
    exact Option.some.inj (e1.symm.trans e2)
  | _ => exact Option.some.inj (Eq.trans (Eq.symm h1) h2)
section VM
variable {E : EE} {G : gT} {A : Nat → Prop} {nL : Nat} {bs bs' : List va_W} {kc ks : Nat} {Q : State → Prop} {pc pc' : Nat} {lv lv' : List (Nat × Value)} {st : List Value} {cc : ByteArray} {own : String} {Ts : List Cond} {rm : Room} {l : Launch}
theorem Fld_of {idx : Nat} (ci k : Nat) (X : Cx E G A nL cc own Ts rm l) (h1 : ci < 6) (h2 : k < cN ci) (h3 : Cond.fieldLink own idx (cT ci k).1 (cT ci k).2.1 (cT ci k).2.2.1 ∈ Ts) (h4 : ∀ w ∈ u_ws (cR ci) (cT ci) (cN ci), w ∈ Ts) : Fld E own ci k idx :=
  ⟨h1, h2, X.1.2.2.2.2 _ h3, fun w hw => X.1.2.2.2.2 w (h4 w hw)⟩
theorem V_get {ci k idx a : Nat} {fs : List Value} {v : Value} (q0 : Nat) (X : Cx E G A nL cc own Ts rm l) (F : Fld E own ci k idx) (he : bs.flatten[q0]? = some (a, .inr (ci, fs))) (hv : fs[k]? = some v) (d : decode cc pc = .ok (.getfield idx, 3)) (hq : pc + 3 = pc') (kk : V E G A nL bs kc ks Q pc' lv (v :: st)) : V E G A nL bs kc ks Q pc lv (.ref a :: st) := by
  subst hq; intro H locs ls hP hD hS hl
  exact va_get X.1.1 X.1.2.1 F.2.2.2 (fun _ h => h) X.1.2.2.2.1 X.2.1.1 hP q0 he (c_cl F.1) k F.2.1 F.2.2.1 (fun _ h => h) hv d (kk H locs ls hP hD hS hl)
theorem V_put {ci k idx a : Nat} {fs : List Value} {v : Value} (q0 : Nat) (bs' : List va_W) (X : Cx E G A nL cc own Ts rm l) (F : Fld E own ci k idx) (he : bs.flatten[q0]? = some (a, .inr (ci, fs))) (hfin : (cT ci k).2.2.2 = false) (hn : narrow (cty ci k) v = v) (hf : fits (cty ci k) v = true) (hk : k < fs.length) (hw : bs.flatten.set q0 (a, .inr (ci, fs.set k v)) = bs'.flatten) (d : decode cc pc = .ok (.putfield idx, 3)) (hq : pc + 3 = pc') (kk : V E G A nL bs' kc ks Q pc' lv st) : V E G A nL bs kc ks Q pc lv (v :: .ref a :: st) := by
  subst hq; intro H locs ls hP hD hS hl
  refine va_put X.1.1 X.1.2.1 F.2.2.2 (fun _ h => h) (cty ci) (c_ty F.1) (c_nm F.1) X.1.2.2.2.1 X.2.1.1 hP hD hS q0 he (c_cl F.1) k F.2.1 F.2.2.1 (fun _ h => h) hfin (c_ty F.1 k F.2.1) hn hf hk d (fun H1 locs1 hP hD hS => ?_)
  rw [hw] at hP hD
  exact kk H1 locs1 ls hP hD hS hl
theorem V_putF {ci k idx a : Nat} {fs : List Value} {v : Value} (q0 : Nat) (bs' : List va_W) (X : Cx E G A nL cc own Ts rm l) (F : Fld E own ci k idx) (he : bs.flatten[q0]? = some (a, .inr (ci, fs))) (hfin : (cT ci k).2.2.2 = true) (hi : (e_h E).name = "<init>") (hdc : (cT ci k).1 = own) (hn : narrow (cty ci k) v = v) (hf : fits (cty ci k) v = true) (hk : k < fs.length) (hw : bs.flatten.set q0 (a, .inr (ci, fs.set k v)) = bs'.flatten) (d : decode cc pc = .ok (.putfield idx, 3)) (hq : pc + 3 = pc') (kk : V E G A nL bs' kc ks Q pc' lv st) : V E G A nL bs kc ks Q pc lv (v :: .ref a :: st) := by
  subst hq; intro H locs ls hP hD hS hl
  refine va_putF X.1.1 X.1.2.1 F.2.2.2 (fun _ h => h) (cty ci) (c_ty F.1) (c_nm F.1) X.1.2.2.2.1 X.2.1.1 hP hD hS q0 he (c_cl F.1) k F.2.1 F.2.2.1 (fun _ h => h) hfin hi hdc (c_ty F.1 k F.2.1) hn hf hk d (fun H1 locs1 hP hD hS => ?_)
  rw [hw] at hP hD
  exact kk H1 locs1 ls hP hD hS hl
theorem V_iald {a n : Nat} {f : Nat → Int32} {v : Int32} (q0 j : Nat) (X : Cx E G A nL cc own Ts rm l) (he : bs.flatten[q0]? = some (a, .inl (G.2 0, n, .inl f))) (hj : j < n) (hn : n < 2 ^ 31) (hv : f j = v) (d : decode cc pc = .ok (.iaload, 1)) (hq : pc + 1 = pc') (kk : V E G A nL bs kc ks Q pc' lv (.int v :: st)) : V E G A nL bs kc ks Q pc lv (.int (nI j) :: .ref a :: st) := by
  subst hq; subst hv; intro H locs ls hP hD hS hl
  refine va_iald X.1.1 X.1.2.1 X.2.1.1 hP q0 0 he rfl (vp_in_nI hj hn) d ?_
  rw [nI_clamp (Nat.lt_trans hj hn)]
  exact kk H locs ls hP hD hS hl
theorem V_cald {a n : Nat} {f : Nat → Int32} {v : Int32} (q0 j : Nat) (X : Cx E G A nL cc own Ts rm l) (he : bs.flatten[q0]? = some (a, .inl (G.2 1, n, .inl f))) (hj : j < n) (hn : n < 2 ^ 31) (hv : f j = v) (d : decode cc pc = .ok (.caload, 1)) (hq : pc + 1 = pc') (kk : V E G A nL bs kc ks Q pc' lv (.int v :: st)) : V E G A nL bs kc ks Q pc lv (.int (nI j) :: .ref a :: st) := by
  subst hq; subst hv; intro H locs ls hP hD hS hl
  refine va_cald X.1.1 X.1.2.1 X.2.1.1 hP q0 1 he rfl (vp_in_nI hj hn) d ?_
  rw [nI_clamp (Nat.lt_trans hj hn)]
  exact kk H locs ls hP hD hS hl
theorem V_aald {a n : Nat} {f : Nat → Option Nat} {v : Value} (q0 j : Nat) (X : Cx E G A nL cc own Ts rm l) (he : bs.flatten[q0]? = some (a, .inl (G.2 3, n, .inr (.inr (.inr (.inr f)))))) (hj : j < n) (hn : n < 2 ^ 31) (hv : va_rf (f j) = v) (d : decode cc pc = .ok (.aaload, 1)) (hq : pc + 1 = pc') (kk : V E G A nL bs kc ks Q pc' lv (v :: st)) : V E G A nL bs kc ks Q pc lv (.int (nI j) :: .ref a :: st) := by
  subst hq; subst hv; intro H locs ls hP hD hS hl
  refine va_aldq X.1.1 X.1.2.1 X.2.1.1 hP q0 3 he rfl (vp_in_nI hj hn) d ?_
  rw [nI_clamp (Nat.lt_trans hj hn)]
  exact kk H locs ls hP hD hS hl
theorem V_iast {a n : Nat} {f : Nat → Int32} {x : Int32} (q0 j : Nat) (bs' : List va_W) (X : Cx E G A nL cc own Ts rm l) (he : bs.flatten[q0]? = some (a, .inl (G.2 0, n, .inl f))) (hj : j < n) (hn : n < 2 ^ 31) (hw : bs.flatten.set q0 (a, .inl (G.2 0, n, .inl (upd f j x))) = bs'.flatten) (d : decode cc pc = .ok (.iastore, 1)) (hq : pc + 1 = pc') (kk : V E G A nL bs' kc ks Q pc' lv st) : V E G A nL bs kc ks Q pc lv (.int x :: .int (nI j) :: .ref a :: st) := by
  subst hq; intro H locs ls hP hD hS hl
  refine va_iast X.1.1 X.1.2.1 X.2.1.1 hP hD hS q0 0 he rfl (vp_in_nI hj hn) d (fun H1 locs1 hP hD hS => ?_)
  rw [nI_clamp (Nat.lt_trans hj hn), hw] at hP hD
  exact kk H1 locs1 ls hP hD hS hl
theorem V_cast {a n : Nat} {f : Nat → Int32} {x y : Int32} (q0 j : Nat) (bs' : List va_W) (X : Cx E G A nL cc own Ts rm l) (he : bs.flatten[q0]? = some (a, .inl (G.2 1, n, .inl f))) (hj : j < n) (hn : n < 2 ^ 31) (hx : vp_nar .char x = y) (hw : bs.flatten.set q0 (a, .inl (G.2 1, n, .inl (upd f j y))) = bs'.flatten) (d : decode cc pc = .ok (.castore, 1)) (hq : pc + 1 = pc') (kk : V E G A nL bs' kc ks Q pc' lv st) : V E G A nL bs kc ks Q pc lv (.int x :: .int (nI j) :: .ref a :: st) := by
  subst hq; intro H locs ls hP hD hS hl
  refine va_cast X.1.1 X.1.2.1 X.2.1.1 hP hD hS q0 1 he rfl (vp_in_nI hj hn) d (fun H1 locs1 hP hD hS => ?_)
  rw [nI_clamp (Nat.lt_trans hj hn), hx, hw] at hP hD
  exact kk H1 locs1 ls hP hD hS hl
theorem V_aast {a n v : Nat} {vs : List Value} {f : Nat → Option Nat} (q0 qk j : Nat) (bs' : List va_W) (X : Cx E G A nL cc own Ts rm l) (he : bs.flatten[q0]? = some (a, .inl (G.2 3, n, .inr (.inr (.inr (.inr f)))))) (hv : bs.flatten[qk]? = some (v, .inr (0, vs))) (hj : j < n) (hn : n < 2 ^ 31) (hw : bs.flatten.set q0 (a, .inl (G.2 3, n, .inr (.inr (.inr (.inr (va_up f j (some v))))))) = bs'.flatten) (d : decode cc pc = .ok (.aastore, 1)) (hq : pc + 1 = pc') (kk : V E G A nL bs' kc ks Q pc' lv st) : V E G A nL bs kc ks Q pc lv (.ref v :: .int (nI j) :: .ref a :: st) := by
  subst hq; intro H locs ls hP hD hS hl
  refine va_astq X.1.1 X.1.2.1 X.2.1.1 hP hD hS q0 3 qk 0 (r := (cR 0, cT 0, cN 0)) he rfl hv rfl (vp_in_nI hj hn) d (fun H1 locs1 hP hD hS => ?_)
  rw [nI_clamp (Nat.lt_trans hj hn), hw] at hP hD
  exact kk H1 locs1 ls hP hD hS hl
theorem V_alen {a : Nat} {cA : ClassId} {x : vp_A} {ty : FieldType} {v : Int32} (q0 t0 : Nat) (X : Cx E G A nL cc own Ts rm l) (he : bs.flatten[q0]? = some (a, .inl (cA, x))) (ht : (tyL G)[t0]? = some (cA, ty)) (hv : Int32.ofNat x.1 = v) (d : decode cc pc = .ok (.arraylength, 1)) (hq : pc + 1 = pc') (kk : V E G A nL bs kc ks Q pc' lv (.int v :: st)) : V E G A nL bs kc ks Q pc lv (.ref a :: st) := by
  subst hq; intro H locs ls hP hD hS hl
  exact va_alen X.1.1 X.1.2.1 X.2.1.1 hP q0 t0 he ht hv d (kk H locs ls hP hD hS hl)
theorem V_newi {n : Nat} (X : Cx E G A nL cc own Ts rm l) (har : Cond.arrayClass .int ∈ Ts) (hn : n < 2 ^ 20) (hc : kc + 1 ≤ rm.cells) (hs : ks + n ≤ rm.slots) (d : decode cc pc = .ok (.newarray .int, 2)) (hq : pc + 2 = pc') (kk : ∀ q, V E G A nL (bs ++ [[(q, .inl (G.2 0, n, .inl (fun _ => 0)))]]) (kc + 1) (ks + n) Q pc' lv (.ref q :: st)) : V E G A nL bs kc ks Q pc lv (.int (nI n) :: st) := by
  have hR := X.2.2.2.2.2.1
  subst hR
  subst hq; intro H locs ls hP hD hS hl
  have h31 : n < 2 ^ 31 := Nat.lt_trans hn (by decide)
  refine va_newa (a0 := (n, .inl (fun _ => 0))) X.1.1 X.1.2.1 (atype := .int) (X.1.2.2.2.2 _ har) rfl X.2.1.1 hP hD hS X.2.2.2.1 (fun cA => by rw [vp_cell_i] <;> rfl) (nI_pos h31) (nI_clamp h31) (by show n * 4 ≤ _; omega) hc hs d (fun q cA H1 hK hP hD hS => ?_)
  have e := va_K_id hK 0 rfl
  subst e
  exact kk q H1 locs ls (by rw [List.flatten_append]; simpa using hP) (by rw [List.flatten_append]; simpa using hD) hS hl
theorem V_newc {n : Nat} (X : Cx E G A nL cc own Ts rm l) (har : Cond.arrayClass .char ∈ Ts) (hn : n < 2 ^ 20) (hc : kc + 1 ≤ rm.cells) (hs : ks + n ≤ rm.slots) (d : decode cc pc = .ok (.newarray .char, 2)) (hq : pc + 2 = pc') (kk : ∀ q, V E G A nL (bs ++ [[(q, .inl (G.2 1, n, .inl (fun _ => 0)))]]) (kc + 1) (ks + n) Q pc' lv (.ref q :: st)) : V E G A nL bs kc ks Q pc lv (.int (nI n) :: st) := by
  have hR := X.2.2.2.2.2.1
  subst hR
  subst hq; intro H locs ls hP hD hS hl
  have h31 : n < 2 ^ 31 := Nat.lt_trans hn (by decide)
  refine va_newa (a0 := (n, .inl (fun _ => 0))) X.1.1 X.1.2.1 (atype := .char) (X.1.2.2.2.2 _ har) rfl X.2.1.1 hP hD hS X.2.2.2.1 (fun cA => by rw [vp_cell_i] <;> rfl) (nI_pos h31) (nI_clamp h31) (by show n * 2 ≤ _; omega) hc hs d (fun q cA H1 hK hP hD hS => ?_)
  have e := va_K_id hK 1 rfl
  subst e
  exact kk q H1 locs ls (by rw [List.flatten_append]; simpa using hP) (by rw [List.flatten_append]; simpa using hD) hS hl
theorem V_newq {n idx : Nat} (X : Cx E G A nL cc own Ts rm l) (hcl : Cond.classLink own idx RX0 ∈ Ts) (hn : n < 2 ^ 20) (hc : kc + 1 ≤ rm.cells) (hs : ks + n ≤ rm.slots) (d : decode cc pc = .ok (.anewarray idx, 3)) (hq : pc + 3 = pc') (kk : ∀ q, V E G A nL (bs ++ [[(q, .inl (G.2 3, n, .inr (.inr (.inr (.inr (fun _ => none))))))]]) (kc + 1) (ks + n) Q pc' lv (.ref q :: st)) : V E G A nL bs kc ks Q pc lv (.int (nI n) :: st) := by
  have hR := X.2.2.2.2.2.1
  subst hR
  subst hq; intro H locs ls hP hD hS hl
  have h31 : n < 2 ^ 31 := Nat.lt_trans hn (by decide)
  refine va_newq (C := RX0) X.1.1 X.1.2.1 X.1.2.2.2.1 (X.1.2.2.2.2 _ hcl) X.2.1.2.2.2.2.2.1 X.2.1.1 hP hD hS X.2.2.2.1 (nI_pos h31) (nI_clamp h31) (by omega) hc hs d (fun q cA H1 hK hP hD hS => ?_)
  have e := va_K_id hK 3 rfl
  subst e
  exact kk q H1 locs ls (by rw [List.flatten_append]; simpa using hP) (by rw [List.flatten_append]; simpa using hD) hS hl
theorem V_new {idx : Nat} (ci : Nat) (fs : List Value) (X : Cx E G A nL cc own Ts rm l) (h1 : ci < 6) (hcl : Cond.classLink own idx (cR ci) ∈ Ts) (hin : Cond.instantiable (cR ci) (cN ci) ∈ Ts) (hini : Cond.initialized (cR ci) ∈ Ts) (hws : ∀ w ∈ u_ws (cR ci) (cT ci) (cN ci), w ∈ Ts) (hfs : ∀ j, j < cN ci → defaultValue (cty ci j) = vp_V fs j) (hc : kc + 1 ≤ rm.cells) (hs : ks + cN ci ≤ rm.slots) (d : decode cc pc = .ok (.new idx, 3)) (hq : pc + 3 = pc') (kk : ∀ q, V E G A nL (bs ++ [[(q, .inr (ci, fs))]]) (kc + 1) (ks + cN ci) Q pc' lv (.ref q :: st)) : V E G A nL bs kc ks Q pc lv st := by
  have hR := X.2.2.2.2.2.1
  subst hR
  subst hq; intro H locs ls hP hD hS hl
  refine va_new X.1.1 X.1.2.1 X.1.2.2.2.2 hws (cty ci) (c_ty h1) X.1.2.2.2.1 (X.1.2.2.2.2 _ hcl) (X.1.2.2.2.2 _ hin) (X.1.2.2.2.2 _ hini) X.2.1.1 hP hD hS X.2.2.2.1 (c_cl h1) hfs hc hs d (fun q H1 hP hD hS => ?_)
  exact kk q H1 locs ls (by rw [List.flatten_append]; simpa using hP) (by rw [List.flatten_append]; simpa using hD) hS hl
theorem V_obj {idx a : Nat} (X : Cx E G A nL cc own Ts rm l) (h1 : Cond.methodLink own idx objectInit ∈ Ts) (h2 : Cond.instanceMethod objectInit ∈ Ts) (h3 : Cond.code objectInit ⟨#[0xb1]⟩ 1 none ∈ Ts) (d : decode cc pc = .ok (.invokespecial idx, 3)) (hf : 1 ≤ rm.frames) (hr : (st.map fun v => v.category).sum + 12 ≤ rm.locals) (hq : pc + 3 = pc') (kk : V E G A nL bs kc ks Q pc' lv st) : V E G A nL bs kc ks Q pc lv (.ref a :: st) := by
  have hR := X.2.2.2.2.2.1
  subst hR
  subst hq; intro H locs ls hP hD hS hl
  refine W.objInit X.1.1 X.1.2.1 X.1.2.2.2.1 (X.1.2.2.2.2 _ h1) (X.1.2.2.2.2 _ h2) (X.1.2.2.2.2 _ h3) rfl (by rw [X.1.2.2.1]; exact hl.1) rfl d hf (by show 2 * 0 + _ + 12 ≤ _; omega) ?_
  exact kk H locs ls hP hD hS hl
theorem V_max {x y : Int32} {idx : Nat} (v : Int32) (X : Cx E G A nL cc own Ts rm l) (h1 : Cond.methodLink own idx Lib.Math.max.name ∈ Ts) (h2 : Cond.static Lib.Math.max.name ∈ Ts) (h3 : Cond.initialized "java/lang/Math" ∈ Ts) (h4 : Cond.code Lib.Math.max.name Lib.Math.max.code 2 (some .int) ∈ Ts) (hf : 1 ≤ rm.frames) (hr : (st.map fun v => v.category).sum + 13 ≤ rm.locals) (hc : kc ≤ rm.cells) (hs : ks ≤ rm.slots) (d : decode cc pc = .ok (.invokestatic idx, 3)) (hv : (if x < y then y else x) = v) (hq : pc + 3 = pc') (kk : V E G A nL bs kc ks Q pc' lv (.int v :: st)) : V E G A nL bs kc ks Q pc lv (.int y :: .int x :: st) := by
  have hR := X.2.2.2.2.2.1
  subst hR
  subst hq; subst hv; intro H locs ls hP hD hS hl
  exact va_mmax X.1.1 X.1.2.1 (by rw [X.1.2.2.1]; exact hl.1.symm) X.1.2.2.2.1 (X.1.2.2.2.2 _ h1) (X.1.2.2.2.2 _ h2) (X.1.2.2.2.2 _ h3) (X.1.2.2.2.2 _ h4) hf hr hc hs d (kk H locs ls hP hD hS hl)
theorem V_min {x y : Int32} {idx : Nat} (v : Int32) (X : Cx E G A nL cc own Ts rm l) (h1 : Cond.methodLink own idx Lib.Math.min.name ∈ Ts) (h2 : Cond.static Lib.Math.min.name ∈ Ts) (h3 : Cond.initialized "java/lang/Math" ∈ Ts) (h4 : Cond.code Lib.Math.min.name Lib.Math.min.code 2 (some .int) ∈ Ts) (hf : 1 ≤ rm.frames) (hr : (st.map fun v => v.category).sum + 13 ≤ rm.locals) (hc : kc ≤ rm.cells) (hs : ks ≤ rm.slots) (d : decode cc pc = .ok (.invokestatic idx, 3)) (hv : (if y < x then y else x) = v) (hq : pc + 3 = pc') (kk : V E G A nL bs kc ks Q pc' lv (.int v :: st)) : V E G A nL bs kc ks Q pc lv (.int y :: .int x :: st) := by
  have hR := X.2.2.2.2.2.1
  subst hR
  subst hq; subst hv; intro H locs ls hP hD hS hl
  exact va_mmin X.1.1 X.1.2.1 (by rw [X.1.2.2.1]; exact hl.1.symm) X.1.2.2.2.1 (X.1.2.2.2.2 _ h1) (X.1.2.2.2.2 _ h2) (X.1.2.2.2.2 _ h3) (X.1.2.2.2.2 _ h4) hf hr hc hs d (kk H locs ls hP hD hS hl)
theorem V_copy {a0 a n0 n1 sp dp n idx : Nat} {f g : Nat → Int32} (q0 q1 : Nat) (bs' : List va_W) (X : Cx E G A nL cc own Ts rm l) (h1 : Cond.methodLink own idx arraycopyName ∈ Ts) (h2 : Cond.native arraycopyName ∈ Ts) (h3 : Cond.static arraycopyName ∈ Ts) (h4 : Cond.initialized "java/lang/System" ∈ Ts) (he0 : bs.flatten[q0]? = some (a0, .inl (G.2 0, n0, .inl f))) (he1 : bs.flatten[q1]? = some (a, .inl (G.2 0, n1, .inl g))) (b1 : sp + n ≤ n0) (b2 : dp + n ≤ n1) (b3 : n0 < 2 ^ 31) (b4 : n1 < 2 ^ 31) (hf : 1 ≤ rm.frames) (hr : (st.map fun v => v.category).sum + (nativeFrameWords "java/lang/System" "arraycopy" 5 + 11) ≤ rm.locals)
    (hw : bs.flatten.set q1 (a, .inl (G.2 0, n1, .inl (va_cpy f g sp dp n))) = bs'.flatten) (d : decode cc pc = .ok (.invokestatic idx, 3)) (hq : pc + 3 = pc') (kk : V E G A nL bs' kc ks Q pc' lv st) : V E G A nL bs kc ks Q pc lv (.int (nI n) :: .int (nI dp) :: .ref a :: .int (nI sp) :: .ref a0 :: st) := by
  have hR := X.2.2.2.2.2.1
  subst hR
  subst hq; intro H locs ls hP hD hS hl
  have e1 : (nI n).toNatClampNeg = n := nI_clamp (by omega)
  have e2 : (nI dp).toNatClampNeg = dp := nI_clamp (by omega)
  have e3 : (nI sp).toNatClampNeg = sp := nI_clamp (by omega)
  refine va_copyi X.1.1 X.1.2.1 (by rw [X.1.2.2.1]; exact hl.1.symm) X.1.2.2.2.1 (X.1.2.2.2.2 _ h1) (X.1.2.2.2.2 _ h2) (X.1.2.2.2.2 _ h3) (X.1.2.2.2.2 _ h4) X.2.1.1 hP hD hS q0 q1 0 0 he0 he1 rfl rfl rfl (nI_pos (by omega)) (nI_pos (by omega)) (nI_pos (by omega)) (by rw [e1, e3]; exact b1) (by rw [e1, e2]; exact b2) (fun _ _ => rfl) hf hr d (fun H1 locs1 hP hD hS => ?_)
  rw [e1, e2, e3, hw] at hP hD
  exact kk H1 locs1 ls hP hD hS hl
theorem V_sld {b L j : Nat} {xs : Nat → Int32} {v : Int32} (X : Cx E G A nL cc own Ts rm l) (hX : va_X b L xs (e_s E) (e_s E).heap) (hbl : b < (e_s E).heap.size) (hbA : ¬ A b) (hj : j < L) (hL : L < 2 ^ 31) (hv : xs j = v) (d : decode cc pc = .ok (.iaload, 1)) (hq : pc + 1 = pc') (kk : V E G A nL bs kc ks Q pc' lv (.int v :: st)) : V E G A nL bs kc ks Q pc lv (.int (nI j) :: .ref b :: st) := by
  subst hq; subst hv; intro H locs ls hP hD hS hl
  refine va_sld X.1.1 X.1.2.1 hX hbl hbA hS (vp_in_nI hj hL) d ?_
  rw [nI_clamp (Nat.lt_trans hj hL)]
  exact kk H locs ls hP hD hS hl
theorem V_slen {b L : Nat} {xs : Nat → Int32} (X : Cx E G A nL cc own Ts rm l) (hX : va_X b L xs (e_s E) (e_s E).heap) (hbl : b < (e_s E).heap.size) (hbA : ¬ A b) (d : decode cc pc = .ok (.arraylength, 1)) (hq : pc + 1 = pc') (kk : V E G A nL bs kc ks Q pc' lv (.int (nI L) :: st)) : V E G A nL bs kc ks Q pc lv (.ref b :: st) := by
  subst hq; intro H locs ls hP hD hS hl
  exact va_slen X.1.1 X.1.2.1 hX hbl hbA hS d (kk H locs ls hP hD hS hl)
/-! the world told otherwise -/
theorem V_ws (bs' : List va_W) (h : bs.flatten = bs'.flatten) (kk : V E G A nL bs' kc ks Q pc lv st) : V E G A nL bs kc ks Q pc lv st := by
  intro H locs ls hP hD hS hl
  rw [h] at hP hD
  exact kk H locs ls hP hD hS hl
theorem V_perm (bs' : List va_W) (h : bs.flatten.Perm bs'.flatten) (kk : V E G A nL bs' kc ks Q pc lv st) : V E G A nL bs kc ks Q pc lv st :=
  fun H locs ls hP hD hS hl => kk H locs ls (va_P_perm h hP) (va_D_perm h hD) hS hl
theorem V_ord (is : List Nat) (bs' : List va_W) (h : (List.range bs.length).Perm is) (hb : pk bs is = bs') (kk : V E G A nL bs' kc ks Q pc lv st) : V E G A nL bs kc ks Q pc lv st :=
  V_perm bs' (by subst hb; have h1 := flatten_perm (pk_perm bs h); rwa [pk_range] at h1) kk
theorem V_wsq (bs' : List va_W) (h : wsq bs.flatten bs'.flatten) (kk : V E G A nL bs' kc ks Q pc lv st) : V E G A nL bs kc ks Q pc lv st :=
  fun H locs ls hP hD hS hl => kk H locs ls ((h _ _ A H).1 hP) (h.D hD) hS hl
theorem V_lv (js : List Nat) (lv' : List (Nat × Value)) (h : lv_pick lv js = lv') (kk : V E G A nL bs kc ks Q pc lv' st) : V E G A nL bs kc ks Q pc lv st :=
  fun H locs ls hP hD hS hl => kk H locs ls hP hD hS (lv_sub hl js h)
theorem V_eq (kk : V E G A nL bs' kc ks Q pc lv' st) (e1 : bs = bs') (e2 : lv = lv') : V E G A nL bs kc ks Q pc lv st := by
  subst e1; subst e2; exact kk
theorem V_widen {k n : Nat} (h1 : kc ≤ k) (h2 : ks ≤ n) (kk : V E G A nL bs k n Q pc lv st) : V E G A nL bs kc ks Q pc lv st :=
  fun H locs ls hP hD hS hl => W.widen h1 h2 (kk H locs ls hP hD hS hl)
end VM
theorem loopD {P : Nat → Prop} (n : Nat) (h1 : P n) (h2 : ∀ i, i < n → P (i + 1) → P i) : ∀ i, i ≤ n → P i := by
  have key : ∀ d i, i + d = n → P i := by
    intro d
    induction d with
    | zero => intro i h; have e : i = n := by omega
              rw [e]; exact h1
    | succ d ih => intro i h; exact h2 i (by omega) (ih (i + 1) (by omega))
  exact fun i hi => key (n - i) i (by omega)
/-! contracts: from the blocks bs the method y returns r and leaves the blocks u with 'post r u'; nf, nl: the frames and words of locals that a call of it wants; n: how many arguments -/
def va_Qo {S : Type} (post : Option Value → S → Prop) (B : S → State → Prop) (A : Nat → Prop) : Array Value → State → Outcome → State → Prop := fun _ st oc t => (∃ (r : Option Value) (u : S), oc = .returned r ∧ post r u ∧ B u t) ∧ va_F A st t
def PcC (l : Launch) (G : gT) (av : List Value) (bs : List va_W) (sz : Nat) : Array Value → State → Prop := va_Pc av (fun U => U.heap.size = sz ∧ va_P G.1 vwCl bs.flatten U.heap ∧ TB l G U ∧ va_D (fun _ => True) bs.flatten ∧ ZZ (va_A bs.flatten sz) U U.heap)
def QcC (G : gT) (A : Nat → Prop) (post : Option Value → List va_W → Prop) : Array Value → State → Outcome → State → Prop := va_Qo post (fun u t => va_P G.1 vwCl u.flatten t.heap ∧ va_D A u.flatten) A
def CM (l : Launch) (G : gT) (y : MethodName) (ws : List Cond) (nf nl n : Nat) (av : List Value) (bs : List va_W) (mc ms : Nat) (post : Option Value → List va_W → Prop) : Prop :=
  ∃ (rm : Room) (bytes : ByteArray) (maxL : Nat) (ret : Option FieldType) (ws' : List Cond), ws = Cond.code y bytes maxL ret :: ws' ∧ rm.cells = mc ∧ rm.slots = ms ∧ rm.frames + 1 ≤ nf ∧ 8 + (maxL + 11) + rm.locals ≤ nl ∧
    (y.cls ≠ "java/lang/invoke/MethodHandle" ∧ y.cls ≠ "java/lang/invoke/VarHandle" ∧ (parseMethodDescriptor y.desc).map (fun d => d.parameters.length) = some n) ∧
    ∀ sz : Nat, Met l y ws rm (PcC l G av bs sz) (QcC G (va_A bs.flatten sz) post) mc ms (va_A bs.flatten sz)
theorem PcC.blind {l : Launch} {G : gT} {av : List Value} {bs : List va_W} {sz : Nat} : FrameBlind (PcC l G av bs sz) := by
  intro a U g mk h
  obtain ⟨h0, h1, h2, h3, h4, h5⟩ := h
  exact ⟨h0, h1, h2, TB.warm (s := U) (U := U.calling g mk a) (State.WarmedH.refl U) h3, h4, ZZ.moved (u := U) (U := U.calling g mk a) (Vm.Alike.refl U.vm) h5⟩
/-- what a body owes at its end -/
def QM (E : EE) (G : gT) (A : Nat → Prop) (post : Option Value → List va_W → Prop) (mc ms : Nat) : State → Prop := MQ (e_b E) (QcC G A post) (e_a E) (e_s E) mc ms A
theorem CM_of {l : Launch} {G : gT} {y : MethodName} {ws ws' : List Cond} {n nL : Nat} {av : List Value} {bs : List va_W} {mc ms : Nat} {post : Option Value → List va_W → Prop} {cc : ByteArray} {ret : Option FieldType} (own : String) (fr lo : Nat) (hw : ws = Cond.code y cc nL ret :: ws') (ho : own = y.cls) (hy : plainName y.cls = true)
    (hd : y.cls ≠ "java/lang/invoke/MethodHandle" ∧ y.cls ≠ "java/lang/invoke/VarHandle" ∧ (parseMethodDescriptor y.desc).map (fun d => d.parameters.length) = some n) (hle : (lg_sl av).length ≤ nL)
    (body : ∀ (E : EE) (A : Nat → Prop), Cx E G A nL cc own ws ({ frames := fr, cells := mc, slots := ms, locals := lo } : Room) l → (e_h E).sig.returnType = ret → (e_h E).name = y.name → V E G A nL bs 0 0 (QM E G A post mc ms) 0 (lv_args 0 av) []) :
    CM l G y ws (fr + 1) (nL + 19 + lo) n av bs mc ms post := by
  refine ⟨{ frames := fr, cells := mc, slots := ms, locals := lo }, cc, nL, ret, ws', hw, rfl, rfl, Nat.le_refl _, by show 8 + (nL + 11) + lo ≤ _; omega, hd, fun sz => ?_⟩
  refine Met.ofW (cc := cc) (maxL := nL) (ret := ret) hy hw ?_
  intro p e s m args below meth c s₁ B hml hv
  obtain ⟨rfl, hsz, hP, hK, hD0, hZ⟩ := hv
  have hts := atoms_spec (ws := ws) B.pre
  have hown : s.vm.findClass own = some m.cls := by rw [ho]; exact findClass_of_methodNamed B.named
  subst hsz
  have hl := lv_entry av (n := nL) hle
  rw [lg_entry_eq]
  exact body (p, l, e, _, s, m, av.toArray, below, meth, c) (va_A bs.flatten s.heap.size) ⟨⟨B.exec, B.bytes, hml, hown, hts⟩, hK, hZ, fun q h => Or.inr h, B.notSynchronized, rfl, rfl⟩ B.returns (name_of_methodNamed B.named B.method).1 s.heap [] _ hP hD0.self va_S.rf hl
section VC
variable {E : EE} {G : gT} {A : Nat → Prop} {nL : Nat} {bs bs' : List va_W} {kc ks : Nat} {Q : State → Prop} {pc pc' : Nat} {lv lv' : List (Nat × Value)} {st st0 : List Value} {cc : ByteArray} {own : String} {Ts : List Cond} {rm : Room} {l : Launch} {mc ms : Nat} {post : Option Value → List va_W → Prop} {xpost : String → List va_W → Prop}
/-! ends -/
theorem QM.end_ {H : Heap} {locs : List Loc} {r : Option Value} {u : List va_W} (hp : post r u) (h : bs.flatten.Perm u.flatten) (hP : va_P G.1 vwCl bs.flatten H) (hD : va_D A bs.flatten) (hS : va_S A (e_s E).heap H locs) : ∀ t : State, t.heap = H → (e_s E).WarmedH t.vm → QcC G A post (e_a E) (e_s E) (.returned r) t :=
  fun t ht _ => ⟨⟨r, u, rfl, hp, by rw [ht]; exact va_P_perm h hP, va_D_perm h hD⟩, hS.F ht⟩
theorem V_ireturn {v : Int32} {ty : FieldType} (u : List va_W) (hQ : QM E G A post mc ms = Q) (X : Cx E G A nL cc own Ts rm l) (hr : (e_h E).sig.returnType = some ty) (hn : narrow ty (.int v) = .int v) (d : decode cc pc = .ok (.ireturn, 1)) (hc : kc ≤ mc) (hs : ks ≤ ms) (h : bs.flatten.Perm u.flatten) (hp : post (some (.int v)) u) : V E G A nL bs kc ks Q pc lv [.int v] := by
  subst hQ
  exact fun H locs ls hP hD hS hl => W.widen hc hs (W.zret X.1.1 X.1.2.1 hr hn (QM.end_ hp h hP hD hS) hS.2.2 d X.2.2.2.2.1)
theorem V_return (u : List va_W) (hQ : QM E G A post mc ms = Q) (X : Cx E G A nL cc own Ts rm l) (hr : (e_h E).sig.returnType = none) (d : decode cc pc = .ok (.return_, 1)) (hc : kc ≤ mc) (hs : ks ≤ ms) (h : bs.flatten.Perm u.flatten) (hp : post none u) : V E G A nL bs kc ks Q pc lv [] := by
  subst hQ
  exact fun H locs ls hP hD hS hl => W.widen hc hs (W.vret X.1.1 X.1.2.1 hr (QM.end_ hp h hP hD hS) hS.2.2 d X.2.2.2.2.1)
theorem V_areturn {a : Nat} {C : String} (u : List va_W) (hQ : QM E G A post mc ms = Q) (X : Cx E G A nL cc own Ts rm l) (hr : (e_h E).sig.returnType = some (.object C)) (d : decode cc pc = .ok (.areturn, 1)) (hc : kc ≤ mc) (hs : ks ≤ ms) (h : bs.flatten.Perm u.flatten) (hp : post (some (.ref a)) u) : V E G A nL bs kc ks Q pc lv [.ref a] := by
  subst hQ
  exact fun H locs ls hP hD hS hl => W.widen hc hs (W.aret X.1.1 X.1.2.1 hr (Or.inl ⟨C, rfl⟩) (Or.inr ⟨a, rfl⟩) (QM.end_ hp h hP hD hS) hS.2.2 d X.2.2.2.2.1)
/-! calls -/
theorem cut_blocks (ic ir : List Nat) (hp : (List.range bs.length).Perm (ic ++ ir)) : bs.flatten.Perm ((pk bs ir).flatten ++ (pk bs ic).flatten) := by
  have h1 := flatten_perm (pk_perm bs hp)
  rw [pk_range] at h1
  have h2 : pk bs (ic ++ ir) = pk bs ic ++ pk bs ir := by unfold pk; rw [List.filterMap_append]
  rw [h2, List.flatten_append] at h1
  exact h1.trans List.perm_append_comm
theorem va_D_left {A : Nat → Prop} {a b : va_W} (h : va_D A (a ++ b)) : va_D A a := by
  obtain ⟨h1, h2⟩ := va_D_iff.mp h
  rw [List.map_append, List.nodup_append] at h1
  exact va_D_iff.mpr ⟨h1.1, fun q hq => h2 q (List.mem_append_left _ hq)⟩
theorem va_D_right {A : Nat → Prop} {a b : va_W} (h : va_D A (a ++ b)) : va_D A b := by
  obtain ⟨h1, h2⟩ := va_D_iff.mp h
  rw [List.map_append, List.nodup_append] at h1
  exact va_D_iff.mpr ⟨h1.2.1, fun q hq => h2 q (List.mem_append_right _ hq)⟩
theorem va_P_left {D : va_G} {cl : List vw_C} {a b : va_W} {H : Heap} (h : va_P D cl (a ++ b) H) : va_P D cl a H := va_P_iff.mpr fun q hq => va_P_iff.mp h q (List.mem_append_left _ hq)
theorem va_P_right {D : va_G} {cl : List vw_C} {a b : va_W} {H : Heap} (h : va_P D cl (a ++ b) H) : va_P D cl b H := va_P_iff.mpr fun q hq => va_P_iff.mp h q (List.mem_append_right _ hq)
theorem va_A_iff {ws : va_W} {sz q : Nat} : va_A ws sz q ↔ q ∈ ws.map (·.1) ∨ sz ≤ q := by
  constructor
  · rintro (⟨k, e, h⟩ | h)
    · exact Or.inl (List.mem_map.mpr ⟨(q, e), List.mem_of_getElem? h, rfl⟩)
    · exact Or.inr h
  · rintro (h | h)
    · obtain ⟨⟨a, e⟩, h1, rfl⟩ := List.mem_map.mp h
      obtain ⟨k, hk⟩ := List.getElem?_of_mem h1
      exact Or.inl ⟨k, e, hk⟩
    · exact Or.inr h
/-- behind a call: the rest as it was, beside what the callee left -/
theorem frame_ {D : va_G} {cl : List vw_C} {wr wc w1 : va_W} {H H1 : Heap} (hP : va_P D cl (wr ++ wc) H) (hD : va_D A (wr ++ wc)) (hk : ∀ q : Nat, q < H.size → ¬ va_A wc H.size q → H1[q]? = H[q]?) (hF : ∀ q, va_A wc H.size q → A q) (hP1 : va_P D cl w1 H1) (hD1 : va_D (va_A wc H.size) w1) : va_P D cl (wr ++ w1) H1 ∧ va_D A (wr ++ w1) := by
  obtain ⟨d1, d2⟩ := va_D_iff.mp hD
  rw [List.map_append, List.nodup_append] at d1
  obtain ⟨e1, e2⟩ := va_D_iff.mp hD1
  have ap : ∀ q ∈ wr, q.1 < H.size ∧ ¬ va_A wc H.size q.1 := by
    intro q hq
    have hlt : q.1 < H.size := (va_P_iff.mp hP q (List.mem_append_left _ hq)).lt
    refine ⟨hlt, fun h => ?_⟩
    rcases va_A_iff.mp h with h | h
    · exact d1.2.2 _ (List.mem_map_of_mem hq) _ h rfl
    · omega
  refine ⟨va_P_iff.mpr fun q hq => ?_, va_D_iff.mpr ⟨?_, fun q hq => ?_⟩⟩
  · rcases List.mem_append.mp hq with hq | hq
    · exact (va_P_iff.mp hP q (List.mem_append_left _ hq)).kept (hk _ (ap q hq).1 (ap q hq).2)
    · exact va_P_iff.mp hP1 q hq
  · rw [List.map_append, List.nodup_append]
    refine ⟨d1.1, e1, fun a ha b hb hab => ?_⟩
    obtain ⟨q, hq, rfl⟩ := List.mem_map.mp ha
    obtain ⟨q', hq', rfl⟩ := List.mem_map.mp hb
    exact (ap q hq).2 (hab ▸ e2 q' hq')
  · rcases List.mem_append.mp hq with hq | hq
    · exact d2 q (List.mem_append_left _ hq)
    · exact hF _ (e2 q hq)
/-- a call, its run given -/
theorem V_run {a : Array Value} (ic ir : List Nat) (hp : (List.range bs.length).Perm (ic ++ ir)) (hq : pc + 3 = pc')
    (run : ∀ (H : Heap) (locs : List Loc) (ls : Array Slot), va_P G.1 vwCl bs.flatten H → va_P G.1 vwCl (pk bs ic).flatten H → va_D (fun _ => True) (pk bs ic).flatten → ZZ (va_A (pk bs ic).flatten H.size) (e_s E) H → lv_has ls nL lv →
      va_Run (e_p E) (e_l E) (e_e E) (e_R E) (e_s E) (e_m E) (e_a E) (e_b E) (e_h E) (e_c E) H locs kc ks mc ms (F0 (e_m E) pc ls st0) st (QcC G (va_A (pk bs ic).flatten H.size) post a) (va_A (pk bs ic).flatten H.size))
    (X : Cx E G A nL cc own Ts rm l) (kk : ∀ v u, post v u → V E G A nL (pk bs ir ++ u) (kc + mc) (ks + ms) Q pc' lv (v.toList ++ st)) : V E G A nL bs kc ks Q pc lv st0 := by
  subst hq
  intro H locs ls hP hD hS hl T hT XS
  have hc := cut_blocks ic ir hp
  have hP' := va_P_perm hc hP
  have hD' := va_D_perm hc hD
  have hF : ∀ q, va_A (pk bs ic).flatten H.size q → A q := by
    intro q h
    rcases va_A_iff.mp h with h | h
    · obtain ⟨q', hq', rfl⟩ := List.mem_map.mp h
      exact (va_D_iff.mp hD').2 q' (List.mem_append_right _ hq')
    · exact X.2.2.2.1 q (Nat.le_trans hS.1 h)
  have hZ : ZZ (va_A (pk bs ic).flatten H.size) (e_s E) H := (X.2.2.1.kept hS.2.1).narrow hF
  have hDc : va_D (fun _ => True) (pk bs ic).flatten := (va_D_right hD').weaken (fun _ _ _ _ => trivial)
  obtain ⟨v, st₀, t, T', L, h0, X', hL, e1, e2, ⟨⟨r, u, hv, hpo, hb1, hb2⟩, hz, hk⟩, stp⟩ := run H locs ls hP (va_P_right hP') hDc hZ hl T hT XS
  cases hv
  rw [h0] at hz hk
  obtain ⟨f1, f2⟩ := frame_ (H1 := t.heap) hP' hD' hk hF hb1 hb2
  rw [← List.flatten_append] at f1 f2
  obtain ⟨t2, a1, b1⟩ := kk v u hpo t.heap (locs ++ L) ls f1 f2
    ⟨Nat.le_trans hS.1 hz, fun q h1 h2 => by rw [hk q (Nat.lt_of_lt_of_le h1 hS.1) (fun z => h2 (hF q z))]; exact hS.2.1 q h1 h2, fun q hq => by
      rcases List.mem_append.mp hq with h | h
      · exact hS.2.2 q h
      · exact hF _ (hL q h)⟩ hl T' e1 X'
  exact ⟨t2, stp t2 a1, b1⟩
theorem pre_ {H : Heap} {av : List Value} {bsc : List va_W} (X : Cx E G A nL cc own Ts rm l) (hP : va_P G.1 vwCl bsc.flatten H) (hD : va_D (fun _ => True) bsc.flatten) (hZ : ZZ (va_A bsc.flatten H.size) (e_s E) H) : ∀ U : State, U.heap = H → (e_s E).WarmedH U.vm → PcC (e_l E) G av bsc H.size av.toArray U :=
  fun U hU hW => ⟨rfl, by rw [hU], by rw [hU]; exact hP, TB.warm hW X.2.1, hD, by rw [hU]; exact ZZ.moved hW.alike hZ⟩
theorem V_callV {y : MethodName} {ws : List Cond} {nf nl n b index : Nat} {As : List Value} {fs : List Value} {bsc : List va_W} (ci q0 : Nat) (ic ir : List Nat) (hp : (List.range bs.length).Perm (ic ++ ir)) (X : Cx E G A nL cc own Ts rm l) (hM : CM l G y ws nf nl n (.ref b :: As) bsc mc ms post) (hbc : pk bs ic = bsc) (hG : GoodIn Ts (wsV own index (cR ci) y ws)) (hC : y.cls = cR ci) (h7 : ci < 6) (he : bs.flatten[q0]? = some (b, .inr (ci, fs)))
    (hst : st0 = As.reverse ++ .ref b :: st) (hn : As.length = n) (hW : (st.map fun v => v.category).sum ≤ 8) (hR : nf ≤ rm.frames ∧ nl ≤ rm.locals) (hf : kc + mc ≤ rm.cells ∧ ks + ms ≤ rm.slots) (d : decode cc pc = .ok (.invokevirtual index, 3)) (hq : pc + 3 = pc')
    (kk : ∀ v u, post v u → V E G A nL (pk bs ir ++ u) (kc + mc) (ks + ms) Q pc' lv (v.toList ++ st)) : V E G A nL bs kc ks Q pc lv st0 := by
  have hR := X.2.2.2.2.2.1
  subst hR
  have hL := X.2.2.2.2.2.2
  subst hL
  subst hst
  subst hbc
  obtain ⟨rm, bytes, maxL, ret, ws', hw, hrc, hrs, hfr, hlo, hd, hMet⟩ := hM
  refine V_run (a := (Value.ref b :: As).toArray) ic ir hp hq (fun H locs ls hP hPc hDc hZ hl => ?_) X kk
  exact va_runV (n := n) X.1 (hMet H.size) (cwV n X.1.2.2.2.2 hG hw hrc hrs ⟨hC, hd⟩ ⟨Nat.le_trans hfr hR.1, Nat.le_trans hlo hR.2⟩)
    ⟨PcC.blind, va_recv X.2.1.1 hP (c_cl h7) he, pre_ X hPc hDc hZ⟩ rfl hn hl.1 rfl (lv_room hW) d hf
theorem V_callS {y : MethodName} {ws : List Cond} {nf nl n index : Nat} {As : List Value} {bsc : List va_W} (ic ir : List Nat) (hp : (List.range bs.length).Perm (ic ++ ir)) (X : Cx E G A nL cc own Ts rm l) (hM : CM l G y ws nf nl n As bsc mc ms post) (hbc : pk bs ic = bsc) (hG : GoodIn Ts (va_wsS own index y ws))
    (hst : st0 = As.reverse ++ st) (hn : As.length = n) (hW : (st.map fun v => v.category).sum ≤ 8) (hR : nf ≤ rm.frames ∧ nl ≤ rm.locals) (hf : kc + mc ≤ rm.cells ∧ ks + ms ≤ rm.slots) (d : decode cc pc = .ok (.invokestatic index, 3)) (hq : pc + 3 = pc')
    (kk : ∀ v u, post v u → V E G A nL (pk bs ir ++ u) (kc + mc) (ks + ms) Q pc' lv (v.toList ++ st)) : V E G A nL bs kc ks Q pc lv st0 := by
  have hR := X.2.2.2.2.2.1
  subst hR
  have hL := X.2.2.2.2.2.2
  subst hL
  subst hst
  subst hbc
  obtain ⟨rm, bytes, maxL, ret, ws', hw, hrc, hrs, hfr, hlo, hd, hMet⟩ := hM
  refine V_run (a := As.toArray) ic ir hp hq (fun H locs ls hP hPc hDc hZ hl => ?_) X kk
  exact va_runS (n := n) X.1 (hMet H.size) (va_cwS n X.1.2.2.2.2 hG hw hrc hrs hd ⟨Nat.le_trans hfr hR.1, Nat.le_trans hlo hR.2⟩)
    ⟨PcC.blind, pre_ X hPc hDc hZ⟩ rfl hn hl.1 rfl (lv_room hW) d hf
theorem V_callI {y : MethodName} {ws : List Cond} {nf nl n b index : Nat} {As : List Value} {bsc : List va_W} (ic ir : List Nat) (hp : (List.range bs.length).Perm (ic ++ ir)) (X : Cx E G A nL cc own Ts rm l) (hM : CM l G y ws nf nl n (.ref b :: As) bsc mc ms post) (hbc : pk bs ic = bsc) (hG : GoodIn Ts ws) (h1 : Cond.initialized y.cls ∈ Ts) (h2 : Cond.methodLink own index y ∈ Ts) (h3 : Cond.instanceMethod y ∈ Ts) (hy : y.name = "<init>") (hret : ∀ bytes maxL ret ws', ws = Cond.code y bytes maxL ret :: ws' → ret = none)
    (hst : st0 = As.reverse ++ .ref b :: st) (hn : As.length = n) (hW : (st.map fun v => v.category).sum ≤ 8) (hR : nf ≤ rm.frames ∧ nl ≤ rm.locals) (hf : kc + mc ≤ rm.cells ∧ ks + ms ≤ rm.slots) (d : decode cc pc = .ok (.invokespecial index, 3)) (hq : pc + 3 = pc')
    (kk : ∀ v u, post v u → V E G A nL (pk bs ir ++ u) (kc + mc) (ks + ms) Q pc' lv (v.toList ++ st)) : V E G A nL bs kc ks Q pc lv st0 := by
  have hR := X.2.2.2.2.2.1
  subst hR
  have hL := X.2.2.2.2.2.2
  subst hL
  subst hst
  subst hbc
  obtain ⟨rm, bytes, maxL, ret, ws', hw, hrc, hrs, hfr, hlo, hd, hMet⟩ := hM
  have hr := hret _ _ _ _ hw
  subst hr
  refine V_run (a := (Value.ref b :: As).toArray) ic ir hp hq (fun H locs ls hP hPc hDc hZ hl => ?_) X kk
  exact va_runI (n := n) X.1 (hMet H.size) (cwI n X.1.2.2.2.2 hG hw hrc hrs (X.1.2.2.2.2 _ h1) (X.1.2.2.2.2 _ h2) (X.1.2.2.2.2 _ h3) hy hd ⟨Nat.le_trans hfr hR.1, Nat.le_trans hlo hR.2⟩)
    ⟨PcC.blind, pre_ X hPc hDc hZ⟩ rfl hn hl.1 rfl (lv_room hW) d hf
theorem V_callSN {y : MethodName} {ws : List Cond} {nf nl n index : Nat} {As : List Value} {bsc : List va_W} {host : String} (ic ir : List Nat) (hp : (List.range bs.length).Perm (ic ++ ir)) (X : Cx E G A nL cc own Ts rm l) (hM : CM l G y ws nf nl n As bsc mc ms post) (hbc : pk bs ic = bsc) (hG : GoodIn Ts ws) (hl0 : va_Nw (.methodLinkNest own index y host) (e_s E)) (h1 : Cond.initialized y.cls ∈ Ts) (h2 : Cond.static y ∈ Ts)
    (hst : st0 = As.reverse ++ st) (hn : As.length = n) (hW : (st.map fun v => v.category).sum ≤ 8) (hR : nf ≤ rm.frames ∧ nl ≤ rm.locals) (hf : kc + mc ≤ rm.cells ∧ ks + ms ≤ rm.slots) (d : decode cc pc = .ok (.invokestatic index, 3)) (hq : pc + 3 = pc')
    (kk : ∀ v u, post v u → V E G A nL (pk bs ir ++ u) (kc + mc) (ks + ms) Q pc' lv (v.toList ++ st)) : V E G A nL bs kc ks Q pc lv st0 := by
  have hR := X.2.2.2.2.2.1
  subst hR
  have hL := X.2.2.2.2.2.2
  subst hL
  subst hst
  subst hbc
  obtain ⟨rm, bytes, maxL, ret, ws', hw, hrc, hrs, hfr, hlo, hd, hMet⟩ := hM
  refine V_run (a := As.toArray) ic ir hp hq (fun H locs ls hP hPc hDc hZ hl => ?_) X kk
  exact va_runSN (n := n) X.1 (hMet H.size) ⟨va_cnB n X.1.2.2.2.2 hG hw hrc hrs hl0 (X.1.2.2.2.2 _ h1) hd ⟨Nat.le_trans hfr hR.1, Nat.le_trans hlo hR.2⟩, X.1.2.2.2.2 _ h2, trivial⟩
    ⟨PcC.blind, pre_ X hPc hDc hZ⟩ rfl hn hl.1 rfl (lv_room hW) d hf
theorem V_callIN {y : MethodName} {ws : List Cond} {nf nl n b index : Nat} {As : List Value} {bsc : List va_W} {host : String} (ic ir : List Nat) (hp : (List.range bs.length).Perm (ic ++ ir)) (X : Cx E G A nL cc own Ts rm l) (hM : CM l G y ws nf nl n (.ref b :: As) bsc mc ms post) (hbc : pk bs ic = bsc) (hG : GoodIn Ts ws) (hl0 : va_Nw (.methodLinkNest own index y host) (e_s E)) (h1 : Cond.initialized y.cls ∈ Ts) (h3 : Cond.instanceMethod y ∈ Ts) (hy : y.name = "<init>") (hret : ∀ bytes maxL ret ws', ws = Cond.code y bytes maxL ret :: ws' → ret = none)
    (hst : st0 = As.reverse ++ .ref b :: st) (hn : As.length = n) (hW : (st.map fun v => v.category).sum ≤ 8) (hR : nf ≤ rm.frames ∧ nl ≤ rm.locals) (hf : kc + mc ≤ rm.cells ∧ ks + ms ≤ rm.slots) (d : decode cc pc = .ok (.invokespecial index, 3)) (hq : pc + 3 = pc')
    (kk : ∀ v u, post v u → V E G A nL (pk bs ir ++ u) (kc + mc) (ks + ms) Q pc' lv (v.toList ++ st)) : V E G A nL bs kc ks Q pc lv st0 := by
  have hR := X.2.2.2.2.2.1
  subst hR
  have hL := X.2.2.2.2.2.2
  subst hL
  subst hst
  subst hbc
  obtain ⟨rm, bytes, maxL, ret, ws', hw, hrc, hrs, hfr, hlo, hd, hMet⟩ := hM
  have hr := hret _ _ _ _ hw
  subst hr
  refine V_run (a := (Value.ref b :: As).toArray) ic ir hp hq (fun H locs ls hP hPc hDc hZ hl => ?_) X kk
  exact va_runIN (n := n) X.1 (hMet H.size) ⟨va_cnB n X.1.2.2.2.2 hG hw hrc hrs hl0 (X.1.2.2.2.2 _ h1) hd ⟨Nat.le_trans hfr hR.1, Nat.le_trans hlo hR.2⟩, hy, X.1.2.2.2.2 _ h3⟩
    ⟨PcC.blind, pre_ X hPc hDc hZ⟩ rfl hn hl.1 rfl (lv_room hW) d hf
end VC
