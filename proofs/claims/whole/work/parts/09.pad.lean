/-! ===== lN n to 2^64: shifts, and, or, masks, one bit ===== -/
theorem wb_tb (n : Nat) : (lN n).toBitVec = BitVec.ofNat 64 n := rfl
theorem wb_inj {a b : Int64} (h : a.toBitVec = b.toBitVec) : a = b := Int64.toBitVec_inj.mp h
theorem wb_tn {n : Nat} (h : n < 2 ^ 64) : (lN n).toBitVec.toNat = n := by rw [wb_tb, BitVec.toNat_ofNat, Nat.mod_eq_of_lt h]
theorem wb_of (x : Int64) : ∃ n, n < 2 ^ 64 ∧ x = lN n := ⟨x.toBitVec.toNat, x.toBitVec.isLt, wb_inj (by rw [wb_tb]; simp)⟩
theorem wb_of32 (x : Int32) : ∃ n, n < 2 ^ 32 ∧ x = nI n := ⟨x.toBitVec.toNat, x.toBitVec.isLt, Int32.toBitVec_inj.mp (by show _ = BitVec.ofNat 32 _; simp)⟩
theorem wb_c : ∀ k, k < 64 → ((nI k).toInt64 &&& 63) = lN k := by decide +kernel
theorem wb_cu : ∀ k, k < 64 → ((nI k).toInt64.toUInt64 &&& Int64.toUInt64 63) = UInt64.ofNat k := by decide +kernel
theorem wb_sm : ∀ k, k < 64 → (BitVec.ofNat 64 k).smod 64 = BitVec.ofNat 64 k := by decide +kernel
theorem wb_pw {a b : Nat} (h : a ≤ b) : 2 ^ b = 2 ^ a * 2 ^ (b - a) := by rw [← Nat.pow_add]; congr 1; omega
theorem wb_lt2 {a b : Nat} (h : a < b) : 2 ^ a < 2 ^ b := Nat.pow_lt_pow_right (by decide) h
theorem wb_mod (n : Nat) : lN n = lN (n % 2 ^ 64) := wb_inj (by rw [wb_tb, wb_tb]; apply BitVec.eq_of_toNat_eq; rw [BitVec.toNat_ofNat, BitVec.toNat_ofNat, Nat.mod_mod])
theorem wb_shr {n k : Nat} (hn : n < 2 ^ 64) (hk : k < 64) : ((lN n).toUInt64 >>> ((nI k).toInt64.toUInt64 &&& Int64.toUInt64 63)).toInt64 = lN (n / 2 ^ k) := by
  rw [wb_cu k hk]
  apply wb_inj
  apply BitVec.eq_of_toNat_eq
  show ((lN n).toUInt64 >>> UInt64.ofNat k).toNat = (BitVec.ofNat 64 _).toNat
  have h1 : (UInt64.ofNat k).toNat = k := by
    show (BitVec.ofNat 64 k).toNat = k
    rw [BitVec.toNat_ofNat, Nat.mod_eq_of_lt (by omega)]
  have h2 : (lN n).toUInt64.toNat = n := wb_tn hn
  rw [UInt64.toNat_shiftRight, h1, h2, Nat.mod_eq_of_lt hk, Nat.shiftRight_eq_div_pow, BitVec.toNat_ofNat, Nat.mod_eq_of_lt (Nat.lt_of_le_of_lt (Nat.div_le_self _ _) hn)]
theorem wb_shl (n : Nat) {k : Nat} (hk : k < 64) : lN n <<< ((nI k).toInt64 &&& 63) = lN (n * 2 ^ k) := by
  rw [wb_c k hk]
  apply wb_inj
  rw [Int64.toBitVec_shiftLeft, wb_tb, wb_tb, wb_tb, wb_sm k hk]
  apply BitVec.eq_of_toNat_eq
  rw [BitVec.shiftLeft_eq', BitVec.toNat_shiftLeft, BitVec.toNat_ofNat, BitVec.toNat_ofNat, BitVec.toNat_ofNat, Nat.mod_eq_of_lt (show k < 2 ^ 64 by omega), Nat.shiftLeft_eq, Nat.mul_mod, Nat.mod_mod, ← Nat.mul_mod]
theorem wb_and {a b : Nat} (ha : a < 2 ^ 64) (hb : b < 2 ^ 64) : lN a &&& lN b = lN (a &&& b) := by
  apply wb_inj
  rw [Int64.toBitVec_and, wb_tb, wb_tb, wb_tb]
  apply BitVec.eq_of_toNat_eq
  rw [BitVec.toNat_and, BitVec.toNat_ofNat, BitVec.toNat_ofNat, BitVec.toNat_ofNat, Nat.mod_eq_of_lt ha, Nat.mod_eq_of_lt hb, Nat.mod_eq_of_lt (Nat.and_lt_two_pow _ hb)]
theorem wb_or {a b : Nat} (ha : a < 2 ^ 64) (hb : b < 2 ^ 64) : lN a ||| lN b = lN (a ||| b) := by
  apply wb_inj
  rw [Int64.toBitVec_or, wb_tb, wb_tb, wb_tb]
  apply BitVec.eq_of_toNat_eq
  rw [BitVec.toNat_or, BitVec.toNat_ofNat, BitVec.toNat_ofNat, BitVec.toNat_ofNat, Nat.mod_eq_of_lt ha, Nat.mod_eq_of_lt hb, Nat.mod_eq_of_lt (Nat.or_lt_two_pow ha hb)]
theorem wb_mask {n k : Nat} (hn : n < 2 ^ 64) (hk : k < 64) : lN n &&& lN (2 ^ k - 1) = lN (n % 2 ^ k) := by
  rw [wb_and hn (by have := wb_lt2 hk; omega), Nat.and_two_pow_sub_one_eq_mod]
theorem wb_a1 {n : Nat} (hn : n < 2 ^ 64) : lN n &&& 1 = lN (n % 2) := wb_mask (k := 1) hn (by decide)
theorem wb_bit {n k : Nat} (hn : n < 2 ^ 64) (hk : k < 64) : ((lN n).toUInt64 >>> ((nI k).toInt64.toUInt64 &&& Int64.toUInt64 63)).toInt64 &&& 1 = lN (n / 2 ^ k % 2) := by
  rw [wb_shr hn hk, wb_a1 (Nat.lt_of_le_of_lt (Nat.div_le_self _ _) hn)]
theorem wb_xor {q k : Nat} (hk : k < 63) (h : 2 ^ k ≤ q) (h2 : q < 2 ^ (k + 1)) : lN q ^^^ lN (2 ^ k) = lN (q - 2 ^ k) := by
  obtain ⟨r, rfl⟩ : ∃ r, q = 2 ^ k + r := ⟨q - 2 ^ k, by omega⟩
  have hr : r < 2 ^ k := by rw [Nat.pow_succ] at h2; omega
  have hx : (2 ^ k + r) ^^^ 2 ^ k = r := by
    apply Nat.eq_of_testBit_eq
    intro i
    rw [Nat.testBit_xor, Nat.testBit_two_pow]
    rcases Nat.lt_trichotomy i k with h | h | h
    · rw [Nat.testBit_two_pow_add_gt h]
      simp [show ¬ k = i by omega]
    · subst h
      rw [Nat.testBit_two_pow_add_eq]
      simp
    · have a1 : 2 ^ (k + 1) ≤ 2 ^ i := Nat.pow_le_pow_right (by decide) h
      rw [Nat.testBit_lt_two_pow (show 2 ^ k + r < 2 ^ i by omega), Nat.testBit_lt_two_pow (show r < 2 ^ i by omega)]
      simp [show ¬ k = i by omega]
  have b1 := wb_lt2 (show k + 1 < 64 by omega)
  have b2 := wb_lt2 (show k < 64 by omega)
  apply wb_inj
  rw [Int64.toBitVec_xor, wb_tb, wb_tb, wb_tb]
  apply BitVec.eq_of_toNat_eq
  rw [BitVec.toNat_xor, BitVec.toNat_ofNat, BitVec.toNat_ofNat, BitVec.toNat_ofNat, Nat.mod_eq_of_lt (by omega : 2 ^ k + r < 2 ^ 64), Nat.mod_eq_of_lt b2, hx, Nat.add_sub_cancel_left, Nat.mod_eq_of_lt (by omega)]
/-! the pad: its object and row p, the characters f, n of them -/
def PD (G : gT) (p : Nat → Nat) (f : Nat → Nat) (n : Nat) : va_W := [(p 0, .inr (3, [.ref (p 1), .int (nI n)])), (p 1, .inl (G.2 1, 60, .inl (nf f)))]
def pa1 (c : Nat) : Nat := if c = 116 then 7 else if c = 46 then 9 else if c = 51 then 3 else if 49 ≤ c ∧ c ≤ 50 then 2 else if 48 ≤ c ∧ c ≤ 57 then 4 else 0
def paC (c : Nat) : Nat := if c = 58 then 5 else 0
def paP (c : Nat) : Nat := if c = 59 then 1 else 0
/-- the place behind a character -/
def pa (p c : Nat) : Nat := if p = 1 then pa1 c else if p = 2 then (if 48 ≤ c ∧ c ≤ 57 then 4 else paC c) else if p = 3 then (if 48 ≤ c ∧ c ≤ 49 then 4 else paC c) else if p = 4 then paC c
  else if p = 5 then (if 48 ≤ c ∧ c ≤ 57 then 6 else 0) else if p = 6 then (if 48 ≤ c ∧ c ≤ 57 then 6 else paP c) else if p = 7 then (if 48 ≤ c ∧ c ≤ 51 then 8 else 0) else if p = 8 then (if 49 ≤ c ∧ c ≤ 57 then 10 else 0)
  else if p = 9 then (if 50 ≤ c ∧ c ≤ 57 then 10 else paP c) else if p = 10 then paP c else 0
theorem pa1_le (c : Nat) : pa1 c ≤ 10 := by
  unfold pa1
  (repeat' split) <;> omega
theorem pa_le (p c : Nat) : pa p c ≤ 10 := by
  have h1 := pa1_le c
  have h2 : paC c ≤ 10 := by unfold paC; split <;> omega
  have h3 : paP c ≤ 10 := by unfold paP; split <;> omega
  unfold pa
  (repeat' split) <;> omega
/-- the place behind i characters -/
def pl (f : Nat → Nat) : Nat → Nat | 0 => 1 | i + 1 => pa (pl f i) (f i)
theorem pl_le (f : Nat → Nat) : ∀ i, pl f i ≤ 10
  | 0 => by show 1 ≤ 10; decide
  | i + 1 => pa_le _ _
abbrev cE (p : Nat) : Prop := p = 6 ∨ p = 9 ∨ p = 10
/-- the first fault, from the end: none, or its index -/
def ffR (f : Nat → Nat) (n : Nat) : Nat → Option Nat
  | 0 => if cE (pl f n) then none else some n
  | j + 1 => if pl f (n - j) = 0 then some (n - (j + 1)) else ffR f n j
def ff (f : Nat → Nat) (n : Nat) : Option Nat := ffR f n n
/-- an index or -1 -/
def rN : Option Nat → Int32 | none => -1 | some k => nI k
theorem z_lc0 {a : Nat} (h : a < 2 ^ 64) : lg_cmp (lN a) (lN 0) = 0 ↔ a = 0 := by
  unfold lg_cmp
  have e : lN a = lN 0 ↔ a = 0 := ⟨fun q => (wb_tn h).symm.trans ((congrArg (fun x : Int64 => x.toBitVec.toNat) q).trans (wb_tn (by decide))), fun q => by rw [q]⟩
  by_cases h0 : a = 0
  · subst h0; exact ⟨fun _ => rfl, fun _ => by decide⟩
  · have e2 : ¬ lN a = lN 0 := fun q => h0 (e.mp q)
    constructor
    · intro q
      split at q
      · exact absurd q (by decide)
      · exact absurd q (by decide)
    · intro q; exact absurd q h0
theorem z_lclt {a b : Nat} (ha : a < 2 ^ 63) (hb : b < 2 ^ 63) : lg_cmp (lN a) (lN b) < 0 ↔ a < b := by
  unfold lg_cmp
  by_cases h1 : b < a
  · rw [if_pos ((pk_lLT hb ha).mpr h1)]; exact ⟨fun q => absurd q (by decide), fun q => by omega⟩
  · rw [if_neg (fun q => h1 ((pk_lLT hb ha).mp q))]
    by_cases h2 : a = b
    · rw [if_pos (by rw [h2])]; exact ⟨fun q => absurd q (by decide), fun q => by omega⟩
    · rw [if_neg (fun q => h2 ((pk_lEQ ha hb).mp q))]; exact ⟨fun _ => by omega, fun _ => by decide⟩
theorem z_lcle {a b : Nat} (ha : a < 2 ^ 63) (hb : b < 2 ^ 63) : lg_cmp (lN a) (lN b) ≤ 0 ↔ a ≤ b := by
  unfold lg_cmp
  by_cases h1 : b < a
  · rw [if_pos ((pk_lLT hb ha).mpr h1)]; exact ⟨fun q => absurd q (by decide), fun q => by omega⟩
  · rw [if_neg (fun q => h1 ((pk_lLT hb ha).mp q))]
    by_cases h2 : a = b
    · rw [if_pos (by rw [h2])]; exact ⟨fun _ => by omega, fun _ => by decide⟩
    · rw [if_neg (fun q => h2 ((pk_lEQ ha hb).mp q))]; exact ⟨fun _ => by omega, fun _ => by decide⟩
/-- how many characters the number u gives -/
def cinF (u : Nat) : Nat → Nat → Nat
  | 0, _ => 8
  | f + 1, c => if u / 2 ^ (c * 8) = 0 then c else if u / 2 ^ (c * 8) % 256 < 33 ∨ 126 < u / 2 ^ (c * 8) % 256 then 0 else cinF u f (c + 1)
def cin (u : Nat) : Nat := cinF u 8 0
theorem cinF_step (u i : Nat) (hi : i < 8) : cinF u (8 - i) i = if u / 2 ^ (i * 8) = 0 then i else if u / 2 ^ (i * 8) % 256 < 33 ∨ 126 < u / 2 ^ (i * 8) % 256 then 0 else cinF u (8 - (i + 1)) (i + 1) := by
  rw [show 8 - i = (8 - (i + 1)) + 1 by omega]; rfl
theorem cinF_le (u : Nat) : ∀ f c, c + f = 8 → cinF u f c ≤ 8
  | 0, _, _ => Nat.le_refl _
  | f + 1, c, h => by
    rw [cinF]
    split
    · omega
    · split
      · omega
      · exact cinF_le u f (c + 1) (by omega)
theorem cin_le (u : Nat) : cin u ≤ 8 := cinF_le u 8 0 rfl
/-- i of the c characters of u behind n others -/
def apF (f : Nat → Nat) (n u c : Nat) : Nat → (Nat → Nat)
  | 0 => f
  | i + 1 => va_up (apF f n u c i) (n + i) (u / 2 ^ ((c - i - 1) * 8) % 256)
def ap (f : Nat → Nat) (n u c : Nat) : Nat → Nat := fun k => if n ≤ k ∧ k < n + c then u / 2 ^ ((c - (k - n) - 1) * 8) % 256 else f k
theorem apF_eq (f : Nat → Nat) (n u c : Nat) : ∀ i k, apF f n u c i k = if n ≤ k ∧ k < n + i then u / 2 ^ ((c - (k - n) - 1) * 8) % 256 else f k
  | 0, k => by rw [if_neg (by omega)]; rfl
  | i + 1, k => by
    show va_up (apF f n u c i) (n + i) _ k = _
    unfold va_up
    by_cases e : k = n + i
    · rw [if_pos e, if_pos (by omega), e, Nat.add_sub_cancel_left]
    · rw [if_neg e, apF_eq f n u c i k]
      by_cases e2 : n ≤ k ∧ k < n + i
      · rw [if_pos e2, if_pos (by omega)]
      · rw [if_neg e2, if_neg (by omega)]
theorem z_dec (m : Nat) : nI m + Int32.ofInt (-1) = nI m - nI 1 := by
  rw [show Int32.ofInt (-1) = -1 by decide +kernel, Int32.sub_eq_add_neg]; rfl
theorem div_lt64 {u : Nat} (hu : u < 2 ^ 64) (d : Nat) : u / d < 2 ^ 64 := Nat.lt_of_le_of_lt (Nat.div_le_self _ _) hu
/-- the number in the digits s .. s + i - 1 -/
def num (f : Nat → Nat) (s : Nat) : Nat → Nat | 0 => 0 | i + 1 => 10 * num f s i + (f (s + i) - 48)
theorem num_le {f : Nat → Nat} {s n : Nat} (h : ∀ k, s ≤ k → k < s + n → f k ≤ 57) : ∀ i, i ≤ n → num f s i < 10 ^ i
  | 0, _ => by show 0 < 1; decide
  | i + 1, hi => by
    have h1 := num_le h i (by omega)
    have h2 := h (s + i) (by omega) (by omega)
    show 10 * num f s i + (f (s + i) - 48) < 10 ^ (i + 1)
    rw [Nat.pow_succ]
    omega

set_option maxHeartbeats 4000000 in
set_option maxRecDepth 100000 in
theorem c_X3_init (l : Launch) (G : gT) (d : Nat) : CM l G yX3_init wsX3_init 2 32 0 [.ref d] [[(d, .inr (3, [.null, .int 0]))]] 1 60 (fun v u => ∃ (p f : Nat → Nat), p 0 = d ∧ v = none ∧ u = [PD G p f 0]) := by
  refine CM_of RX3 1 12 rfl rfl (by decide) (by decide +kernel) (Nat.le_of_ble_eq_true rfl) (fun E A X hrt hnm => ?_)
  have hin : (e_h E).name = "<init>" := hnm
  have F11 := Fld_of (idx := 11) 3 0 X (by decide) (by decide) (by decide +kernel) (by decide +kernel)
  have F15 := Fld_of (idx := 15) 3 1 X (by decide) (by decide) (by decide +kernel) (by decide +kernel)
  generalize hQ : QM E G A _ _ _ = Q
  show V E G A 1 [[(d, .inr (3, [.null, .int 0]))]] 0 0 Q 0 [(0, .ref d)] []
  refine V_aload_n (pc' := 1) 0 X dX3_init_0 rfl rfl rfl ?_
  refine V_obj (pc' := 4) X (by decide +kernel) (by decide +kernel) (by decide +kernel) dX3_init_1 (Nat.le_of_ble_eq_true rfl) (Nat.le_of_ble_eq_true rfl) rfl ?_
  refine V_aload_n (pc' := 5) 0 X dX3_init_4 rfl rfl rfl ?_
  refine V_bipush (pc' := 7) (nI 60) X dX3_init_5 kb_60 rfl ?_
  refine V_newc (pc' := 9) (n := 60) X (by decide +kernel) (by decide) (Nat.le_of_ble_eq_true rfl) (Nat.le_of_ble_eq_true rfl) dX3_init_7 rfl (fun q_1 => ?_)
  show V E G A 1 [[(d, .inr (3, [.null, .int 0]))], [(q_1, .inl (G.2 1, 60, .inl (fun _ => 0)))]] 1 60 Q 9 [(0, .ref d)] [.ref q_1, .ref d]
  refine V_putF (pc' := 12) 0 [[(d, .inr (3, [.ref q_1, .int 0]))], [(q_1, .inl (G.2 1, 60, .inl (fun _ => 0)))]] X F11 rfl rfl hin rfl rfl rfl (Nat.le_of_ble_eq_true rfl) rfl dX3_init_9 rfl ?_
  refine V_aload_n (pc' := 13) 0 X dX3_init_12 rfl rfl rfl ?_
  refine V_iconst (pc' := 14) (nI 0) X dX3_init_13 ki_0 rfl ?_
  refine V_put (pc' := 17) 0 [[(d, .inr (3, [.ref q_1, .int (nI 0)]))], [(q_1, .inl (G.2 1, 60, .inl (fun _ => 0)))]] X F15 rfl rfl rfl rfl (Nat.le_of_ble_eq_true rfl) rfl dX3_init_14 rfl ?_
  refine V_ws [[(d, .inr (3, [.ref q_1, .int (nI 0)])), (q_1, .inl (G.2 1, 60, .inl (fun _ => 0)))]] rfl ?_
  refine V_wsq [PD G (fun k => ([d, q_1].getD k 0)) (fun _ => 0) 0] (wsq.cons (weq.rf _) (wsq.cons (weq.row (fun k hk => nI_0.symm)) (wsq.rf _))) ?_
  exact V_return [PD G (fun k => ([d, q_1].getD k 0)) (fun _ => 0) 0] hQ X hrt dX3_init_17 (Nat.le_of_ble_eq_true rfl) (Nat.le_of_ble_eq_true rfl) (List.Perm.refl _) ⟨_, _, rfl, rfl, rfl⟩

set_option maxHeartbeats 4000000 in
set_option maxRecDepth 100000 in
theorem c_X3_isIn (l : Launch) (G : gT) (c a b : Nat) (hc : c < 2 ^ 20) (ha : a < 2 ^ 20) (hb : b < 2 ^ 20) : CM l G yX3_isIn wsX3_isIn 1 22 3 [.int (nI c), .int (nI a), .int (nI b)] [] 0 0 (fun v u => v = some (.int (nI (if a ≤ c ∧ c ≤ b then 1 else 0))) ∧ u = []) := by
  refine CM_of RX3 0 0 rfl rfl (by decide) (by decide +kernel) (Nat.le_of_ble_eq_true rfl) (fun E A X hrt hnm => ?_)
  generalize hQ : QM E G A _ _ _ = Q
  show V E G A 3 [] 0 0 Q 0 [(0, .int (nI c)), (1, .int (nI a)), (2, .int (nI b))] []
  refine V_iload_n (pc' := 1) 0 X dX3_isIn_0 rfl rfl rfl ?_
  refine V_iload_n (pc' := 2) 1 X dX3_isIn_1 rfl rfl rfl ?_
  refine V_icmp_lt (pc' := 5) (C := c < a) 14 X dX3_isIn_2 (by decide) rfl (nI_ltI (by omega) (by omega)) (fun h2 => ?_) (fun h2 => ?_)
  · refine V_iconst (pc' := 15) (nI 0) X dX3_isIn_14 ki_0 rfl ?_
    exact V_ireturn (v := nI 0) [] hQ X hrt rfl dX3_isIn_15 (Nat.le_of_ble_eq_true rfl) (Nat.le_of_ble_eq_true rfl) (List.Perm.refl _) ⟨by rw [if_neg (by omega)], rfl⟩
  · refine V_iload_n (pc' := 6) 0 X dX3_isIn_5 rfl rfl rfl ?_
    refine V_iload_n (pc' := 7) 2 X dX3_isIn_6 rfl rfl rfl ?_
    refine V_icmp_gt (pc' := 10) (C := b < c) 14 X dX3_isIn_7 (by decide) rfl (nI_ltI (by omega) (by omega)) (fun h7 => ?_) (fun h7 => ?_)
    · refine V_iconst (pc' := 15) (nI 0) X dX3_isIn_14 ki_0 rfl ?_
      exact V_ireturn (v := nI 0) [] hQ X hrt rfl dX3_isIn_15 (Nat.le_of_ble_eq_true rfl) (Nat.le_of_ble_eq_true rfl) (List.Perm.refl _) ⟨by rw [if_neg (by omega)], rfl⟩
    · refine V_iconst (pc' := 11) (nI 1) X dX3_isIn_10 ki_1 rfl ?_
      refine V_goto (pc' := 15) X dX3_isIn_11 (by decide) ?_
      exact V_ireturn (v := nI 1) [] hQ X hrt rfl dX3_isIn_15 (Nat.le_of_ble_eq_true rfl) (Nat.le_of_ble_eq_true rfl) (List.Perm.refl _) ⟨by rw [if_pos (by omega)], rfl⟩

set_option maxHeartbeats 4000000 in
set_option maxRecDepth 100000 in
theorem c_X3_placeAfterFirst (l : Launch) (G : gT) (c : Nat) (hc : c < 2 ^ 16) : CM l G yX3_placeAfterFirst wsX3_placeAfterFirst 2 42 1 [.int (nI c)] [] 0 0 (fun v u => v = some (.int (nI (pa1 c))) ∧ u = []) := by
  refine CM_of RX3 1 22 rfl rfl (by decide) (by decide +kernel) (Nat.le_of_ble_eq_true rfl) (fun E A X hrt hnm => ?_)
  generalize hQ : QM E G A _ _ _ = Q
  show V E G A 1 [] 0 0 Q 0 [(0, .int (nI c))] []
  refine V_iload_n (pc' := 1) 0 X dX3_placeAfterFirst_0 rfl rfl rfl ?_
  refine V_bipush (pc' := 3) (nI 116) X dX3_placeAfterFirst_1 kb_116 rfl ?_
  refine V_icmp_ne (pc' := 6) (C := c = 116) 9 X dX3_placeAfterFirst_3 (by decide) rfl (nI_eq (by omega) (by omega)) (fun h3 => ?_) (fun h3 => ?_)
  · refine V_iload_n (pc' := 10) 0 X dX3_placeAfterFirst_9 rfl rfl rfl ?_
    refine V_bipush (pc' := 12) (nI 46) X dX3_placeAfterFirst_10 kb_46 rfl ?_
    refine V_icmp_ne (pc' := 15) (C := c = 46) 18 X dX3_placeAfterFirst_12 (by decide) rfl (nI_eq (by omega) (by omega)) (fun h12 => ?_) (fun h12 => ?_)
    · refine V_iload_n (pc' := 19) 0 X dX3_placeAfterFirst_18 rfl rfl rfl ?_
      refine V_bipush (pc' := 21) (nI 51) X dX3_placeAfterFirst_19 kb_51 rfl ?_
      refine V_icmp_ne (pc' := 24) (C := c = 51) 26 X dX3_placeAfterFirst_21 (by decide) rfl (nI_eq (by omega) (by omega)) (fun h21 => ?_) (fun h21 => ?_)
      · refine V_iload_n (pc' := 27) 0 X dX3_placeAfterFirst_26 rfl rfl rfl ?_
        refine V_bipush (pc' := 29) (nI 49) X dX3_placeAfterFirst_27 kb_49 rfl ?_
        refine V_bipush (pc' := 31) (nI 50) X dX3_placeAfterFirst_29 kb_50 rfl ?_
        refine V_callS (pc' := 34) (As := [.int (nI c), .int (nI 49), .int (nI 50)]) (st := []) [] [] (List.Perm.refl _) X (c_X3_isIn l G c 49 50 (by omega) (by decide) (by decide)) rfl gX3_placeAfterFirst_X3_isIn rfl rfl (Nat.le_of_ble_eq_true rfl) ⟨Nat.le_of_ble_eq_true rfl, Nat.le_of_ble_eq_true rfl⟩ ⟨Nat.le_of_ble_eq_true rfl, Nat.le_of_ble_eq_true rfl⟩ dX3_placeAfterFirst_31 rfl (fun v_ u_ hp_ => ?_)
        obtain ⟨rfl, rfl⟩ := hp_
        show V E G A 1 [] 0 0 Q 34 [(0, .int (nI c))] [.int (nI (if 49 ≤ c ∧ c ≤ 50 then 1 else 0))]
        refine V_if_eq (pc' := 37) (C := ¬ (49 ≤ c ∧ c ≤ 50)) 39 X dX3_placeAfterFirst_34 (by decide) rfl z_ite0 (fun h34 => ?_) (fun h34 => ?_)
        · refine V_iload_n (pc' := 40) 0 X dX3_placeAfterFirst_39 rfl rfl rfl ?_
          refine V_bipush (pc' := 42) (nI 48) X dX3_placeAfterFirst_40 kb_48 rfl ?_
          refine V_bipush (pc' := 44) (nI 57) X dX3_placeAfterFirst_42 kb_57 rfl ?_
          refine V_callS (pc' := 47) (As := [.int (nI c), .int (nI 48), .int (nI 57)]) (st := []) [] [] (List.Perm.refl _) X (c_X3_isIn l G c 48 57 (by omega) (by decide) (by decide)) rfl gX3_placeAfterFirst_X3_isIn rfl rfl (Nat.le_of_ble_eq_true rfl) ⟨Nat.le_of_ble_eq_true rfl, Nat.le_of_ble_eq_true rfl⟩ ⟨Nat.le_of_ble_eq_true rfl, Nat.le_of_ble_eq_true rfl⟩ dX3_placeAfterFirst_44 rfl (fun v_ u_ hp_ => ?_)
          obtain ⟨rfl, rfl⟩ := hp_
          show V E G A 1 [] 0 0 Q 47 [(0, .int (nI c))] [.int (nI (if 48 ≤ c ∧ c ≤ 57 then 1 else 0))]
          refine V_if_eq (pc' := 50) (C := ¬ (48 ≤ c ∧ c ≤ 57)) 54 X dX3_placeAfterFirst_47 (by decide) rfl z_ite0 (fun h47 => ?_) (fun h47 => ?_)
          · refine V_iconst (pc' := 55) (nI 0) X dX3_placeAfterFirst_54 ki_0 rfl ?_
            exact V_ireturn (v := nI 0) [] hQ X hrt rfl dX3_placeAfterFirst_55 (Nat.le_of_ble_eq_true rfl) (Nat.le_of_ble_eq_true rfl) (List.Perm.refl _) ⟨by rw [show pa1 c = 0 by unfold pa1; (repeat' split) <;> omega], rfl⟩
          · have h47 := Classical.not_not.mp h47
            refine V_iconst (pc' := 51) (nI 4) X dX3_placeAfterFirst_50 ki_4 rfl ?_
            refine V_goto (pc' := 55) X dX3_placeAfterFirst_51 (by decide) ?_
            exact V_ireturn (v := nI 4) [] hQ X hrt rfl dX3_placeAfterFirst_55 (Nat.le_of_ble_eq_true rfl) (Nat.le_of_ble_eq_true rfl) (List.Perm.refl _) ⟨by rw [show pa1 c = 4 by unfold pa1; (repeat' split) <;> omega], rfl⟩
        · have h34 := Classical.not_not.mp h34
          refine V_iconst (pc' := 38) (nI 2) X dX3_placeAfterFirst_37 ki_2 rfl ?_
          exact V_ireturn (v := nI 2) [] hQ X hrt rfl dX3_placeAfterFirst_38 (Nat.le_of_ble_eq_true rfl) (Nat.le_of_ble_eq_true rfl) (List.Perm.refl _) ⟨by rw [show pa1 c = 2 by unfold pa1; (repeat' split) <;> omega], rfl⟩
      · refine V_iconst (pc' := 25) (nI 3) X dX3_placeAfterFirst_24 ki_3 rfl ?_
        exact V_ireturn (v := nI 3) [] hQ X hrt rfl dX3_placeAfterFirst_25 (Nat.le_of_ble_eq_true rfl) (Nat.le_of_ble_eq_true rfl) (List.Perm.refl _) ⟨by rw [show pa1 c = 3 by unfold pa1; (repeat' split) <;> omega], rfl⟩
    · refine V_bipush (pc' := 17) (nI 9) X dX3_placeAfterFirst_15 kb_9 rfl ?_
      exact V_ireturn (v := nI 9) [] hQ X hrt rfl dX3_placeAfterFirst_17 (Nat.le_of_ble_eq_true rfl) (Nat.le_of_ble_eq_true rfl) (List.Perm.refl _) ⟨by rw [show pa1 c = 9 by unfold pa1; (repeat' split) <;> omega], rfl⟩
  · refine V_bipush (pc' := 8) (nI 7) X dX3_placeAfterFirst_6 kb_7 rfl ?_
    exact V_ireturn (v := nI 7) [] hQ X hrt rfl dX3_placeAfterFirst_8 (Nat.le_of_ble_eq_true rfl) (Nat.le_of_ble_eq_true rfl) (List.Perm.refl _) ⟨by rw [show pa1 c = 7 by unfold pa1; (repeat' split) <;> omega], rfl⟩

set_option maxHeartbeats 4000000 in
set_option maxRecDepth 100000 in
theorem c_X3_placeAfterColumn (l : Launch) (G : gT) (c : Nat) (hc : c < 2 ^ 16) : CM l G yX3_placeAfterColumn wsX3_placeAfterColumn 1 20 1 [.int (nI c)] [] 0 0 (fun v u => v = some (.int (nI (paC c))) ∧ u = []) := by
  refine CM_of RX3 0 0 rfl rfl (by decide) (by decide +kernel) (Nat.le_of_ble_eq_true rfl) (fun E A X hrt hnm => ?_)
  generalize hQ : QM E G A _ _ _ = Q
  show V E G A 1 [] 0 0 Q 0 [(0, .int (nI c))] []
  refine V_iload_n (pc' := 1) 0 X dX3_placeAfterColumn_0 rfl rfl rfl ?_
  refine V_bipush (pc' := 3) (nI 58) X dX3_placeAfterColumn_1 kb_58 rfl ?_
  refine V_icmp_ne (pc' := 6) (C := c = 58) 10 X dX3_placeAfterColumn_3 (by decide) rfl (nI_eq (by omega) (by omega)) (fun h3 => ?_) (fun h3 => ?_)
  · refine V_iconst (pc' := 11) (nI 0) X dX3_placeAfterColumn_10 ki_0 rfl ?_
    exact V_ireturn (v := nI 0) [] hQ X hrt rfl dX3_placeAfterColumn_11 (Nat.le_of_ble_eq_true rfl) (Nat.le_of_ble_eq_true rfl) (List.Perm.refl _) ⟨by rw [show paC c = 0 by unfold paC; (repeat' split) <;> omega], rfl⟩
  · refine V_iconst (pc' := 7) (nI 5) X dX3_placeAfterColumn_6 ki_5 rfl ?_
    refine V_goto (pc' := 11) X dX3_placeAfterColumn_7 (by decide) ?_
    exact V_ireturn (v := nI 5) [] hQ X hrt rfl dX3_placeAfterColumn_11 (Nat.le_of_ble_eq_true rfl) (Nat.le_of_ble_eq_true rfl) (List.Perm.refl _) ⟨by rw [show paC c = 5 by unfold paC; (repeat' split) <;> omega], rfl⟩

set_option maxHeartbeats 4000000 in
set_option maxRecDepth 100000 in
theorem c_X3_placeAfterPart (l : Launch) (G : gT) (c : Nat) (hc : c < 2 ^ 16) : CM l G yX3_placeAfterPart wsX3_placeAfterPart 1 20 1 [.int (nI c)] [] 0 0 (fun v u => v = some (.int (nI (paP c))) ∧ u = []) := by
  refine CM_of RX3 0 0 rfl rfl (by decide) (by decide +kernel) (Nat.le_of_ble_eq_true rfl) (fun E A X hrt hnm => ?_)
  generalize hQ : QM E G A _ _ _ = Q
  show V E G A 1 [] 0 0 Q 0 [(0, .int (nI c))] []
  refine V_iload_n (pc' := 1) 0 X dX3_placeAfterPart_0 rfl rfl rfl ?_
  refine V_bipush (pc' := 3) (nI 59) X dX3_placeAfterPart_1 kb_59 rfl ?_
  refine V_icmp_ne (pc' := 6) (C := c = 59) 10 X dX3_placeAfterPart_3 (by decide) rfl (nI_eq (by omega) (by omega)) (fun h3 => ?_) (fun h3 => ?_)
  · refine V_iconst (pc' := 11) (nI 0) X dX3_placeAfterPart_10 ki_0 rfl ?_
    exact V_ireturn (v := nI 0) [] hQ X hrt rfl dX3_placeAfterPart_11 (Nat.le_of_ble_eq_true rfl) (Nat.le_of_ble_eq_true rfl) (List.Perm.refl _) ⟨by rw [show paP c = 0 by unfold paP; (repeat' split) <;> omega], rfl⟩
  · refine V_iconst (pc' := 7) (nI 1) X dX3_placeAfterPart_6 ki_1 rfl ?_
    refine V_goto (pc' := 11) X dX3_placeAfterPart_7 (by decide) ?_
    exact V_ireturn (v := nI 1) [] hQ X hrt rfl dX3_placeAfterPart_11 (Nat.le_of_ble_eq_true rfl) (Nat.le_of_ble_eq_true rfl) (List.Perm.refl _) ⟨by rw [show paP c = 1 by unfold paP; (repeat' split) <;> omega], rfl⟩

set_option maxHeartbeats 4000000 in
set_option maxRecDepth 100000 in
theorem c_X3_placeAfter1 (l : Launch) (G : gT) (c : Nat) (hc : c < 2 ^ 16) : CM l G yX3_placeAfter wsX3_placeAfter 3 63 2 [.int (nI 1), .int (nI c)] [] 0 0 (fun v u => v = some (.int (nI (pa 1 c))) ∧ u = []) := by
  refine CM_of RX3 2 42 rfl rfl (by decide) (by decide +kernel) (Nat.le_of_ble_eq_true rfl) (fun E A X hrt hnm => ?_)
  generalize hQ : QM E G A _ _ _ = Q
  show V E G A 2 [] 0 0 Q 0 [(0, .int (nI 1)), (1, .int (nI c))] []
  refine V_iload_n (pc' := 1) 0 X dX3_placeAfter_0 rfl rfl rfl ?_
  refine V_tableIn (tgt := 56) (off := 55) X dX3_placeAfter_1 (by decide +kernel) (by decide +kernel) (by decide +kernel) (by decide) ?_
  refine V_iload_n (pc' := 57) 1 X dX3_placeAfter_56 rfl rfl rfl ?_
  refine V_callS (pc' := 60) (As := [.int (nI c)]) (st := []) [] [] (List.Perm.refl _) X (c_X3_placeAfterFirst l G c (by omega)) rfl gX3_placeAfter_X3_placeAfterFirst rfl rfl (Nat.le_of_ble_eq_true rfl) ⟨Nat.le_of_ble_eq_true rfl, Nat.le_of_ble_eq_true rfl⟩ ⟨Nat.le_of_ble_eq_true rfl, Nat.le_of_ble_eq_true rfl⟩ dX3_placeAfter_57 rfl (fun v_ u_ hp_ => ?_)
  obtain ⟨rfl, rfl⟩ := hp_
  show V E G A 2 [] 0 0 Q 60 [(0, .int (nI 1)), (1, .int (nI c))] [.int (nI (pa1 c))]
  exact V_ireturn (v := nI (pa1 c)) [] hQ X hrt rfl dX3_placeAfter_60 (Nat.le_of_ble_eq_true rfl) (Nat.le_of_ble_eq_true rfl) (List.Perm.refl _) ⟨rfl, rfl⟩

set_option maxHeartbeats 4000000 in
set_option maxRecDepth 100000 in
theorem c_X3_placeAfter2 (l : Launch) (G : gT) (c : Nat) (hc : c < 2 ^ 16) : CM l G yX3_placeAfter wsX3_placeAfter 3 63 2 [.int (nI 2), .int (nI c)] [] 0 0 (fun v u => v = some (.int (nI (pa 2 c))) ∧ u = []) := by
  refine CM_of RX3 2 42 rfl rfl (by decide) (by decide +kernel) (Nat.le_of_ble_eq_true rfl) (fun E A X hrt hnm => ?_)
  generalize hQ : QM E G A _ _ _ = Q
  show V E G A 2 [] 0 0 Q 0 [(0, .int (nI 2)), (1, .int (nI c))] []
  refine V_iload_n (pc' := 1) 0 X dX3_placeAfter_0 rfl rfl rfl ?_
  refine V_tableIn (tgt := 61) (off := 60) X dX3_placeAfter_1 (by decide +kernel) (by decide +kernel) (by decide +kernel) (by decide) ?_
  refine V_iload_n (pc' := 62) 1 X dX3_placeAfter_61 rfl rfl rfl ?_
  refine V_bipush (pc' := 64) (nI 48) X dX3_placeAfter_62 kb_48 rfl ?_
  refine V_bipush (pc' := 66) (nI 57) X dX3_placeAfter_64 kb_57 rfl ?_
  refine V_callS (pc' := 69) (As := [.int (nI c), .int (nI 48), .int (nI 57)]) (st := []) [] [] (List.Perm.refl _) X (c_X3_isIn l G c 48 57 (by omega) (by decide) (by decide)) rfl gX3_placeAfter_X3_isIn rfl rfl (Nat.le_of_ble_eq_true rfl) ⟨Nat.le_of_ble_eq_true rfl, Nat.le_of_ble_eq_true rfl⟩ ⟨Nat.le_of_ble_eq_true rfl, Nat.le_of_ble_eq_true rfl⟩ dX3_placeAfter_66 rfl (fun v_ u_ hp_ => ?_)
  obtain ⟨rfl, rfl⟩ := hp_
  show V E G A 2 [] 0 0 Q 69 [(0, .int (nI 2)), (1, .int (nI c))] [.int (nI (if 48 ≤ c ∧ c ≤ 57 then 1 else 0))]
  refine V_if_eq (pc' := 72) (C := ¬ (48 ≤ c ∧ c ≤ 57)) 76 X dX3_placeAfter_69 (by decide) rfl z_ite0 (fun h69 => ?_) (fun h69 => ?_)
  · refine V_iload_n (pc' := 77) 1 X dX3_placeAfter_76 rfl rfl rfl ?_
    refine V_callS (pc' := 80) (As := [.int (nI c)]) (st := []) [] [] (List.Perm.refl _) X (c_X3_placeAfterColumn l G c (by omega)) rfl gX3_placeAfter_X3_placeAfterColumn rfl rfl (Nat.le_of_ble_eq_true rfl) ⟨Nat.le_of_ble_eq_true rfl, Nat.le_of_ble_eq_true rfl⟩ ⟨Nat.le_of_ble_eq_true rfl, Nat.le_of_ble_eq_true rfl⟩ dX3_placeAfter_77 rfl (fun v_ u_ hp_ => ?_)
    obtain ⟨rfl, rfl⟩ := hp_
    show V E G A 2 [] 0 0 Q 80 [(0, .int (nI 2)), (1, .int (nI c))] [.int (nI (paC c))]
    exact V_ireturn (v := nI (paC c)) [] hQ X hrt rfl dX3_placeAfter_80 (Nat.le_of_ble_eq_true rfl) (Nat.le_of_ble_eq_true rfl) (List.Perm.refl _) ⟨by rw [show pa 2 c = paC c from if_neg (c := 48 ≤ c ∧ c ≤ 57) (by omega)], rfl⟩
  · have h69 := Classical.not_not.mp h69
    refine V_iconst (pc' := 73) (nI 4) X dX3_placeAfter_72 ki_4 rfl ?_
    refine V_goto (pc' := 80) X dX3_placeAfter_73 (by decide) ?_
    exact V_ireturn (v := nI 4) [] hQ X hrt rfl dX3_placeAfter_80 (Nat.le_of_ble_eq_true rfl) (Nat.le_of_ble_eq_true rfl) (List.Perm.refl _) ⟨by rw [show pa 2 c = 4 from if_pos (c := 48 ≤ c ∧ c ≤ 57) (by omega)], rfl⟩

set_option maxHeartbeats 4000000 in
set_option maxRecDepth 100000 in
theorem c_X3_placeAfter3 (l : Launch) (G : gT) (c : Nat) (hc : c < 2 ^ 16) : CM l G yX3_placeAfter wsX3_placeAfter 3 63 2 [.int (nI 3), .int (nI c)] [] 0 0 (fun v u => v = some (.int (nI (pa 3 c))) ∧ u = []) := by
  refine CM_of RX3 2 42 rfl rfl (by decide) (by decide +kernel) (Nat.le_of_ble_eq_true rfl) (fun E A X hrt hnm => ?_)
  generalize hQ : QM E G A _ _ _ = Q
  show V E G A 2 [] 0 0 Q 0 [(0, .int (nI 3)), (1, .int (nI c))] []
  refine V_iload_n (pc' := 1) 0 X dX3_placeAfter_0 rfl rfl rfl ?_
  refine V_tableIn (tgt := 81) (off := 80) X dX3_placeAfter_1 (by decide +kernel) (by decide +kernel) (by decide +kernel) (by decide) ?_
  refine V_iload_n (pc' := 82) 1 X dX3_placeAfter_81 rfl rfl rfl ?_
  refine V_bipush (pc' := 84) (nI 48) X dX3_placeAfter_82 kb_48 rfl ?_
  refine V_bipush (pc' := 86) (nI 49) X dX3_placeAfter_84 kb_49 rfl ?_
  refine V_callS (pc' := 89) (As := [.int (nI c), .int (nI 48), .int (nI 49)]) (st := []) [] [] (List.Perm.refl _) X (c_X3_isIn l G c 48 49 (by omega) (by decide) (by decide)) rfl gX3_placeAfter_X3_isIn rfl rfl (Nat.le_of_ble_eq_true rfl) ⟨Nat.le_of_ble_eq_true rfl, Nat.le_of_ble_eq_true rfl⟩ ⟨Nat.le_of_ble_eq_true rfl, Nat.le_of_ble_eq_true rfl⟩ dX3_placeAfter_86 rfl (fun v_ u_ hp_ => ?_)
  obtain ⟨rfl, rfl⟩ := hp_
  show V E G A 2 [] 0 0 Q 89 [(0, .int (nI 3)), (1, .int (nI c))] [.int (nI (if 48 ≤ c ∧ c ≤ 49 then 1 else 0))]
  refine V_if_eq (pc' := 92) (C := ¬ (48 ≤ c ∧ c ≤ 49)) 96 X dX3_placeAfter_89 (by decide) rfl z_ite0 (fun h89 => ?_) (fun h89 => ?_)
  · refine V_iload_n (pc' := 97) 1 X dX3_placeAfter_96 rfl rfl rfl ?_
    refine V_callS (pc' := 100) (As := [.int (nI c)]) (st := []) [] [] (List.Perm.refl _) X (c_X3_placeAfterColumn l G c (by omega)) rfl gX3_placeAfter_X3_placeAfterColumn rfl rfl (Nat.le_of_ble_eq_true rfl) ⟨Nat.le_of_ble_eq_true rfl, Nat.le_of_ble_eq_true rfl⟩ ⟨Nat.le_of_ble_eq_true rfl, Nat.le_of_ble_eq_true rfl⟩ dX3_placeAfter_97 rfl (fun v_ u_ hp_ => ?_)
    obtain ⟨rfl, rfl⟩ := hp_
    show V E G A 2 [] 0 0 Q 100 [(0, .int (nI 3)), (1, .int (nI c))] [.int (nI (paC c))]
    exact V_ireturn (v := nI (paC c)) [] hQ X hrt rfl dX3_placeAfter_100 (Nat.le_of_ble_eq_true rfl) (Nat.le_of_ble_eq_true rfl) (List.Perm.refl _) ⟨by rw [show pa 3 c = paC c from if_neg (c := 48 ≤ c ∧ c ≤ 49) (by omega)], rfl⟩
  · have h89 := Classical.not_not.mp h89
    refine V_iconst (pc' := 93) (nI 4) X dX3_placeAfter_92 ki_4 rfl ?_
    refine V_goto (pc' := 100) X dX3_placeAfter_93 (by decide) ?_
    exact V_ireturn (v := nI 4) [] hQ X hrt rfl dX3_placeAfter_100 (Nat.le_of_ble_eq_true rfl) (Nat.le_of_ble_eq_true rfl) (List.Perm.refl _) ⟨by rw [show pa 3 c = 4 from if_pos (c := 48 ≤ c ∧ c ≤ 49) (by omega)], rfl⟩

set_option maxHeartbeats 4000000 in
set_option maxRecDepth 100000 in
theorem c_X3_placeAfter4 (l : Launch) (G : gT) (c : Nat) (hc : c < 2 ^ 16) : CM l G yX3_placeAfter wsX3_placeAfter 3 63 2 [.int (nI 4), .int (nI c)] [] 0 0 (fun v u => v = some (.int (nI (pa 4 c))) ∧ u = []) := by
  refine CM_of RX3 2 42 rfl rfl (by decide) (by decide +kernel) (Nat.le_of_ble_eq_true rfl) (fun E A X hrt hnm => ?_)
  generalize hQ : QM E G A _ _ _ = Q
  show V E G A 2 [] 0 0 Q 0 [(0, .int (nI 4)), (1, .int (nI c))] []
  refine V_iload_n (pc' := 1) 0 X dX3_placeAfter_0 rfl rfl rfl ?_
  refine V_tableIn (tgt := 101) (off := 100) X dX3_placeAfter_1 (by decide +kernel) (by decide +kernel) (by decide +kernel) (by decide) ?_
  refine V_iload_n (pc' := 102) 1 X dX3_placeAfter_101 rfl rfl rfl ?_
  refine V_callS (pc' := 105) (As := [.int (nI c)]) (st := []) [] [] (List.Perm.refl _) X (c_X3_placeAfterColumn l G c (by omega)) rfl gX3_placeAfter_X3_placeAfterColumn rfl rfl (Nat.le_of_ble_eq_true rfl) ⟨Nat.le_of_ble_eq_true rfl, Nat.le_of_ble_eq_true rfl⟩ ⟨Nat.le_of_ble_eq_true rfl, Nat.le_of_ble_eq_true rfl⟩ dX3_placeAfter_102 rfl (fun v_ u_ hp_ => ?_)
  obtain ⟨rfl, rfl⟩ := hp_
  show V E G A 2 [] 0 0 Q 105 [(0, .int (nI 4)), (1, .int (nI c))] [.int (nI (paC c))]
  exact V_ireturn (v := nI (paC c)) [] hQ X hrt rfl dX3_placeAfter_105 (Nat.le_of_ble_eq_true rfl) (Nat.le_of_ble_eq_true rfl) (List.Perm.refl _) ⟨rfl, rfl⟩

set_option maxHeartbeats 4000000 in
set_option maxRecDepth 100000 in
theorem c_X3_placeAfter5 (l : Launch) (G : gT) (c : Nat) (hc : c < 2 ^ 16) : CM l G yX3_placeAfter wsX3_placeAfter 3 63 2 [.int (nI 5), .int (nI c)] [] 0 0 (fun v u => v = some (.int (nI (pa 5 c))) ∧ u = []) := by
  refine CM_of RX3 2 42 rfl rfl (by decide) (by decide +kernel) (Nat.le_of_ble_eq_true rfl) (fun E A X hrt hnm => ?_)
  generalize hQ : QM E G A _ _ _ = Q
  show V E G A 2 [] 0 0 Q 0 [(0, .int (nI 5)), (1, .int (nI c))] []
  refine V_iload_n (pc' := 1) 0 X dX3_placeAfter_0 rfl rfl rfl ?_
  refine V_tableIn (tgt := 106) (off := 105) X dX3_placeAfter_1 (by decide +kernel) (by decide +kernel) (by decide +kernel) (by decide) ?_
  refine V_iload_n (pc' := 107) 1 X dX3_placeAfter_106 rfl rfl rfl ?_
  refine V_bipush (pc' := 109) (nI 48) X dX3_placeAfter_107 kb_48 rfl ?_
  refine V_bipush (pc' := 111) (nI 57) X dX3_placeAfter_109 kb_57 rfl ?_
  refine V_callS (pc' := 114) (As := [.int (nI c), .int (nI 48), .int (nI 57)]) (st := []) [] [] (List.Perm.refl _) X (c_X3_isIn l G c 48 57 (by omega) (by decide) (by decide)) rfl gX3_placeAfter_X3_isIn rfl rfl (Nat.le_of_ble_eq_true rfl) ⟨Nat.le_of_ble_eq_true rfl, Nat.le_of_ble_eq_true rfl⟩ ⟨Nat.le_of_ble_eq_true rfl, Nat.le_of_ble_eq_true rfl⟩ dX3_placeAfter_111 rfl (fun v_ u_ hp_ => ?_)
  obtain ⟨rfl, rfl⟩ := hp_
  show V E G A 2 [] 0 0 Q 114 [(0, .int (nI 5)), (1, .int (nI c))] [.int (nI (if 48 ≤ c ∧ c ≤ 57 then 1 else 0))]
  refine V_if_eq (pc' := 117) (C := ¬ (48 ≤ c ∧ c ≤ 57)) 122 X dX3_placeAfter_114 (by decide) rfl z_ite0 (fun h114 => ?_) (fun h114 => ?_)
  · refine V_iconst (pc' := 123) (nI 0) X dX3_placeAfter_122 ki_0 rfl ?_
    exact V_ireturn (v := nI 0) [] hQ X hrt rfl dX3_placeAfter_123 (Nat.le_of_ble_eq_true rfl) (Nat.le_of_ble_eq_true rfl) (List.Perm.refl _) ⟨by rw [show pa 5 c = 0 from if_neg (c := 48 ≤ c ∧ c ≤ 57) (by omega)], rfl⟩
  · have h114 := Classical.not_not.mp h114
    refine V_bipush (pc' := 119) (nI 6) X dX3_placeAfter_117 kb_6 rfl ?_
    refine V_goto (pc' := 123) X dX3_placeAfter_119 (by decide) ?_
    exact V_ireturn (v := nI 6) [] hQ X hrt rfl dX3_placeAfter_123 (Nat.le_of_ble_eq_true rfl) (Nat.le_of_ble_eq_true rfl) (List.Perm.refl _) ⟨by rw [show pa 5 c = 6 from if_pos (c := 48 ≤ c ∧ c ≤ 57) (by omega)], rfl⟩

set_option maxHeartbeats 4000000 in
set_option maxRecDepth 100000 in
theorem c_X3_placeAfter6 (l : Launch) (G : gT) (c : Nat) (hc : c < 2 ^ 16) : CM l G yX3_placeAfter wsX3_placeAfter 3 63 2 [.int (nI 6), .int (nI c)] [] 0 0 (fun v u => v = some (.int (nI (pa 6 c))) ∧ u = []) := by
  refine CM_of RX3 2 42 rfl rfl (by decide) (by decide +kernel) (Nat.le_of_ble_eq_true rfl) (fun E A X hrt hnm => ?_)
  generalize hQ : QM E G A _ _ _ = Q
  show V E G A 2 [] 0 0 Q 0 [(0, .int (nI 6)), (1, .int (nI c))] []
  refine V_iload_n (pc' := 1) 0 X dX3_placeAfter_0 rfl rfl rfl ?_
  refine V_tableIn (tgt := 124) (off := 123) X dX3_placeAfter_1 (by decide +kernel) (by decide +kernel) (by decide +kernel) (by decide) ?_
  refine V_iload_n (pc' := 125) 1 X dX3_placeAfter_124 rfl rfl rfl ?_
  refine V_bipush (pc' := 127) (nI 48) X dX3_placeAfter_125 kb_48 rfl ?_
  refine V_bipush (pc' := 129) (nI 57) X dX3_placeAfter_127 kb_57 rfl ?_
  refine V_callS (pc' := 132) (As := [.int (nI c), .int (nI 48), .int (nI 57)]) (st := []) [] [] (List.Perm.refl _) X (c_X3_isIn l G c 48 57 (by omega) (by decide) (by decide)) rfl gX3_placeAfter_X3_isIn rfl rfl (Nat.le_of_ble_eq_true rfl) ⟨Nat.le_of_ble_eq_true rfl, Nat.le_of_ble_eq_true rfl⟩ ⟨Nat.le_of_ble_eq_true rfl, Nat.le_of_ble_eq_true rfl⟩ dX3_placeAfter_129 rfl (fun v_ u_ hp_ => ?_)
  obtain ⟨rfl, rfl⟩ := hp_
  show V E G A 2 [] 0 0 Q 132 [(0, .int (nI 6)), (1, .int (nI c))] [.int (nI (if 48 ≤ c ∧ c ≤ 57 then 1 else 0))]
  refine V_if_eq (pc' := 135) (C := ¬ (48 ≤ c ∧ c ≤ 57)) 140 X dX3_placeAfter_132 (by decide) rfl z_ite0 (fun h132 => ?_) (fun h132 => ?_)
  · refine V_iload_n (pc' := 141) 1 X dX3_placeAfter_140 rfl rfl rfl ?_
    refine V_callS (pc' := 144) (As := [.int (nI c)]) (st := []) [] [] (List.Perm.refl _) X (c_X3_placeAfterPart l G c (by omega)) rfl gX3_placeAfter_X3_placeAfterPart rfl rfl (Nat.le_of_ble_eq_true rfl) ⟨Nat.le_of_ble_eq_true rfl, Nat.le_of_ble_eq_true rfl⟩ ⟨Nat.le_of_ble_eq_true rfl, Nat.le_of_ble_eq_true rfl⟩ dX3_placeAfter_141 rfl (fun v_ u_ hp_ => ?_)
    obtain ⟨rfl, rfl⟩ := hp_
    show V E G A 2 [] 0 0 Q 144 [(0, .int (nI 6)), (1, .int (nI c))] [.int (nI (paP c))]
    exact V_ireturn (v := nI (paP c)) [] hQ X hrt rfl dX3_placeAfter_144 (Nat.le_of_ble_eq_true rfl) (Nat.le_of_ble_eq_true rfl) (List.Perm.refl _) ⟨by rw [show pa 6 c = paP c from if_neg (c := 48 ≤ c ∧ c ≤ 57) (by omega)], rfl⟩
  · have h132 := Classical.not_not.mp h132
    refine V_bipush (pc' := 137) (nI 6) X dX3_placeAfter_135 kb_6 rfl ?_
    refine V_goto (pc' := 144) X dX3_placeAfter_137 (by decide) ?_
    exact V_ireturn (v := nI 6) [] hQ X hrt rfl dX3_placeAfter_144 (Nat.le_of_ble_eq_true rfl) (Nat.le_of_ble_eq_true rfl) (List.Perm.refl _) ⟨by rw [show pa 6 c = 6 from if_pos (c := 48 ≤ c ∧ c ≤ 57) (by omega)], rfl⟩

set_option maxHeartbeats 4000000 in
set_option maxRecDepth 100000 in
theorem c_X3_placeAfter7 (l : Launch) (G : gT) (c : Nat) (hc : c < 2 ^ 16) : CM l G yX3_placeAfter wsX3_placeAfter 3 63 2 [.int (nI 7), .int (nI c)] [] 0 0 (fun v u => v = some (.int (nI (pa 7 c))) ∧ u = []) := by
  refine CM_of RX3 2 42 rfl rfl (by decide) (by decide +kernel) (Nat.le_of_ble_eq_true rfl) (fun E A X hrt hnm => ?_)
  generalize hQ : QM E G A _ _ _ = Q
  show V E G A 2 [] 0 0 Q 0 [(0, .int (nI 7)), (1, .int (nI c))] []
  refine V_iload_n (pc' := 1) 0 X dX3_placeAfter_0 rfl rfl rfl ?_
  refine V_tableIn (tgt := 145) (off := 144) X dX3_placeAfter_1 (by decide +kernel) (by decide +kernel) (by decide +kernel) (by decide) ?_
  refine V_iload_n (pc' := 146) 1 X dX3_placeAfter_145 rfl rfl rfl ?_
  refine V_bipush (pc' := 148) (nI 48) X dX3_placeAfter_146 kb_48 rfl ?_
  refine V_bipush (pc' := 150) (nI 51) X dX3_placeAfter_148 kb_51 rfl ?_
  refine V_callS (pc' := 153) (As := [.int (nI c), .int (nI 48), .int (nI 51)]) (st := []) [] [] (List.Perm.refl _) X (c_X3_isIn l G c 48 51 (by omega) (by decide) (by decide)) rfl gX3_placeAfter_X3_isIn rfl rfl (Nat.le_of_ble_eq_true rfl) ⟨Nat.le_of_ble_eq_true rfl, Nat.le_of_ble_eq_true rfl⟩ ⟨Nat.le_of_ble_eq_true rfl, Nat.le_of_ble_eq_true rfl⟩ dX3_placeAfter_150 rfl (fun v_ u_ hp_ => ?_)
  obtain ⟨rfl, rfl⟩ := hp_
  show V E G A 2 [] 0 0 Q 153 [(0, .int (nI 7)), (1, .int (nI c))] [.int (nI (if 48 ≤ c ∧ c ≤ 51 then 1 else 0))]
  refine V_if_eq (pc' := 156) (C := ¬ (48 ≤ c ∧ c ≤ 51)) 161 X dX3_placeAfter_153 (by decide) rfl z_ite0 (fun h153 => ?_) (fun h153 => ?_)
  · refine V_iconst (pc' := 162) (nI 0) X dX3_placeAfter_161 ki_0 rfl ?_
    exact V_ireturn (v := nI 0) [] hQ X hrt rfl dX3_placeAfter_162 (Nat.le_of_ble_eq_true rfl) (Nat.le_of_ble_eq_true rfl) (List.Perm.refl _) ⟨by rw [show pa 7 c = 0 from if_neg (c := 48 ≤ c ∧ c ≤ 51) (by omega)], rfl⟩
  · have h153 := Classical.not_not.mp h153
    refine V_bipush (pc' := 158) (nI 8) X dX3_placeAfter_156 kb_8 rfl ?_
    refine V_goto (pc' := 162) X dX3_placeAfter_158 (by decide) ?_
    exact V_ireturn (v := nI 8) [] hQ X hrt rfl dX3_placeAfter_162 (Nat.le_of_ble_eq_true rfl) (Nat.le_of_ble_eq_true rfl) (List.Perm.refl _) ⟨by rw [show pa 7 c = 8 from if_pos (c := 48 ≤ c ∧ c ≤ 51) (by omega)], rfl⟩

set_option maxHeartbeats 4000000 in
set_option maxRecDepth 100000 in
theorem c_X3_placeAfter8 (l : Launch) (G : gT) (c : Nat) (hc : c < 2 ^ 16) : CM l G yX3_placeAfter wsX3_placeAfter 3 63 2 [.int (nI 8), .int (nI c)] [] 0 0 (fun v u => v = some (.int (nI (pa 8 c))) ∧ u = []) := by
  refine CM_of RX3 2 42 rfl rfl (by decide) (by decide +kernel) (Nat.le_of_ble_eq_true rfl) (fun E A X hrt hnm => ?_)
  generalize hQ : QM E G A _ _ _ = Q
  show V E G A 2 [] 0 0 Q 0 [(0, .int (nI 8)), (1, .int (nI c))] []
  refine V_iload_n (pc' := 1) 0 X dX3_placeAfter_0 rfl rfl rfl ?_
  refine V_tableIn (tgt := 163) (off := 162) X dX3_placeAfter_1 (by decide +kernel) (by decide +kernel) (by decide +kernel) (by decide) ?_
  refine V_iload_n (pc' := 164) 1 X dX3_placeAfter_163 rfl rfl rfl ?_
  refine V_bipush (pc' := 166) (nI 49) X dX3_placeAfter_164 kb_49 rfl ?_
  refine V_bipush (pc' := 168) (nI 57) X dX3_placeAfter_166 kb_57 rfl ?_
  refine V_callS (pc' := 171) (As := [.int (nI c), .int (nI 49), .int (nI 57)]) (st := []) [] [] (List.Perm.refl _) X (c_X3_isIn l G c 49 57 (by omega) (by decide) (by decide)) rfl gX3_placeAfter_X3_isIn rfl rfl (Nat.le_of_ble_eq_true rfl) ⟨Nat.le_of_ble_eq_true rfl, Nat.le_of_ble_eq_true rfl⟩ ⟨Nat.le_of_ble_eq_true rfl, Nat.le_of_ble_eq_true rfl⟩ dX3_placeAfter_168 rfl (fun v_ u_ hp_ => ?_)
  obtain ⟨rfl, rfl⟩ := hp_
  show V E G A 2 [] 0 0 Q 171 [(0, .int (nI 8)), (1, .int (nI c))] [.int (nI (if 49 ≤ c ∧ c ≤ 57 then 1 else 0))]
  refine V_if_eq (pc' := 174) (C := ¬ (49 ≤ c ∧ c ≤ 57)) 179 X dX3_placeAfter_171 (by decide) rfl z_ite0 (fun h171 => ?_) (fun h171 => ?_)
  · refine V_iconst (pc' := 180) (nI 0) X dX3_placeAfter_179 ki_0 rfl ?_
    exact V_ireturn (v := nI 0) [] hQ X hrt rfl dX3_placeAfter_180 (Nat.le_of_ble_eq_true rfl) (Nat.le_of_ble_eq_true rfl) (List.Perm.refl _) ⟨by rw [show pa 8 c = 0 from if_neg (c := 49 ≤ c ∧ c ≤ 57) (by omega)], rfl⟩
  · have h171 := Classical.not_not.mp h171
    refine V_bipush (pc' := 176) (nI 10) X dX3_placeAfter_174 kb_10 rfl ?_
    refine V_goto (pc' := 180) X dX3_placeAfter_176 (by decide) ?_
    exact V_ireturn (v := nI 10) [] hQ X hrt rfl dX3_placeAfter_180 (Nat.le_of_ble_eq_true rfl) (Nat.le_of_ble_eq_true rfl) (List.Perm.refl _) ⟨by rw [show pa 8 c = 10 from if_pos (c := 49 ≤ c ∧ c ≤ 57) (by omega)], rfl⟩

set_option maxHeartbeats 4000000 in
set_option maxRecDepth 100000 in
theorem c_X3_placeAfter9 (l : Launch) (G : gT) (c : Nat) (hc : c < 2 ^ 16) : CM l G yX3_placeAfter wsX3_placeAfter 3 63 2 [.int (nI 9), .int (nI c)] [] 0 0 (fun v u => v = some (.int (nI (pa 9 c))) ∧ u = []) := by
  refine CM_of RX3 2 42 rfl rfl (by decide) (by decide +kernel) (Nat.le_of_ble_eq_true rfl) (fun E A X hrt hnm => ?_)
  generalize hQ : QM E G A _ _ _ = Q
  show V E G A 2 [] 0 0 Q 0 [(0, .int (nI 9)), (1, .int (nI c))] []
  refine V_iload_n (pc' := 1) 0 X dX3_placeAfter_0 rfl rfl rfl ?_
  refine V_tableIn (tgt := 181) (off := 180) X dX3_placeAfter_1 (by decide +kernel) (by decide +kernel) (by decide +kernel) (by decide) ?_
  refine V_iload_n (pc' := 182) 1 X dX3_placeAfter_181 rfl rfl rfl ?_
  refine V_bipush (pc' := 184) (nI 50) X dX3_placeAfter_182 kb_50 rfl ?_
  refine V_bipush (pc' := 186) (nI 57) X dX3_placeAfter_184 kb_57 rfl ?_
  refine V_callS (pc' := 189) (As := [.int (nI c), .int (nI 50), .int (nI 57)]) (st := []) [] [] (List.Perm.refl _) X (c_X3_isIn l G c 50 57 (by omega) (by decide) (by decide)) rfl gX3_placeAfter_X3_isIn rfl rfl (Nat.le_of_ble_eq_true rfl) ⟨Nat.le_of_ble_eq_true rfl, Nat.le_of_ble_eq_true rfl⟩ ⟨Nat.le_of_ble_eq_true rfl, Nat.le_of_ble_eq_true rfl⟩ dX3_placeAfter_186 rfl (fun v_ u_ hp_ => ?_)
  obtain ⟨rfl, rfl⟩ := hp_
  show V E G A 2 [] 0 0 Q 189 [(0, .int (nI 9)), (1, .int (nI c))] [.int (nI (if 50 ≤ c ∧ c ≤ 57 then 1 else 0))]
  refine V_if_eq (pc' := 192) (C := ¬ (50 ≤ c ∧ c ≤ 57)) 197 X dX3_placeAfter_189 (by decide) rfl z_ite0 (fun h189 => ?_) (fun h189 => ?_)
  · refine V_iload_n (pc' := 198) 1 X dX3_placeAfter_197 rfl rfl rfl ?_
    refine V_callS (pc' := 201) (As := [.int (nI c)]) (st := []) [] [] (List.Perm.refl _) X (c_X3_placeAfterPart l G c (by omega)) rfl gX3_placeAfter_X3_placeAfterPart rfl rfl (Nat.le_of_ble_eq_true rfl) ⟨Nat.le_of_ble_eq_true rfl, Nat.le_of_ble_eq_true rfl⟩ ⟨Nat.le_of_ble_eq_true rfl, Nat.le_of_ble_eq_true rfl⟩ dX3_placeAfter_198 rfl (fun v_ u_ hp_ => ?_)
    obtain ⟨rfl, rfl⟩ := hp_
    show V E G A 2 [] 0 0 Q 201 [(0, .int (nI 9)), (1, .int (nI c))] [.int (nI (paP c))]
    exact V_ireturn (v := nI (paP c)) [] hQ X hrt rfl dX3_placeAfter_201 (Nat.le_of_ble_eq_true rfl) (Nat.le_of_ble_eq_true rfl) (List.Perm.refl _) ⟨by rw [show pa 9 c = paP c from if_neg (c := 50 ≤ c ∧ c ≤ 57) (by omega)], rfl⟩
  · have h189 := Classical.not_not.mp h189
    refine V_bipush (pc' := 194) (nI 10) X dX3_placeAfter_192 kb_10 rfl ?_
    refine V_goto (pc' := 201) X dX3_placeAfter_194 (by decide) ?_
    exact V_ireturn (v := nI 10) [] hQ X hrt rfl dX3_placeAfter_201 (Nat.le_of_ble_eq_true rfl) (Nat.le_of_ble_eq_true rfl) (List.Perm.refl _) ⟨by rw [show pa 9 c = 10 from if_pos (c := 50 ≤ c ∧ c ≤ 57) (by omega)], rfl⟩

set_option maxHeartbeats 4000000 in
set_option maxRecDepth 100000 in
theorem c_X3_placeAfter10 (l : Launch) (G : gT) (c : Nat) (hc : c < 2 ^ 16) : CM l G yX3_placeAfter wsX3_placeAfter 3 63 2 [.int (nI 10), .int (nI c)] [] 0 0 (fun v u => v = some (.int (nI (pa 10 c))) ∧ u = []) := by
  refine CM_of RX3 2 42 rfl rfl (by decide) (by decide +kernel) (Nat.le_of_ble_eq_true rfl) (fun E A X hrt hnm => ?_)
  generalize hQ : QM E G A _ _ _ = Q
  show V E G A 2 [] 0 0 Q 0 [(0, .int (nI 10)), (1, .int (nI c))] []
  refine V_iload_n (pc' := 1) 0 X dX3_placeAfter_0 rfl rfl rfl ?_
  refine V_tableIn (tgt := 202) (off := 201) X dX3_placeAfter_1 (by decide +kernel) (by decide +kernel) (by decide +kernel) (by decide) ?_
  refine V_iload_n (pc' := 203) 1 X dX3_placeAfter_202 rfl rfl rfl ?_
  refine V_callS (pc' := 206) (As := [.int (nI c)]) (st := []) [] [] (List.Perm.refl _) X (c_X3_placeAfterPart l G c (by omega)) rfl gX3_placeAfter_X3_placeAfterPart rfl rfl (Nat.le_of_ble_eq_true rfl) ⟨Nat.le_of_ble_eq_true rfl, Nat.le_of_ble_eq_true rfl⟩ ⟨Nat.le_of_ble_eq_true rfl, Nat.le_of_ble_eq_true rfl⟩ dX3_placeAfter_203 rfl (fun v_ u_ hp_ => ?_)
  obtain ⟨rfl, rfl⟩ := hp_
  show V E G A 2 [] 0 0 Q 206 [(0, .int (nI 10)), (1, .int (nI c))] [.int (nI (paP c))]
  exact V_ireturn (v := nI (paP c)) [] hQ X hrt rfl dX3_placeAfter_206 (Nat.le_of_ble_eq_true rfl) (Nat.le_of_ble_eq_true rfl) (List.Perm.refl _) ⟨rfl, rfl⟩

theorem c_X3_placeAfter (l : Launch) (G : gT) (p c : Nat) (h1 : 1 ≤ p) (h2 : p ≤ 10) (hc : c < 2 ^ 16) : CM l G yX3_placeAfter wsX3_placeAfter 3 63 2 [.int (nI p), .int (nI c)] [] 0 0 (fun v u => v = some (.int (nI (pa p c))) ∧ u = []) := by
  rcases (show p = 1 ∨ p = 2 ∨ p = 3 ∨ p = 4 ∨ p = 5 ∨ p = 6 ∨ p = 7 ∨ p = 8 ∨ p = 9 ∨ p = 10 by omega) with rfl | rfl | rfl | rfl | rfl | rfl | rfl | rfl | rfl | rfl
  · exact c_X3_placeAfter1 l G c hc
  · exact c_X3_placeAfter2 l G c hc
  · exact c_X3_placeAfter3 l G c hc
  · exact c_X3_placeAfter4 l G c hc
  · exact c_X3_placeAfter5 l G c hc
  · exact c_X3_placeAfter6 l G c hc
  · exact c_X3_placeAfter7 l G c hc
  · exact c_X3_placeAfter8 l G c hc
  · exact c_X3_placeAfter9 l G c hc
  · exact c_X3_placeAfter10 l G c hc
set_option maxHeartbeats 4000000 in
set_option maxRecDepth 100000 in
theorem c_X3_firstFault (l : Launch) (G : gT) (p f : Nat → Nat) (n : Nat) (hn : n ≤ 60) (hf : ∀ k, k < n → f k < 128) : CM l G yX3_firstFault wsX3_firstFault 4 85 0 [.ref (p 0)] [PD G p f n] 0 0 (fun v u => v = some (.int (rN (ff f n))) ∧ u = [PD G p f n]) := by
  refine CM_of RX3 3 63 rfl rfl (by decide) (by decide +kernel) (Nat.le_of_ble_eq_true rfl) (fun E A X hrt hnm => ?_)
  have F11 := Fld_of (idx := 11) 3 0 X (by decide) (by decide) (by decide +kernel) (by decide +kernel)
  have F15 := Fld_of (idx := 15) 3 1 X (by decide) (by decide) (by decide +kernel) (by decide +kernel)
  generalize hQ : QM E G A _ _ _ = Q
  show V E G A 3 [PD G p f n] 0 0 Q 0 [(0, .ref (p 0))] []
  refine V_iconst (pc' := 1) (nI 1) X dX3_firstFault_0 ki_1 rfl ?_
  refine V_istore_n (pc' := 2) [(0, .ref (p 0)), (1, .int (nI 1))] [1, 0] X dX3_firstFault_1 rfl (Nat.le_of_ble_eq_true rfl) rfl rfl ?_
  refine V_iconst (pc' := 3) (nI 0) X dX3_firstFault_2 ki_0 rfl ?_
  refine V_istore_n (pc' := 4) [(0, .ref (p 0)), (1, .int (nI 1)), (2, .int (nI 0))] [1, 2, 0] X dX3_firstFault_3 rfl (Nat.le_of_ble_eq_true rfl) rfl rfl ?_
  have lp_1 : ∀ i, i ≤ n → (ffR f n (n - i) = ff f n ∧ 1 ≤ pl f i) → V E G A 3 [PD G p f n] 0 0 Q 4 [(0, .ref (p 0)), (1, .int (nI (pl f i))), (2, .int (nI i))] [] := by
    refine loopD n ?_ ?_
    · intro hy
      show V E G A 3 [PD G p f n] 0 0 Q 4 [(0, .ref (p 0)), (1, .int (nI (pl f n))), (2, .int (nI n))] []
      refine V_iload_n (pc' := 5) 2 X dX3_firstFault_4 rfl rfl rfl ?_
      refine V_aload_n (pc' := 6) 0 X dX3_firstFault_5 rfl rfl rfl ?_
      refine V_get (pc' := 9) 0 X F15 rfl rfl dX3_firstFault_6 rfl ?_
      refine V_icmp_ge (pc' := 12) (C := n ≤ n) 35 X dX3_firstFault_9 (by decide) rfl (nI_leI (by omega) (by omega)) (fun _ => ?_) (fun hz => absurd (by omega) hz)
      refine V_iload_n (pc' := 36) 1 X dX3_firstFault_35 rfl rfl rfl ?_
      refine V_bipush (pc' := 38) (nI 6) X dX3_firstFault_36 kb_6 rfl ?_
      refine V_icmp_eq (pc' := 41) (C := (pl f n) = 6) 53 X dX3_firstFault_38 (by decide) rfl (nI_eq (by have := pl_le f n; omega) (by decide)) (fun h38 => ?_) (fun h38 => ?_)
      · refine V_iconst (pc' := 54) (nI 1) X dX3_firstFault_53 ki_1 rfl ?_
        refine V_goto (pc' := 58) X dX3_firstFault_54 (by decide) ?_
        refine V_istore_n (pc' := 59) [(0, .ref (p 0)), (1, .int (nI (pl f n))), (2, .int (nI 1))] [1, 2, 0] X dX3_firstFault_58 rfl (Nat.le_of_ble_eq_true rfl) rfl rfl ?_
        refine V_iload_n (pc' := 60) 2 X dX3_firstFault_59 rfl rfl rfl ?_
        refine V_if_eq (pc' := 63) (C := 1 = 0) 67 X dX3_firstFault_60 (by decide) rfl (z_eq0 (by omega)) (fun hz => absurd hz (by decide)) (fun _ => ?_)
        refine V_iconst (pc' := 64) (-1) X dX3_firstFault_63 rfl rfl ?_
        refine V_goto (pc' := 71) X dX3_firstFault_64 (by decide) ?_
        exact V_ireturn (v := (-1)) [PD G p f n] hQ X hrt rfl dX3_firstFault_71 (Nat.le_of_ble_eq_true rfl) (Nat.le_of_ble_eq_true rfl) (List.Perm.refl _) ⟨by rw [← hy.1, Nat.sub_self, ffR, if_pos (by unfold cE; omega)]; rfl, rfl⟩
      · refine V_iload_n (pc' := 42) 1 X dX3_firstFault_41 rfl rfl rfl ?_
        refine V_bipush (pc' := 44) (nI 9) X dX3_firstFault_42 kb_9 rfl ?_
        refine V_icmp_eq (pc' := 47) (C := (pl f n) = 9) 53 X dX3_firstFault_44 (by decide) rfl (nI_eq (by have := pl_le f n; omega) (by decide)) (fun h44 => ?_) (fun h44 => ?_)
        · refine V_iconst (pc' := 54) (nI 1) X dX3_firstFault_53 ki_1 rfl ?_
          refine V_goto (pc' := 58) X dX3_firstFault_54 (by decide) ?_
          refine V_istore_n (pc' := 59) [(0, .ref (p 0)), (1, .int (nI (pl f n))), (2, .int (nI 1))] [1, 2, 0] X dX3_firstFault_58 rfl (Nat.le_of_ble_eq_true rfl) rfl rfl ?_
          refine V_iload_n (pc' := 60) 2 X dX3_firstFault_59 rfl rfl rfl ?_
          refine V_if_eq (pc' := 63) (C := 1 = 0) 67 X dX3_firstFault_60 (by decide) rfl (z_eq0 (by omega)) (fun hz => absurd hz (by decide)) (fun _ => ?_)
          refine V_iconst (pc' := 64) (-1) X dX3_firstFault_63 rfl rfl ?_
          refine V_goto (pc' := 71) X dX3_firstFault_64 (by decide) ?_
          exact V_ireturn (v := (-1)) [PD G p f n] hQ X hrt rfl dX3_firstFault_71 (Nat.le_of_ble_eq_true rfl) (Nat.le_of_ble_eq_true rfl) (List.Perm.refl _) ⟨by rw [← hy.1, Nat.sub_self, ffR, if_pos (by unfold cE; omega)]; rfl, rfl⟩
        · refine V_iload_n (pc' := 48) 1 X dX3_firstFault_47 rfl rfl rfl ?_
          refine V_bipush (pc' := 50) (nI 10) X dX3_firstFault_48 kb_10 rfl ?_
          refine V_icmp_ne (pc' := 53) (C := (pl f n) = 10) 57 X dX3_firstFault_50 (by decide) rfl (nI_eq (by have := pl_le f n; omega) (by decide)) (fun h50 => ?_) (fun h50 => ?_)
          · refine V_iconst (pc' := 58) (nI 0) X dX3_firstFault_57 ki_0 rfl ?_
            refine V_istore_n (pc' := 59) [(0, .ref (p 0)), (1, .int (nI (pl f n))), (2, .int (nI 0))] [1, 2, 0] X dX3_firstFault_58 rfl (Nat.le_of_ble_eq_true rfl) rfl rfl ?_
            refine V_iload_n (pc' := 60) 2 X dX3_firstFault_59 rfl rfl rfl ?_
            refine V_if_eq (pc' := 63) (C := 0 = 0) 67 X dX3_firstFault_60 (by decide) rfl (z_eq0 (by omega)) (fun _ => ?_) (fun hz => absurd (by decide) hz)
            refine V_aload_n (pc' := 68) 0 X dX3_firstFault_67 rfl rfl rfl ?_
            refine V_get (pc' := 71) 0 X F15 rfl rfl dX3_firstFault_68 rfl ?_
            exact V_ireturn (v := nI n) [PD G p f n] hQ X hrt rfl dX3_firstFault_71 (Nat.le_of_ble_eq_true rfl) (Nat.le_of_ble_eq_true rfl) (List.Perm.refl _) ⟨by rw [← hy.1, Nat.sub_self, ffR, if_neg (by unfold cE; omega)]; rfl, rfl⟩
          · refine V_iconst (pc' := 54) (nI 1) X dX3_firstFault_53 ki_1 rfl ?_
            refine V_goto (pc' := 58) X dX3_firstFault_54 (by decide) ?_
            refine V_istore_n (pc' := 59) [(0, .ref (p 0)), (1, .int (nI (pl f n))), (2, .int (nI 1))] [1, 2, 0] X dX3_firstFault_58 rfl (Nat.le_of_ble_eq_true rfl) rfl rfl ?_
            refine V_iload_n (pc' := 60) 2 X dX3_firstFault_59 rfl rfl rfl ?_
            refine V_if_eq (pc' := 63) (C := 1 = 0) 67 X dX3_firstFault_60 (by decide) rfl (z_eq0 (by omega)) (fun hz => absurd hz (by decide)) (fun _ => ?_)
            refine V_iconst (pc' := 64) (-1) X dX3_firstFault_63 rfl rfl ?_
            refine V_goto (pc' := 71) X dX3_firstFault_64 (by decide) ?_
            exact V_ireturn (v := (-1)) [PD G p f n] hQ X hrt rfl dX3_firstFault_71 (Nat.le_of_ble_eq_true rfl) (Nat.le_of_ble_eq_true rfl) (List.Perm.refl _) ⟨by rw [← hy.1, Nat.sub_self, ffR, if_pos (by unfold cE; omega)]; rfl, rfl⟩
    · intro i hi_i ih hy
      show V E G A 3 [PD G p f n] 0 0 Q 4 [(0, .ref (p 0)), (1, .int (nI (pl f i))), (2, .int (nI i))] []
      have hfi := hf i hi_i
      have hp10 := pl_le f i
      have hp11 := pl_le f (i + 1)
      have hp0 := hy.2
      refine V_iload_n (pc' := 5) 2 X dX3_firstFault_4 rfl rfl rfl ?_
      refine V_aload_n (pc' := 6) 0 X dX3_firstFault_5 rfl rfl rfl ?_
      refine V_get (pc' := 9) 0 X F15 rfl rfl dX3_firstFault_6 rfl ?_
      refine V_icmp_ge (pc' := 12) (C := n ≤ i) 35 X dX3_firstFault_9 (by decide) rfl (nI_leI (by omega) (by omega)) (fun hz => absurd hz (by omega)) (fun _ => ?_)
      refine V_iload_n (pc' := 13) 1 X dX3_firstFault_12 rfl rfl rfl ?_
      refine V_aload_n (pc' := 14) 0 X dX3_firstFault_13 rfl rfl rfl ?_
      refine V_get (pc' := 17) 0 X F11 rfl rfl dX3_firstFault_14 rfl ?_
      refine V_iload_n (pc' := 18) 2 X dX3_firstFault_17 rfl rfl rfl ?_
      refine V_cald (pc' := 19) (v := nI (f i)) 1 i X rfl (by omega) (by decide) rfl dX3_firstFault_18 rfl ?_
      refine V_callS (pc' := 22) (As := [.int (nI (pl f i)), .int (nI (f i))]) (st := []) [] [0] (show (List.range 1).Perm ([] ++ [0]) by decide) X (c_X3_placeAfter l G (pl f i) (f i) (by omega) (by omega) (by omega)) rfl gX3_firstFault_X3_placeAfter rfl rfl (Nat.le_of_ble_eq_true rfl) ⟨Nat.le_of_ble_eq_true rfl, Nat.le_of_ble_eq_true rfl⟩ ⟨Nat.le_of_ble_eq_true rfl, Nat.le_of_ble_eq_true rfl⟩ dX3_firstFault_19 rfl (fun v_ u_ hp_ => ?_)
      obtain ⟨rfl, rfl⟩ := hp_
      show V E G A 3 [PD G p f n] 0 0 Q 22 [(0, .ref (p 0)), (1, .int (nI (pl f i))), (2, .int (nI i))] [.int (nI (pa (pl f i) (f i)))]
      refine V_istore_n (pc' := 23) [(0, .ref (p 0)), (1, .int (nI (pa (pl f i) (f i)))), (2, .int (nI i))] [1, 0, 2] X dX3_firstFault_22 rfl (Nat.le_of_ble_eq_true rfl) rfl rfl ?_
      refine V_iload_n (pc' := 24) 1 X dX3_firstFault_23 rfl rfl rfl ?_
      refine V_if_ne (pc' := 27) (C := (pa (pl f i) (f i)) = 0) 29 X dX3_firstFault_24 (by decide) rfl (z_eq0 (Nat.lt_of_le_of_lt (pa_le _ _) (by decide))) (fun h24 => ?_) (fun h24 => ?_)
      · refine V_iinc (pc' := 32) [(0, .ref (p 0)), (1, .int (nI (pa (pl f i) (f i)))), (2, .int (nI (i + 1)))] 2 [1, 2, 0] X dX3_firstFault_29 rfl (nI_i1 _) (Nat.le_of_ble_eq_true rfl) rfl rfl ?_
        refine V_goto (pc' := 4) X dX3_firstFault_32 (by decide) ?_
        have est : ffR f n (n - i) = if pl f (i + 1) = 0 then some i else ffR f n (n - (i + 1)) := by rw [show n - i = (n - (i + 1)) + 1 by omega, ffR, show n - (n - (i + 1)) = i + 1 by omega, show n - (n - (i + 1) + 1) = i by omega]
        exact ih ⟨by rw [← hy.1, est]; exact (if_neg h24).symm, Nat.pos_of_ne_zero h24⟩
      · refine V_iload_n (pc' := 28) 2 X dX3_firstFault_27 rfl rfl rfl ?_
        have est : ffR f n (n - i) = if pl f (i + 1) = 0 then some i else ffR f n (n - (i + 1)) := by rw [show n - i = (n - (i + 1)) + 1 by omega, ffR, show n - (n - (i + 1)) = i + 1 by omega, show n - (n - (i + 1) + 1) = i by omega]
        exact V_ireturn (v := nI i) [PD G p f n] hQ X hrt rfl dX3_firstFault_28 (Nat.le_of_ble_eq_true rfl) (Nat.le_of_ble_eq_true rfl) (List.Perm.refl _) ⟨by rw [← hy.1, est, show pl f (i + 1) = 0 from h24, if_pos rfl]; rfl, rfl⟩
  exact lp_1 0 (Nat.zero_le _) ⟨rfl, Nat.le_refl _⟩

set_option maxHeartbeats 4000000 in
set_option maxRecDepth 100000 in
theorem c_X3_clear (l : Launch) (G : gT) (p f : Nat → Nat) (n : Nat) : CM l G yX3_clear wsX3_clear 1 20 0 [.ref (p 0)] [PD G p f n] 0 0 (fun v u => v = none ∧ u = [PD G p f 0]) := by
  refine CM_of RX3 0 0 rfl rfl (by decide) (by decide +kernel) (Nat.le_of_ble_eq_true rfl) (fun E A X hrt hnm => ?_)
  have F15 := Fld_of (idx := 15) 3 1 X (by decide) (by decide) (by decide +kernel) (by decide +kernel)
  generalize hQ : QM E G A _ _ _ = Q
  show V E G A 1 [PD G p f n] 0 0 Q 0 [(0, .ref (p 0))] []
  refine V_aload_n (pc' := 1) 0 X dX3_clear_0 rfl rfl rfl ?_
  refine V_iconst (pc' := 2) (nI 0) X dX3_clear_1 ki_0 rfl ?_
  refine V_ws [[((p 0), .inr (3, [.ref (p 1), .int (nI n)])), ((p 1), .inl (G.2 1, 60, .inl (nf f)))]] rfl ?_
  refine V_put (pc' := 5) 0 [[((p 0), .inr (3, [.ref (p 1), .int (nI 0)])), ((p 1), .inl (G.2 1, 60, .inl (nf f)))]] X F15 rfl rfl rfl rfl (Nat.le_of_ble_eq_true rfl) rfl dX3_clear_2 rfl ?_
  refine V_ws [PD G p f 0] rfl ?_
  exact V_return [PD G p f 0] hQ X hrt dX3_clear_5 (Nat.le_of_ble_eq_true rfl) (Nat.le_of_ble_eq_true rfl) (List.Perm.refl _) ⟨rfl, rfl⟩

set_option maxHeartbeats 4000000 in
set_option maxRecDepth 100000 in
theorem c_X3_hasRoomFor (l : Launch) (G : gT) (p f : Nat → Nat) (n c : Nat) (hn : n ≤ 60) (hc : c ≤ 8) : CM l G yX3_hasRoomFor wsX3_hasRoomFor 1 21 1 [.ref (p 0), .int (nI c)] [PD G p f n] 0 0 (fun v u => v = some (.int (nI (if n + c ≤ 60 then 1 else 0))) ∧ u = [PD G p f n]) := by
  refine CM_of RX3 0 0 rfl rfl (by decide) (by decide +kernel) (Nat.le_of_ble_eq_true rfl) (fun E A X hrt hnm => ?_)
  have F15 := Fld_of (idx := 15) 3 1 X (by decide) (by decide) (by decide +kernel) (by decide +kernel)
  generalize hQ : QM E G A _ _ _ = Q
  show V E G A 2 [PD G p f n] 0 0 Q 0 [(0, .ref (p 0)), (1, .int (nI c))] []
  refine V_aload_n (pc' := 1) 0 X dX3_hasRoomFor_0 rfl rfl rfl ?_
  refine V_get (pc' := 4) 0 X F15 rfl rfl dX3_hasRoomFor_1 rfl ?_
  refine V_iload_n (pc' := 5) 1 X dX3_hasRoomFor_4 rfl rfl rfl ?_
  refine V_iadd (pc' := 6) (nI (n + c)) X dX3_hasRoomFor_5 (nI_add _ _) rfl ?_
  refine V_bipush (pc' := 8) (nI 60) X dX3_hasRoomFor_6 kb_60 rfl ?_
  refine V_icmp_gt (pc' := 11) (C := 60 < (n + c)) 15 X dX3_hasRoomFor_8 (by decide) rfl (nI_ltI (by omega) (by omega)) (fun h8 => ?_) (fun h8 => ?_)
  · refine V_iconst (pc' := 16) (nI 0) X dX3_hasRoomFor_15 ki_0 rfl ?_
    exact V_ireturn (v := nI 0) [PD G p f n] hQ X hrt rfl dX3_hasRoomFor_16 (Nat.le_of_ble_eq_true rfl) (Nat.le_of_ble_eq_true rfl) (List.Perm.refl _) ⟨by rw [if_neg (by omega)], rfl⟩
  · refine V_iconst (pc' := 12) (nI 1) X dX3_hasRoomFor_11 ki_1 rfl ?_
    refine V_goto (pc' := 16) X dX3_hasRoomFor_12 (by decide) ?_
    exact V_ireturn (v := nI 1) [PD G p f n] hQ X hrt rfl dX3_hasRoomFor_16 (Nat.le_of_ble_eq_true rfl) (Nat.le_of_ble_eq_true rfl) (List.Perm.refl _) ⟨by rw [if_pos (by omega)], rfl⟩

set_option maxHeartbeats 4000000 in
set_option maxRecDepth 100000 in
theorem c_X3_charactersIn (l : Launch) (G : gT) (w : Nat) (hu : w < 2 ^ 64) : CM l G yX3_charactersIn wsX3_charactersIn 1 26 1 [.long (lN w)] [] 0 0 (fun v u => v = some (.int (nI (cin w))) ∧ u = []) := by
  refine CM_of RX3 0 0 rfl rfl (by decide) (by decide +kernel) (Nat.le_of_ble_eq_true rfl) (fun E A X hrt hnm => ?_)
  generalize hQ : QM E G A _ _ _ = Q
  show V E G A 7 [] 0 0 Q 0 [(0, .long (lN w))] []
  refine V_iconst (pc' := 1) (nI 0) X dX3_charactersIn_0 ki_0 rfl ?_
  refine V_istore_n (pc' := 2) [(0, .long (lN w)), (2, .int (nI 0))] [1, 0] X dX3_charactersIn_1 rfl (Nat.le_of_ble_eq_true rfl) rfl rfl ?_
  have lp_1 : ∀ i, i ≤ 8 → (cinF w (8 - i) i = cin w) → V E G A 7 [] 0 0 Q 2 [(0, .long (lN w)), (2, .int (nI i))] [] := by
    refine loopD 8 ?_ ?_
    · intro hy
      show V E G A 7 [] 0 0 Q 2 [(0, .long (lN w)), (2, .int (nI 8))] []
      refine V_iload_n (pc' := 3) 1 X dX3_charactersIn_2 rfl rfl rfl ?_
      refine V_bipush (pc' := 5) (nI 8) X dX3_charactersIn_3 kb_8 rfl ?_
      refine V_icmp_ge (pc' := 8) (C := 8 ≤ 8) 56 X dX3_charactersIn_5 (by decide) rfl (nI_leI (by omega) (by omega)) (fun _ => ?_) (fun hz => absurd (by omega) hz)
      refine V_bipush (pc' := 58) (nI 8) X dX3_charactersIn_56 kb_8 rfl ?_
      exact V_ireturn (v := nI 8) [] hQ X hrt rfl dX3_charactersIn_58 (Nat.le_of_ble_eq_true rfl) (Nat.le_of_ble_eq_true rfl) (List.Perm.refl _) ⟨by rw [← hy]; rfl, rfl⟩
    · intro i hi_i ih hy
      show V E G A 7 [] 0 0 Q 2 [(0, .long (lN w)), (2, .int (nI i))] []
      refine V_iload_n (pc' := 3) 1 X dX3_charactersIn_2 rfl rfl rfl ?_
      refine V_bipush (pc' := 5) (nI 8) X dX3_charactersIn_3 kb_8 rfl ?_
      refine V_icmp_ge (pc' := 8) (C := 8 ≤ i) 56 X dX3_charactersIn_5 (by decide) rfl (nI_leI (by omega) (by omega)) (fun hz => absurd hz (by omega)) (fun _ => ?_)
      refine V_lload_n (pc' := 9) 0 X dX3_charactersIn_8 rfl rfl rfl ?_
      refine V_iload_n (pc' := 10) 1 X dX3_charactersIn_9 rfl rfl rfl ?_
      refine V_bipush (pc' := 12) (nI 8) X dX3_charactersIn_10 kb_8 rfl ?_
      refine V_imul (pc' := 13) (nI (i * 8)) X dX3_charactersIn_12 (pk_mul _ _) rfl ?_
      refine V_lushr (pc' := 14) (lN (w / 2 ^ (i * 8))) X dX3_charactersIn_13 (wb_shr hu (by omega)) rfl ?_
      refine V_lstore_n (pc' := 15) [(0, .long (lN w)), (2, .int (nI i)), (3, .long (lN (w / 2 ^ (i * 8))))] [1, 2, 0] X dX3_charactersIn_14 rfl (Nat.le_of_ble_eq_true rfl) rfl rfl ?_
      refine V_lload_n (pc' := 16) 2 X dX3_charactersIn_15 rfl rfl rfl ?_
      refine V_lconst (pc' := 17) (lN 0) X dX3_charactersIn_16 (by decide +kernel) rfl ?_
      refine V_lcmp (pc' := 18) (lg_cmp (lN (w / 2 ^ (i * 8))) (lN 0)) X dX3_charactersIn_17 rfl rfl ?_
      refine V_if_ne (pc' := 21) (C := (lg_cmp (lN (w / 2 ^ (i * 8))) (lN 0)) = 0) 23 X dX3_charactersIn_18 (by decide) rfl Iff.rfl (fun h18 => ?_) (fun h18 => ?_)
      · have h18 : ¬ w / 2 ^ (i * 8) = 0 := fun q => h18 ((z_lc0 (div_lt64 hu _)).mpr q)
        refine V_lload_n (pc' := 24) 2 X dX3_charactersIn_23 rfl rfl rfl ?_
        refine V_ldc2 (pc' := 27) (v := 255) (lN 255) X (by decide +kernel) (by decide +kernel) dX3_charactersIn_24 rfl ?_
        refine V_land (pc' := 28) (lN (w / 2 ^ (i * 8) % 256)) X dX3_charactersIn_27 (wb_mask (k := 8) (div_lt64 hu _) (by decide)) rfl ?_
        refine V_lstore (pc' := 30) [(0, .long (lN w)), (2, .int (nI i)), (3, .long (lN (w / 2 ^ (i * 8)))), (5, .long (lN (w / 2 ^ (i * 8) % 256)))] [1, 2, 3, 0] X dX3_charactersIn_28 (Nat.le_of_ble_eq_true rfl) rfl rfl ?_
        refine V_lload (pc' := 32) 3 X dX3_charactersIn_30 rfl rfl ?_
        refine V_ldc2 (pc' := 35) (v := 33) (lN 33) X (by decide +kernel) (by decide +kernel) dX3_charactersIn_32 rfl ?_
        refine V_lcmp (pc' := 36) (lg_cmp (lN (w / 2 ^ (i * 8) % 256)) (lN 33)) X dX3_charactersIn_35 rfl rfl ?_
        refine V_if_lt (pc' := 39) (C := (lg_cmp (lN (w / 2 ^ (i * 8) % 256)) (lN 33)) < 0) 48 X dX3_charactersIn_36 (by decide) rfl Iff.rfl (fun h36 => ?_) (fun h36 => ?_)
        · have h36 := (z_lclt (Nat.lt_trans (Nat.mod_lt _ (by decide)) (by decide)) (by decide)).mp h36
          refine V_iconst (pc' := 49) (nI 0) X dX3_charactersIn_48 ki_0 rfl ?_
          exact V_ireturn (v := nI 0) [] hQ X hrt rfl dX3_charactersIn_49 (Nat.le_of_ble_eq_true rfl) (Nat.le_of_ble_eq_true rfl) (List.Perm.refl _) ⟨by rw [← hy, cinF_step w i hi_i, if_neg h18, if_pos (by omega)], rfl⟩
        · have h36 : ¬ w / 2 ^ (i * 8) % 256 < 33 := fun q => h36 ((z_lclt (Nat.lt_trans (Nat.mod_lt _ (by decide)) (by decide)) (by decide)).mpr q)
          refine V_lload (pc' := 41) 3 X dX3_charactersIn_39 rfl rfl ?_
          refine V_ldc2 (pc' := 44) (v := 126) (lN 126) X (by decide +kernel) (by decide +kernel) dX3_charactersIn_41 rfl ?_
          refine V_lcmp (pc' := 45) (lg_cmp (lN (w / 2 ^ (i * 8) % 256)) (lN 126)) X dX3_charactersIn_44 rfl rfl ?_
          refine V_if_le (pc' := 48) (C := (lg_cmp (lN (w / 2 ^ (i * 8) % 256)) (lN 126)) ≤ 0) 50 X dX3_charactersIn_45 (by decide) rfl Iff.rfl (fun h45 => ?_) (fun h45 => ?_)
          · have h45 := (z_lcle (Nat.lt_trans (Nat.mod_lt _ (by decide)) (by decide)) (by decide)).mp h45
            refine V_iinc (pc' := 53) [(0, .long (lN w)), (2, .int (nI (i + 1))), (3, .long (lN (w / 2 ^ (i * 8)))), (5, .long (lN (w / 2 ^ (i * 8) % 256)))] 1 [1, 0, 2, 3] X dX3_charactersIn_50 rfl (nI_i1 _) (Nat.le_of_ble_eq_true rfl) rfl rfl ?_
            refine V_goto (pc' := 2) X dX3_charactersIn_53 (by decide) ?_
            refine V_lv [0, 1] [(0, .long (lN w)), (2, .int (nI (i + 1)))] rfl ?_
            exact ih (by rw [← hy, cinF_step w i hi_i, if_neg h18, if_neg (by omega)])
          · have h45 : ¬ w / 2 ^ (i * 8) % 256 ≤ 126 := fun q => h45 ((z_lcle (Nat.lt_trans (Nat.mod_lt _ (by decide)) (by decide)) (by decide)).mpr q)
            refine V_iconst (pc' := 49) (nI 0) X dX3_charactersIn_48 ki_0 rfl ?_
            exact V_ireturn (v := nI 0) [] hQ X hrt rfl dX3_charactersIn_49 (Nat.le_of_ble_eq_true rfl) (Nat.le_of_ble_eq_true rfl) (List.Perm.refl _) ⟨by rw [← hy, cinF_step w i hi_i, if_neg h18, if_pos (by omega)], rfl⟩
      · have h18 := (z_lc0 (div_lt64 hu _)).mp h18
        refine V_iload_n (pc' := 22) 1 X dX3_charactersIn_21 rfl rfl rfl ?_
        exact V_ireturn (v := nI i) [] hQ X hrt rfl dX3_charactersIn_22 (Nat.le_of_ble_eq_true rfl) (Nat.le_of_ble_eq_true rfl) (List.Perm.refl _) ⟨by rw [← hy, cinF_step w i hi_i, if_pos h18], rfl⟩
  exact lp_1 0 (Nat.zero_le _) rfl

set_option maxHeartbeats 4000000 in
set_option maxRecDepth 100000 in
theorem c_X3_append (l : Launch) (G : gT) (p f : Nat → Nat) (n w c : Nat) (hu : w < 2 ^ 64) (hc1 : 1 ≤ c) (hc : c ≤ 8) (hn : n + c ≤ 60) : CM l G yX3_append wsX3_append 1 24 2 [.ref (p 0), .long (lN w), .int (nI c)] [PD G p f n] 0 0 (fun v u => v = none ∧ u = [PD G p (ap f n w c) (n + c)]) := by
  refine CM_of RX3 0 0 rfl rfl (by decide) (by decide +kernel) (Nat.le_of_ble_eq_true rfl) (fun E A X hrt hnm => ?_)
  have F11 := Fld_of (idx := 11) 3 0 X (by decide) (by decide) (by decide +kernel) (by decide +kernel)
  have F15 := Fld_of (idx := 15) 3 1 X (by decide) (by decide) (by decide +kernel) (by decide +kernel)
  generalize hQ : QM E G A _ _ _ = Q
  show V E G A 5 [PD G p f n] 0 0 Q 0 [(0, .ref (p 0)), (1, .long (lN w)), (3, .int (nI c))] []
  refine V_iload_n (pc' := 1) 2 X dX3_append_0 rfl rfl rfl ?_
  refine V_iconst (pc' := 2) (nI 1) X dX3_append_1 ki_1 rfl ?_
  refine V_isub (pc' := 3) ((nI (c - 0) - nI 1)) X dX3_append_2 rfl rfl ?_
  refine V_istore (pc' := 5) [(0, .ref (p 0)), (1, .long (lN w)), (3, .int (nI c)), (4, .int (nI (c - 0) - nI 1))] [1, 2, 3, 0] X dX3_append_3 (Nat.le_of_ble_eq_true rfl) rfl rfl ?_
  have lp_1 : ∀ i, i ≤ c → V E G A 5 [PD G p (apF f n w c i) (n + i)] 0 0 Q 5 [(0, .ref (p 0)), (1, .long (lN w)), (3, .int (nI c)), (4, .int (nI (c - i) - nI 1))] [] := by
    refine loopD c ?_ ?_
    · show V E G A 5 [PD G p (apF f n w c c) (n + c)] 0 0 Q 5 [(0, .ref (p 0)), (1, .long (lN w)), (3, .int (nI c)), (4, .int (nI (c - c) - nI 1))] []
      rw [show nI (c - c) - nI 1 = (-1 : Int32) by rw [Nat.sub_self]; decide +kernel]
      show V E G A 5 [PD G p (apF f n w c c) (n + c)] 0 0 Q 5 [(0, .ref (p 0)), (1, .long (lN w)), (3, .int (nI c)), (4, .int (-1 : Int32))] []
      refine V_iload (pc' := 7) 3 X dX3_append_5 rfl rfl ?_
      refine V_if_lt (pc' := 10) (C := (-1 : Int32) < 0) 57 X dX3_append_7 (by decide) rfl Iff.rfl (fun _ => ?_) (fun hz => absurd (by decide +kernel) hz)
      refine V_ws [[((p 0), .inr (3, [.ref (p 1), .int (nI (n + c))])), ((p 1), .inl (G.2 1, 60, .inl (nf (apF f n w c c))))]] rfl ?_
      refine V_wsq [[((p 0), .inr (3, [.ref (p 1), .int (nI (n + c))])), ((p 1), .inl (G.2 1, 60, .inl (nf (ap f n w c))))]] (wsq.cons (weq.rf _) (wsq.cons (weq.row (fun k hk => by show nI (apF f n w c c k) = nI (ap f n w c k); rw [apF_eq]; rfl)) (wsq.rf _))) ?_
      refine V_ws [PD G p (ap f n w c) (n + c)] rfl ?_
      exact V_return [PD G p (ap f n w c) (n + c)] hQ X hrt dX3_append_57 (Nat.le_of_ble_eq_true rfl) (Nat.le_of_ble_eq_true rfl) (List.Perm.refl _) ⟨rfl, rfl⟩
    · intro i hi_i ih
      show V E G A 5 [PD G p (apF f n w c i) (n + i)] 0 0 Q 5 [(0, .ref (p 0)), (1, .long (lN w)), (3, .int (nI c)), (4, .int (nI (c - i) - nI 1))] []
      rw [pk_sub (a := c - i) (b := 1) (by omega)]
      show V E G A 5 [PD G p (apF f n w c i) (n + i)] 0 0 Q 5 [(0, .ref (p 0)), (1, .long (lN w)), (3, .int (nI c)), (4, .int (nI (c - i - 1)))] []
      refine V_iload (pc' := 7) 3 X dX3_append_5 rfl rfl ?_
      refine V_if_lt (pc' := 10) (C := False) 57 X dX3_append_7 (by decide) rfl (z_lt0 (by omega)) (fun hz => absurd hz (id)) (fun _ => ?_)
      refine V_aload_n (pc' := 11) 0 X dX3_append_10 rfl rfl rfl ?_
      refine V_get (pc' := 14) 0 X F15 rfl rfl dX3_append_11 rfl ?_
      refine V_bipush (pc' := 16) (nI 60) X dX3_append_14 kb_60 rfl ?_
      refine V_icmp_ge (pc' := 19) (C := 60 ≤ (n + i)) 57 X dX3_append_16 (by decide) rfl (nI_leI (by omega) (by omega)) (fun hz => absurd hz (by omega)) (fun _ => ?_)
      refine V_aload_n (pc' := 20) 0 X dX3_append_19 rfl rfl rfl ?_
      refine V_get (pc' := 23) 0 X F11 rfl rfl dX3_append_20 rfl ?_
      refine V_aload_n (pc' := 24) 0 X dX3_append_23 rfl rfl rfl ?_
      refine V_get (pc' := 27) 0 X F15 rfl rfl dX3_append_24 rfl ?_
      refine V_lload_n (pc' := 28) 1 X dX3_append_27 rfl rfl rfl ?_
      refine V_iload (pc' := 30) 3 X dX3_append_28 rfl rfl ?_
      refine V_bipush (pc' := 32) (nI 8) X dX3_append_30 kb_8 rfl ?_
      refine V_imul (pc' := 33) (nI ((c - i - 1) * 8)) X dX3_append_32 (pk_mul _ _) rfl ?_
      refine V_lushr (pc' := 34) (lN (w / 2 ^ ((c - i - 1) * 8))) X dX3_append_33 (wb_shr hu (by omega)) rfl ?_
      refine V_ldc2 (pc' := 37) (v := 255) (lN 255) X (by decide +kernel) (by decide +kernel) dX3_append_34 rfl ?_
      refine V_land (pc' := 38) (lN (w / 2 ^ ((c - i - 1) * 8) % 256)) X dX3_append_37 (wb_mask (k := 8) (div_lt64 hu _) (by decide)) rfl ?_
      refine V_l2i (pc' := 39) (nI (w / 2 ^ ((c - i - 1) * 8) % 256)) X dX3_append_38 (lN_i _) rfl ?_
      refine V_i2c (pc' := 40) (nI (w / 2 ^ ((c - i - 1) * 8) % 256)) X dX3_append_39 (z_i2c (Nat.lt_trans (Nat.mod_lt _ (by decide)) (by decide))) rfl ?_
      refine V_ws [[((p 0), .inr (3, [.ref (p 1), .int (nI (n + i))])), ((p 1), .inl (G.2 1, 60, .inl (nf (apF f n w c i))))]] rfl ?_
      refine V_cast (pc' := 41) 1 (n + i) [[((p 0), .inr (3, [.ref (p 1), .int (nI (n + i))])), ((p 1), .inl (G.2 1, 60, .inl (upd (nf (apF f n w c i)) (n + i) (nI (w / 2 ^ ((c - i - 1) * 8) % 256)))))]] X rfl (by omega) (by decide) (z_char (by omega)) rfl dX3_append_40 rfl ?_
      refine V_ws [[((p 0), .inr (3, [.ref (p 1), .int (nI (n + i))])), ((p 1), .inl (G.2 1, 60, .inl (nf (va_up (apF f n w c i) (n + i) (w / 2 ^ ((c - i - 1) * 8) % 256)))))]] (by simp only [nf_upd]) ?_
      refine V_aload_n (pc' := 42) 0 X dX3_append_41 rfl rfl rfl ?_
      refine V_dup (pc' := 43) X dX3_append_42 rfl rfl ?_
      refine V_get (pc' := 46) 0 X F15 rfl rfl dX3_append_43 rfl ?_
      refine V_iconst (pc' := 47) (nI 1) X dX3_append_46 ki_1 rfl ?_
      refine V_iadd (pc' := 48) (nI ((n + i) + 1)) X dX3_append_47 (nI_add _ _) rfl ?_
      refine V_put (pc' := 51) 0 [[((p 0), .inr (3, [.ref (p 1), .int (nI ((n + i) + 1))])), ((p 1), .inl (G.2 1, 60, .inl (nf (va_up (apF f n w c i) (n + i) (w / 2 ^ ((c - i - 1) * 8) % 256)))))]] X F15 rfl rfl rfl rfl (Nat.le_of_ble_eq_true rfl) rfl dX3_append_48 rfl ?_
      refine V_iinc (pc' := 54) [(0, .ref (p 0)), (1, .long (lN w)), (3, .int (nI c)), (4, .int (nI (c - (i + 1)) - nI 1))] 3 [1, 2, 3, 0] X dX3_append_51 rfl (z_dec _) (Nat.le_of_ble_eq_true rfl) rfl rfl ?_
      refine V_goto (pc' := 5) X dX3_append_54 (by decide) ?_
      refine V_ws [PD G p (apF f n w c (i + 1)) (n + (i + 1))] rfl ?_
      exact ih
  exact lp_1 0 (Nat.zero_le _)

set_option maxHeartbeats 4000000 in
set_option maxRecDepth 100000 in
theorem c_X3_at (l : Launch) (G : gT) (p f : Nat → Nat) (n i : Nat) (hn : n ≤ 60) (hi : i < n) (hfi : f i < 128) : CM l G yX3_at wsX3_at 1 21 1 [.ref (p 0), .int (nI i)] [PD G p f n] 0 0 (fun v u => v = some (.int (nI (f i))) ∧ u = [PD G p f n]) := by
  refine CM_of RX3 0 0 rfl rfl (by decide) (by decide +kernel) (Nat.le_of_ble_eq_true rfl) (fun E A X hrt hnm => ?_)
  have F11 := Fld_of (idx := 11) 3 0 X (by decide) (by decide) (by decide +kernel) (by decide +kernel)
  have F15 := Fld_of (idx := 15) 3 1 X (by decide) (by decide) (by decide +kernel) (by decide +kernel)
  generalize hQ : QM E G A _ _ _ = Q
  show V E G A 2 [PD G p f n] 0 0 Q 0 [(0, .ref (p 0)), (1, .int (nI i))] []
  refine V_iload_n (pc' := 1) 1 X dX3_at_0 rfl rfl rfl ?_
  refine V_if_lt (pc' := 4) (C := False) 21 X dX3_at_1 (by decide) rfl (z_lt0 (by omega)) (fun hz => absurd hz (by decide)) (fun _ => ?_)
  refine V_iload_n (pc' := 5) 1 X dX3_at_4 rfl rfl rfl ?_
  refine V_aload_n (pc' := 6) 0 X dX3_at_5 rfl rfl rfl ?_
  refine V_get (pc' := 9) 0 X F15 rfl rfl dX3_at_6 rfl ?_
  refine V_icmp_ge (pc' := 12) (C := n ≤ i) 21 X dX3_at_9 (by decide) rfl (nI_leI (by omega) (by omega)) (fun hz => absurd hz (by omega)) (fun _ => ?_)
  refine V_aload_n (pc' := 13) 0 X dX3_at_12 rfl rfl rfl ?_
  refine V_get (pc' := 16) 0 X F11 rfl rfl dX3_at_13 rfl ?_
  refine V_iload_n (pc' := 17) 1 X dX3_at_16 rfl rfl rfl ?_
  refine V_cald (pc' := 18) (v := nI (f i)) 1 i X rfl (by omega) (by decide) rfl dX3_at_17 rfl ?_
  refine V_goto (pc' := 22) X dX3_at_18 (by decide) ?_
  exact V_ireturn (v := nI (f i)) [PD G p f n] hQ X hrt (pk_charN (Nat.lt_trans hfi (by decide))).1 dX3_at_22 (Nat.le_of_ble_eq_true rfl) (Nat.le_of_ble_eq_true rfl) (List.Perm.refl _) ⟨rfl, rfl⟩

set_option maxHeartbeats 4000000 in
set_option maxRecDepth 100000 in
theorem c_X3_digitAt (l : Launch) (G : gT) (p f : Nat → Nat) (n i : Nat) (hn : n ≤ 60) (hi : i < n) (hd : 48 ≤ f i) (hfi : f i < 128) : CM l G yX3_digitAt wsX3_digitAt 2 42 1 [.ref (p 0), .int (nI i)] [PD G p f n] 0 0 (fun v u => v = some (.int (nI (f i - 48))) ∧ u = [PD G p f n]) := by
  refine CM_of RX3 1 21 rfl rfl (by decide) (by decide +kernel) (Nat.le_of_ble_eq_true rfl) (fun E A X hrt hnm => ?_)
  generalize hQ : QM E G A _ _ _ = Q
  show V E G A 2 [PD G p f n] 0 0 Q 0 [(0, .ref (p 0)), (1, .int (nI i))] []
  refine V_aload_n (pc' := 1) 0 X dX3_digitAt_0 rfl rfl rfl ?_
  refine V_iload_n (pc' := 2) 1 X dX3_digitAt_1 rfl rfl rfl ?_
  refine V_callV (pc' := 5) (As := [.int (nI i)]) (st := []) 3 0 [0] [] (show (List.range 1).Perm ([0] ++ []) by decide) X (c_X3_at l G p f n i hn (by omega) (by omega)) rfl gX3_digitAt_X3_at rfl (by decide) rfl rfl rfl (Nat.le_of_ble_eq_true rfl) ⟨Nat.le_of_ble_eq_true rfl, Nat.le_of_ble_eq_true rfl⟩ ⟨Nat.le_of_ble_eq_true rfl, Nat.le_of_ble_eq_true rfl⟩ dX3_digitAt_2 rfl (fun v_ u_ hp_ => ?_)
  obtain ⟨rfl, rfl⟩ := hp_
  show V E G A 2 [PD G p f n] 0 0 Q 5 [(0, .ref (p 0)), (1, .int (nI i))] [.int (nI (f i))]
  refine V_bipush (pc' := 7) (nI 48) X dX3_digitAt_5 kb_48 rfl ?_
  refine V_isub (pc' := 8) (nI ((f i) - 48)) X dX3_digitAt_7 (pk_sub (by omega)) rfl ?_
  exact V_ireturn (v := nI ((f i) - 48)) [PD G p f n] hQ X hrt rfl dX3_digitAt_8 (Nat.le_of_ble_eq_true rfl) (Nat.le_of_ble_eq_true rfl) (List.Perm.refl _) ⟨rfl, rfl⟩

set_option maxHeartbeats 4000000 in
set_option maxRecDepth 100000 in
theorem c_X3_colonFrom (l : Launch) (G : gT) (p f : Nat → Nat) (n s c : Nat) (hn : n ≤ 60) (hc : c < n) (hs : s ≤ c) (hf : ∀ k, k < n → f k < 128) (h58 : f c = 58) (hno : ∀ k, s ≤ k → k < c → ¬ f k = 58) : CM l G yX3_colonFrom wsX3_colonFrom 2 43 1 [.ref (p 0), .int (nI s)] [PD G p f n] 0 0 (fun v u => v = some (.int (nI c)) ∧ u = [PD G p f n]) := by
  refine CM_of RX3 1 21 rfl rfl (by decide) (by decide +kernel) (Nat.le_of_ble_eq_true rfl) (fun E A X hrt hnm => ?_)
  have F15 := Fld_of (idx := 15) 3 1 X (by decide) (by decide) (by decide +kernel) (by decide +kernel)
  generalize hQ : QM E G A _ _ _ = Q
  show V E G A 3 [PD G p f n] 0 0 Q 0 [(0, .ref (p 0)), (1, .int (nI s))] []
  refine V_iload_n (pc' := 1) 1 X dX3_colonFrom_0 rfl rfl rfl ?_
  refine V_istore_n (pc' := 2) [(0, .ref (p 0)), (1, .int (nI s)), (2, .int (nI s))] [1, 2, 0] X dX3_colonFrom_1 rfl (Nat.le_of_ble_eq_true rfl) rfl rfl ?_
  have lp_1 : ∀ i, i ≤ (c - s) → V E G A 3 [PD G p f n] 0 0 Q 2 [(0, .ref (p 0)), (1, .int (nI s)), (2, .int (nI (s + i)))] [] := by
    refine loopD (c - s) ?_ ?_
    · show V E G A 3 [PD G p f n] 0 0 Q 2 [(0, .ref (p 0)), (1, .int (nI s)), (2, .int (nI (s + (c - s))))] []
      rw [show s + (c - s) = c by omega]
      show V E G A 3 [PD G p f n] 0 0 Q 2 [(0, .ref (p 0)), (1, .int (nI s)), (2, .int (nI c))] []
      have hfi := hf c hc
      refine V_iload_n (pc' := 3) 2 X dX3_colonFrom_2 rfl rfl rfl ?_
      refine V_aload_n (pc' := 4) 0 X dX3_colonFrom_3 rfl rfl rfl ?_
      refine V_get (pc' := 7) 0 X F15 rfl rfl dX3_colonFrom_4 rfl ?_
      refine V_icmp_ge (pc' := 10) (C := n ≤ c) 28 X dX3_colonFrom_7 (by decide) rfl (nI_leI (by omega) (by omega)) (fun hz => absurd hz (by omega)) (fun _ => ?_)
      refine V_aload_n (pc' := 11) 0 X dX3_colonFrom_10 rfl rfl rfl ?_
      refine V_iload_n (pc' := 12) 2 X dX3_colonFrom_11 rfl rfl rfl ?_
      refine V_callV (pc' := 15) (As := [.int (nI c)]) (st := []) 3 0 [0] [] (show (List.range 1).Perm ([0] ++ []) by decide) X (c_X3_at l G p f n c hn (by omega) (by omega)) rfl gX3_colonFrom_X3_at rfl (by decide) rfl rfl rfl (Nat.le_of_ble_eq_true rfl) ⟨Nat.le_of_ble_eq_true rfl, Nat.le_of_ble_eq_true rfl⟩ ⟨Nat.le_of_ble_eq_true rfl, Nat.le_of_ble_eq_true rfl⟩ dX3_colonFrom_12 rfl (fun v_ u_ hp_ => ?_)
      obtain ⟨rfl, rfl⟩ := hp_
      show V E G A 3 [PD G p f n] 0 0 Q 15 [(0, .ref (p 0)), (1, .int (nI s)), (2, .int (nI c))] [.int (nI (f c))]
      refine V_bipush (pc' := 17) (nI 58) X dX3_colonFrom_15 kb_58 rfl ?_
      refine V_icmp_ne (pc' := 20) (C := (f c) = 58) 22 X dX3_colonFrom_17 (by decide) rfl (nI_eq (by omega) (by decide)) (fun hz => absurd (h58) hz) (fun _ => ?_)
      refine V_iload_n (pc' := 21) 2 X dX3_colonFrom_20 rfl rfl rfl ?_
      exact V_ireturn (v := nI c) [PD G p f n] hQ X hrt rfl dX3_colonFrom_21 (Nat.le_of_ble_eq_true rfl) (Nat.le_of_ble_eq_true rfl) (List.Perm.refl _) ⟨rfl, rfl⟩
    · intro i hi_i ih
      show V E G A 3 [PD G p f n] 0 0 Q 2 [(0, .ref (p 0)), (1, .int (nI s)), (2, .int (nI (s + i)))] []
      have hfi := hf (s + i) (by omega)
      refine V_iload_n (pc' := 3) 2 X dX3_colonFrom_2 rfl rfl rfl ?_
      refine V_aload_n (pc' := 4) 0 X dX3_colonFrom_3 rfl rfl rfl ?_
      refine V_get (pc' := 7) 0 X F15 rfl rfl dX3_colonFrom_4 rfl ?_
      refine V_icmp_ge (pc' := 10) (C := n ≤ (s + i)) 28 X dX3_colonFrom_7 (by decide) rfl (nI_leI (by omega) (by omega)) (fun hz => absurd hz (by omega)) (fun _ => ?_)
      refine V_aload_n (pc' := 11) 0 X dX3_colonFrom_10 rfl rfl rfl ?_
      refine V_iload_n (pc' := 12) 2 X dX3_colonFrom_11 rfl rfl rfl ?_
      refine V_callV (pc' := 15) (As := [.int (nI (s + i))]) (st := []) 3 0 [0] [] (show (List.range 1).Perm ([0] ++ []) by decide) X (c_X3_at l G p f n (s + i) hn (by omega) (by omega)) rfl gX3_colonFrom_X3_at rfl (by decide) rfl rfl rfl (Nat.le_of_ble_eq_true rfl) ⟨Nat.le_of_ble_eq_true rfl, Nat.le_of_ble_eq_true rfl⟩ ⟨Nat.le_of_ble_eq_true rfl, Nat.le_of_ble_eq_true rfl⟩ dX3_colonFrom_12 rfl (fun v_ u_ hp_ => ?_)
      obtain ⟨rfl, rfl⟩ := hp_
      show V E G A 3 [PD G p f n] 0 0 Q 15 [(0, .ref (p 0)), (1, .int (nI s)), (2, .int (nI (s + i)))] [.int (nI (f (s + i)))]
      refine V_bipush (pc' := 17) (nI 58) X dX3_colonFrom_15 kb_58 rfl ?_
      refine V_icmp_ne (pc' := 20) (C := (f (s + i)) = 58) 22 X dX3_colonFrom_17 (by decide) rfl (nI_eq (by omega) (by decide)) (fun _ => ?_) (fun hz => absurd hz (hno (s + i) (by omega) (by omega)))
      refine V_iinc (pc' := 25) [(0, .ref (p 0)), (1, .int (nI s)), (2, .int (nI (s + i + 1)))] 2 [1, 2, 0] X dX3_colonFrom_22 rfl (nI_i1 _) (Nat.le_of_ble_eq_true rfl) rfl rfl ?_
      refine V_goto (pc' := 2) X dX3_colonFrom_25 (by decide) ?_
      exact ih
  have e0 := lp_1 0 (Nat.zero_le _)
  rw [Nat.add_zero] at e0
  exact e0

set_option maxHeartbeats 4000000 in
set_option maxRecDepth 100000 in
theorem c_X3_numberIn (l : Launch) (G : gT) (p f : Nat → Nat) (n s c : Nat) (hn : n ≤ 60) (hc : s + c ≤ n) (hc2 : c ≤ 2) (hd : ∀ k, s ≤ k → k < s + c → 48 ≤ f k ∧ f k ≤ 57) : CM l G yX3_numberIn wsX3_numberIn 3 66 2 [.ref (p 0), .int (nI s), .int (nI (s + c))] [PD G p f n] 0 0 (fun v u => v = some (.int (nI (num f s c))) ∧ u = [PD G p f n]) := by
  refine CM_of RX3 2 42 rfl rfl (by decide) (by decide +kernel) (Nat.le_of_ble_eq_true rfl) (fun E A X hrt hnm => ?_)
  generalize hQ : QM E G A _ _ _ = Q
  show V E G A 5 [PD G p f n] 0 0 Q 0 [(0, .ref (p 0)), (1, .int (nI s)), (2, .int (nI (s + c)))] []
  refine V_iconst (pc' := 1) (nI 0) X dX3_numberIn_0 ki_0 rfl ?_
  refine V_istore_n (pc' := 2) [(0, .ref (p 0)), (1, .int (nI s)), (2, .int (nI (s + c))), (3, .int (nI 0))] [1, 2, 3, 0] X dX3_numberIn_1 rfl (Nat.le_of_ble_eq_true rfl) rfl rfl ?_
  refine V_iload_n (pc' := 3) 1 X dX3_numberIn_2 rfl rfl rfl ?_
  refine V_istore (pc' := 5) [(0, .ref (p 0)), (1, .int (nI s)), (2, .int (nI (s + c))), (3, .int (nI 0)), (4, .int (nI s))] [1, 2, 3, 4, 0] X dX3_numberIn_3 (Nat.le_of_ble_eq_true rfl) rfl rfl ?_
  have lp_1 : ∀ i, i ≤ c → V E G A 5 [PD G p f n] 0 0 Q 5 [(0, .ref (p 0)), (1, .int (nI s)), (2, .int (nI (s + c))), (3, .int (nI (num f s i))), (4, .int (nI (s + i)))] [] := by
    refine loopD c ?_ ?_
    · show V E G A 5 [PD G p f n] 0 0 Q 5 [(0, .ref (p 0)), (1, .int (nI s)), (2, .int (nI (s + c))), (3, .int (nI (num f s c))), (4, .int (nI (s + c)))] []
      refine V_iload (pc' := 7) 4 X dX3_numberIn_5 rfl rfl ?_
      refine V_iload_n (pc' := 8) 2 X dX3_numberIn_7 rfl rfl rfl ?_
      refine V_icmp_ge (pc' := 11) (C := (s + c) ≤ (s + c)) 29 X dX3_numberIn_8 (by decide) rfl (nI_leI (by omega) (by omega)) (fun _ => ?_) (fun hz => absurd (by omega) hz)
      refine V_iload_n (pc' := 30) 3 X dX3_numberIn_29 rfl rfl rfl ?_
      exact V_ireturn (v := nI (num f s c)) [PD G p f n] hQ X hrt rfl dX3_numberIn_30 (Nat.le_of_ble_eq_true rfl) (Nat.le_of_ble_eq_true rfl) (List.Perm.refl _) ⟨rfl, rfl⟩
    · intro i hi_i ih
      show V E G A 5 [PD G p f n] 0 0 Q 5 [(0, .ref (p 0)), (1, .int (nI s)), (2, .int (nI (s + c))), (3, .int (nI (num f s i))), (4, .int (nI (s + i)))] []
      have hdi := hd (s + i) (by omega) (by omega)
      refine V_iload (pc' := 7) 4 X dX3_numberIn_5 rfl rfl ?_
      refine V_iload_n (pc' := 8) 2 X dX3_numberIn_7 rfl rfl rfl ?_
      refine V_icmp_ge (pc' := 11) (C := (s + c) ≤ (s + i)) 29 X dX3_numberIn_8 (by decide) rfl (nI_leI (by omega) (by omega)) (fun hz => absurd hz (by omega)) (fun _ => ?_)
      refine V_bipush (pc' := 13) (nI 10) X dX3_numberIn_11 kb_10 rfl ?_
      refine V_iload_n (pc' := 14) 3 X dX3_numberIn_13 rfl rfl rfl ?_
      refine V_imul (pc' := 15) (nI (10 * (num f s i))) X dX3_numberIn_14 (pk_mul _ _) rfl ?_
      refine V_aload_n (pc' := 16) 0 X dX3_numberIn_15 rfl rfl rfl ?_
      refine V_iload (pc' := 18) 4 X dX3_numberIn_16 rfl rfl ?_
      refine V_callV (pc' := 21) (As := [.int (nI (s + i))]) (st := [.int (nI (10 * (num f s i)))]) 3 0 [0] [] (show (List.range 1).Perm ([0] ++ []) by decide) X (c_X3_digitAt l G p f n (s + i) hn (by omega) (by omega) (by omega)) rfl gX3_numberIn_X3_digitAt rfl (by decide) rfl rfl rfl (Nat.le_of_ble_eq_true rfl) ⟨Nat.le_of_ble_eq_true rfl, Nat.le_of_ble_eq_true rfl⟩ ⟨Nat.le_of_ble_eq_true rfl, Nat.le_of_ble_eq_true rfl⟩ dX3_numberIn_18 rfl (fun v_ u_ hp_ => ?_)
      obtain ⟨rfl, rfl⟩ := hp_
      show V E G A 5 [PD G p f n] 0 0 Q 21 [(0, .ref (p 0)), (1, .int (nI s)), (2, .int (nI (s + c))), (3, .int (nI (num f s i))), (4, .int (nI (s + i)))] [.int (nI (f (s + i) - 48)), .int (nI (10 * (num f s i)))]
      refine V_iadd (pc' := 22) (nI ((10 * (num f s i)) + (f (s + i) - 48))) X dX3_numberIn_21 (nI_add _ _) rfl ?_
      refine V_istore_n (pc' := 23) [(0, .ref (p 0)), (1, .int (nI s)), (2, .int (nI (s + c))), (3, .int (nI ((10 * (num f s i)) + (f (s + i) - 48)))), (4, .int (nI (s + i)))] [1, 2, 3, 0, 4] X dX3_numberIn_22 rfl (Nat.le_of_ble_eq_true rfl) rfl rfl ?_
      refine V_iinc (pc' := 26) [(0, .ref (p 0)), (1, .int (nI s)), (2, .int (nI (s + c))), (3, .int (nI ((10 * (num f s i)) + (f (s + i) - 48)))), (4, .int (nI (s + i + 1)))] 4 [1, 2, 3, 4, 0] X dX3_numberIn_23 rfl (nI_i1 _) (Nat.le_of_ble_eq_true rfl) rfl rfl ?_
      refine V_goto (pc' := 5) X dX3_numberIn_26 (by decide) ?_
      exact ih
  have e0 := lp_1 0 (Nat.zero_le _)
  rw [Nat.add_zero] at e0
  exact e0
