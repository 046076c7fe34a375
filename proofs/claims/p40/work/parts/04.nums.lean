/-! numbers: ints as 'nI n' of naturals; bits; sums; rows told by recursion -/
theorem ki_0 : Int32.ofInt 0 = nI 0 := by decide +kernel
theorem ki_1 : Int32.ofInt 1 = nI 1 := by decide +kernel
theorem ki_2 : Int32.ofInt 2 = nI 2 := by decide +kernel
theorem ki_3 : Int32.ofInt 3 = nI 3 := by decide +kernel
theorem ki_4 : Int32.ofInt 4 = nI 4 := by decide +kernel
theorem ki_5 : Int32.ofInt 5 = nI 5 := by decide +kernel
theorem kb_6 : (Int8.ofInt 6).toInt32 = nI 6 := by decide +kernel
theorem kb_7 : (Int8.ofInt 7).toInt32 = nI 7 := by decide +kernel
theorem kb_8 : (Int8.ofInt 8).toInt32 = nI 8 := by decide +kernel
theorem kb_9 : (Int8.ofInt 9).toInt32 = nI 9 := by decide +kernel
theorem kb_10 : (Int8.ofInt 10).toInt32 = nI 10 := by decide +kernel
theorem kb_16 : (Int8.ofInt 16).toInt32 = nI 16 := by decide +kernel
theorem kb_20 : (Int8.ofInt 20).toInt32 = nI 20 := by decide +kernel
theorem kb_31 : (Int8.ofInt 31).toInt32 = nI 31 := by decide +kernel
theorem kb_32 : (Int8.ofInt 32).toInt32 = nI 32 := by decide +kernel
theorem kb_33 : (Int8.ofInt 33).toInt32 = nI 33 := by decide +kernel
theorem kb_36 : (Int8.ofInt 36).toInt32 = nI 36 := by decide +kernel
theorem kb_46 : (Int8.ofInt 46).toInt32 = nI 46 := by decide +kernel
theorem kb_47 : (Int8.ofInt 47).toInt32 = nI 47 := by decide +kernel
theorem kb_48 : (Int8.ofInt 48).toInt32 = nI 48 := by decide +kernel
theorem kb_49 : (Int8.ofInt 49).toInt32 = nI 49 := by decide +kernel
theorem kb_50 : (Int8.ofInt 50).toInt32 = nI 50 := by decide +kernel
theorem kb_51 : (Int8.ofInt 51).toInt32 = nI 51 := by decide +kernel
theorem kb_57 : (Int8.ofInt 57).toInt32 = nI 57 := by decide +kernel
theorem kb_58 : (Int8.ofInt 58).toInt32 = nI 58 := by decide +kernel
theorem kb_59 : (Int8.ofInt 59).toInt32 = nI 59 := by decide +kernel
theorem kb_60 : (Int8.ofInt 60).toInt32 = nI 60 := by decide +kernel
theorem kb_63 : (Int8.ofInt 63).toInt32 = nI 63 := by decide +kernel
theorem kb_70 : (Int8.ofInt 70).toInt32 = nI 70 := by decide +kernel
theorem kb_116 : (Int8.ofInt 116).toInt32 = nI 116 := by decide +kernel
theorem kb_120 : (Int8.ofInt 120).toInt32 = nI 120 := by decide +kernel
theorem kb_126 : (Int8.ofInt 126).toInt32 = nI 126 := by decide +kernel
theorem ks_140 : (Int16.ofInt 140).toInt32 = nI 140 := by decide +kernel
theorem ks_200 : (Int16.ofInt 200).toInt32 = nI 200 := by decide +kernel
theorem ks_300 : (Int16.ofInt 300).toInt32 = nI 300 := by decide +kernel
theorem ks_350 : (Int16.ofInt 350).toInt32 = nI 350 := by decide +kernel
theorem ks_420 : (Int16.ofInt 420).toInt32 = nI 420 := by decide +kernel
theorem ks_601 : (Int16.ofInt 601).toInt32 = nI 601 := by decide +kernel
theorem ks_1023 : (Int16.ofInt 1023).toInt32 = nI 1023 := by decide +kernel
theorem nI_i1 (a : Nat) : nI a + Int32.ofInt 1 = nI (a + 1) := nI_1 a
theorem nI_i3 (a : Nat) : nI a + Int32.ofInt 3 = nI (a + 3) := by rw [show Int32.ofInt 3 = nI 3 by decide +kernel, nI_add]
theorem nI_d1 {a : Nat} (h : 1 ≤ a) : nI a + Int32.ofInt (-1) = nI (a - 1) := by
  have e : a = (a - 1) + 1 := by omega
  rw [e, show Int32.ofInt (-1) = -1 by decide +kernel, pk_m1]; rfl
theorem z_and (a b : Nat) : nI a &&& nI b = nI (a &&& b) := by
  apply Int32.toBitVec_inj.1
  show BitVec.ofNat 32 a &&& BitVec.ofNat 32 b = BitVec.ofNat 32 (a &&& b)
  apply BitVec.eq_of_getLsbD_eq
  intro i hi
  simp [hi]
theorem z_or (a b : Nat) : nI a ||| nI b = nI (a ||| b) := by
  apply Int32.toBitVec_inj.1
  show BitVec.ofNat 32 a ||| BitVec.ofNat 32 b = BitVec.ofNat 32 (a ||| b)
  apply BitVec.eq_of_getLsbD_eq
  intro i hi
  simp [hi]
theorem z_xor (a b : Nat) : nI a ^^^ nI b = nI (a ^^^ b) := by
  apply Int32.toBitVec_inj.1
  show BitVec.ofNat 32 a ^^^ BitVec.ofNat 32 b = BitVec.ofNat 32 (a ^^^ b)
  apply BitVec.eq_of_getLsbD_eq
  intro i hi
  simp [hi]
theorem z_mask (a k : Nat) : nI a &&& nI (2 ^ k - 1) = nI (a % 2 ^ k) := by rw [z_and, Nat.and_two_pow_sub_one_eq_mod]
theorem z_and1 (a : Nat) : nI a &&& nI 1 = nI (a % 2) := z_mask a 1
theorem z_and1023 (a : Nat) : nI a &&& nI 1023 = nI (a % 1024) := z_mask a 10
theorem z_smod : ∀ n, n < 32 → ((nI n &&& 31).toBitVec.smod 32).toNat = n := by decide +kernel
theorem z_umod : ∀ n, n < 32 → (((nI n).toUInt32 &&& Int32.toUInt32 31).toBitVec % 32).toNat = n := by decide +kernel
theorem z_shl (a : Nat) {k : Nat} (hk : k < 32) : nI a <<< (nI k &&& 31) = nI (a * 2 ^ k) := by
  apply Int32.toBitVec_inj.mp
  apply BitVec.eq_of_toNat_eq
  rw [pk_shl _ _ k (z_smod k hk)]
  show a % 2 ^ 32 * 2 ^ k % 2 ^ 32 = (a * 2 ^ k) % 2 ^ 32
  rw [Nat.mod_mul_mod]
theorem z_shl1 {k : Nat} (hk : k < 32) : nI 1 <<< (nI k &&& 31) = nI (2 ^ k) := by rw [z_shl 1 hk, Nat.one_mul]
theorem z_shr {a k : Nat} (ha : a < 2 ^ 31) (hk : k < 32) : nI a >>> (nI k &&& 31) = nI (a / 2 ^ k) := pk_shrN ha _ k (z_smod k hk)
theorem z_ushr {a k : Nat} (ha : a < 2 ^ 32) (hk : k < 32) : ((nI a).toUInt32 >>> ((nI k).toUInt32 &&& Int32.toUInt32 31)).toInt32 = nI (a / 2 ^ k) := pk_ushrN ha _ k (z_umod k hk)
theorem z_eq0 {a : Nat} (h : a < 2 ^ 31) : nI a = 0 ↔ a = 0 := by rw [← nI_0]; exact nI_eq h (by decide)
theorem z_ne0 {a : Nat} (h0 : 0 < a) (h : a < 2 ^ 31) : ¬ nI a = 0 := nI_ne0 h0 h
theorem z_lt0 {a : Nat} (h : a < 2 ^ 31) : nI a < 0 ↔ False := ⟨fun q => nI_pos h q, fun q => q.elim⟩
theorem z_ge0 {a : Nat} (h : a < 2 ^ 31) : 0 ≤ nI a ↔ True := ⟨fun _ => trivial, fun _ => nI_pos' h⟩
theorem z_gt0 {a : Nat} (h : a < 2 ^ 31) : 0 < nI a ↔ 0 < a := by rw [← nI_0]; exact nI_ltI (by decide) h
theorem z_le0 {a : Nat} (h : a < 2 ^ 31) : nI a ≤ 0 ↔ a = 0 := by rw [← nI_0, nI_leI h (by decide)]; omega
theorem z_max {a b : Nat} (ha : a < 2 ^ 31) (hb : b < 2 ^ 31) : (if nI a < nI b then nI b else nI a) = nI (max a b) := by
  by_cases h : a < b
  · rw [if_pos ((nI_ltI ha hb).mpr h), Nat.max_eq_right (Nat.le_of_lt h)]
  · rw [if_neg (fun q => h ((nI_ltI ha hb).mp q)), Nat.max_eq_left (by omega)]
theorem z_min {a b : Nat} (ha : a < 2 ^ 31) (hb : b < 2 ^ 31) : (if nI b < nI a then nI b else nI a) = nI (min a b) := by
  by_cases h : b < a
  · rw [if_pos ((nI_ltI hb ha).mpr h), Nat.min_eq_right (Nat.le_of_lt h)]
  · rw [if_neg (fun q => h ((nI_ltI hb ha).mp q)), Nat.min_eq_left (by omega)]
theorem z_char {c : Nat} (h : c < 65536) : vp_nar .char (nI c) = nI c := Value.int.inj (pk_charN h).1
theorem z_i2c {c : Nat} (h : c < 65536) : ((nI c).toUInt32 % 65536).toInt32 = nI c := by rw [pk_char, pk_tn (by omega), Nat.mod_eq_of_lt h]
/-- x is a natural from lo to hi -/
def okr (lo hi : Nat) (x : Int32) : Prop := ∃ c, lo ≤ c ∧ c ≤ hi ∧ x = nI c
theorem okr_of {lo hi : Nat} {x : Int32} (hl : lo < 2 ^ 31) (hh : hi < 2 ^ 31) (h1 : nI lo ≤ x) (h2 : x ≤ nI hi) : okr lo hi x := by
  rw [Int32.le_iff_toInt_le, nI_toInt hl] at h1
  rw [Int32.le_iff_toInt_le, nI_toInt hh] at h2
  refine ⟨x.toInt.toNat, by omega, by omega, Int32.toInt_inj.mp ?_⟩
  rw [nI_toInt (by omega)]
  omega
theorem okr_nI {lo hi c : Nat} (hc : c < 2 ^ 31) (hh : hi < 2 ^ 31) : okr lo hi (nI c) ↔ lo ≤ c ∧ c ≤ hi := by
  constructor
  · rintro ⟨d, h1, h2, h3⟩
    have e := (nI_eq hc (by omega)).mp h3
    omega
  · rintro ⟨h1, h2⟩
    exact ⟨c, h1, h2, rfl⟩
/-! bits -/
def bq (n k : Nat) : Nat := n / 2 ^ k % 2
theorem bq_lt (n k : Nat) : bq n k < 2 := Nat.mod_lt _ (by decide)
/-- sums -/
def sm (f : Nat → Nat) : Nat → Nat | 0 => 0 | n + 1 => sm f n + f n
theorem sm_succ (f : Nat → Nat) (n : Nat) : sm f (n + 1) = sm f n + f n := rfl
theorem sm_congr {f g : Nat → Nat} : ∀ {n : Nat}, (∀ k, k < n → f k = g k) → sm f n = sm g n
  | 0, _ => rfl
  | n + 1, h => by rw [sm_succ, sm_succ, sm_congr (fun k hk => h k (by omega)), h n (by omega)]
theorem sm_le {f : Nat → Nat} {c : Nat} : ∀ {n : Nat}, (∀ k, k < n → f k ≤ c) → sm f n ≤ n * c
  | 0, _ => by simp [sm]
  | n + 1, h => by have h1 := sm_le (n := n) (fun k hk => h k (by omega)); have h2 := h n (by omega); rw [sm_succ, Nat.succ_mul]; omega
/-- how many bells of a set -/
def cnt (n : Nat) : Nat := sm (bq n) 10
/-- rows of naturals -/
def nf (g : Nat → Nat) : Nat → Int32 := fun k => nI (g k)
theorem nf_upd (g : Nat → Nat) (j v : Nat) : upd (nf g) j (nI v) = nf (va_up g j v) := by
  funext k
  unfold upd nf va_up
  split <;> rfl
def upN (f g : Nat → Nat) : Nat → (Nat → Nat) | 0 => f | i + 1 => va_up (upN f g i) i (g i)
theorem upN_eq (f g : Nat → Nat) : ∀ n, upN f g n = fun k => if k < n then g k else f k
  | 0 => by funext k; simp [upN]
  | n + 1 => by
    funext k
    rw [upN, upN_eq f g n]
    unfold va_up
    by_cases h : k = n
    · subst h; simp
    · rw [if_neg h]
      show (if k < n then g k else f k) = _
      by_cases h2 : k < n
      · rw [if_pos h2, if_pos (by omega)]
      · rw [if_neg h2, if_neg (by omega)]
theorem upN_in {f g : Nat → Nat} {n k : Nat} (h : k < n) : upN f g n k = g k := by rw [upN_eq]; exact if_pos h
theorem upN_out {f g : Nat → Nat} {n k : Nat} (h : n ≤ k) : upN f g n k = f k := by rw [upN_eq]; exact if_neg (by omega)
theorem upN_succ (f g : Nat → Nat) (i : Nat) : upN f g (i + 1) = va_up (upN f g i) i (g i) := rfl
theorem z_ite0 {c : Prop} [Decidable c] : nI (if c then 1 else 0) = 0 ↔ ¬ c := by
  by_cases h : c
  · rw [if_pos h]; exact ⟨fun q => absurd q (by decide), fun q => absurd h q⟩
  · rw [if_neg h]; exact ⟨fun _ => h, fun _ => nI_0⟩
