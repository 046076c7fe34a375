/-! the pad's parts: where each ends, and the automaton's run over it -/
/-- a character, 0 behind the last -/
def ch (f : Nat → Nat) (n i : Nat) : Nat := if i < n then f i else 0
theorem ch_in {f : Nat → Nat} {n i : Nat} (h : i < n) : ch f n i = f i := if_pos h
theorem ch_out {f : Nat → Nat} {n i : Nat} (h : n ≤ i) : ch f n i = 0 := if_neg (by omega)
abbrev dg (c : Nat) : Prop := 48 ≤ c ∧ c ≤ 57
/-- behind the digits from j -/
def rnF (f : Nat → Nat) (n : Nat) : Nat → Nat → Nat
  | 0, j => j
  | m + 1, j => if dg (ch f n j) then rnF f n m (j + 1) else j
def rn (f : Nat → Nat) (n j : Nat) : Nat := rnF f n (n - j) j
theorem rn_step {f : Nat → Nat} {n j : Nat} (h : dg (ch f n j)) : rn f n j = rn f n (j + 1) := by
  have hj : j < n := by
    by_cases hj : j < n
    · exact hj
    · rw [ch_out (by omega)] at h; omega
  unfold rn
  rw [show n - j = (n - (j + 1)) + 1 by omega, rnF, if_pos h]
theorem rn_stop {f : Nat → Nat} {n j : Nat} (h : ¬ dg (ch f n j)) : rn f n j = j := by
  unfold rn
  cases n - j with
  | zero => rfl
  | succ m => rw [rnF, if_neg h]
/-- behind the column's number -/
abbrev bcv (f : Nat → Nat) (n s : Nat) : Prop := dg (ch f n (s + 1)) ∧ 10 ≤ 10 * (ch f n s - 48) + (ch f n (s + 1) - 48) ∧ 10 * (ch f n s - 48) + (ch f n (s + 1) - 48) ≤ 31
def bc (f : Nat → Nat) (n s : Nat) : Nat := if bcv f n s then s + 2 else s + 1
/-- the end of the part that starts at s, or (false) the place of its fault -/
def bp (f : Nat → Nat) (n s : Nat) : Bool × Nat :=
  if ch f n s = 46 then (true, if 50 ≤ ch f n (s + 1) ∧ ch f n (s + 1) ≤ 57 then s + 2 else s + 1)
  else if ch f n s = 116 then (if ¬ (48 ≤ ch f n (s + 1) ∧ ch f n (s + 1) ≤ 51) then (false, s + 1) else if 49 ≤ ch f n (s + 2) ∧ ch f n (s + 2) ≤ 57 then (true, s + 3) else (false, s + 2))
  else if ¬ dg (ch f n s) then (false, s)
  else if ¬ ch f n (bc f n s) = 58 then (false, bc f n s)
  else if ¬ dg (ch f n (bc f n s + 1)) then (false, bc f n s + 1)
  else (true, rn f n (bc f n s + 1))
/-- the part from s to e -/
def Pt (f : Nat → Nat) (n s e : Nat) : Prop := s < e ∧ e ≤ n ∧
  ((f s = 46 ∧ (e = s + 1 ∨ (e = s + 2 ∧ 50 ≤ f (s + 1) ∧ f (s + 1) ≤ 57))) ∨
   (f s = 116 ∧ e = s + 3 ∧ (48 ≤ f (s + 1) ∧ f (s + 1) ≤ 51) ∧ (49 ≤ f (s + 2) ∧ f (s + 2) ≤ 57)) ∨
   (¬ f s = 46 ∧ ¬ f s = 116 ∧ ∃ g, (g = s + 1 ∨ g = s + 2) ∧ g + 2 ≤ e ∧ f g = 58 ∧ (∀ k, s ≤ k → k < g → dg (f k)) ∧ num f s (g - s) < 32 ∧ (∀ k, g < k → k < e → dg (f k)) ∧ g = bc f n s))
/-- what the automaton says of a part that ends at e -/
def Ao (f : Nat → Nat) (n s e : Nat) : Prop := (∀ j, s < j → j ≤ e → ¬ pl f j = 0) ∧ cE (pl f e) ∧ (e < n → (f e = 59 → pl f (e + 1) = 1) ∧ (¬ f e = 59 → pl f (e + 1) = 0)) ∧ (∀ k, s ≤ k → k < e → ¬ f k = 59)
/-- and of one with a fault at k -/
def Af (f : Nat → Nat) (n s k : Nat) : Prop := s ≤ k ∧ k ≤ n ∧ (∀ j, s < j → j ≤ k → ¬ pl f j = 0) ∧ (k < n → pl f (k + 1) = 0) ∧ (k = n → ¬ cE (pl f n))
theorem pl_succ (f : Nat → Nat) (i : Nat) : pl f (i + 1) = pa (pl f i) (f i) := rfl
theorem pa_6 (c : Nat) : pa 6 c = if 48 ≤ c ∧ c ≤ 57 then 6 else paP c := rfl
/-- digits from j in the state 6 -/
theorem rn_run (f : Nat → Nat) (n : Nat) : ∀ m j, n - j = m → j ≤ n → pl f j = 6 → j ≤ rn f n j ∧ rn f n j ≤ n ∧ (∀ k, j ≤ k → k ≤ rn f n j → pl f k = 6) ∧ (∀ k, j ≤ k → k < rn f n j → dg (f k)) ∧ ¬ dg (ch f n (rn f n j))
  | 0, j, hm, hj, h6 => by
    have hn : ¬ dg (ch f n j) := by rw [ch_out (by omega)]; omega
    rw [rn_stop hn]
    exact ⟨Nat.le_refl _, hj, fun k h1 h2 => by rw [show k = j by omega]; exact h6, fun k h1 h2 => by omega, hn⟩
  | m + 1, j, hm, hj, h6 => by
    by_cases hd : dg (ch f n j)
    · have hd' : dg (f j) := by rw [ch_in (by omega)] at hd; exact hd
      have h7 : pl f (j + 1) = 6 := by rw [pl_succ, h6, pa_6, if_pos hd']
      obtain ⟨a1, a2, a3, a4, a5⟩ := rn_run f n m (j + 1) (by omega) (by omega) h7
      rw [rn_step hd]
      refine ⟨by omega, a2, fun k h1 h2 => ?_, fun k h1 h2 => ?_, a5⟩
      · by_cases e : k = j
        · rw [e]; exact h6
        · exact a3 k (by omega) h2
      · by_cases e : k = j
        · rw [e]; exact hd'
        · exact a4 k (by omega) h2
    · rw [rn_stop hd]
      exact ⟨Nat.le_refl _, hj, fun k h1 h2 => by rw [show k = j by omega]; exact h6, fun k h1 h2 => by omega, hd⟩
theorem paP_0 {c : Nat} : (c = 59 → paP c = 1) ∧ (¬ c = 59 → paP c = 0) := ⟨fun h => if_pos h, fun h => if_neg h⟩
theorem dg_case {f : Nat → Nat} {n s : Nat} (h1 : pl f s = 1) (hs : s < n) (hd : dg (f s)) :
    (bc f n s = s + 1 ∨ bc f n s = s + 2) ∧ bc f n s ≤ n ∧ (∀ j, s < j → j ≤ bc f n s → ¬ pl f j = 0) ∧ ¬ cE (pl f (bc f n s)) ∧ (bc f n s < n → pl f (bc f n s + 1) = paC (f (bc f n s))) ∧ (∀ k, s ≤ k → k < bc f n s → dg (f k)) ∧ num f s (bc f n s - s) < 32 := by
  have e1 : pl f (s + 1) = pa1 (f s) := by rw [pl_succ, h1]; rfl
  have n1 : num f s 1 = f s - 48 := by show 10 * 0 + (f (s + 0) - 48) = _; rw [Nat.add_zero]; omega
  have n2 : num f s 2 = 10 * (f s - 48) + (f (s + 1) - 48) := by show 10 * num f s 1 + (f (s + 1) - 48) = _; rw [n1]
  have st : (f s = 51 ∧ pl f (s + 1) = 3) ∨ ((f s = 49 ∨ f s = 50) ∧ pl f (s + 1) = 2) ∨ ((f s = 48 ∨ 52 ≤ f s) ∧ pl f (s + 1) = 4) := by
    rw [e1]; unfold pa1
    (repeat' split) <;> omega
  by_cases hb : bcv f n s
  · have eg : bc f n s = s + 2 := if_pos hb
    obtain ⟨b1, b2, b3⟩ := hb
    have hs1 : s + 1 < n := by
      by_cases q : s + 1 < n
      · exact q
      · rw [ch_out (by omega)] at b1; omega
    rw [ch_in hs, ch_in hs1] at b2 b3
    rw [ch_in hs1] at b1
    have e2 : pl f (s + 2) = 4 := by
      show pa (pl f (s + 1)) (f (s + 1)) = 4
      rcases st with ⟨q, e⟩ | ⟨q, e⟩ | ⟨q, e⟩
      · rw [e]; exact if_pos (c := 48 ≤ f (s + 1) ∧ f (s + 1) ≤ 49) (by omega)
      · rw [e]; exact if_pos (c := 48 ≤ f (s + 1) ∧ f (s + 1) ≤ 57) (by omega)
      · omega
    rw [eg]
    refine ⟨Or.inr rfl, by omega, fun j j1 j2 => ?_, by rw [e2]; unfold cE; omega, fun _ => by rw [pl_succ, e2]; rfl, fun k k1 k2 => ?_, ?_⟩
    · rcases (show j = s + 1 ∨ j = s + 2 by omega) with rfl | rfl
      · omega
      · omega
    · rcases (show k = s ∨ k = s + 1 by omega) with rfl | rfl
      · exact hd
      · exact b1
    · rw [show s + 2 - s = 2 by omega, n2]; omega
  · have eg : bc f n s = s + 1 := if_neg hb
    have e2 : s + 1 < n → pl f (s + 2) = paC (f (s + 1)) := by
      intro hs1
      unfold bcv at hb
      rw [ch_in hs, ch_in hs1] at hb
      show pa (pl f (s + 1)) (f (s + 1)) = _
      rcases st with ⟨q, e⟩ | ⟨q, e⟩ | ⟨q, e⟩
      · rw [e]; exact if_neg (c := 48 ≤ f (s + 1) ∧ f (s + 1) ≤ 49) (by omega)
      · rw [e]; exact if_neg (c := 48 ≤ f (s + 1) ∧ f (s + 1) ≤ 57) (by omega)
      · rw [e]; rfl
    rw [eg]
    refine ⟨Or.inl rfl, by omega, fun j j1 j2 => ?_, by unfold cE; omega, e2, fun k k1 k2 => ?_, ?_⟩
    · rw [show j = s + 1 by omega]; omega
    · rw [show k = s by omega]; exact hd
    · rw [show s + 1 - s = 1 by omega, n1]; omega
theorem paC_58 : paC 58 = 5 := rfl
theorem bp_spec {f : Nat → Nat} {n s : Nat} (h1 : pl f s = 1) (hsn : s ≤ n) : (∀ e, bp f n s = (true, e) → Pt f n s e ∧ Ao f n s e) ∧ (∀ k, bp f n s = (false, k) → Af f n s k) := by
  by_cases hs : s < n
  · have e1 : pl f (s + 1) = pa1 (f s) := by rw [pl_succ, h1]; rfl
    have c0 := ch_in (f := f) hs
    by_cases h46 : f s = 46
    · have p1 : pl f (s + 1) = 9 := by rw [e1, h46]; rfl
      have eb : bp f n s = (true, if 50 ≤ ch f n (s + 1) ∧ ch f n (s + 1) ≤ 57 then s + 2 else s + 1) := by unfold bp; rw [if_pos (by rw [c0]; exact h46)]
      rw [eb]
      refine ⟨fun e he => ?_, fun k hk => by simp at hk⟩
      have he : (if 50 ≤ ch f n (s + 1) ∧ ch f n (s + 1) ≤ 57 then s + 2 else s + 1) = e := (Prod.mk.inj he).2
      by_cases hc : 50 ≤ ch f n (s + 1) ∧ ch f n (s + 1) ≤ 57
      · rw [if_pos hc] at he
        subst he
        have hs1 : s + 1 < n := by
          by_cases q : s + 1 < n
          · exact q
          · rw [ch_out (by omega)] at hc; omega
        rw [ch_in hs1] at hc
        have p2 : pl f (s + 2) = 10 := by show pa (pl f (s + 1)) (f (s + 1)) = 10; rw [p1]; exact if_pos hc
        refine ⟨⟨by omega, by omega, Or.inl ⟨h46, Or.inr ⟨rfl, hc.1, hc.2⟩⟩⟩, fun j j1 j2 => ?_, by rw [p2]; exact Or.inr (Or.inr rfl), fun _ => ?_, fun k k1 k2 => ?_⟩
        · rcases (show j = s + 1 ∨ j = s + 2 by omega) with rfl | rfl
          · omega
          · omega
        · rw [pl_succ, p2]; exact paP_0
        · rcases (show k = s ∨ k = s + 1 by omega) with rfl | rfl
          · omega
          · omega
      · rw [if_neg hc] at he
        subst he
        refine ⟨⟨by omega, by omega, Or.inl ⟨h46, Or.inl rfl⟩⟩, fun j j1 j2 => by rw [show j = s + 1 by omega]; omega, by rw [p1]; exact Or.inr (Or.inl rfl), fun hs1 => ?_, fun k k1 k2 => by rw [show k = s by omega]; omega⟩
        rw [ch_in hs1] at hc
        rw [pl_succ, p1, show pa 9 (f (s + 1)) = paP (f (s + 1)) from if_neg hc]; exact paP_0
    · by_cases h116 : f s = 116
      · have p1 : pl f (s + 1) = 7 := by rw [e1, h116]; rfl
        have eb : bp f n s = (if ¬ (48 ≤ ch f n (s + 1) ∧ ch f n (s + 1) ≤ 51) then (false, s + 1) else if 49 ≤ ch f n (s + 2) ∧ ch f n (s + 2) ≤ 57 then (true, s + 3) else (false, s + 2)) := by unfold bp; rw [if_neg (by rw [c0]; exact h46), if_pos (by rw [c0]; exact h116)]
        rw [eb]
        by_cases hb : 48 ≤ ch f n (s + 1) ∧ ch f n (s + 1) ≤ 51
        · rw [if_neg (Classical.not_not.mpr hb)]
          have hs1 : s + 1 < n := by
            by_cases q : s + 1 < n
            · exact q
            · rw [ch_out (by omega)] at hb; omega
          rw [ch_in hs1] at hb
          have p2 : pl f (s + 2) = 8 := by show pa (pl f (s + 1)) (f (s + 1)) = 8; rw [p1]; exact if_pos hb
          by_cases hc : 49 ≤ ch f n (s + 2) ∧ ch f n (s + 2) ≤ 57
          · rw [if_pos hc]
            refine ⟨fun e he => ?_, fun k hk => by simp at hk⟩
            have he : s + 3 = e := (Prod.mk.inj he).2
            subst he
            have hs2 : s + 2 < n := by
              by_cases q : s + 2 < n
              · exact q
              · rw [ch_out (by omega)] at hc; omega
            rw [ch_in hs2] at hc
            have p3 : pl f (s + 3) = 10 := by show pa (pl f (s + 2)) (f (s + 2)) = 10; rw [p2]; exact if_pos hc
            refine ⟨⟨by omega, by omega, Or.inr (Or.inl ⟨h116, rfl, hb, hc⟩)⟩, fun j j1 j2 => ?_, by rw [p3]; exact Or.inr (Or.inr rfl), fun _ => ?_, fun k k1 k2 => ?_⟩
            · rcases (show j = s + 1 ∨ j = s + 2 ∨ j = s + 3 by omega) with rfl | rfl | rfl
              · omega
              · omega
              · omega
            · rw [pl_succ, p3]; exact paP_0
            · rcases (show k = s ∨ k = s + 1 ∨ k = s + 2 by omega) with rfl | rfl | rfl
              · omega
              · omega
              · omega
          · rw [if_neg hc]
            refine ⟨fun e he => by simp at he, fun k hk => ?_⟩
            have hk : s + 2 = k := (Prod.mk.inj hk).2
            subst hk
            refine ⟨by omega, by omega, fun j j1 j2 => ?_, fun hs2 => ?_, fun hs2 => ?_⟩
            · rcases (show j = s + 1 ∨ j = s + 2 by omega) with rfl | rfl
              · omega
              · omega
            · rw [ch_in hs2] at hc
              show pa (pl f (s + 2)) (f (s + 2)) = 0
              rw [p2]; exact if_neg hc
            · rw [← hs2, p2]; unfold cE; omega
        · rw [if_pos hb]
          refine ⟨fun e he => by simp at he, fun k hk => ?_⟩
          have hk : s + 1 = k := (Prod.mk.inj hk).2
          subst hk
          refine ⟨by omega, by omega, fun j j1 j2 => by rw [show j = s + 1 by omega]; omega, fun hs1 => ?_, fun hs1 => ?_⟩
          · rw [ch_in hs1] at hb
            show pa (pl f (s + 1)) (f (s + 1)) = 0
            rw [p1]; exact if_neg hb
          · rw [← hs1, p1]; unfold cE; omega
      · by_cases hd : dg (f s)
        · obtain ⟨g1, g2, g3, g4, g5, g6, g7⟩ := dg_case h1 hs hd
          have eb : bp f n s = (if ¬ ch f n (bc f n s) = 58 then (false, bc f n s) else if ¬ dg (ch f n (bc f n s + 1)) then (false, bc f n s + 1) else (true, rn f n (bc f n s + 1))) := by
            unfold bp; rw [if_neg (by rw [c0]; exact h46), if_neg (by rw [c0]; exact h116), if_neg (by rw [c0]; exact Classical.not_not.mpr hd)]
          rw [eb]
          generalize hg : bc f n s = g at *
          by_cases h58 : ch f n g = 58
          · rw [if_neg (Classical.not_not.mpr h58)]
            have hgn : g < n := by
              by_cases q : g < n
              · exact q
              · rw [ch_out (by omega)] at h58; omega
            rw [ch_in hgn] at h58
            have p1 : pl f (g + 1) = 5 := by rw [g5 hgn, h58]; rfl
            by_cases hd2 : dg (ch f n (g + 1))
            · rw [if_neg (Classical.not_not.mpr hd2)]
              refine ⟨fun e he => ?_, fun k hk => by simp at hk⟩
              have he : rn f n (g + 1) = e := (Prod.mk.inj he).2
              have hgn1 : g + 1 < n := by
                by_cases q : g + 1 < n
                · exact q
                · rw [ch_out (by omega)] at hd2; omega
              rw [rn_step hd2] at he
              rw [ch_in hgn1] at hd2
              have p2 : pl f (g + 2) = 6 := by show pa (pl f (g + 1)) (f (g + 1)) = 6; rw [p1]; exact if_pos hd2
              obtain ⟨a1, a2, a3, a4, a5⟩ := rn_run f n _ (g + 2) rfl (by omega) p2
              rw [he] at a1 a2 a3 a4 a5
              have hdd : ∀ k, g < k → k < e → dg (f k) := fun k k1 k2 => by
                by_cases q : k = g + 1
                · rw [q]; exact hd2
                · exact a4 k (by omega) k2
              refine ⟨⟨by omega, a2, Or.inr (Or.inr ⟨h46, h116, g, g1, a1, h58, g6, g7, hdd, hg.symm⟩)⟩, fun j j1 j2 => ?_, by rw [a3 e a1 (Nat.le_refl _)]; exact Or.inl rfl, fun he2 => ?_, fun k k1 k2 => ?_⟩
              · by_cases q : j ≤ g
                · exact g3 j j1 q
                · by_cases q2 : j = g + 1
                  · rw [q2, p1]; decide
                  · rw [a3 j (by omega) j2]; decide
              · rw [ch_in he2] at a5
                rw [pl_succ, a3 e a1 (Nat.le_refl _), pa_6, if_neg a5]; exact paP_0
              · by_cases q : k < g
                · have := g6 k k1 q; omega
                · by_cases q2 : k = g
                  · rw [q2]; omega
                  · have := hdd k (by omega) k2; omega
            · rw [if_pos hd2]
              refine ⟨fun e he => by simp at he, fun k hk => ?_⟩
              have hk : g + 1 = k := (Prod.mk.inj hk).2
              subst hk
              refine ⟨by omega, by omega, fun j j1 j2 => ?_, fun q => ?_, fun q => ?_⟩
              · by_cases q : j ≤ g
                · exact g3 j j1 q
                · rw [show j = g + 1 by omega, p1]; decide
              · rw [ch_in q] at hd2
                show pa (pl f (g + 1)) (f (g + 1)) = 0
                rw [p1]; exact if_neg hd2
              · rw [← q, p1]; unfold cE; omega
          · rw [if_pos h58]
            refine ⟨fun e he => by simp at he, fun k hk => ?_⟩
            have hk : g = k := (Prod.mk.inj hk).2
            subst hk
            refine ⟨by omega, g2, g3, fun q => ?_, fun q => by rw [← q]; exact g4⟩
            rw [ch_in q] at h58
            rw [g5 q]; exact if_neg h58
        · have eb : bp f n s = (false, s) := by unfold bp; rw [if_neg (by rw [c0]; exact h46), if_neg (by rw [c0]; exact h116), if_pos (by rw [c0]; exact hd)]
          rw [eb]
          refine ⟨fun e he => by simp at he, fun k hk => ?_⟩
          have hk : s = k := (Prod.mk.inj hk).2
          subst hk
          refine ⟨Nat.le_refl _, hsn, fun j j1 j2 => by omega, fun _ => ?_, fun q => by omega⟩
          rw [e1]; unfold pa1
          (repeat' split) <;> omega
  · have hs : s = n := by omega
    have c0 : ch f n s = 0 := ch_out (by omega)
    have eb : bp f n s = (false, s) := by unfold bp; rw [if_neg (by omega), if_neg (by omega), if_pos (by omega)]
    rw [eb]
    refine ⟨fun e he => by simp at he, fun k hk => ?_⟩
    have hk : s = k := (Prod.mk.inj hk).2
    subst hk
    exact ⟨Nat.le_refl _, hsn, fun j j1 j2 => by omega, fun q => by omega, fun q => by rw [← q, h1]; unfold cE; omega⟩
/-- the first fault, by the automaton's run -/
theorem ffR_skip {f : Nat → Nat} {n : Nat} (k : Nat) : ∀ m, m + k ≤ n → (∀ j, n - (m + k) < j → j ≤ n - k → ¬ pl f j = 0) → ffR f n (m + k) = ffR f n k
  | 0, _, _ => by rw [Nat.zero_add]
  | m + 1, hm, h => by
    rw [show m + 1 + k = (m + k) + 1 by omega, ffR, if_neg (h (n - (m + k)) (by omega) (by omega))]
    exact ffR_skip k m (by omega) (fun j j1 j2 => h j (by omega) j2)
theorem ff_some {f : Nat → Nat} {n k : Nat} (hk : k ≤ n) (h : ∀ j, j ≤ k → ¬ pl f j = 0) (h1 : k < n → pl f (k + 1) = 0) (h2 : k = n → ¬ cE (pl f n)) : ff f n = some k := by
  have e := ffR_skip (f := f) (n := n) (n - k) k (by omega) (fun j _ j2 => h j (by omega))
  rw [show k + (n - k) = n by omega] at e
  unfold ff
  rw [e]
  by_cases q : k < n
  · rw [show n - k = (n - k - 1) + 1 by omega, ffR, if_pos (by rw [show n - (n - k - 1) = k + 1 by omega]; exact h1 q)]
    congr 1; omega
  · have q2 : k = n := by omega
    rw [show n - k = 0 by omega, ffR, if_neg (h2 q2), q2]
theorem ff_none {f : Nat → Nat} {n : Nat} (h : ∀ j, j ≤ n → ¬ pl f j = 0) (h2 : cE (pl f n)) : ff f n = none := by
  have e := ffR_skip (f := f) (n := n) 0 n (by omega) (fun j _ j2 => h j (by omega))
  unfold ff
  rw [Nat.add_zero] at e
  rw [e, ffR, if_pos h2]
/-- a pad without a fault: the part at s -/
theorem pt_of {f : Nat → Nat} {n s : Nat} (hv : ff f n = none) (h1 : pl f s = 1) (hsn : s ≤ n) (h0 : ∀ j, j ≤ s → ¬ pl f j = 0) :
    ∃ e, bp f n s = (true, e) ∧ Pt f n s e ∧ (∀ k, s ≤ k → k < e → ¬ f k = 59) ∧ (∀ j, j ≤ e → ¬ pl f j = 0) ∧ (e = n ∨ (e < n ∧ f e = 59 ∧ pl f (e + 1) = 1)) := by
  obtain ⟨b1, b2⟩ := bp_spec (n := n) h1 hsn
  rcases hb : bp f n s with ⟨b, e⟩
  cases b with
  | false =>
    obtain ⟨a1, a2, a3, a4, a5⟩ := b2 e hb
    have := ff_some a2 (fun j hj => by
      by_cases q : j ≤ s
      · exact h0 j q
      · exact a3 j (by omega) hj) a4 a5
    rw [hv] at this; cases this
  | true =>
    obtain ⟨p1, a1, a2, a3, a4⟩ := b1 e hb
    have h9 : ∀ j, j ≤ e → ¬ pl f j = 0 := fun j hj => by
      by_cases q : j ≤ s
      · exact h0 j q
      · exact a1 j (by omega) hj
    refine ⟨e, rfl, p1, a4, h9, ?_⟩
    by_cases q : e < n
    · by_cases q2 : f e = 59
      · exact Or.inr ⟨q, q2, (a3 q).1 q2⟩
      · have := ff_some (f := f) (n := n) (k := e) (by omega) h9 (fun _ => (a3 q).2 q2) (fun q3 => by omega)
        rw [hv] at this; cases this
    · exact Or.inl (by have := p1.2.1; omega)
