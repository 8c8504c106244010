/-! THE BEST ORDER, in numbers: sets of runs as bits of a number below 128 -/
def hb (s r : Nat) : Bool := s / 2 ^ r % 2 == 1
def wo (s r : Nat) : Nat := if hb s r = true then s - 2 ^ r else s
def cd (s : Nat) : Nat := s % 2 + s / 2 % 2 + s / 4 % 2 + s / 8 % 2 + s / 16 % 2 + s / 32 % 2 + s / 64 % 2
theorem b_shr : ∀ s : Nat, s < 128 → ∀ r : Nat, r < 7 → Int32.ofInt (s : Int) >>> (Int32.ofInt (r : Int) &&& 31) = Int32.ofInt ((s / 2 ^ r : Nat) : Int) := by decide +kernel
theorem b_and1 : ∀ v : Nat, v < 128 → Int32.ofInt (v : Int) &&& Int32.ofInt 1 = Int32.ofInt ((v % 2 : Nat) : Int) := by decide +kernel
theorem b_shl : ∀ r : Nat, r < 8 → Int32.ofInt 1 <<< (Int32.ofInt (r : Int) &&& 31) = Int32.ofInt ((2 ^ r : Nat) : Int) := by decide +kernel
theorem b_xor : ∀ r : Nat, r < 8 → Int32.ofInt ((2 ^ r : Nat) : Int) ^^^ Int32.ofInt (-1) = Int32.ofInt (-1 - ((2 ^ r : Nat) : Int)) := by decide +kernel
theorem b_wo : ∀ s : Nat, s < 128 → ∀ r : Nat, r < 7 → Int32.ofInt (s : Int) &&& Int32.ofInt (-1 - ((2 ^ r : Nat) : Int)) = Int32.ofInt ((wo s r : Nat) : Int) := by decide +kernel
theorem hb_cd : ∀ s : Nat, s < 128 → ∀ r : Nat, r < 7 → hb s r = true → cd (wo s r) + 1 = cd s ∧ wo s r < s := by decide +kernel
theorem wo_lt : ∀ s : Nat, s < 128 → ∀ r : Nat, r < 7 → wo s r ≤ s := by decide +kernel
theorem wo_n : ∀ n : Nat, n < 8 → ∀ s : Nat, s < 2 ^ n → ∀ r, r < 7 → wo s r < 2 ^ n := by decide +kernel
theorem cd_0 : ∀ s : Nat, s < 128 → cd s = 0 → s = 0 := by decide +kernel
theorem cd_7 : ∀ s : Nat, s < 128 → cd s ≤ 7 := by decide +kernel
theorem cd_all : ∀ n : Nat, n < 8 → cd (2 ^ n - 1) = n := by decide +kernel
theorem hb_some : ∀ n : Nat, n < 8 → ∀ s : Nat, s < 2 ^ n → s ≠ 0 → ∃ r, r < n ∧ hb s r = true := by decide +kernel
theorem p2_le : ∀ n : Nat, n < 8 → 0 < 2 ^ n ∧ 2 ^ n ≤ 128 := by decide +kernel
/-- the least of what is told, at most B -/
def o_fo (ok : Nat → Bool) (c : Nat → Int) (B : Int) : Nat → Int
  | 0 => B
  | n + 1 => if ok n = true then (if c n < o_fo ok c B n then c n else o_fo ok c B n) else o_fo ok c B n
theorem fo_cong {ok : Nat → Bool} {c c' : Nat → Int} {B : Int} : ∀ n : Nat, (∀ r, r < n → ok r = true → c r = c' r) → o_fo ok c B n = o_fo ok c' B n
  | 0, _ => rfl
  | n + 1, h => by
    rw [o_fo, o_fo, fo_cong n (fun r hr => h r (by omega))]
    by_cases q : ok n = true
    · rw [if_pos q, if_pos q, h n (by omega) q]
    · rw [if_neg q, if_neg q]
theorem fo_le {ok : Nat → Bool} {c : Nat → Int} {B : Int} : ∀ n : Nat, o_fo ok c B n ≤ B ∧ (∀ r, r < n → ok r = true → o_fo ok c B n ≤ c r) ∧ (o_fo ok c B n = B ∨ ∃ r, r < n ∧ ok r = true ∧ o_fo ok c B n = c r)
  | 0 => ⟨Int.le_refl _, fun r h => absurd h (Nat.not_lt_zero r), Or.inl rfl⟩
  | n + 1 => by
    obtain ⟨a, b, d⟩ := fo_le (ok := ok) (c := c) (B := B) n
    rw [o_fo]
    split
    · rename_i q
      split
      · rename_i q2
        refine ⟨by omega, fun r hr hk => ?_, Or.inr ⟨n, by omega, q, rfl⟩⟩
        rcases Nat.lt_succ_iff_lt_or_eq.mp hr with y | y
        · have := b r y hk; omega
        · subst y; omega
      · rename_i q2
        refine ⟨a, fun r hr hk => ?_, ?_⟩
        · rcases Nat.lt_succ_iff_lt_or_eq.mp hr with y | y
          · exact b r y hk
          · subst y; omega
        · rcases d with d | ⟨r, d1, d2, d3⟩
          · exact Or.inl d
          · exact Or.inr ⟨r, by omega, d2, d3⟩
    · rename_i q
      refine ⟨a, fun r hr hk => ?_, ?_⟩
      · rcases Nat.lt_succ_iff_lt_or_eq.mp hr with y | y
        · exact b r y hk
        · subst y; exact absurd hk q
      · rcases d with d | ⟨r, d1, d2, d3⟩
        · exact Or.inl d
        · exact Or.inr ⟨r, by omega, d2, d3⟩
/-- the fewest moves for the set s from b on, with enough fuel -/
def oFE (mv : Nat → Nat → Int) (n : Nat) : Nat → Nat → Nat → Int
  | 0, _, _ => 0
  | k + 1, b, s => if s = 0 then 0 else o_fo (hb s) (fun r => mv b r + oFE mv n k r (wo s r)) 128 n
def oFC (mv : Nat → Nat → Int) (n b s : Nat) : Int := oFE mv n (cd s) b s
theorem oFC_0 (mv : Nat → Nat → Int) (n b : Nat) : oFC mv n b 0 = 0 := rfl
theorem oFC_eq (mv : Nat → Nat → Int) {n b s : Nat} (hn : n < 8) (hs : s < 2 ^ n) (h0 : s ≠ 0) : oFC mv n b s = o_fo (hb s) (fun r => mv b r + oFC mv n r (wo s r)) 128 n := by
  have h128 := (p2_le n hn).2
  unfold oFC
  cases hc : cd s with
  | zero => exact absurd (cd_0 s (by omega) hc) h0
  | succ k =>
    rw [oFE, if_neg h0]
    apply fo_cong
    intro r hr hk
    have := (hb_cd s (by omega) r (by omega) hk).1
    rw [show cd (wo s r) = k by omega]
theorem oFC_bd {mv : Nat → Nat → Int} {n : Nat} (hn : n < 8) (hmv : ∀ b r, b < 8 → r < n → 0 ≤ mv b r ∧ mv b r ≤ 16) : ∀ (k b s : Nat), b < 8 → s < 2 ^ n → cd s = k → 0 ≤ oFC mv n b s ∧ oFC mv n b s ≤ 16 * k := by
  have h128 := (p2_le n hn).2
  intro k
  induction k with
  | zero =>
    intro b s hb0 hs hc
    rw [cd_0 s (by omega) hc, oFC_0]
    omega
  | succ k ih =>
    intro b s hb0 hs hc
    have h0 : s ≠ 0 := by rintro rfl; simp [cd] at hc
    obtain ⟨r, r1, r2⟩ := hb_some n hn s hs h0
    have h7 := cd_7 s (by omega)
    rw [oFC_eq mv hn hs h0]
    obtain ⟨f1, f2, f3⟩ := fo_le (ok := hb s) (c := fun r => mv b r + oFC mv n r (wo s r)) (B := 128) n
    have e := f2 r r1 r2
    have hw := hb_cd s (by omega) r (by omega) r2
    have i1 := ih r (wo s r) (by omega) (wo_n n hn s hs r (by omega)) (by omega)
    have m1 := hmv b r hb0 r1
    refine ⟨?_, by omega⟩
    rcases f3 with f3 | ⟨q, q1, q2, q3⟩
    · omega
    · rw [q3]
      have hq := hb_cd s (by omega) q (by omega) q2
      have i2 := ih q (wo s q) (by omega) (wo_n n hn s hs q (by omega)) (by omega)
      have m2 := hmv b q hb0 q1
      omega
theorem oFC_cong {mv mv' : Nat → Nat → Int} {n : Nat} (hn : n < 8) (h : ∀ b r, b < n → r < n → mv b r = mv' b r) : ∀ (k b s : Nat), (∀ r, r < n → mv b r = mv' b r) → s < 2 ^ n → cd s = k → oFC mv n b s = oFC mv' n b s := by
  have h128 := (p2_le n hn).2
  intro k
  induction k with
  | zero => intro b s hb0 hs hc; rw [cd_0 s (by omega) hc, oFC_0, oFC_0]
  | succ k ih =>
    intro b s hb0 hs hc
    have h0 : s ≠ 0 := by rintro rfl; simp [cd] at hc
    rw [oFC_eq mv hn hs h0, oFC_eq mv' hn hs h0]
    apply fo_cong
    intro r hr hk
    have hw := hb_cd s (by omega) r (by omega) hk
    rw [hb0 r hr, ih r (wo s r) (fun q hq => h r q hr hq) (wo_n n hn s hs r (by omega)) (by omega)]
/-- a run that may be the next one, of several the least -/
def isLst (P : Nat → Prop) (n r : Nat) : Prop := r < n ∧ P r ∧ ∀ q, q < r → ¬ P q
theorem isLst_uniq {P P' : Nat → Prop} {n r r' : Nat} (hP : ∀ q, q < n → (P q ↔ P' q)) (h : isLst P n r) (h' : isLst P' n r') : r = r' := by
  rcases Nat.lt_trichotomy r r' with q | q | q
  · exact absurd ((hP r h.1).mp h.2.1) (h'.2.2 r q)
  · exact q
  · exact absurd ((hP r' h'.1).mpr h'.2.1) (h.2.2 r' q)
def oNx (mv : Nat → Nat → Int) (n b s r : Nat) : Prop := hb s r = true ∧ mv b r + oFC mv n r (wo s r) = oFC mv n b s
/-- the best order: its runs q, with the sets S that are left and the runs B before -/
def isBest (mv : Nat → Nat → Int) (n : Nat) (q : Nat → Nat) : Prop := ∃ S : Nat → Nat, S 0 = 2 ^ n - 1 ∧ ∀ i, i < n → isLst (oNx mv n (if i = 0 then 7 else q (i - 1)) (S i)) n (q i) ∧ S (i + 1) = wo (S i) (q i)
theorem isBest_S {mv : Nat → Nat → Int} {n : Nat} {q S : Nat → Nat} (hn : n < 8) (h0 : S 0 = 2 ^ n - 1) (h : ∀ i, i < n → isLst (oNx mv n (if i = 0 then 7 else q (i - 1)) (S i)) n (q i) ∧ S (i + 1) = wo (S i) (q i)) : ∀ i, i ≤ n → S i < 2 ^ n ∧ cd (S i) + i = n := by
  have h128 := p2_le n hn
  intro i
  induction i with
  | zero => intro _; rw [h0]; exact ⟨by omega, by rw [cd_all n hn]; omega⟩
  | succ i ih =>
    intro hi
    obtain ⟨a, b⟩ := ih (by omega)
    obtain ⟨l, e⟩ := h i (by omega)
    have := hb_cd (S i) (by omega) (q i) (by have := l.1; omega) l.2.1.1
    rw [e]
    exact ⟨by omega, by omega⟩
theorem isBest_uniq {mv mv' : Nat → Nat → Int} {n : Nat} {q q' : Nat → Nat} (hn : n < 8) (hmv : ∀ b r, b < n ∨ b = 7 → r < n → mv b r = mv' b r) (h : isBest mv n q) (h' : isBest mv' n q') : ∀ i, i < n → q i = q' i := by
  obtain ⟨S, s0, s1⟩ := h
  obtain ⟨S', s0', s1'⟩ := h'
  have hS := isBest_S hn s0 s1
  have h128 := p2_le n hn
  have I : ∀ i, i ≤ n → S i = S' i ∧ ∀ j, j < i → q j = q' j := by
    intro i
    induction i with
    | zero => intro _; exact ⟨by rw [s0, s0'], fun j hj => absurd hj (Nat.not_lt_zero j)⟩
    | succ i ih =>
      intro hi
      obtain ⟨a, b⟩ := ih (by omega)
      obtain ⟨l, e⟩ := s1 i (by omega)
      obtain ⟨l', e'⟩ := s1' i (by omega)
      have hb0 : (if i = 0 then 7 else q (i - 1)) = (if i = 0 then 7 else q' (i - 1)) := by
        by_cases c : i = 0
        · rw [if_pos c, if_pos c]
        · rw [if_neg c, if_neg c, b (i - 1) (by omega)]
      have hbn : (if i = 0 then 7 else q (i - 1)) < n ∨ (if i = 0 then 7 else q (i - 1)) = 7 := by
        by_cases c : i = 0
        · rw [if_pos c]; exact Or.inr rfl
        · rw [if_neg c]; exact Or.inl (s1 (i - 1) (by omega)).1.1
      have hs := (hS i (by omega)).1
      have hq : q i = q' i := by
        refine isLst_uniq (fun r hr => ?_) l l'
        rw [← a, ← hb0]
        have c1 := oFC_cong hn (fun b r hb hr => hmv b r (Or.inl hb) hr) (cd (S i)) _ (S i) (fun r hr => hmv _ r hbn hr) hs rfl
        have c2 : oFC mv n r (wo (S i) r) = oFC mv' n r (wo (S i) r) := oFC_cong hn (fun b r hb hr => hmv b r (Or.inl hb) hr) _ _ _ (fun r' hr' => hmv r r' (Or.inl hr) hr') (wo_n n hn _ hs r (by omega)) rfl
        unfold oNx
        rw [c1, c2, hmv _ r hbn hr]
      refine ⟨by rw [e, e', a, hq], fun j hj => ?_⟩
      rcases Nat.lt_succ_iff_lt_or_eq.mp hj with y | y
      · exact b j y
      · subst y; exact hq
  exact (I n (Nat.le_refl n)).2
/-- there is a next run -/
theorem oNx_some {mv : Nat → Nat → Int} {n b s : Nat} (hn : n < 8) (hmv : ∀ b r, b < 8 → r < n → 0 ≤ mv b r ∧ mv b r ≤ 16) (hb0 : b < 8) (hs : s < 2 ^ n) (h0 : s ≠ 0) : ∃ r, r < n ∧ oNx mv n b s r := by
  have h128 := (p2_le n hn).2
  have hbd := oFC_bd hn hmv (cd s) b s hb0 hs rfl
  have h7 := cd_7 s (by omega)
  have he := oFC_eq mv (b := b) hn hs h0
  obtain ⟨-, -, f3⟩ := fo_le (ok := hb s) (c := fun r => mv b r + oFC mv n r (wo s r)) (B := 128) n
  rcases f3 with f3 | ⟨q, q1, q2, q3⟩
  · omega
  · exact ⟨q, q1, q2, by rw [he, q3]⟩
