/-! FILLING, in numbers alone: W says which widths may be used; oR W n t: t is the sum of n of them -/
def oR (W : Int → Prop) : Nat → Int → Prop
  | 0, t => t = 0
  | n + 1, t => ∃ w : Int, W w ∧ w ≤ t ∧ oR W n (t - w)
/-- v is the fewest number of widths whose sum is t, B where there are none or too many -/
def isD (W : Int → Prop) (B t v : Int) : Prop := 0 ≤ v ∧ v ≤ B ∧ (v < B → oR W v.toNat t) ∧ ∀ n : Nat, (n : Int) < v → ¬ oR W n t
def o_ff (f : Nat → Int) (ok : Nat → Bool) (T : Nat → Int) (t B : Int) : Nat → Int
  | 0 => B
  | n + 1 => if ok n = true ∧ f n ≤ t ∧ T (t - f n).toNat + 1 < o_ff f ok T t B n then T (t - f n).toNat + 1 else o_ff f ok T t B n
theorem oR_cong {W W' : Int → Prop} (h : ∀ w, W w ↔ W' w) : ∀ (n : Nat) (t : Int), oR W n t ↔ oR W' n t
  | 0, t => Iff.rfl
  | n + 1, t => by
    simp only [oR]
    constructor
    · rintro ⟨w, h1, h2, h3⟩; exact ⟨w, (h w).mp h1, h2, (oR_cong h n _).mp h3⟩
    · rintro ⟨w, h1, h2, h3⟩; exact ⟨w, (h w).mpr h1, h2, (oR_cong h n _).mpr h3⟩
theorem oR_nn {W : Int → Prop} (hp : ∀ w, W w → 0 < w) : ∀ (n : Nat) (t : Int), oR W n t → (n : Int) ≤ t
  | 0, t, h => by simp only [oR] at h; omega
  | n + 1, t, h => by
    obtain ⟨w, h1, h2, h3⟩ := h
    have := oR_nn hp n _ h3
    have := hp w h1
    omega
theorem ff_D {W : Int → Prop} {f : Nat → Int} {ok : Nat → Bool} {T : Nat → Int} {t B : Int} {m : Nat} (hW : ∀ w, W w ↔ ∃ j : Nat, j < m ∧ ok j = true ∧ f j = w) (hp : ∀ w, W w → 0 < w) (ht : 0 < t) (hT : ∀ u : Int, 0 ≤ u → u < t → isD W B u (T u.toNat)) (hB : 0 ≤ B) : isD W B t (o_ff f ok T t B m) := by
  have I : ∀ n : Nat, n ≤ m → 0 ≤ o_ff f ok T t B n ∧ o_ff f ok T t B n ≤ B ∧ (o_ff f ok T t B n < B → oR W (o_ff f ok T t B n).toNat t) ∧ ∀ j : Nat, j < n → ok j = true → f j ≤ t → o_ff f ok T t B n ≤ T (t - f j).toNat + 1 := by
    intro n
    induction n with
    | zero => intro _; exact ⟨hB, Int.le_refl _, fun h => absurd h (Int.lt_irrefl _), fun j h => absurd h (Nat.not_lt_zero j)⟩
    | succ n ih =>
      intro hn
      obtain ⟨i1, i2, i3, i4⟩ := ih (by omega)
      rw [o_ff]
      split
      · rename_i hc
        obtain ⟨c1, c2, c3⟩ := hc
        have hw : W (f n) := (hW _).mpr ⟨n, by omega, c1, rfl⟩
        have hpos := hp _ hw
        have hd := hT (t - f n) (by omega) (by omega)
        obtain ⟨d1, d2, d3, d4⟩ := hd
        refine ⟨by omega, by omega, fun _ => ?_, fun j hj o1 o2 => ?_⟩
        · rw [show (T (t - f n).toNat + 1).toNat = (T (t - f n).toNat).toNat + 1 by omega]
          exact ⟨f n, hw, c2, d3 (by omega)⟩
        · rcases Nat.lt_succ_iff_lt_or_eq.mp hj with q | q
          · have := i4 j q o1 o2; omega
          · subst q; omega
      · rename_i hc
        refine ⟨i1, i2, i3, fun j hj o1 o2 => ?_⟩
        rcases Nat.lt_succ_iff_lt_or_eq.mp hj with q | q
        · exact i4 j q o1 o2
        · subst q
          rcases Int.lt_or_le (T (t - f j).toNat + 1) (o_ff f ok T t B j) with z | z
          · exact absurd ⟨o1, o2, z⟩ hc
          · exact z
  obtain ⟨i1, i2, i3, i4⟩ := I m (Nat.le_refl m)
  refine ⟨i1, i2, i3, fun n hn hr => ?_⟩
  cases n with
  | zero => simp only [oR] at hr; omega
  | succ n =>
    obtain ⟨w, h1, h2, h3⟩ := hr
    obtain ⟨j, j1, j2, j3⟩ := (hW w).mp h1
    subst j3
    have hpos := hp _ h1
    have h4 := i4 j j1 j2 h2
    obtain ⟨d1, d2, d3, d4⟩ := hT (t - f j) (by omega) (by omega)
    rcases Int.lt_or_le (n : Int) (T (t - f j).toNat) with z | z
    · exact d4 n z h3
    · omega
theorem isD_zero {W : Int → Prop} {B : Int} (hB : 0 ≤ B) : isD W B 0 0 := ⟨Int.le_refl 0, hB, fun _ => rfl, fun n h => by omega⟩
/-- t is reached with less than k of them -/
def oRK (W : Int → Prop) (k : Int) (t : Int) : Prop := ∃ n : Nat, (n : Int) < k ∧ oR W n t
theorem isD_lt {W : Int → Prop} {B t v k : Int} (h : isD W B t v) (hk : k ≤ B) : v < k ↔ oRK W k t := by
  obtain ⟨d1, d2, d3, d4⟩ := h
  constructor
  · intro hv; exact ⟨v.toNat, by omega, d3 (by omega)⟩
  · rintro ⟨n, n1, n2⟩
    rcases Int.lt_or_le (n : Int) v with z | z
    · exact absurd n2 (d4 n z)
    · omega
/-- z is the greatest that is reached within the room, 0 if none is -/
def isG (W : Int → Prop) (k room z : Int) : Prop := (z = 0 ∨ (0 < z ∧ z ≤ room ∧ oRK W k z)) ∧ ∀ t : Int, 0 < t → t ≤ room → oRK W k t → t ≤ z
theorem isG_uniq {W : Int → Prop} {k room z z' : Int} (h : isG W k room z) (h' : isG W k room z') : z = z' := by
  obtain ⟨a, b⟩ := h
  obtain ⟨a', b'⟩ := h'
  rcases a with a | ⟨a1, a2, a3⟩
  · rcases a' with a' | ⟨a1', a2', a3'⟩
    · omega
    · have := b z' a1' a2' a3'; omega
  · have h1 := b' z a1 a2 a3
    rcases a' with a' | ⟨a1', a2', a3'⟩
    · omega
    · have := b z' a1' a2' a3'; omega
theorem isG_cong {W W' : Int → Prop} (h : ∀ w, W w ↔ W' w) {k room z : Int} (hz : isG W k room z) : isG W' k room z := by
  have e : ∀ t, oRK W k t ↔ oRK W' k t := fun t => ⟨fun ⟨n, a, b⟩ => ⟨n, a, (oR_cong h n t).mp b⟩, fun ⟨n, a, b⟩ => ⟨n, a, (oR_cong h n t).mpr b⟩⟩
  refine ⟨?_, fun t t1 t2 t3 => hz.2 t t1 t2 ((e t).mpr t3)⟩
  rcases hz.1 with a | ⟨a1, a2, a3⟩
  · exact Or.inl a
  · exact Or.inr ⟨a1, a2, (e z).mp a3⟩
/-- the fewest for t is just n -/
def isN (W : Int → Prop) (n : Nat) (t : Int) : Prop := oR W n t ∧ ∀ k : Nat, k < n → ¬ oR W k t
theorem isD_N {W : Int → Prop} {B t v : Int} (h : isD W B t v) {n : Nat} (hn : (n : Int) < B) : v = n ↔ isN W n t := by
  obtain ⟨d1, d2, d3, d4⟩ := h
  constructor
  · rintro rfl
    exact ⟨by have := d3 hn; simpa using this, fun k hk => d4 k (by omega)⟩
  · rintro ⟨a, b⟩
    rcases Int.lt_trichotomy v n with q | q | q
    · exact absurd (d3 (by omega)) (b v.toNat (by omega))
    · exact q
    · exact absurd a (d4 n q)
theorem isN_uniq {W : Int → Prop} {n m : Nat} {t : Int} (h : isN W n t) (h' : isN W m t) : n = m := by
  rcases Nat.lt_trichotomy n m with q | q | q
  · exact absurd h.1 (h'.2 n q)
  · exact q
  · exact absurd h'.1 (h.2 m q)
/-- the next slit: the greatest one behind which n are the fewest -/
def isX (W : Int → Prop) (left : Int) (n : Nat) (w : Int) : Prop := W w ∧ w ≤ left ∧ isN W n (left - w) ∧ ∀ w' : Int, W w' → w' ≤ left → isN W n (left - w') → w' ≤ w
theorem isX_uniq {W : Int → Prop} {left : Int} {n : Nat} {w w' : Int} (h : isX W left n w) (h' : isX W left n w') : w = w' := by
  have a := h.2.2.2 w' h'.1 h'.2.1 h'.2.2.1
  have b := h'.2.2.2 w h.1 h.2.1 h.2.2.1
  omega
theorem isN_cong {W W' : Int → Prop} (h : ∀ w, W w ↔ W' w) {n : Nat} {t : Int} : isN W n t ↔ isN W' n t :=
  ⟨fun ⟨a, b⟩ => ⟨(oR_cong h n t).mp a, fun k hk q => b k hk ((oR_cong h k t).mpr q)⟩, fun ⟨a, b⟩ => ⟨(oR_cong h n t).mpr a, fun k hk q => b k hk ((oR_cong h k t).mp q)⟩⟩
theorem isX_cong {W W' : Int → Prop} (h : ∀ w, W w ↔ W' w) {left : Int} {n : Nat} {w : Int} (hx : isX W left n w) : isX W' left n w :=
  ⟨(h w).mp hx.1, hx.2.1, (isN_cong h).mp hx.2.2.1, fun w' a b c => hx.2.2.2 w' ((h w').mpr a) b ((isN_cong h).mpr c)⟩
theorem isN_step {W : Int → Prop} {n : Nat} {t : Int} (h : isN W (n + 1) t) : ∃ w : Int, W w ∧ w ≤ t ∧ isN W n (t - w) := by
  obtain ⟨⟨w, h1, h2, h3⟩, h4⟩ := h
  exact ⟨w, h1, h2, h3, fun k hk q => h4 (k + 1) (by omega) ⟨w, h1, h2, q⟩⟩
/-- the draft that is laid out: n slits -/
def isF (W : Int → Prop) (total : Int) (n : Nat) (d : Nat → Int) : Prop := isN W n total ∧ ∀ i : Nat, i < n → isX W (total - o_sum d i) (n - 1 - i) (d i)
theorem isF_uniq {W : Int → Prop} {total : Int} {n m : Nat} {d e : Nat → Int} (h : isF W total n d) (h' : isF W total m e) : n = m ∧ ∀ i : Nat, i < n → d i = e i := by
  have hn := isN_uniq h.1 h'.1
  subst hn
  refine ⟨rfl, ?_⟩
  have I : ∀ i : Nat, i ≤ n → o_sum d i = o_sum e i ∧ ∀ j : Nat, j < i → d j = e j := by
    intro i
    induction i with
    | zero => intro _; exact ⟨rfl, fun j h => absurd h (Nat.not_lt_zero j)⟩
    | succ i ih =>
      intro hi
      obtain ⟨a, b⟩ := ih (by omega)
      have h1 := h.2 i (by omega)
      have h2 := h'.2 i (by omega)
      rw [a] at h1
      have h3 := isX_uniq h1 h2
      refine ⟨by rw [o_sum, o_sum, a, h3], fun j hj => ?_⟩
      rcases Nat.lt_succ_iff_lt_or_eq.mp hj with q | q
      · exact b j q
      · subst q; exact h3
  exact fun i hi => (I n (Nat.le_refl n)).2 i hi
theorem isF_cong {W W' : Int → Prop} (h : ∀ w, W w ↔ W' w) {total : Int} {n : Nat} {d : Nat → Int} (hx : isF W total n d) : isF W' total n d := ⟨(isN_cong h).mp hx.1, fun i hi => isX_cong h (hx.2 i hi)⟩
/-! trying: sequences whose places don't become less -/
def oQ (f : Nat → Int) (m : Nat) : Nat → Nat → Int → Prop
  | _, 0, t => t = 0
  | a, k + 1, t => ∃ i : Nat, a ≤ i ∧ i < m ∧ oQ f m i k (t - f i)
theorem oQ_ins {f : Nat → Int} {m : Nat} : ∀ (k a i : Nat) (t : Int), a ≤ i → i < m → oQ f m a k t → oQ f m a (k + 1) (t + f i)
  | 0, a, i, t, h1, h2, h3 => by
    simp only [oQ] at h3
    subst h3
    exact ⟨i, h1, h2, by simp only [oQ]; omega⟩
  | k + 1, a, i, t, h1, h2, h3 => by
    obtain ⟨j, j1, j2, j3⟩ := h3
    rcases Nat.le_total i j with q | q
    · exact ⟨i, h1, h2, j, q, j2, by rw [show t + f i - f i - f j = t - f j by omega]; exact j3⟩
    · have := oQ_ins k j i _ q h2 j3
      exact ⟨j, j1, j2, by rw [show t + f i - f j = t - f j + f i by omega]; exact this⟩
theorem oQ_of {W : Int → Prop} {f : Nat → Int} {m : Nat} (hW : ∀ w, W w ↔ ∃ j : Nat, j < m ∧ f j = w) : ∀ (k : Nat) (t : Int), oR W k t → oQ f m 0 k t
  | 0, t, h => h
  | k + 1, t, h => by
    obtain ⟨w, h1, h2, h3⟩ := h
    obtain ⟨j, j1, j2⟩ := (hW w).mp h1
    subst j2
    have := oQ_ins k 0 j _ (Nat.zero_le j) j1 (oQ_of hW k _ h3)
    rw [show t - f j + f j = t by omega] at this
    exact this
theorem oQ_nn {f : Nat → Int} {m : Nat} (hf : ∀ j, j < m → 0 ≤ f j) : ∀ (k a : Nat) (t : Int), oQ f m a k t → 0 ≤ t
  | 0, a, t, h => by simp only [oQ] at h; omega
  | k + 1, a, t, h => by
    obtain ⟨i, i1, i2, i3⟩ := h
    have := oQ_nn hf k i _ i3
    have := hf i i2
    omega
theorem oQ_to {W : Int → Prop} {f : Nat → Int} {m : Nat} (hW : ∀ w, W w ↔ ∃ j : Nat, j < m ∧ f j = w) (hf : ∀ j, j < m → 0 ≤ f j) : ∀ (k a : Nat) (t : Int), oQ f m a k t → oR W k t
  | 0, a, t, h => h
  | k + 1, a, t, h => by
    obtain ⟨i, i1, i2, i3⟩ := h
    have := oQ_nn hf k i _ i3
    exact ⟨f i, (hW _).mpr ⟨i, i2, rfl⟩, by omega, oQ_to hW hf k i _ i3⟩
/-- what trying from place a on answers -/
def isT (f : Nat → Int) (m a : Nat) (room : Int) (n : Nat) (z : Int) : Prop := 0 ≤ z ∧ (∃ k : Nat, k ≤ n ∧ oQ f m a k z) ∧ (z = 0 ∨ z ≤ room) ∧ ∀ (k : Nat) (t : Int), k ≤ n → t ≤ room → oQ f m a k t → t ≤ z
theorem isT_G {W : Int → Prop} {f : Nat → Int} {m : Nat} {room z : Int} {n : Nat} (hW : ∀ w, W w ↔ ∃ j : Nat, j < m ∧ f j = w) (hf : ∀ j, j < m → 0 ≤ f j) (h : isT f m 0 room n z) : isG W ((n : Int) + 1) room z := by
  obtain ⟨h0, ⟨k, k1, k2⟩, h1, h2⟩ := h
  refine ⟨?_, fun t t1 t2 t3 => ?_⟩
  · rcases Int.lt_or_le 0 z with q | q
    · exact Or.inr ⟨q, by omega, k, by omega, oQ_to hW hf k 0 z k2⟩
    · exact Or.inl (by omega)
  · obtain ⟨k', a, b⟩ := t3
    exact h2 k' t (by omega) t2 (oQ_of hW k' t b)
