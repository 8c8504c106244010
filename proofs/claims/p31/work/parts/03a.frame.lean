/-! THE FRAME: one world for two offices, the kinds 24 to 47 being the other's; a state of it is a function oMem: kind of the cell, its number, its slot, to a whole number. References never change once all is made. -/
abbrev oMem : Type := Nat → Nat → Nat → Int
abbrev oG : Type := va_G × (Nat → Nat → Nat) × (Nat → ClassId)
def oi (z : Int) : Value := .int (Int32.ofInt z)
abbrev InR (z : Int) : Prop := -2147483648 ≤ z ∧ z ≤ 2147483647
/-- how many cells of each kind -/
def o_ns : List Nat := [1, 20, 20, 20, 20, 20, 20, 12, 11, 11, 1, 1, 1, 1, 8, 8, 1, 1, 1, 1, 1, 1, 1, 1, 1, 20, 20, 20, 20, 20, 20, 12, 11, 11, 1, 1, 1, 1, 8, 8, 1, 1, 1, 1, 1, 1, 1, 1]
def o_n (K : Nat) : Nat := o_ns.getD K 0
/-- how long the rows of ints of each kind are -/
def o_lens : List Nat := [0, 0, 8, 8, 15, 15, 15, 0, 0, 15, 0, 12, 2001, 0, 7, 128, 7, 7, 7, 0, 0, 0, 0, 0, 0, 0, 8, 8, 15, 15, 15, 0, 0, 15, 0, 12, 2001, 0, 7, 128, 7, 7, 7, 0, 0, 0, 0, 0]
def o_len (K : Nat) : Nat := o_lens.getD K 0
def o_sh (g : oG) (K i : Nat) (f : Nat → Int) : va_E :=
  if K = 0 then .inr (5, [.ref (g.2.1 19 0), oi (f 1), .ref (g.2.1 20 0), oi (f 3), .ref (g.2.1 21 0), oi (f 5), .ref (g.2.1 8 10), oi (f 7), oi (f 8), oi (f 9), oi (f 10), oi (f 11), .ref (g.2.1 17 0), .ref (g.2.1 18 0), oi (f 14), .ref (g.2.1 10 0), .ref (g.2.1 13 0)])
  else if K = 1 then .inr (0, [oi (f 0), oi (f 1), oi (f 2), oi (f 3), .ref (g.2.1 2 i), .ref (g.2.1 3 i), oi (f 6), .ref (g.2.1 4 i), .ref (g.2.1 5 i), .ref (g.2.1 6 i), oi (f 10), oi (f 11), oi (f 12), oi (f 13)])
  else if K = 7 then .inr (2, [oi (f 0), oi (f 1), oi (f 2), oi (f 3)])
  else if K = 8 then .inr (3, [.ref (g.2.1 9 i), oi (f 1)])
  else if K = 10 then .inr (1, [.ref (g.2.1 11 0), oi (f 1), .ref (g.2.1 12 0)])
  else if K = 13 then .inr (4, [.ref (g.2.1 22 0), .ref (g.2.1 23 0), .ref (g.2.1 16 0)])
  else if K = 19 then .inl (g.2.2 1, 20, .inr (.inr (.inr (.inr (fun j => some (g.2.1 1 j))))))
  else if K = 20 then .inl (g.2.2 2, 12, .inr (.inr (.inr (.inr (fun j => some (g.2.1 7 j))))))
  else if K = 21 then .inl (g.2.2 3, 10, .inr (.inr (.inr (.inr (fun j => some (g.2.1 8 j))))))
  else if K = 22 then .inl (g.2.2 4, 8, .inr (.inr (.inr (.inr (fun j => some (g.2.1 14 j))))))
  else if K = 23 then .inl (g.2.2 4, 8, .inr (.inr (.inr (.inr (fun j => some (g.2.1 15 j))))))
  else if K = 24 then .inr (5, [.ref (g.2.1 43 0), oi (f 1), .ref (g.2.1 44 0), oi (f 3), .ref (g.2.1 45 0), oi (f 5), .ref (g.2.1 32 10), oi (f 7), oi (f 8), oi (f 9), oi (f 10), oi (f 11), .ref (g.2.1 41 0), .ref (g.2.1 42 0), oi (f 14), .ref (g.2.1 34 0), .ref (g.2.1 37 0)])
  else if K = 25 then .inr (0, [oi (f 0), oi (f 1), oi (f 2), oi (f 3), .ref (g.2.1 26 i), .ref (g.2.1 27 i), oi (f 6), .ref (g.2.1 28 i), .ref (g.2.1 29 i), .ref (g.2.1 30 i), oi (f 10), oi (f 11), oi (f 12), oi (f 13)])
  else if K = 31 then .inr (2, [oi (f 0), oi (f 1), oi (f 2), oi (f 3)])
  else if K = 32 then .inr (3, [.ref (g.2.1 33 i), oi (f 1)])
  else if K = 34 then .inr (1, [.ref (g.2.1 35 0), oi (f 1), .ref (g.2.1 36 0)])
  else if K = 37 then .inr (4, [.ref (g.2.1 46 0), .ref (g.2.1 47 0), .ref (g.2.1 40 0)])
  else if K = 43 then .inl (g.2.2 1, 20, .inr (.inr (.inr (.inr (fun j => some (g.2.1 25 j))))))
  else if K = 44 then .inl (g.2.2 2, 12, .inr (.inr (.inr (.inr (fun j => some (g.2.1 31 j))))))
  else if K = 45 then .inl (g.2.2 3, 10, .inr (.inr (.inr (.inr (fun j => some (g.2.1 32 j))))))
  else if K = 46 then .inl (g.2.2 4, 8, .inr (.inr (.inr (.inr (fun j => some (g.2.1 38 j))))))
  else if K = 47 then .inl (g.2.2 4, 8, .inr (.inr (.inr (.inr (fun j => some (g.2.1 39 j))))))
  else .inl (g.2.2 0, o_len K, .inl (fun j => Int32.ofInt (f j)))
def o_ids : List (Nat × Nat) := (List.range 48).flatMap (fun K => (List.range (o_n K)).map (fun i => (K, i)))
def o_ws (g : oG) (σ : oMem) : va_W := o_ids.map (fun q => (g.2.1 q.1 q.2, o_sh g q.1 q.2 (σ q.1 q.2)))
def o_tys (g : oG) : List (ClassId × FieldType) := [(g.2.2 0, .int), (g.2.2 1, .object RX0), (g.2.2 2, .object RX2), (g.2.2 3, .object RX3), (g.2.2 4, .array .int)]
theorem o_nodup : o_ids.Nodup := by decide +kernel
theorem o_mem {K i : Nat} (h : i < o_n K) : (K, i) ∈ o_ids := by
  refine List.mem_flatMap.mpr ⟨K, List.mem_range.mpr ?_, List.mem_map.mpr ⟨i, List.mem_range.mpr h, rfl⟩⟩
  rcases Nat.lt_or_ge K 48 with q | q
  · exact q
  · exact absurd h (by unfold o_n; rw [List.getD_eq_getElem?_getD, List.getElem?_eq_none (show o_ns.length ≤ K from q)]; exact Nat.not_lt_zero _)
theorem o_at (g : oG) (σ : oMem) {K i : Nat} (h : i < o_n K) : ∃ k : Nat, (o_ws g σ)[k]? = some (g.2.1 K i, o_sh g K i (σ K i)) ∧ ∀ (σ' : oMem) (e : va_E), (∀ K' i', ¬ (K' = K ∧ i' = i) → σ' K' i' = σ K' i') → e = o_sh g K i (σ' K i) → (o_ws g σ).set k (g.2.1 K i, e) = o_ws g σ' := by
  obtain ⟨k, hk⟩ := List.mem_iff_getElem?.mp (o_mem h)
  refine ⟨k, by rw [o_ws, List.getElem?_map, hk]; rfl, fun σ' e h1 h2 => ?_⟩
  apply List.ext_getElem?
  intro j
  rw [List.getElem?_set, o_ws, o_ws, List.getElem?_map, List.getElem?_map]
  by_cases hj : k = j
  · subst hj
    rw [if_pos rfl, hk, h2]
    have hl : k < (o_ids.map (fun q => (g.2.1 q.1 q.2, o_sh g q.1 q.2 (σ q.1 q.2)))).length := by
      rw [List.length_map]; exact (List.getElem?_eq_some_iff.mp hk).1
    rw [if_pos hl]; rfl
  · rw [if_neg hj]
    cases hq : o_ids[j]? with
    | none => rfl
    | some q =>
      have hne : ¬ (q.1 = K ∧ q.2 = i) := by
        rintro ⟨rfl, rfl⟩
        exact hj ((List.getElem?_inj (List.getElem?_eq_some_iff.mp hk).1 o_nodup).mp (hk.trans hq.symm))
      show some (g.2.1 q.1 q.2, o_sh g q.1 q.2 (σ q.1 q.2)) = some (g.2.1 q.1 q.2, o_sh g q.1 q.2 (σ' q.1 q.2))
      rw [h1 q.1 q.2 hne]
def o_up (σ : oMem) (K i j : Nat) (v : Int) : oMem := fun K' i' j' => if K' = K ∧ i' = i ∧ j' = j then v else σ K' i' j'
theorem o_up_at (σ : oMem) (K i j : Nat) (v : Int) (K' i' j' : Nat) : o_up σ K i j v K' i' j' = if K' = K ∧ i' = i ∧ j' = j then v else σ K' i' j' := rfl
theorem o_up_row (σ : oMem) (K i j : Nat) (v : Int) (K' i' : Nat) (h : ¬ (K' = K ∧ i' = i)) : o_up σ K i j v K' i' = σ K' i' := by
  funext j'
  exact if_neg (fun q => h ⟨q.1, q.2.1⟩)
theorem o_up_own (σ : oMem) (K i j : Nat) (v : Int) : o_up σ K i j v K i = fun j' => if j' = j then v else σ K i j' := by
  funext j'
  simp [o_up]
/-! whole numbers and ints -/
theorem o_size : (Int32.size : Int) = 4294967296 := rfl
theorem o_toInt {z : Int} (h : InR z) : (Int32.ofInt z).toInt = z := by
  rw [Int32.toInt_ofInt]
  exact Int.bmod_eq_of_le (by have := h.1; have := o_size; omega) (by have := h.2; have := o_size; omega)
theorem o_le {a b : Int} (ha : InR a) (hb : InR b) : Int32.ofInt a ≤ Int32.ofInt b ↔ a ≤ b := by rw [Int32.le_iff_toInt_le, o_toInt ha, o_toInt hb]
theorem o_lt {a b : Int} (ha : InR a) (hb : InR b) : Int32.ofInt a < Int32.ofInt b ↔ a < b := by rw [Int32.lt_iff_toInt_lt, o_toInt ha, o_toInt hb]
theorem o_eq {a b : Int} (ha : InR a) (hb : InR b) : Int32.ofInt a = Int32.ofInt b ↔ a = b := by rw [← Int32.toInt_inj, o_toInt ha, o_toInt hb]
theorem o_of (x : Int32) : ∃ z : Int, InR z ∧ x = Int32.ofInt z := ⟨x.toInt, ⟨Int32.minValue_le_toInt x, Int32.toInt_le x⟩, (Int32.ofInt_toInt x).symm⟩
theorem o_add (a b : Int) : Int32.ofInt a + Int32.ofInt b = Int32.ofInt (a + b) := (Int32.ofInt_add a b).symm
theorem o_sub (a b : Int) : Int32.ofInt a - Int32.ofInt b = Int32.ofInt (a - b) := (Int32.ofInt_sub a b).symm
theorem o_mul (a b : Int) : Int32.ofInt a * Int32.ofInt b = Int32.ofInt (a * b) := (Int32.ofInt_mul a b).symm
theorem o_div {a b : Int} (ha : 0 ≤ a) (hb : 0 < b) (h1 : InR a) (h2 : InR b) : Int32.ofInt a / Int32.ofInt b = Int32.ofInt (a / b) := by
  rw [← Int32.toInt_inj, Int32.toInt_div, o_toInt h1, o_toInt h2, Int.tdiv_eq_ediv_of_nonneg ha]
  have h3 : 0 ≤ a / b := Int.ediv_nonneg ha (Int.le_of_lt hb)
  have h4 : a / b ≤ a := Int.ediv_le_self b ha
  have h5 : InR (a / b) := ⟨by omega, by have := h1.2; omega⟩
  rw [o_toInt h5]
  exact Int.bmod_eq_of_le (by have := h5.1; have := o_size; omega) (by have := h5.2; have := o_size; omega)
theorem o_in {z : Int} {n : Nat} (h0 : 0 ≤ z) (h1 : z < n) (hn : n ≤ 2147483647) : vp_in (Int32.ofInt z) n := by
  rw [vp_in_iff, o_toInt ⟨by omega, by omega⟩]
  exact ⟨h0, h1⟩
theorem o_nat {z : Int} (h : InR z) : (Int32.ofInt z).toNatClampNeg = z.toNat := by
  rw [← o_toInt h]
  simp [o_toInt h, Int32.toNatClampNeg]
/-! a frame's locals: a list of values, none where unset; none of two slots -/
def o_as : Nat → List (Option Value) → List (Nat × Value)
  | _, [] => []
  | i, none :: r => o_as (i + 1) r
  | i, some v :: r => (i, v) :: o_as (i + 1) r
theorem o_as_mem {i : Nat} {v : Value} : ∀ (vs : List (Option Value)) (k : Nat), (i, v) ∈ o_as k vs ↔ ∃ j : Nat, i = k + j ∧ vs[j]? = some (some v)
  | [], k => by simp [o_as]
  | none :: r, k => by
    rw [o_as, o_as_mem r (k + 1)]
    constructor
    · rintro ⟨j, h1, h2⟩
      exact ⟨j + 1, by omega, by simpa using h2⟩
    · rintro ⟨j, h1, h2⟩
      cases j with
      | zero => simp at h2
      | succ j => exact ⟨j, by omega, by simpa using h2⟩
  | some w :: r, k => by
    rw [o_as, List.mem_cons, o_as_mem r (k + 1)]
    constructor
    · rintro (h | ⟨j, h1, h2⟩)
      · cases h
        exact ⟨0, rfl, rfl⟩
      · exact ⟨j + 1, by omega, by simpa using h2⟩
    · rintro ⟨j, h1, h2⟩
      cases j with
      | zero =>
        simp at h2
        exact Or.inl (by rw [h1, h2]; rfl)
      | succ j => exact Or.inr ⟨j, by omega, by simpa using h2⟩
def oL (ls : Array Slot) (nL : Nat) (vs : List (Option Value)) : Prop := lv_has ls nL (o_as 0 vs) ∧ vs.length = nL ∧ ∀ v : Value, some v ∈ vs → v.category = 1
theorem oL.val {ls : Array Slot} {nL : Nat} {vs : List (Option Value)} (h : oL ls nL vs) {i : Nat} {v : Value} (hi : vs[i]? = some (some v)) : ls[i]? = some (.val v) := h.1.2.2 (i, v) ((o_as_mem vs 0).mpr ⟨i, by omega, hi⟩)
theorem oL.lt {ls : Array Slot} {nL : Nat} {vs : List (Option Value)} (h : oL ls nL vs) {i : Nat} (hi : i < vs.length) : i < nL := h.2.1 ▸ hi
theorem oL.setv {ls ls' : Array Slot} {nL : Nat} {vs : List (Option Value)} (h : oL ls nL vs) {i : Nat} {v : Value} (hv : v.category = 1) (hi : i < vs.length) (h' : lv_has ls' nL ((i, v) :: (o_as 0 vs).filter (fun q => !(q.1 == i) && !(q.1 + 1 == i && q.2.category == 2)))) : oL ls' nL (vs.set i (some v)) := by
  refine ⟨⟨h'.1, h'.2.1, fun q hq => ?_⟩, by rw [List.length_set]; exact h.2.1, fun w hw => ?_⟩
  · obtain ⟨j, h1, h2⟩ := (o_as_mem (i := q.1) (v := q.2) _ 0).mp hq
    rw [List.getElem?_set] at h2
    by_cases hj : i = j
    · subst hj
      rw [if_pos rfl, if_pos hi] at h2
      have h3 := h'.2.2 (i, v) List.mem_cons_self
      have e1 : q.1 = i := by omega
      have e2 : q.2 = v := (Option.some.inj (Option.some.inj h2)).symm
      rw [e1, e2]; exact h3
    · rw [if_neg hj] at h2
      refine h'.2.2 q (List.mem_cons_of_mem _ (List.mem_filter.mpr ⟨(o_as_mem (i := q.1) (v := q.2) _ 0).mpr ⟨j, h1, h2⟩, ?_⟩))
      have hc := h.2.2 q.2 (List.mem_of_getElem? h2)
      have hne : ¬ q.1 = i := by omega
      simp [hne, hc]
  · rcases List.mem_or_eq_of_mem_set hw with h1 | h1
    · exact h.2.2 w h1
    · cases h1; exact hv
theorem oL.entry (av : List Value) {n : Nat} (hc : ∀ v ∈ av, v.category = 1) (hn : av.length ≤ n) : ∃ ls : Array Slot, (lg_sl av ++ List.replicate (n - (lg_sl av).length) Slot.unset).toArray = ls ∧ oL ls n (av.map some ++ List.replicate (n - av.length) none) := by
  have hsl : lg_sl av = av.map Slot.val := by
    unfold lg_sl
    induction av with
    | nil => rfl
    | cons a r ih =>
      rw [List.flatMap_cons, ih (fun v h => hc v (List.mem_cons_of_mem _ h)) (by simp at hn; omega)]
      have h1 := hc a List.mem_cons_self
      simp [h1]
  have hlen : (lg_sl av).length = av.length := by rw [hsl, List.length_map]
  have h := lv_entry av (n := n) (by rw [hlen]; exact hn)
  refine ⟨_, rfl, ⟨h.1, h.2.1, fun q hq => ?_⟩, by simp; omega, fun v hv => ?_⟩
  · obtain ⟨j, h1, h2⟩ := (o_as_mem (i := q.1) (v := q.2) _ 0).mp hq
    have e1 : q.1 = j := by omega
    rw [e1]
    by_cases hj : j < av.length
    · rw [List.getElem?_append_left (by simpa using hj), List.getElem?_map] at h2
      cases hq2 : av[j]? with
      | none => rw [hq2] at h2; simp at h2
      | some w =>
        rw [hq2] at h2
        simp at h2
        rw [hsl, List.getElem?_toArray, List.getElem?_append_left (by simpa using hj), List.getElem?_map, hq2, ← h2]
        rfl
    · rw [List.getElem?_append_right (by simpa using Nat.le_of_not_lt hj)] at h2
      rw [List.getElem?_replicate] at h2
      split at h2 <;> simp at h2
  · rcases List.mem_append.mp hv with h1 | h1
    · obtain ⟨w, hw, e⟩ := List.mem_map.mp h1
      cases e; exact hc _ hw
    · rw [List.mem_replicate] at h1
      cases h1.2
/-! the judgement: the machine stands in this method at pc with these locals and this stack, in this world, and comes to Q -/
abbrev oCtx : Type := Program × Env × Room × State × MethodId × Array Value × List Frame × Method × Code × (State → Prop) × (Nat → Prop) × Nat
def oW (l : Launch) (g : oG) : oCtx → oMem → Nat → List (Option Value) → List Value → Nat → Prop
  | (p, e, R, s, m, args, below, meth, c, Q, A, nL), σ, pc, vs, st, k => ∀ (H : Heap) (locs : List Loc) (ls : Array Slot), oL ls nL vs → va_P g.1 vwCl (o_ws g σ) H → va_S A s.heap H locs → W p l e R s m args below meth c H locs k (6 * k) Q (F0 m pc ls st)
def o_nf : List (String × Nat × String × String × String × String) := [(RX5, 102, "SlittingOffice$Coil", "length", "I", "SlittingOffice"), (RX5, 135, "SlittingOffice$Pattern", "count", "I", "SlittingOffice"), (RX5, 150, "SlittingOffice$Pattern", "widths", "[I", "SlittingOffice"), (RX5, 219, "SlittingOffice$RunOrder", "best", "[I", "SlittingOffice"), (RX5, 222, "SlittingOffice$Coil", "slitCount", "I", "SlittingOffice"), (RX5, 228, "SlittingOffice$Coil", "slitWeights", "[I", "SlittingOffice"), (RX5, 231, "SlittingOffice$Coil", "slitOrders", "[I", "SlittingOffice"), (RX5, 234, "SlittingOffice$Coil", "innerTurns", "I", "SlittingOffice"), (RX5, 237, "SlittingOffice$Coil", "cutOut", "I", "SlittingOffice"), (RX5, 240, "SlittingOffice$Coil", "trim", "I", "SlittingOffice"), (RX5, 246, "SlittingOffice$Order", "received", "I", "SlittingOffice"), (RX5, 249, "SlittingOffice$Order", "heat", "I", "SlittingOffice"), (RX5, 275, "SlittingOffice$Coil", "width", "I", "SlittingOffice"), (RX5, 287, "SlittingOffice$Coil", "heat", "I", "SlittingOffice"), (RX5, 291, "SlittingOffice$Order", "width", "I", "SlittingOffice"), (RX5, 302, "SlittingOffice$Coil", "slitWidths", "[I", "SlittingOffice"), (RX5, 315, "SlittingOffice$RunOrder", "moves", "[[I", "SlittingOffice"), (RX0, 76, "SlittingOffice$Pattern", "count", "I", "SlittingOffice"), (RX0, 81, "SlittingOffice$Pattern", "widths", "[I", "SlittingOffice")]
def o_nm : List (String × Nat × MethodName × String) := [(RX5, 105, yX0_isSlit, "SlittingOffice"), (RX5, 109, yX0_hasMostDefects, "SlittingOffice"), (RX5, 114, yX0_addDefect, "SlittingOffice"), (RX5, 118, yX0_cutOutLength, "SlittingOffice"), (RX5, 125, yX2_describe, "SlittingOffice"), (RX5, 127, yX3_isFull, "SlittingOffice"), (RX5, 132, yX3_append, "SlittingOffice"), (RX5, 138, yX3_empty, "SlittingOffice"), (RX5, 141, yX3_hasSlitAt, "SlittingOffice"), (RX5, 155, yX3_becomeCopyOf, "SlittingOffice"), (RX5, 174, yX1_greatestTotal, "SlittingOffice"), (RX5, 178, yX1_layOut, "SlittingOffice"), (RX5, 184, yX1_greatestTotalByTrying, "SlittingOffice"), (RX5, 207, yX4_fewestBySets, "SlittingOffice"), (RX5, 216, yX4_findBest, "SlittingOffice"), (RX5, 252, yX0_stockOf, "SlittingOffice"), (RX5, 272, yX0_hasSlitAt, "SlittingOffice"), (RX5, 278, yX3_totalWidth, "SlittingOffice"), (RX5, 281, yX3_knivesNeeded, "SlittingOffice"), (RX5, 284, yX1_forgetWidths, "SlittingOffice"), (RX5, 288, yX2_wouldTakeHeat, "SlittingOffice"), (RX5, 292, yX1_offerWidth, "SlittingOffice"), (RX5, 295, yX0_slitBy, "SlittingOffice"), (RX5, 308, yX2_receive, "SlittingOffice"), (RX5, 311, yX3_knivesNotIn, "SlittingOffice"), (RX5, 37, yX3_init, "SlittingOffice"), (RX5, 69, yX1_init, "SlittingOffice"), (RX5, 76, yX4_init, "SlittingOffice"), (RX5, 81, yX0_init, "SlittingOffice"), (RX5, 82, yX2_init, "SlittingOffice"), (RX5, 94, yX0_describe, "SlittingOffice"), (RX1, 32, yX3_empty, "SlittingOffice"), (RX1, 40, yX3_append, "SlittingOffice")]
def o_ca : List String := ["java/lang/IllegalArgumentException", "java/lang/IllegalStateException", "java/lang/IndexOutOfBoundsException"]
def o_de : List MethodName := [Bundle.initS "java/lang/RuntimeException", Bundle.initS "java/lang/Exception", Bundle.initS "java/lang/Throwable"]
def o_tx : List (String × Nat × String) := [(RX5, 112, "the coil is slit or has no room for a defect"), (RX5, 123, "no more orders"), (RX5, 130, "the draft has no room for a slit"), (RX5, 147, "the draft has no such slit"), (RX5, 153, "the draft is empty or there are no more patterns"), (RX5, 182, "too many knives for trying"), (RX5, 191, "the coil is slit or the pattern does not fit it"), (RX5, 202, "the run can not wait"), (RX5, 214, "no such place"), (RX5, 257, "out of range"), (RX5, 263, "no such coil"), (RX5, 268, "no such pattern"), (RX5, 270, "no such order"), (RX5, 273, "the coil has no such slit"), (RX5, 89, "no more coils")]
/-- what is known of the tables beside the words: links among nest mates, texts, two statics of Throwable -/
def oF (A : Nat → Prop) (U : State) (H : Heap) : Prop :=
  (∀ q ∈ o_nf, va_Nw (.fieldLinkNest q.1 q.2.1 q.2.2.1 q.2.2.2.1 q.2.2.2.2.1 q.2.2.2.2.2) U) ∧ (∀ q ∈ o_nm, va_Nw (.methodLinkNest q.1 q.2.1 q.2.2.1 q.2.2.2) U) ∧ (∀ q ∈ o_tx, ∃ a : Nat, vk_R q.1 q.2.1 q.2.2 a U) ∧
  vx_Zq Bundle.tN "UNASSIGNED_STACK" Bundle.steD A U H ∧ vx_Zq Bundle.tN "SUPPRESSED_SENTINEL" Bundle.listD A U H ∧ (∀ q ∈ o_ca, va_Nw (.castable q q) U) ∧ (∀ q ∈ o_de, va_Nw (.declares q) U)
def oA (g : oG) (sz : Nat) : Nat → Prop := va_A (o_ws g (fun _ _ _ => 0)) sz
theorem o_ws_addr {g : oG} {σ σ' : oMem} {k : Nat} {a : Nat} {e : va_E} (h : (o_ws g σ)[k]? = some (a, e)) : ∃ e' : va_E, (o_ws g σ')[k]? = some (a, e') := by
  rw [o_ws, List.getElem?_map] at h
  cases hq : o_ids[k]? with
  | none => rw [hq] at h; simp at h
  | some q =>
    rw [hq] at h
    have h1 := congrArg (Option.map Prod.fst) h
    simp at h1
    exact ⟨_, by rw [o_ws, List.getElem?_map, hq, ← h1]; rfl⟩
theorem oA_ws {g : oG} {σ : oMem} {sz q : Nat} : oA g sz q ↔ va_A (o_ws g σ) sz q := by
  constructor
  · rintro (⟨k, e, h⟩ | h)
    · obtain ⟨e', h'⟩ := o_ws_addr (σ' := σ) h
      exact Or.inl ⟨k, e', h'⟩
    · exact Or.inr h
  · rintro (⟨k, e, h⟩ | h)
    · obtain ⟨e', h'⟩ := o_ws_addr (σ' := fun _ _ _ => 0) h
      exact Or.inl ⟨k, e', h'⟩
    · exact Or.inr h
theorem o_ws_D {g : oG} {σ σ' : oMem} {A : Nat → Prop} (h : va_D A (o_ws g σ)) : va_D A (o_ws g σ') := by
  refine ⟨fun i j p q h1 h2 h3 => ?_, fun k q h1 => ?_⟩
  · obtain ⟨e1, h1'⟩ := o_ws_addr (σ' := σ) (a := p.1) (e := p.2) h1
    obtain ⟨e2, h2'⟩ := o_ws_addr (σ' := σ) (a := q.1) (e := q.2) h2
    exact h.1 i j _ _ h1' h2' h3
  · obtain ⟨e1, h1'⟩ := o_ws_addr (σ' := σ) (a := q.1) (e := q.2) h1
    exact h.2 k (q.1, e1) h1'
def oPre (g : oG) (σ : oMem) (sz : Nat) (U : State) : Prop := U.heap.size = sz ∧ va_P g.1 vwCl (o_ws g σ) U.heap ∧ va_K g.1 vwCl (o_tys g) U ∧ va_D (fun _ => True) (o_ws g (fun _ _ _ => 0)) ∧ oF (oA g sz) U U.heap
def oK (l : Launch) (g : oG) (own : String) (cc : ByteArray) (lam mc : Nat) : oCtx → Prop
  | (p, e, R, s, m, args, below, meth, c, Q, A, nL) => p.tables.exec = Jvm.exec ∧ c.code = cc ∧ c.maxLocals = nL ∧ s.vm.findClass own = some m.cls ∧ (∀ w ∈ wsL_law, w.before args s = true) ∧ va_K g.1 vwCl (o_tys g) s ∧ va_D A (o_ws g (fun _ _ _ => 0)) ∧ (∀ q : Nat, s.heap.size ≤ q → A q) ∧ oF A s s.heap ∧ (10 + lam ≤ R.frames ∧ 200 + 100 * lam ≤ R.locals ∧ mc ≤ R.cells ∧ 6 * mc ≤ R.slots)
def oRm (lam mc : Nat) : Room := { frames := 10 + lam, cells := mc, slots := 6 * mc, locals := 200 + 100 * lam }
theorem oF.same {A : Nat → Prop} {u U : State} {H : Heap} (h : u.vm = U.vm) (f : oF A u H) : oF A U H := by
  obtain ⟨f1, f2, f3, f4, f5, f6, f7⟩ := f
  refine ⟨fun q hq => va_Nw.same rfl h (f1 q hq), fun q hq => va_Nw.same rfl h (f2 q hq), fun q hq => ?_, f4.moved (by rw [h]; exact Vm.Alike.refl _), f5.moved (by rw [h]; exact Vm.Alike.refl _), fun q hq => va_Nw.same rfl h (f6 q hq), fun q hq => va_Nw.same rfl h (f7 q hq)⟩
  obtain ⟨a, ha⟩ := f3 q hq
  exact ⟨a, ha.same h.symm⟩
theorem oF.warm {A : Nat → Prop} {s U : State} {H : Heap} (h : s.WarmedH U.vm) (f : oF A s H) : oF A U H := by
  obtain ⟨f1, f2, f3, f4, f5, f6, f7⟩ := f
  refine ⟨fun q hq => va_Nw.warmF h (f1 q hq), fun q hq => va_Nw.warmM h (f2 q hq), fun q hq => ?_, f4.moved h.alike, f5.moved h.alike, fun q hq => va_Nw.warmC h (f6 q hq), fun q hq => va_Nw.warmD h (f7 q hq)⟩
  obtain ⟨a, ha⟩ := f3 q hq
  exact ⟨a, ha.warm h⟩
theorem oF.kept {A : Nat → Prop} {U : State} {H H1 : Heap} (hq : ∀ a : Nat, a < H.size → ¬ A a → H1[a]? = H[a]?) (f : oF A U H) : oF A U H1 := ⟨f.1, f.2.1, f.2.2.1, f.2.2.2.1.kept hq, f.2.2.2.2.1.kept hq, f.2.2.2.2.2⟩
theorem oF.narrow {A B : Nat → Prop} {U : State} {H : Heap} (hAB : ∀ q, B q → A q) (f : oF A U H) : oF B U H := ⟨f.1, f.2.1, f.2.2.1, f.2.2.2.1.narrow hAB, f.2.2.2.2.1.narrow hAB, f.2.2.2.2.2⟩
theorem oA_in {g : oG} {A : Nat → Prop} {H0 H : Heap} (hD : va_D A (o_ws g (fun _ _ _ => 0))) (hA : ∀ q : Nat, H0.size ≤ q → A q) (hz : H0.size ≤ H.size) : ∀ q : Nat, oA g H.size q → A q := by
  rintro q (⟨k, e, h⟩ | h)
  · exact hD.2 k _ h
  · exact hA q (Nat.le_trans hz h)
theorem oPre_blind {g : oG} {av : List Value} {σ : oMem} {sz : Nat} : FrameBlind (va_Pc av (oPre g σ sz)) := by
  intro a U g' mk h
  obtain ⟨h0, h1, h2, h3, h4, h5⟩ := h
  exact ⟨h0, h1, h2, va_K.moved (u := U) (U := U.calling g' mk a) (Vm.Alike.refl U.vm) h3, h4, oF.same (u := U) (U := U.calling g' mk a) rfl h5⟩
/-- the world at a call -/
theorem o_pre {l : Launch} {g : oG} {own : String} {cc : ByteArray} {lam mc : Nat} {p : Program} {e : Env} {R : Room} {s : State} {m : MethodId} {args : Array Value} {below : List Frame} {meth : Method} {c : Code} {Q : State → Prop} {A : Nat → Prop} {nL : Nat}
    (C : oK l g own cc lam mc (p, e, R, s, m, args, below, meth, c, Q, A, nL)) {σ : oMem} {H : Heap} {locs : List Loc} (hP : va_P g.1 vwCl (o_ws g σ) H) (hS : va_S A s.heap H locs) (av : List Value) : ∀ U : State, U.heap = H → s.WarmedH U.vm → va_Pc av (oPre g σ H.size) av.toArray U := by
  obtain ⟨-, -, -, -, -, hK, hD, hA, hF, -⟩ := C
  intro U hU hW
  refine ⟨rfl, by rw [hU], by rw [hU]; exact hP, va_K.moved hW.alike hK, ⟨hD.1, fun _ _ _ => trivial⟩, ?_⟩
  rw [hU]
  exact ((hF.kept (fun a h1 h2 => hS.2.1 a h1 h2)).narrow (oA_in hD hA hS.1)).warm hW
/-! contracts: an int that is z, the world behind it; nothing; and such methods as may throw, the world being as it was -/
def oMi (l : Launch) (g : oG) (y : MethodName) (w : Cond) (lam mc : Nat) (av : List Value) (σ : oMem) (post : Int → oMem → Prop) : Prop :=
  ∀ sz : Nat, Met l y (w :: wsL_law) (oRm lam mc) (va_Pc av (oPre g σ sz)) (va_Qi (fun r (σ' : oMem) => ∃ z : Int, r = Int32.ofInt z ∧ post z σ') (fun σ' t => va_P g.1 vwCl (o_ws g σ') t.heap) (oA g sz)) mc (6 * mc) (oA g sz)
def oMv (l : Launch) (g : oG) (y : MethodName) (w : Cond) (lam mc : Nat) (av : List Value) (σ : oMem) (post : oMem → Prop) : Prop :=
  ∀ sz : Nat, Met l y (w :: wsL_law) (oRm lam mc) (va_Pc av (oPre g σ sz)) (va_Qv post (fun σ' t => va_P g.1 vwCl (o_ws g σ') t.heap) (oA g sz)) mc (6 * mc) (oA g sz)
def oXC (g : oG) (σ : oMem) (px : String → Prop) (sz : Nat) : String → State → State → Prop := vx_X (S := Unit) (fun _ => True) (fun E _ t => px E ∧ va_P g.1 vwCl (o_ws g σ) t.heap) (oA g sz)
def oXi (l : Launch) (g : oG) (y : MethodName) (w : Cond) (lam mc : Nat) (av : List Value) (σ : oMem) (post : Int → oMem → Prop) (px : String → Prop) : Prop :=
  ∀ sz : Nat, vx_Met l y (w :: wsL_law) (oRm lam mc) (va_Pc av (oPre g σ sz)) (va_Qi (fun r (σ' : oMem) => ∃ z : Int, r = Int32.ofInt z ∧ post z σ') (fun σ' t => va_P g.1 vwCl (o_ws g σ') t.heap) (oA g sz)) (oXC g σ px sz) mc (6 * mc) (oA g sz)
def oXv (l : Launch) (g : oG) (y : MethodName) (w : Cond) (lam mc : Nat) (av : List Value) (σ : oMem) (post : oMem → Prop) (px : String → Prop) : Prop :=
  ∀ sz : Nat, vx_Met l y (w :: wsL_law) (oRm lam mc) (va_Pc av (oPre g σ sz)) (va_Qv post (fun σ' t => va_P g.1 vwCl (o_ws g σ') t.heap) (oA g sz)) (oXC g σ px sz) mc (6 * mc) (oA g sz)
