/-! THE OTHER OFFICE IN FRONT: kinds 0 to 23 and 24 to 47 change their places -/
def swk (K : Nat) : Nat := if K < 24 then K + 24 else if K < 48 then K - 24 else K
def sw (σ : oMem) : oMem := fun K => σ (swk K)
def swg (g : oG) : oG := (g.1, fun K i => g.2.1 (swk K) i, g.2.2)
theorem swk_swk (K : Nat) : swk (swk K) = K := by
  unfold swk
  split
  · rw [if_neg (by omega), if_pos (by omega)]; omega
  · split
    · rw [if_pos (by omega)]; omega
    · rfl
theorem sw_sw (σ : oMem) : sw (sw σ) = σ := funext fun K => by show σ (swk (swk K)) = σ K; rw [swk_swk]
theorem sw_lo {σ : oMem} {K : Nat} (h : K < 24) : sw σ K = σ (K + 24) := by show σ (swk K) = _; unfold swk; rw [if_pos h]
theorem sw_hi {σ : oMem} {K : Nat} (h : K < 24) : sw σ (K + 24) = σ K := by
  show σ (swk (K + 24)) = _
  unfold swk
  rw [if_neg (by omega), if_pos (by omega), Nat.add_sub_cancel]
theorem swk_lt {K : Nat} (h : K < 48) : swk K < 48 := by
  unfold swk
  split
  · omega
  · omega
theorem sw_n : ∀ K, K < 48 → o_n (swk K) = o_n K := by decide +kernel
theorem n_48 {K i : Nat} (h : i < o_n K) : K < 48 := by
  rcases Nat.lt_or_ge K 48 with q | q
  · exact q
  · exact absurd h (by unfold o_n; rw [List.getD_eq_getElem?_getD, List.getElem?_eq_none (show o_ns.length ≤ K from q)]; exact Nat.not_lt_zero _)
theorem sw_sh {g : oG} {i : Nat} {f : Nat → Int} : ∀ K, K < 48 → o_sh (swg g) K i f = o_sh g (swk K) i f
  | 0, _ => rfl
  | 1, _ => rfl
  | 2, _ => rfl
  | 3, _ => rfl
  | 4, _ => rfl
  | 5, _ => rfl
  | 6, _ => rfl
  | 7, _ => rfl
  | 8, _ => rfl
  | 9, _ => rfl
  | 10, _ => rfl
  | 11, _ => rfl
  | 12, _ => rfl
  | 13, _ => rfl
  | 14, _ => rfl
  | 15, _ => rfl
  | 16, _ => rfl
  | 17, _ => rfl
  | 18, _ => rfl
  | 19, _ => rfl
  | 20, _ => rfl
  | 21, _ => rfl
  | 22, _ => rfl
  | 23, _ => rfl
  | 24, _ => rfl
  | 25, _ => rfl
  | 26, _ => rfl
  | 27, _ => rfl
  | 28, _ => rfl
  | 29, _ => rfl
  | 30, _ => rfl
  | 31, _ => rfl
  | 32, _ => rfl
  | 33, _ => rfl
  | 34, _ => rfl
  | 35, _ => rfl
  | 36, _ => rfl
  | 37, _ => rfl
  | 38, _ => rfl
  | 39, _ => rfl
  | 40, _ => rfl
  | 41, _ => rfl
  | 42, _ => rfl
  | 43, _ => rfl
  | 44, _ => rfl
  | 45, _ => rfl
  | 46, _ => rfl
  | 47, _ => rfl
  | K + 48, h => absurd h (by omega)
theorem o_P_iff {g : oG} {σ : oMem} {H : Heap} : va_P g.1 vwCl (o_ws g σ) H ↔ ∀ K i, i < o_n K → va_at g.1 vwCl (g.2.1 K i, o_sh g K i (σ K i)) H := by
  constructor
  · intro h K i hi
    obtain ⟨k, hk, -⟩ := o_at g σ hi
    exact h k _ hk
  · intro h k q hq
    rw [o_ws, List.getElem?_map] at hq
    cases hid : o_ids[k]? with
    | none => rw [hid] at hq; simp at hq
    | some id =>
      rw [hid] at hq
      obtain ⟨K, hK, hm⟩ := List.mem_flatMap.mp (List.mem_of_getElem? hid)
      obtain ⟨i, hi, rfl⟩ := List.mem_map.mp hm
      rw [← Option.some.inj hq]
      exact h K i (List.mem_range.mp hi)
theorem o_D_iff {g : oG} {σ : oMem} {A : Nat → Prop} : va_D A (o_ws g σ) ↔ (∀ K i K' i', i < o_n K → i' < o_n K' → g.2.1 K i = g.2.1 K' i' → K = K' ∧ i = i') ∧ ∀ K i, i < o_n K → A (g.2.1 K i) := by
  have key : ∀ (k : Nat) (q : Nat × va_E), (o_ws g σ)[k]? = some q → ∃ K i, i < o_n K ∧ o_ids[k]? = some (K, i) ∧ q.1 = g.2.1 K i := by
    intro k q hq
    rw [o_ws, List.getElem?_map] at hq
    cases hid : o_ids[k]? with
    | none => rw [hid] at hq; simp at hq
    | some id =>
      rw [hid] at hq
      obtain ⟨K, hK, hm⟩ := List.mem_flatMap.mp (List.mem_of_getElem? hid)
      obtain ⟨i, hi, rfl⟩ := List.mem_map.mp hm
      rw [← Option.some.inj hq]
      exact ⟨K, i, List.mem_range.mp hi, rfl, rfl⟩
  have back : ∀ K i, i < o_n K → ∃ k : Nat, o_ids[k]? = some (K, i) ∧ (o_ws g σ)[k]? = some (g.2.1 K i, o_sh g K i (σ K i)) := by
    intro K i hi
    obtain ⟨k, hk⟩ := List.mem_iff_getElem?.mp (o_mem hi)
    exact ⟨k, hk, by rw [o_ws, List.getElem?_map, hk]; rfl⟩
  constructor
  · intro h
    refine ⟨fun K i K' i' hi hi' he => ?_, fun K i hi => ?_⟩
    · obtain ⟨k, k1, k2⟩ := back K i hi
      obtain ⟨k', k1', k2'⟩ := back K' i' hi'
      have e := h.1 k k' _ _ k2 k2' he
      subst e
      have e2 := Option.some.inj (k1.symm.trans k1')
      exact ⟨congrArg Prod.fst e2, congrArg Prod.snd e2⟩
    · obtain ⟨k, -, k2⟩ := back K i hi
      exact h.2 k _ k2
  · intro h
    refine ⟨fun k k' q q' h1 h2 he => ?_, fun k q h1 => ?_⟩
    · obtain ⟨K, i, hi, e1, e2⟩ := key k q h1
      obtain ⟨K', i', hi', e1', e2'⟩ := key k' q' h2
      obtain ⟨rfl, rfl⟩ := h.1 K i K' i' hi hi' (by rw [← e2, ← e2']; exact he)
      exact (List.getElem?_inj (List.getElem?_eq_some_iff.mp e1).1 o_nodup).mp (e1.trans e1'.symm)
    · obtain ⟨K, i, hi, e1, e2⟩ := key k q h1
      rw [e2]; exact h.2 K i hi
theorem o_swP {g : oG} {σ : oMem} {H : Heap} : va_P (swg g).1 vwCl (o_ws (swg g) σ) H ↔ va_P g.1 vwCl (o_ws g (sw σ)) H := by
  rw [o_P_iff, o_P_iff]
  constructor
  · intro h K i hi
    have hK := n_48 hi
    have h2 := h (swk K) i (by rw [sw_n K hK]; exact hi)
    rw [sw_sh _ (swk_lt hK), swk_swk] at h2
    have e : (swg g).2.1 (swk K) i = g.2.1 K i := by show g.2.1 (swk (swk K)) i = _; rw [swk_swk]
    rw [e] at h2
    exact h2
  · intro h K i hi
    have hK := n_48 hi
    have h2 := h (swk K) i (by rw [sw_n K hK]; exact hi)
    rw [← sw_sh _ hK, show sw σ (swk K) = σ K by show σ (swk (swk K)) = _; rw [swk_swk]] at h2
    exact h2
theorem o_swD {g : oG} {A : Nat → Prop} (h : va_D A (o_ws g (fun _ _ _ => 0))) : va_D A (o_ws (swg g) (fun _ _ _ => 0)) := by
  rw [o_D_iff] at h ⊢
  refine ⟨fun K i K' i' hi hi' he => ?_, fun K i hi => ?_⟩
  · have hK := n_48 hi
    have hK' := n_48 hi'
    have e := h.1 (swk K) i (swk K') i' (by rw [sw_n K hK]; exact hi) (by rw [sw_n K' hK']; exact hi') he
    refine ⟨?_, e.2⟩
    have e1 := congrArg swk e.1
    rw [swk_swk, swk_swk] at e1
    exact e1
  · exact h.2 (swk K) i (by rw [sw_n K (n_48 hi)]; exact hi)
theorem oK.sw {l : Launch} {g : oG} {own : String} {cc : ByteArray} {lam mc : Nat} {x : oCtx} (C : oK l g own cc lam mc x) : oK l (swg g) own cc lam mc x := by
  obtain ⟨p, e, R, s, m, args, below, meth, c, Q, A, nL⟩ := x
  obtain ⟨hx, hb, hml, hown, hts, hK, hD, hA, hF, hR⟩ := C
  exact ⟨hx, hb, hml, hown, hts, hK, o_swD hD, hA, hF, hR⟩
theorem oW_sw {l : Launch} {g : oG} {x : oCtx} {σ : oMem} {pc : Nat} {vs : List (Option Value)} {st : List Value} {k : Nat} (h : oW l (swg g) x (sw σ) pc vs st k) : oW l g x σ pc vs st k := by
  obtain ⟨p, e, R, s, m, args, below, meth, c, Q, A, nL⟩ := x
  intro H locs ls hl hP hS
  exact h H locs ls hl (o_swP.mpr (by rw [sw_sw]; exact hP)) hS
theorem oW_ws {l : Launch} {g : oG} {x : oCtx} {σ : oMem} {pc : Nat} {vs : List (Option Value)} {st : List Value} {k : Nat} (h : oW l g x (sw σ) pc vs st k) : oW l (swg g) x σ pc vs st k := by
  obtain ⟨p, e, R, s, m, args, below, meth, c, Q, A, nL⟩ := x
  intro H locs ls hl hP hS
  exact h H locs ls hl (o_swP.mp hP) hS
/-- both offices, alike -/
def J (σ : oMem) : Prop := Tw σ (sw σ) ∧ QI σ ∧ QI (sw σ)
theorem J_mid {σ σ1 : oMem} (h : J σ) (f1 : ∀ K, 24 ≤ K → σ1 K = σ K) : Tw σ (sw σ1) ∧ QI σ ∧ QI (sw σ1) := by
  have e : ∀ K, K < 24 → sw σ1 K = sw σ K := fun K hK => by rw [sw_lo hK, sw_lo hK]; exact f1 _ (by omega)
  exact ⟨Tw_cong (fun _ _ => rfl) e h.1, h.2.1, QI_cong e h.2.2⟩
theorem J_lo {σ1 τ2 : oMem} (f2 : ∀ K, 24 ≤ K → τ2 K = sw σ1 K) (K : Nat) (hK : K < 24) : sw τ2 K = σ1 K := by
  rw [sw_lo hK, f2 _ (by omega), sw_hi hK]
theorem J_step {σ1 τ2 : oMem} {z y : Int} (f2 : ∀ K, 24 ≤ K → τ2 K = sw σ1 K) (hp : PC z y σ1 τ2) : y = z ∧ J (sw τ2) := by
  obtain ⟨a, b, d, e⟩ := hp
  exact ⟨a, Tw_cong (J_lo f2) (fun K hK => by rw [sw_sw]) b, QI_cong (J_lo f2) d, by rw [sw_sw]; exact e⟩
