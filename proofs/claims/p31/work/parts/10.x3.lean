/-! sums, pictures of patterns, coils and orders -/
def o_sum (f : Nat → Int) : Nat → Int
  | 0 => 0
  | n + 1 => o_sum f n + f n
def o_bl (σ : oMem) (K i n : Nat) (f : Nat → Int) : oMem := fun K' i' j' => if K' = K ∧ i' = i ∧ j' < n then f j' else σ K' i' j'
def o_rw (σ : oMem) (K i : Nat) (f : Nat → Int) : oMem := fun K' i' j' => if K' = K ∧ i' = i then f j' else σ K' i' j'
def o_has (f : Nat → Int) (n : Nat) (a : Int) : Bool := (List.range (n + 1)).any (fun k => o_sum f k == a)
theorem o_has_iff {f : Nat → Int} {n : Nat} {a : Int} : o_has f n a = true ↔ ∃ k : Nat, k ≤ n ∧ o_sum f k = a := by
  simp only [o_has, List.any_eq_true, List.mem_range, beq_iff_eq]
  constructor
  · rintro ⟨k, h1, h2⟩; exact ⟨k, by omega, h2⟩
  · rintro ⟨k, h1, h2⟩; exact ⟨k, by omega, h2⟩
/-- a pattern: how many slits, and how wide they are -/
def PB (σ : oMem) (p : Nat) : Prop := 0 ≤ σ 8 p 1 ∧ σ 8 p 1 ≤ 15 ∧ ∀ j : Nat, (j : Int) < σ 8 p 1 → 20 ≤ σ 9 p j ∧ σ 9 p j ≤ 1000
theorem PB.sum {σ : oMem} {p : Nat} (h : PB σ p) (t : Nat) (ht : (t : Int) ≤ σ 8 p 1) : 20 * (t : Int) ≤ o_sum (σ 9 p) t ∧ o_sum (σ 9 p) t ≤ 1000 * t := by
  induction t with
  | zero => simp [o_sum]
  | succ t ih =>
    have h1 := ih (by omega)
    have h2 := h.2.2 t (by omega)
    rw [o_sum]
    omega
theorem PB.mono {σ : oMem} {p : Nat} (h : PB σ p) {k t : Nat} (hk : k < t) (ht : (t : Int) ≤ σ 8 p 1) : o_sum (σ 9 p) k < o_sum (σ 9 p) t := by
  induction t with
  | zero => omega
  | succ t ih =>
    have h2 := h.2.2 t (by omega)
    rw [o_sum]
    by_cases e : k = t
    · subst e; omega
    · have h3 := ih (by omega) (by omega)
      omega
set_option maxRecDepth 100000 in
set_option maxHeartbeats 4000000 in
theorem c_X3_isFull {l : Launch} {g : oG} {σ : oMem} {p : Nat} (hp : p < 11) (h1 : InR (σ 8 p 1)) : oMi l g yX3_isFull (.code yX3_isFull cX3_isFull 1 (some .boolean)) 1 0 [.ref (g.2.1 8 p)] σ (fun z σ' => z = (if 15 ≤ σ 8 p 1 then 1 else 0) ∧ σ' = σ) := by
  refine oMi_of (own := RX3) (by decide +kernel) rfl (by simp [oi, Value.category]) (by simp) (fun x C E => ?_)
  show oW l g x σ 0 [some (.ref (g.2.1 8 p))] [] 0
  refine o_aload_n (pc := 0) C dX3_isFull_0 rfl ?_
  refine gf_X3_15 (pc := 1) C (by omega) dX3_isFull_1 ?_
  refine o_aload_n (pc := 4) C dX3_isFull_4 rfl ?_
  refine gf_X3_9 (pc := 5) C (by omega) dX3_isFull_5 ?_
  refine al_9 (pc := 8) C (by omega) dX3_isFull_8 ?_
  refine o_icmp_lt (pc := 9) C (tgt := 16) dX3_isFull_9 (by decide) (by omega) (by omega) (fun h9 => ?_) (fun h9 => ?_)
  · refine o_iconst (pc := 16) C dX3_isFull_16 ?_
    exact E _ _ _ _ _ dX3_isFull_17 rfl ⟨by split <;> omega, rfl⟩ (by omega)
  · refine o_iconst (pc := 12) C dX3_isFull_12 ?_
    refine o_goto (pc := 13) C (tgt := 17) dX3_isFull_13 (by decide) ?_
    exact E _ _ _ _ _ dX3_isFull_17 rfl ⟨by split <;> omega, rfl⟩ (by omega)
set_option maxRecDepth 100000 in
set_option maxHeartbeats 4000000 in
theorem c_X3_hasSlitAt {l : Launch} {g : oG} {σ : oMem} {p : Nat} {a : Int} (hp : p < 11) (h1 : InR (σ 8 p 1)) (ha : InR a) : oMi l g yX3_hasSlitAt (.code yX3_hasSlitAt cX3_hasSlitAt 2 (some .boolean)) 1 0 [.ref (g.2.1 8 p), oi a] σ (fun z σ' => z = (if 0 ≤ a ∧ a < σ 8 p 1 then 1 else 0) ∧ σ' = σ) := by
  refine oMi_of (own := RX3) (by decide +kernel) rfl (by simp [oi, Value.category]) (by simp) (fun x C E => ?_)
  show oW l g x σ 0 [some (.ref (g.2.1 8 p)), some (oi a)] [] 0
  refine o_iload_n (pc := 0) C dX3_hasSlitAt_0 rfl ?_
  refine o_if_lt (pc := 1) C (tgt := 16) dX3_hasSlitAt_1 (by decide) (by omega) (fun h1 => ?_) (fun h1 => ?_)
  · refine o_iconst (pc := 16) C dX3_hasSlitAt_16 ?_
    exact E _ _ _ _ _ dX3_hasSlitAt_17 rfl ⟨by split <;> omega, rfl⟩ (by omega)
  · refine o_iload_n (pc := 4) C dX3_hasSlitAt_4 rfl ?_
    refine o_aload_n (pc := 5) C dX3_hasSlitAt_5 rfl ?_
    refine gf_X3_15 (pc := 6) C (by omega) dX3_hasSlitAt_6 ?_
    refine o_icmp_ge (pc := 9) C (tgt := 16) dX3_hasSlitAt_9 (by decide) (by omega) (by omega) (fun h9 => ?_) (fun h9 => ?_)
    · refine o_iconst (pc := 16) C dX3_hasSlitAt_16 ?_
      exact E _ _ _ _ _ dX3_hasSlitAt_17 rfl ⟨by split <;> omega, rfl⟩ (by omega)
    · refine o_iconst (pc := 12) C dX3_hasSlitAt_12 ?_
      refine o_goto (pc := 13) C (tgt := 17) dX3_hasSlitAt_13 (by decide) ?_
      exact E _ _ _ _ _ dX3_hasSlitAt_17 rfl ⟨by split <;> omega, rfl⟩ (by omega)
set_option maxRecDepth 100000 in
set_option maxHeartbeats 4000000 in
theorem c_X3_empty {l : Launch} {g : oG} {σ : oMem} {p : Nat} (hp : p < 11) : oMv l g yX3_empty (.code yX3_empty cX3_empty 1 none) 1 0 [.ref (g.2.1 8 p)] σ (fun σ' => σ' = o_up σ 8 p 1 0) := by
  refine oMv_of (own := RX3) (by decide +kernel) rfl (by simp [oi, Value.category]) (by simp) (fun x C E => ?_)
  show oW l g x σ 0 [some (.ref (g.2.1 8 p))] [] 0
  refine o_aload_n (pc := 0) C dX3_empty_0 rfl ?_
  refine o_iconst (pc := 1) C dX3_empty_1 ?_
  refine pf_X3_15 (pc := 2) C (by omega) dX3_empty_2 ?_
  exact E _ _ _ _ dX3_empty_5 rfl (by omega)
set_option maxRecDepth 100000 in
set_option maxHeartbeats 4000000 in
theorem c_X3_append {l : Launch} {g : oG} {σ : oMem} {p : Nat} {a : Int} (hp : p < 11) (h1 : 0 ≤ σ 8 p 1) (h2 : InR (σ 8 p 1)) : oMv l g yX3_append (.code yX3_append cX3_append 2 none) 2 0 [.ref (g.2.1 8 p), oi a] σ (fun σ' => σ' = if σ 8 p 1 < 15 then o_up (o_up σ 9 p (σ 8 p 1).toNat a) 8 p 1 (σ 8 p 1 + 1) else σ) := by
  refine oMv_of (own := RX3) (by decide +kernel) rfl (by simp [oi, Value.category]) (by simp) (fun x C E => ?_)
  show oW l g x σ 0 [some (.ref (g.2.1 8 p)), some (oi a)] [] 0
  refine o_aload_n (pc := 0) C dX3_append_0 rfl ?_
  refine cl_X3_19 (pc := 1) C (c_X3_isFull hp h2) (by omega) (by omega) (by omega) (Nat.le_of_ble_eq_true rfl) dX3_append_1 (fun z σ2 hq => ?_)
  obtain ⟨rfl, rfl⟩ := hq
  refine o_if_ne (pc := 4) C (tgt := 27) dX3_append_4 (by decide) (by split <;> omega) (fun h4 => ?_) (fun h4 => ?_)
  · exact E _ _ _ _ dX3_append_27 (by simp_all [o_up] <;> omega) (by omega)
  · refine o_aload_n (pc := 7) C dX3_append_7 rfl ?_
    refine gf_X3_9 (pc := 8) C (by omega) dX3_append_8 ?_
    refine o_aload_n (pc := 11) C dX3_append_11 rfl ?_
    refine gf_X3_15 (pc := 12) C (by omega) dX3_append_12 ?_
    refine o_iload_n (pc := 15) C dX3_append_15 rfl ?_
    refine is_9 (pc := 16) C (by omega) (by omega) (by split at h4 <;> omega) dX3_append_16 ?_
    refine o_aload_n (pc := 17) C dX3_append_17 rfl ?_
    refine o_dup (pc := 18) C dX3_append_18 rfl ?_
    refine gf_X3_15 (pc := 19) C (by omega) dX3_append_19 ?_
    refine o_iconst (pc := 22) C dX3_append_22 ?_
    refine o_iadd (pc := 23) C dX3_append_23 ?_
    refine pf_X3_15 (pc := 24) C (by omega) dX3_append_24 ?_
    exact E _ _ _ _ dX3_append_27 (by simp_all [o_up] <;> omega) (by omega)
set_option maxRecDepth 100000 in
set_option maxHeartbeats 4000000 in
theorem c_X3_knivesNeeded {l : Launch} {g : oG} {σ : oMem} {p : Nat} (hp : p < 11) : oMi l g yX3_knivesNeeded (.code yX3_knivesNeeded cX3_knivesNeeded 1 (some .int)) 1 0 [.ref (g.2.1 8 p)] σ (fun z σ' => z = σ 8 p 1 + 1 ∧ σ' = σ) := by
  refine oMi_of (own := RX3) (by decide +kernel) rfl (by simp [oi, Value.category]) (by simp) (fun x C E => ?_)
  show oW l g x σ 0 [some (.ref (g.2.1 8 p))] [] 0
  refine o_aload_n (pc := 0) C dX3_knivesNeeded_0 rfl ?_
  refine gf_X3_15 (pc := 1) C (by omega) dX3_knivesNeeded_1 ?_
  refine o_iconst (pc := 4) C dX3_knivesNeeded_4 ?_
  refine o_iadd (pc := 5) C dX3_knivesNeeded_5 ?_
  exact E _ _ _ _ _ dX3_knivesNeeded_6 rfl ⟨rfl, rfl⟩ (by omega)
set_option maxRecDepth 100000 in
set_option maxHeartbeats 4000000 in
theorem c_X3_totalWidth {l : Launch} {g : oG} {σ : oMem} {p : Nat} (hp : p < 11) (hB : PB σ p) : oMi l g yX3_totalWidth (.code yX3_totalWidth cX3_totalWidth 3 (some .int)) 1 0 [.ref (g.2.1 8 p)] σ (fun z σ' => z = o_sum (σ 9 p) (σ 8 p 1).toNat ∧ σ' = σ) := by
  refine oMi_of (own := RX3) (by decide +kernel) rfl (by simp [oi, Value.category]) (by simp) (fun x C E => ?_)
  show oW l g x σ 0 [some (.ref (g.2.1 8 p)), none, none] [] 0
  obtain ⟨h0, h1, h2⟩ := id hB
  have L : ∀ (n t : Nat) (s b : Int), σ 8 p 1 < t + n → (t : Int) ≤ σ 8 p 1 → s = o_sum (σ 9 p) t → b = t → oW l g x σ 4 [some (.ref (g.2.1 8 p)), some (oi s), some (oi b)] [] 0 := by
    intro n
    induction n with
    | zero => intro t s b a1 a2; omega
    | succ n ih =>
      intro t s b a1 a2 a3 a4
      refine o_iload_n (pc := 4) C dX3_totalWidth_4 rfl ?_
      refine o_aload_n (pc := 5) C dX3_totalWidth_5 rfl ?_
      refine gf_X3_15 (pc := 6) C (by omega) dX3_totalWidth_6 ?_
      refine o_icmp_ge (pc := 9) C (tgt := 27) dX3_totalWidth_9 (by decide) (by omega) (by omega) (fun h9 => ?_) (fun h9 => ?_)
      · refine o_iload_n (pc := 27) C dX3_totalWidth_27 rfl ?_
        exact E _ _ _ _ _ dX3_totalWidth_28 rfl ⟨by rw [a3, show (σ 8 p 1).toNat = t by omega], rfl⟩ (by omega)
      · refine o_iload_n (pc := 12) C dX3_totalWidth_12 rfl ?_
        refine o_aload_n (pc := 13) C dX3_totalWidth_13 rfl ?_
        refine gf_X3_9 (pc := 14) C (by omega) dX3_totalWidth_14 ?_
        refine o_iload_n (pc := 17) C dX3_totalWidth_17 rfl ?_
        refine ia_9 (pc := 18) C (by omega) (by omega) (by omega) dX3_totalWidth_18 ?_
        refine o_iadd (pc := 19) C dX3_totalWidth_19 ?_
        refine sti_1 (pc := 20) C dX3_totalWidth_20 ?_
        refine inc_2 (pc := 21) C dX3_totalWidth_21 ?_
        refine o_goto (pc := 24) C (tgt := 4) dX3_totalWidth_24 (by decide) ?_
        exact ih (t + 1) _ _ (by omega) (by omega) (by rw [o_sum, a3, a4]; rfl) (by omega)
  refine o_iconst (pc := 0) C dX3_totalWidth_0 ?_
  refine sti_1 (pc := 1) C dX3_totalWidth_1 ?_
  refine o_iconst (pc := 2) C dX3_totalWidth_2 ?_
  refine sti_2 (pc := 3) C dX3_totalWidth_3 ?_
  exact L 16 0 _ _ (by omega) (by omega) rfl rfl
set_option maxRecDepth 100000 in
set_option maxHeartbeats 4000000 in
theorem c_X3_becomeCopyOf {l : Launch} {g : oG} {σ : oMem} {p q : Nat} (hp : p < 11) (hq : q < 11) (hne : q ≠ p) (h0 : 0 ≤ σ 8 q 1) (h1 : σ 8 q 1 ≤ 15) : oMv l g yX3_becomeCopyOf (.code yX3_becomeCopyOf cX3_becomeCopyOf 3 none) 3 0 [.ref (g.2.1 8 p), .ref (g.2.1 8 q)] σ (fun σ' => σ' = o_up (o_bl σ 9 p (σ 8 q 1).toNat (σ 9 q)) 8 p 1 (σ 8 q 1)) := by
  refine oMv_of (own := RX3) (by decide +kernel) rfl (by simp [oi, Value.category]) (by simp) (fun x C E => ?_)
  show oW l g x σ 0 [some (.ref (g.2.1 8 p)), some (.ref (g.2.1 8 q)), none] [] 0
  have L : ∀ (n t : Nat) (b : Int), σ 8 q 1 < t + n → (t : Int) ≤ σ 8 q 1 → b = t → oW l g x (o_up (o_bl σ 9 p t (σ 9 q)) 8 p 1 t) 6 [some (.ref (g.2.1 8 p)), some (.ref (g.2.1 8 q)), some (oi b)] [] 0 := by
    intro n
    induction n with
    | zero => intro t b a1 a2; omega
    | succ n ih =>
      intro t b a1 a2 a3
      have e1 : o_up (o_bl σ 9 p t (σ 9 q)) 8 p 1 t 8 q 1 = σ 8 q 1 := by simp [o_up, o_bl, hne]
      have e2 : o_up (o_bl σ 9 p t (σ 9 q)) 8 p 1 t 8 p 1 = t := by simp [o_up]
      have e3 : o_up (o_bl σ 9 p t (σ 9 q)) 8 p 1 t 9 q b.toNat = σ 9 q t := by simp [o_up, o_bl, hne, a3]
      refine o_iload_n (pc := 6) C dX3_becomeCopyOf_6 rfl ?_
      refine o_aload_n (pc := 7) C dX3_becomeCopyOf_7 rfl ?_
      refine gf_X3_15 (pc := 8) C (by omega) dX3_becomeCopyOf_8 ?_
      rw [e1]
      refine o_icmp_ge (pc := 11) C (tgt := 30) dX3_becomeCopyOf_11 (by decide) (by omega) (by omega) (fun h11 => ?_) (fun h11 => ?_)
      · exact E _ _ _ _ dX3_becomeCopyOf_30 (by rw [show (σ 8 q 1).toNat = t by omega, show σ 8 q 1 = t by omega]) (by omega)
      · refine o_aload_n (pc := 14) C dX3_becomeCopyOf_14 rfl ?_
        refine o_aload_n (pc := 15) C dX3_becomeCopyOf_15 rfl ?_
        refine gf_X3_9 (pc := 16) C (by omega) dX3_becomeCopyOf_16 ?_
        refine o_iload_n (pc := 19) C dX3_becomeCopyOf_19 rfl ?_
        refine ia_9 (pc := 20) C (by omega) (by omega) (by omega) dX3_becomeCopyOf_20 ?_
        rw [e3]
        refine cl_X3_26 (pc := 21) C (c_X3_append hp (by rw [e2]; omega) (by rw [e2]; omega)) (by omega) (by omega) (by omega) (Nat.le_of_ble_eq_true rfl) dX3_becomeCopyOf_21 (fun σ2 hq => ?_)
        rw [e2, if_pos (by omega)] at hq
        subst hq
        rw [show ((t : Int)).toNat = t by omega]
        refine inc_2 (pc := 24) C dX3_becomeCopyOf_24 ?_
        refine o_goto (pc := 27) C (tgt := 6) dX3_becomeCopyOf_27 (by decide) ?_
        rw [show o_up (o_up (o_up (o_bl σ 9 p t (σ 9 q)) 8 p 1 t) 9 p t (σ 9 q t)) 8 p 1 (t + 1) = o_up (o_bl σ 9 p (t + 1) (σ 9 q)) 8 p 1 ((t + 1 : Nat) : Int) from by funext K i j; simp only [o_up, o_bl]; grind]
        exact ih (t + 1) _ (by omega) (by omega) (by omega)
  refine o_aload_n (pc := 0) C dX3_becomeCopyOf_0 rfl ?_
  refine cl_X3_23 (pc := 1) C (c_X3_empty hp) (by omega) (by omega) (by omega) (Nat.le_of_ble_eq_true rfl) dX3_becomeCopyOf_1 (fun σ2 hq => ?_)
  subst hq
  refine o_iconst (pc := 4) C dX3_becomeCopyOf_4 ?_
  refine sti_2 (pc := 5) C dX3_becomeCopyOf_5 ?_
  rw [show o_up σ 8 p 1 0 = o_up (o_bl σ 9 p 0 (σ 9 q)) 8 p 1 ((0 : Nat) : Int) from by funext K i j; simp [o_up, o_bl]]
  exact L 16 0 _ (by omega) (by omega) rfl
set_option maxRecDepth 100000 in
set_option maxHeartbeats 4000000 in
theorem c_X3_hasKnifeAt {l : Launch} {g : oG} {σ : oMem} {p : Nat} {a : Int} (hp : p < 11) (hB : PB σ p) (ha0 : 0 ≤ a) (ha1 : a ≤ 20000) : oMi l g yX3_hasKnifeAt (.code yX3_hasKnifeAt cX3_hasKnifeAt 4 (some .boolean)) 1 0 [.ref (g.2.1 8 p), oi a] σ (fun z σ' => z = (if o_has (σ 9 p) (σ 8 p 1).toNat a = true then 1 else 0) ∧ σ' = σ) := by
  refine oMi_of (own := RX3) (by decide +kernel) rfl (by simp [oi, Value.category]) (by simp) (fun x C E => ?_)
  show oW l g x σ 0 [some (.ref (g.2.1 8 p)), some (oi a), none, none] [] 0
  obtain ⟨h0, h1, h2⟩ := id hB
  have L : ∀ (n t : Nat) (s b : Int), σ 8 p 1 < t + n → (t : Int) ≤ σ 8 p 1 → s = o_sum (σ 9 p) t → b = t → (∀ k, k < t → o_sum (σ 9 p) k < a) → oW l g x σ 4 [some (.ref (g.2.1 8 p)), some (oi a), some (oi s), some (oi b)] [] 0 := by
    intro n
    induction n with
    | zero => intro t s b a1 a2; omega
    | succ n ih =>
      intro t s b a1 a2 a3 a4 a5
      have hs := hB.sum t a2
      rw [← a3] at hs
      have hfin : (σ 8 p 1 ≤ t ∨ a ≤ s) → (o_has (σ 9 p) (σ 8 p 1).toNat a = true ↔ s = a) := by
        intro h
        rw [o_has_iff]
        constructor
        · rintro ⟨k, k1, k2⟩
          rcases Nat.lt_trichotomy k t with q | q | q
          · have := a5 k q; omega
          · subst q; omega
          · have := hB.mono q (by omega); omega
        · intro e; exact ⟨t, by omega, by omega⟩
      refine o_iload_n (pc := 4) C dX3_hasKnifeAt_4 rfl ?_
      refine o_aload_n (pc := 5) C dX3_hasKnifeAt_5 rfl ?_
      refine gf_X3_15 (pc := 6) C (by omega) dX3_hasKnifeAt_6 ?_
      refine o_icmp_ge (pc := 9) C (tgt := 32) dX3_hasKnifeAt_9 (by decide) (by omega) (by omega) (fun h9 => ?_) (fun h9 => ?_)
      · refine o_iload_n (pc := 32) C dX3_hasKnifeAt_32 rfl ?_
        refine o_iload_n (pc := 33) C dX3_hasKnifeAt_33 rfl ?_
        refine o_icmp_ne (pc := 34) C (tgt := 41) dX3_hasKnifeAt_34 (by decide) (by omega) (by omega) (fun h34 => ?_) (fun h34 => ?_)
        · refine o_iconst (pc := 41) C dX3_hasKnifeAt_41 ?_
          exact E _ _ _ _ _ dX3_hasKnifeAt_42 rfl ⟨by have h9 := hfin (by omega); split <;> rename_i h8 <;> first | rfl | (exfalso; rw [h9] at h8; omega), rfl⟩ (by omega)
        · refine o_iconst (pc := 37) C dX3_hasKnifeAt_37 ?_
          refine o_goto (pc := 38) C (tgt := 42) dX3_hasKnifeAt_38 (by decide) ?_
          exact E _ _ _ _ _ dX3_hasKnifeAt_42 rfl ⟨by have h9 := hfin (by omega); split <;> rename_i h8 <;> first | rfl | (exfalso; rw [h9] at h8; omega), rfl⟩ (by omega)
      · refine o_iload_n (pc := 12) C dX3_hasKnifeAt_12 rfl ?_
        refine o_iload_n (pc := 13) C dX3_hasKnifeAt_13 rfl ?_
        refine o_icmp_ge (pc := 14) C (tgt := 32) dX3_hasKnifeAt_14 (by decide) (by omega) (by omega) (fun h14 => ?_) (fun h14 => ?_)
        · refine o_iload_n (pc := 32) C dX3_hasKnifeAt_32 rfl ?_
          refine o_iload_n (pc := 33) C dX3_hasKnifeAt_33 rfl ?_
          refine o_icmp_ne (pc := 34) C (tgt := 41) dX3_hasKnifeAt_34 (by decide) (by omega) (by omega) (fun h34 => ?_) (fun h34 => ?_)
          · refine o_iconst (pc := 41) C dX3_hasKnifeAt_41 ?_
            exact E _ _ _ _ _ dX3_hasKnifeAt_42 rfl ⟨by have h9 := hfin (by omega); split <;> rename_i h8 <;> first | rfl | (exfalso; rw [h9] at h8; omega), rfl⟩ (by omega)
          · refine o_iconst (pc := 37) C dX3_hasKnifeAt_37 ?_
            refine o_goto (pc := 38) C (tgt := 42) dX3_hasKnifeAt_38 (by decide) ?_
            exact E _ _ _ _ _ dX3_hasKnifeAt_42 rfl ⟨by have h9 := hfin (by omega); split <;> rename_i h8 <;> first | rfl | (exfalso; rw [h9] at h8; omega), rfl⟩ (by omega)
        · refine o_iload_n (pc := 17) C dX3_hasKnifeAt_17 rfl ?_
          refine o_aload_n (pc := 18) C dX3_hasKnifeAt_18 rfl ?_
          refine gf_X3_9 (pc := 19) C (by omega) dX3_hasKnifeAt_19 ?_
          refine o_iload_n (pc := 22) C dX3_hasKnifeAt_22 rfl ?_
          refine ia_9 (pc := 23) C (by omega) (by omega) (by omega) dX3_hasKnifeAt_23 ?_
          refine o_iadd (pc := 24) C dX3_hasKnifeAt_24 ?_
          refine sti_2 (pc := 25) C dX3_hasKnifeAt_25 ?_
          refine inc_3 (pc := 26) C dX3_hasKnifeAt_26 ?_
          refine o_goto (pc := 29) C (tgt := 4) dX3_hasKnifeAt_29 (by decide) ?_
          exact ih (t + 1) _ _ (by omega) (by omega) (by rw [o_sum, a3, a4]; rfl) (by omega) (fun k hk => by rcases Nat.lt_succ_iff_lt_or_eq.mp hk with q | q; exact a5 k q; subst q; omega)
  refine o_iconst (pc := 0) C dX3_hasKnifeAt_0 ?_
  refine sti_2 (pc := 1) C dX3_hasKnifeAt_1 ?_
  refine o_iconst (pc := 2) C dX3_hasKnifeAt_2 ?_
  refine sti_3 (pc := 3) C dX3_hasKnifeAt_3 ?_
  exact L 16 0 _ _ (by omega) (by omega) rfl rfl (fun k hk => absurd hk (Nat.not_lt_zero k))
set_option maxRecDepth 100000 in
set_option maxHeartbeats 4000000 in
theorem c_X3_knivesNotIn {l : Launch} {g : oG} {σ : oMem} {p q : Nat} (hp : p < 11) (hq : q < 11) (hB : PB σ p) (hB2 : PB σ q) : oMi l g yX3_knivesNotIn (.code yX3_knivesNotIn cX3_knivesNotIn 5 (some .int)) 2 0 [.ref (g.2.1 8 p), .ref (g.2.1 8 q)] σ (fun z σ' => z = o_sum (fun j => if o_has (σ 9 q) (σ 8 q 1).toNat (o_sum (σ 9 p) (j + 1)) = true then 0 else 1) (σ 8 p 1).toNat ∧ σ' = σ) := by
  refine oMi_of (own := RX3) (by decide +kernel) rfl (by simp [oi, Value.category]) (by simp) (fun x C E => ?_)
  show oW l g x σ 0 [some (.ref (g.2.1 8 p)), some (.ref (g.2.1 8 q)), none, none, none] [] 0
  obtain ⟨h0, h1, h2⟩ := id hB
  have L : ∀ (n t : Nat) (s b m : Int), σ 8 p 1 < t + n → (t : Int) ≤ σ 8 p 1 → s = o_sum (σ 9 p) t → b = t → m = o_sum (fun j => if o_has (σ 9 q) (σ 8 q 1).toNat (o_sum (σ 9 p) (j + 1)) = true then 0 else 1) t → oW l g x σ 7 [some (.ref (g.2.1 8 p)), some (.ref (g.2.1 8 q)), some (oi m), some (oi s), some (oi b)] [] 0 := by
    intro n
    induction n with
    | zero => intro t s b m a1 a2; omega
    | succ n ih =>
      intro t s b m a1 a2 a3 a4 a5
      refine o_iload (pc := 7) C dX3_knivesNotIn_7 rfl ?_
      refine o_aload_n (pc := 9) C dX3_knivesNotIn_9 rfl ?_
      refine gf_X3_15 (pc := 10) C (by omega) dX3_knivesNotIn_10 ?_
      refine o_icmp_ge (pc := 13) C (tgt := 43) dX3_knivesNotIn_13 (by decide) (by omega) (by omega) (fun h13 => ?_) (fun h13 => ?_)
      · refine o_iload_n (pc := 43) C dX3_knivesNotIn_43 rfl ?_
        exact E _ _ _ _ _ dX3_knivesNotIn_44 rfl ⟨by rw [a5, show (σ 8 p 1).toNat = t by omega], rfl⟩ (by omega)
      · have e1 : s + σ 9 p b.toNat = o_sum (σ 9 p) (t + 1) := by rw [o_sum, a3, a4]; rfl
        have hs := hB.sum (t + 1) (by omega)
        refine o_iload_n (pc := 16) C dX3_knivesNotIn_16 rfl ?_
        refine o_aload_n (pc := 17) C dX3_knivesNotIn_17 rfl ?_
        refine gf_X3_9 (pc := 18) C (by omega) dX3_knivesNotIn_18 ?_
        refine o_iload (pc := 21) C dX3_knivesNotIn_21 rfl ?_
        refine ia_9 (pc := 23) C (by omega) (by omega) (by omega) dX3_knivesNotIn_23 ?_
        refine o_iadd (pc := 24) C dX3_knivesNotIn_24 ?_
        rw [e1]
        refine sti_3 (pc := 25) C dX3_knivesNotIn_25 ?_
        refine o_aload_n (pc := 26) C dX3_knivesNotIn_26 rfl ?_
        refine o_iload_n (pc := 27) C dX3_knivesNotIn_27 rfl ?_
        refine cl_X3_30 (pc := 28) C (c_X3_hasKnifeAt hq hB2 (by omega) (by omega)) (by omega) (by omega) (by omega) (Nat.le_of_ble_eq_true rfl) dX3_knivesNotIn_28 (fun z σ2 hq => ?_)
        obtain ⟨rfl, rfl⟩ := hq
        refine o_if_ne (pc := 31) C (tgt := 37) dX3_knivesNotIn_31 (by decide) (by split <;> omega) (fun h31 => ?_) (fun h31 => ?_)
        · refine inc_4 (pc := 37) C dX3_knivesNotIn_37 ?_
          refine o_goto (pc := 40) C (tgt := 7) dX3_knivesNotIn_40 (by decide) ?_
          exact ih (t + 1) _ _ _ (by omega) (by omega) rfl (by omega) (by rw [o_sum, a5]; simp_all)
        · refine inc_2 (pc := 34) C dX3_knivesNotIn_34 ?_
          refine inc_4 (pc := 37) C dX3_knivesNotIn_37 ?_
          refine o_goto (pc := 40) C (tgt := 7) dX3_knivesNotIn_40 (by decide) ?_
          exact ih (t + 1) _ _ _ (by omega) (by omega) rfl (by omega) (by rw [o_sum, a5]; simp_all)
  refine o_iconst (pc := 0) C dX3_knivesNotIn_0 ?_
  refine sti_2 (pc := 1) C dX3_knivesNotIn_1 ?_
  refine o_iconst (pc := 2) C dX3_knivesNotIn_2 ?_
  refine sti_3 (pc := 3) C dX3_knivesNotIn_3 ?_
  refine o_iconst (pc := 4) C dX3_knivesNotIn_4 ?_
  refine sti_4 (pc := 5) C dX3_knivesNotIn_5 ?_
  exact L 16 0 _ _ _ (by omega) (by omega) rfl rfl rfl
