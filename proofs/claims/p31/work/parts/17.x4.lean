def oLn (σ : oMem) (b s r : Nat) : Prop := hb s r = true ∧ oCst σ b s r = σ 15 b s
set_option maxRecDepth 100000 in
set_option maxHeartbeats 4000000 in
theorem c_X4_leastNext {l : Launch} {g : oG} {σ : oMem} {b s n : Nat} (hM : OM σ) (hb0 : b < 8) (hs : s < 128) (hn : n ≤ 7) (hex : ∃ r, r < n ∧ oLn σ b s r) : oMi l g yX4_leastNext (.code yX4_leastNext cX4_leastNext 5 (some .int)) 3 0 [.ref (g.2.1 13 0), oi (b : Int), oi (s : Int), oi (n : Int)] σ (fun z σ' => (∃ r : Nat, z = r ∧ isLst (oLn σ b s) n r) ∧ σ' = σ) := by
  refine oMi_of (own := RX4) (by decide +kernel) rfl (by simp [oi, Value.category]) (by simp) (fun x C E => ?_)
  show oW l g x σ 0 [some (.ref (g.2.1 13 0)), some (oi (b : Int)), some (oi (s : Int)), some (oi (n : Int)), none] [] 0
  have L : ∀ (q t : Nat) (i : Int), n < t + q → t ≤ n → i = t → (∀ r, r < t → ¬ oLn σ b s r) → oW l g x σ 3 [some (.ref (g.2.1 13 0)), some (oi (b : Int)), some (oi (s : Int)), some (oi (n : Int)), some (oi i)] [] 0 := by
    intro q
    induction q with
    | zero => intro t i a1 a2; omega
    | succ q ih =>
      intro t i a1 a2 a3 a4
      subst a3
      refine o_iload (pc := 3) C dX4_leastNext_3 rfl ?_
      refine o_iload_n (pc := 5) C dX4_leastNext_5 rfl ?_
      refine o_icmp_ge (pc := 6) C (tgt := 46) dX4_leastNext_6 (by decide) (by omega) (by omega) (fun h6 => ?_) (fun h6 => ?_)
      · exfalso
        obtain ⟨r, r1, r2⟩ := hex
        exact a4 r (by omega) r2
      · refine o_iload_n (pc := 9) C dX4_leastNext_9 rfl ?_
        refine o_iload (pc := 10) C dX4_leastNext_10 rfl ?_
        refine cl_X4_27 (pc := 12) C (c_X4_holds hs (by omega)) (by omega) (by omega) (Nat.le_of_ble_eq_true rfl) dX4_leastNext_12 (fun z σ2 hq => ?_)
        obtain ⟨rfl, hq⟩ := hq
        rw [hq]; clear hq
        refine o_if_eq (pc := 15) C (tgt := 40) dX4_leastNext_15 (by decide) (by split <;> omega) (fun h15 => ?_) (fun h15 => ?_)
        · refine inc_4 (pc := 40) C dX4_leastNext_40 ?_
          refine o_goto (pc := 43) C (tgt := 3) dX4_leastNext_43 (by decide) ?_
          refine ih (t + 1) _ (by omega) (by omega) (by omega) (fun r hr => ?_)
          rcases Nat.lt_succ_iff_lt_or_eq.mp hr with y | y
          · exact a4 r y
          · subst y
            rintro ⟨y1, y2⟩
            first
            | (rw [show ((s : Int)).toNat = s by omega] at h34; omega)
            | (revert h15; rw [if_pos y1]; decide)
        · have hw := wo_lt s hs t (by omega)
          have hm1 := hM.1 b t hb0 (by omega)
          have hm2 := hM.2.1 t (wo s t) (by omega) (by omega)
          have hm3 := hM.2.1 b s hb0 hs
          have hc1 : 0 ≤ oCst σ b s t ∧ oCst σ b s t ≤ 144 := by unfold oCst; omega
          have hbt : hb s t = true := by revert h15; split <;> simp_all
          refine o_aload_n (pc := 18) C dX4_leastNext_18 rfl ?_
          refine o_iload_n (pc := 19) C dX4_leastNext_19 rfl ?_
          refine o_iload (pc := 20) C dX4_leastNext_20 rfl ?_
          refine o_iload_n (pc := 22) C dX4_leastNext_22 rfl ?_
          refine cl_X4_31 (pc := 23) C (c_X4_movesThrough hb0 hs (by omega)) (by omega) (by omega) (Nat.le_of_ble_eq_true rfl) dX4_leastNext_23 (fun z σ2 hq => ?_)
          obtain ⟨rfl, hq⟩ := hq
          rw [hq]; clear hq
          refine o_aload_n (pc := 26) C dX4_leastNext_26 rfl ?_
          refine gf_X4_16 (pc := 27) C dX4_leastNext_27 ?_
          refine o_iload_n (pc := 30) C dX4_leastNext_30 rfl ?_
          refine aa_23 (pc := 31) C (by omega) (by omega) dX4_leastNext_31 ?_
          rw [show ((b : Int)).toNat = b by omega]
          refine o_iload_n (pc := 32) C dX4_leastNext_32 rfl ?_
          refine ia_15 (pc := 33) C (by omega) (by omega) (by omega) dX4_leastNext_33 ?_
          skip
          refine o_icmp_ne (pc := 34) C (tgt := 40) dX4_leastNext_34 (by decide) (by omega) (by rw [show ((s : Int)).toNat = s by omega]; omega) (fun h34 => ?_) (fun h34 => ?_)
          · refine inc_4 (pc := 40) C dX4_leastNext_40 ?_
            refine o_goto (pc := 43) C (tgt := 3) dX4_leastNext_43 (by decide) ?_
            refine ih (t + 1) _ (by omega) (by omega) (by omega) (fun r hr => ?_)
            rcases Nat.lt_succ_iff_lt_or_eq.mp hr with y | y
            · exact a4 r y
            · subst y
              rintro ⟨y1, y2⟩
              first
              | (rw [show ((s : Int)).toNat = s by omega] at h34; omega)
              | (revert h15; rw [if_pos y1]; decide)
          · refine o_iload (pc := 37) C dX4_leastNext_37 rfl ?_
            rw [show ((s : Int)).toNat = s by omega] at h34
            exact E _ _ _ _ _ dX4_leastNext_39 rfl ⟨⟨t, rfl, by omega, ⟨hbt, by omega⟩, a4⟩, rfl⟩ (by omega)
  refine o_iconst (pc := 0) C dX4_leastNext_0 ?_
  refine sti_4 (pc := 1) C dX4_leastNext_1 ?_
  exact L 8 0 _ (by omega) (by omega) rfl (fun r hr => absurd hr (Nat.not_lt_zero r))
def oS (n : Nat) (q : Nat → Nat) : Nat → Nat
  | 0 => 2 ^ n - 1
  | i + 1 => wo (oS n q i) (q i)
theorem oS_cong {n : Nat} {q q' : Nat → Nat} : ∀ i : Nat, (∀ j, j < i → q j = q' j) → oS n q i = oS n q' i
  | 0, _ => rfl
  | i + 1, h => by rw [oS, oS, oS_cong i (fun j hj => h j (by omega)), h i (by omega)]
abbrev oBf (q : Nat → Nat) (i : Nat) : Nat := if i = 0 then 7 else q (i - 1)
set_option maxRecDepth 100000 in
set_option maxHeartbeats 4000000 in
theorem c_X4_findBest {l : Launch} {g : oG} {σ : oMem} {n : Nat} (hM : OM σ) (hn : n ≤ 7) : oMv l g yX4_findBest (.code yX4_findBest cX4_findBest 6 none) 5 0 [.ref (g.2.1 13 0), oi (n : Int)] σ (fun σ' => OM σ' ∧ (∀ K, K ≠ 15 → K ≠ 16 → σ' K = σ K) ∧ ∃ q : Nat → Nat, (∀ i, i < n → σ' 16 0 i = q i) ∧ isBest (σ 14) n q) := by
  refine oMv_of (own := RX4) (by decide +kernel) rfl (by simp [oi, Value.category]) (by simp) (fun x C E => ?_)
  show oW l g x σ 0 [some (.ref (g.2.1 13 0)), some (oi (n : Int)), none, none, none, none] [] 0
  obtain ⟨h1, h128⟩ := p2_le n (by omega)
  have L : ∀ (k t : Nat) (μ : oMem) (q : Nat → Nat) (b s i : Int) (r : Option Value), n < t + k → t ≤ n → i = t → OM μ → (∀ K, K ≠ 15 → K ≠ 16 → μ K = σ K) → (∀ b s : Nat, b < 8 → s < 2 ^ n → μ 15 b s = oFC (σ 14) n b s) → (∀ i, i < t → μ 16 0 i = q i) → (∀ i, i < t → isLst (oNx (σ 14) n (oBf q i) (oS n q i)) n (q i)) → b = oBf q t → s = oS n q t → cd (oS n q t) + t = n → oS n q t < 2 ^ n → oBf q t < 8 → oW l g x μ 18 [some (.ref (g.2.1 13 0)), some (oi (n : Int)), some (oi b), some (oi s), some (oi i), r] [] 0 := by
    intro k
    induction k with
    | zero => intro t μ q b s i r a1 a2; omega
    | succ k ih =>
      intro t μ q b s i r a1 a2 a3 a4 a5 a6 a7 a8 a9 a10 a11 a12 a13
      subst a3 a9 a10
      have hlt : ∀ r, r < n → (oLn μ (oBf q t) (oS n q t) r ↔ oNx (σ 14) n (oBf q t) (oS n q t) r) := fun r hr => by
        unfold oLn oNx oCst
        rw [a5 14 (by decide) (by decide), a6 _ _ a13 a12, a6 r _ (by omega) (wo_n n (by omega) _ a12 r (by omega))]
      have hex : t < n → ∃ r, r < n ∧ oLn μ (oBf q t) (oS n q t) r := fun ht => by
        obtain ⟨r, r1, r2⟩ := oNx_some (mv := σ 14) (n := n) (b := oBf q t) (s := oS n q t) (by omega) (fun b r c1 c2 => hM.1 b r c1 (by omega)) a13 a12 (by intro h0; rw [h0] at a11; simp [cd] at a11; omega)
        exact ⟨r, r1, (hlt r r1).mpr r2⟩
      refine o_iload (pc := 18) C dX4_findBest_18 rfl ?_
      refine o_iload_n (pc := 20) C dX4_findBest_20 rfl ?_
      refine o_icmp_ge (pc := 21) C (tgt := 58) dX4_findBest_21 (by decide) (by omega) (by omega) (fun h21 => ?_) (fun h21 => ?_)
      · exact E _ _ _ _ dX4_findBest_58 ⟨a4, a5, q, fun i hi => a7 i (by omega), oS n q, rfl, fun i hi => ⟨a8 i (by omega), rfl⟩⟩ (by omega)
      · refine o_aload_n (pc := 24) C dX4_findBest_24 rfl ?_
        refine o_iload_n (pc := 25) C dX4_findBest_25 rfl ?_
        refine o_iload_n (pc := 26) C dX4_findBest_26 rfl ?_
        refine o_iload_n (pc := 27) C dX4_findBest_27 rfl ?_
        refine cl_X4_47 (pc := 28) C (c_X4_leastNext a4 a13 (by omega) hn (hex (by omega))) (by omega) (by omega) (Nat.le_of_ble_eq_true rfl) dX4_findBest_28 (fun z σ2 hq => ?_)
        obtain ⟨⟨w, rfl, hw⟩, hq⟩ := hq
        rw [hq]; clear hq
        have hw1 := hw.1
        have hwb := hb_cd (oS n q t) (by omega) w (by omega) hw.2.1.1
        refine sti_5 (pc := 31) C dX4_findBest_31 ?_
        refine o_aload_n (pc := 33) C dX4_findBest_33 rfl ?_
        refine gf_X4_19 (pc := 34) C dX4_findBest_34 ?_
        refine o_iload (pc := 37) C dX4_findBest_37 rfl ?_
        refine o_iload (pc := 39) C dX4_findBest_39 rfl ?_
        refine is_16 (pc := 41) C (by omega) (by omega) dX4_findBest_41 ?_
        refine o_iload_n (pc := 42) C dX4_findBest_42 rfl ?_
        refine o_iload (pc := 43) C dX4_findBest_43 rfl ?_
        refine cl_X4_40 (pc := 45) C (c_X4_without (s := oS n q t) (r := w) (by omega) (by omega)) (by omega) (by omega) (Nat.le_of_ble_eq_true rfl) dX4_findBest_45 (fun z σ2 hq => ?_)
        obtain ⟨rfl, hq⟩ := hq
        rw [hq]; clear hq
        refine sti_3 (pc := 48) C dX4_findBest_48 ?_
        refine o_iload (pc := 49) C dX4_findBest_49 rfl ?_
        refine sti_2 (pc := 51) C dX4_findBest_51 ?_
        refine inc_4 (pc := 52) C dX4_findBest_52 ?_
        refine o_goto (pc := 55) C (tgt := 18) dX4_findBest_55 (by decide) ?_
        obtain ⟨q', hq'⟩ : ∃ q' : Nat → Nat, q' = fun i => if i = t then w else q i := ⟨_, rfl⟩
        have hc : ∀ j, j < t → q' j = q j := fun j hj => by rw [hq']; exact if_neg (by omega)
        have hct : q' t = w := by rw [hq']; exact if_pos rfl
        clear hq'
        have hS : ∀ j, j ≤ t → oS n q' j = oS n q j := fun j hj => oS_cong j (fun j' hj' => hc j' (by omega))
        have hB : ∀ j, j ≤ t → oBf q' j = oBf q j := fun j hj => by
          unfold oBf
          by_cases c : j = 0
          · rw [if_pos c, if_pos c]
          · rw [if_neg c, if_neg c]; exact hc _ (by omega)
        refine ih (t + 1) _ q' _ _ _ _ (by omega) (by omega) (by omega) ?_ ?_ ?_ ?_ ?_ ?_ ?_ ?_ ?_ ?_
        · refine ⟨fun b r c1 c2 => by rw [o_up_k (by decide)]; exact a4.1 b r c1 c2, fun b s c1 c2 => by rw [o_up_k (by decide)]; exact a4.2.1 b s c1 c2, fun b c1 => by rw [o_up_k (by decide)]; exact a4.2.2 b c1⟩
        · exact fun K k1 k2 => by rw [o_up_k k2, a5 K k1 k2]
        · exact fun b s c1 c2 => by rw [o_up_k (by decide)]; exact a6 b s c1 c2
        · intro j hj
          rw [show ((t : Int)).toNat = t by omega, o_up_at]
          by_cases c : j = t
          · rw [if_pos ⟨rfl, rfl, c⟩, c, hct]
          · rw [if_neg (fun z => c z.2.2), hc j (by omega)]; exact a7 j (by omega)
        · intro j hj
          rw [hB j (by omega), hS j (by omega)]
          by_cases c : j = t
          · rw [c, hct]
            exact ⟨hw.1, (hlt w hw1).mp hw.2.1, fun r hr z => hw.2.2 r hr ((hlt r (by omega)).mpr z)⟩
          · rw [hc j (by omega)]; exact a8 j (by omega)
        · rw [show oBf q' (t + 1) = w from by unfold oBf; rw [if_neg (by omega)]; exact hct]
        · rw [oS, hS t (Nat.le_refl t), hct]
        · rw [oS, hS t (Nat.le_refl t), hct]; omega
        · rw [oS, hS t (Nat.le_refl t), hct]; omega
        · rw [show oBf q' (t + 1) = w from by unfold oBf; rw [if_neg (by omega)]; exact hct]; omega
  refine o_aload_n (pc := 0) C dX4_findBest_0 rfl ?_
  refine o_iload_n (pc := 1) C dX4_findBest_1 rfl ?_
  refine cl_X4_43 (pc := 2) C (c_X4_fewestBySets hM hn) (by omega) (by omega) (Nat.le_of_ble_eq_true rfl) dX4_findBest_2 (fun z σ2 hq => ?_)
  obtain ⟨-, q1, q2, q3⟩ := hq
  refine o_pop (pc := 5) C dX4_findBest_5 rfl ?_
  refine o_bipush (pc := 6) C dX4_findBest_6 rfl ?_
  refine sti_2 (pc := 8) C dX4_findBest_8 ?_
  refine o_iconst (pc := 9) C dX4_findBest_9 ?_
  refine o_iload_n (pc := 10) C dX4_findBest_10 rfl ?_
  refine o_ishl (pc := 11) C dX4_findBest_11 (b_shl n (by omega)) ?_
  refine o_iconst (pc := 12) C dX4_findBest_12 ?_
  refine o_isub (pc := 13) C dX4_findBest_13 ?_
  refine sti_3 (pc := 14) C dX4_findBest_14 ?_
  refine o_iconst (pc := 15) C dX4_findBest_15 ?_
  refine sti_4 (pc := 16) C dX4_findBest_16 ?_
  exact L (n + 1) 0 σ2 (fun _ => 0) _ _ _ _ (by omega) (by omega) rfl q1 (fun K k1 k2 => q2 K k1) q3 (fun i hi => absurd hi (Nat.not_lt_zero i)) (fun i hi => absurd hi (Nat.not_lt_zero i)) rfl (by show ((2 ^ n : Nat) : Int) - 1 = ((2 ^ n - 1 : Nat) : Int); omega) (by show cd (2 ^ n - 1) + 0 = n; rw [cd_all n (by omega)]; rfl) (by show 2 ^ n - 1 < 2 ^ n; omega) (by show 7 < 8; omega)