/-- what the model's fill leaves in the draft -/
def mDr (σ : oMem) : Nat → Int := fun j => σ 36 0 (150 + j)
def mFl (σ : oMem) (a : Int) (z : Int) (σ' : oMem) : Prop := isG (mWt σ (σ 28 0 a.toNat)) (σ 24 0 10) (σ 25 0 a.toNat - 2 * σ 24 0 8) z ∧ (∃ n : Nat, n ≤ 15 ∧ σ' 37 0 10 = n ∧ isF (mWt σ (σ 28 0 a.toNat)) z n (mDr σ')) ∧ (∀ K, K ≠ 24 → K ≠ 36 → K ≠ 37 → K ≠ 44 → σ' K = σ K) ∧ (∀ j, j < 150 → σ' 36 0 j = σ 36 0 j) ∧ (∀ j, j ≠ 10 → σ' 37 0 j = σ 37 0 j) ∧ σ' 24 = o_up σ 24 0 31 0 24
set_option maxRecDepth 100000 in
set_option maxHeartbeats 1000000 in
theorem c_X6_fullestByTrying {l : Launch} {g : oG} {σ : oMem} {a : Int} (hc : 0 ≤ σ 24 0 4 ∧ σ 24 0 4 ≤ 20) (hw : ∀ c : Nat, (c : Int) < σ 24 0 4 → (100 ≤ σ 25 0 c ∧ σ 25 0 c ≤ 2000) ∧ InR (σ 28 0 c)) (he : 0 ≤ σ 24 0 8 ∧ σ 24 0 8 ≤ 100) (hk : 2 ≤ σ 24 0 10 ∧ σ 24 0 10 ≤ 16) (hn : 0 ≤ σ 24 0 15 ∧ σ 24 0 15 ≤ 12) (hO : ∀ r : Nat, (r : Int) < σ 24 0 15 → mO σ r) (h1 : InR a) : oMi l g yX6_fullestByTrying (.code yX6_fullestByTrying cX6_fullestByTrying 3 (some .int)) 4 0 [.ref (g.2.1 24 0), oi a] σ (fun z σ' => (mkC σ a ∧ σ 24 0 10 ≤ 8 → isG (mWt σ (σ 28 0 a.toNat)) (σ 24 0 10) (σ 25 0 a.toNat - 2 * σ 24 0 8) z) ∧ (∀ K, K ≠ 44 → σ' K = o_up σ 24 0 31 (if mkC σ a then (if σ 24 0 10 ≤ 8 then 0 else 2) else 1) K)) := by
  refine oMi_of (own := RX6) (by decide +kernel) rfl (by simp [oi, Value.category]) (by simp) (fun x C E => ?_)
  show oW l g x σ 0 [some (.ref (g.2.1 24 0)), some (oi a), none] [] 0
  have K22 : ∀ (v w : Int), v = b2i (mkC σ a) → w = b2i (σ 24 0 10 ≤ 8) → oW l g x σ 22 [some (.ref (g.2.1 24 0)), some (oi a), some (oi v)] [oi w, oi v, .ref (g.2.1 24 0)] 0 := by
    intro v w hv hw9
    subst hv hw9
    refine cl_X6_102 (pc := 22) C (c_X6_asked_ (P := mkC σ a) (Q := σ 24 0 10 ≤ 8)) (by omega) (by omega) (Nat.le_of_ble_eq_true rfl) dX6_fullestByTrying_22 (fun z σ2 hq => ?_)
    obtain ⟨rfl, hq⟩ := hq
    rw [hq]; clear hq
    refine o_if_eq (pc := 25) C (tgt := 36) dX6_fullestByTrying_25 (by decide) (by unfold b2i; split <;> omega) (fun h25 => ?_) (fun h25 => ?_)
    · refine o_iconst (pc := 36) C dX6_fullestByTrying_36 ?_
      first
      | (have y := g1; exact E _ _ _ _ _ dX6_fullestByTrying_37 rfl ⟨fun _ => g1, fun K hK => by rw [g3 K hK, hμ, if_pos hq.1, if_pos hq.2]⟩ (by omega))
      | exact E _ _ _ _ _ dX6_fullestByTrying_37 rfl ⟨fun q => absurd q (o_f h25), fun _ _ => rfl⟩ (by omega)
    · have hq := o_t h25
      rw [if_pos hq.1, if_pos hq.2]
      obtain ⟨c, rfl⟩ : ∃ c : Nat, a = (c : Int) := ⟨a.toNat, by omega⟩
      have hwc := hw c (by omega)
      obtain ⟨μ, hμ⟩ : ∃ μ, μ = o_up σ 24 0 31 0 := ⟨_, rfl⟩
      have k25 : μ 25 0 c = σ 25 0 c := by rw [hμ, o_up_k (by decide)]
      have k28 : μ 28 0 c = σ 28 0 c := by rw [hμ, o_up_k (by decide)]
      have k8 : μ 24 0 8 = σ 24 0 8 := by rw [hμ, o_up_j (by decide)]
      have k10 : μ 24 0 10 = σ 24 0 10 := by rw [hμ, o_up_j (by decide)]
      have k15 : μ 24 0 15 = σ 24 0 15 := by rw [hμ, o_up_j (by decide)]
      have kO : ∀ r, mO μ r = mO σ r := fun r => by unfold mO; rw [hμ, o_up_k (by decide), o_up_k (by decide), o_up_k (by decide), o_up_k (by decide)]
      have kW : mWt μ (σ 28 0 c) = mWt σ (σ 28 0 c) := by unfold mWt mTk; rw [k15, hμ, o_up_k (by decide), o_up_k (by decide), o_up_k (by decide), o_up_k (by decide)]
      rw [← hμ]
      refine o_aload_n (pc := 28) C dX6_fullestByTrying_28 rfl ?_
      refine o_iload_n (pc := 29) C dX6_fullestByTrying_29 rfl ?_
      refine cl_X6_141 (pc := 30) C (c_X6_fullest (c := c) (by omega) (by rw [k25]; exact hwc.1) (by rw [k8]; exact he) (by rw [k10]; exact hk) (by rw [k15]; exact hn) (fun r hr => by rw [kO]; exact hO r (by rw [k15] at hr; exact hr)) (by rw [k28]; exact hwc.2)) (by omega) (by omega) (Nat.le_of_ble_eq_true rfl) dX6_fullestByTrying_30 (fun z σ2 hq => ?_)
      obtain ⟨g1, g2, g3⟩ := hq
      rw [k25, k8, k10, k28] at g1
      rw [k25, k8, k28] at g2
      have g1 := isG_cong (fun w => by rw [kW]) g1
      have g2 : ∀ u : Int, 0 ≤ u → u ≤ σ 25 0 c - 2 * σ 24 0 8 → isD (mWt σ (σ 28 0 c)) 1000 u (σ2 44 0 u.toNat) := fun u u0 u1 => by
        have := g2 u u0 u1
        rwa [kW] at this
      refine o_goto (pc := 33) C (tgt := 37) dX6_fullestByTrying_33 (by decide) ?_
      first
      | (have y := g1; exact E _ _ _ _ _ dX6_fullestByTrying_37 rfl ⟨fun _ => g1, fun K hK => by rw [g3 K hK, hμ, if_pos hq.1, if_pos hq.2]⟩ (by omega))
      | exact E _ _ _ _ _ dX6_fullestByTrying_37 rfl ⟨fun q => absurd q (o_f h25), fun _ _ => rfl⟩ (by omega)
  refine o_aload_n (pc := 0) C dX6_fullestByTrying_0 rfl ?_
  refine o_iload_n (pc := 1) C dX6_fullestByTrying_1 rfl ?_
  refine cl_X6_106 (pc := 2) C (c_X6_isCoil h1 hc) (by omega) (by omega) (Nat.le_of_ble_eq_true rfl) dX6_fullestByTrying_2 (fun z σ2 hq => ?_)
  obtain ⟨rfl, hq⟩ := hq
  rw [hq]; clear hq
  refine sti_2 (pc := 5) C dX6_fullestByTrying_5 ?_
  refine o_aload_n (pc := 6) C dX6_fullestByTrying_6 rfl ?_
  refine o_iload_n (pc := 7) C dX6_fullestByTrying_7 rfl ?_
  refine o_aload_n (pc := 8) C dX6_fullestByTrying_8 rfl ?_
  refine gf_X6_38 (pc := 9) C dX6_fullestByTrying_9 ?_
  refine o_bipush (pc := 12) C dX6_fullestByTrying_12 rfl ?_
  refine o_icmp_gt (pc := 14) C (tgt := 21) dX6_fullestByTrying_14 (by decide) (by omega) (by omega) (fun h14 => ?_) (fun h14 => ?_)
  · refine o_iconst (pc := 21) C dX6_fullestByTrying_21 ?_
    exact K22 _ _ rfl (by first | exact b2i_t (by omega) | exact b2i_f (by omega))
  · refine o_iconst (pc := 17) C dX6_fullestByTrying_17 ?_
    refine o_goto (pc := 18) C (tgt := 22) dX6_fullestByTrying_18 (by decide) ?_
    exact K22 _ _ rfl (by first | exact b2i_t (by omega) | exact b2i_f (by omega))
set_option maxRecDepth 100000 in
set_option maxHeartbeats 1000000 in
theorem c_X6_fill {l : Launch} {g : oG} {σ : oMem} {a : Int} (hc : 0 ≤ σ 24 0 4 ∧ σ 24 0 4 ≤ 20) (hw : ∀ c : Nat, (c : Int) < σ 24 0 4 → (100 ≤ σ 25 0 c ∧ σ 25 0 c ≤ 2000) ∧ InR (σ 28 0 c)) (he : 0 ≤ σ 24 0 8 ∧ σ 24 0 8 ≤ 100) (hk : 2 ≤ σ 24 0 10 ∧ σ 24 0 10 ≤ 16) (hn : 0 ≤ σ 24 0 15 ∧ σ 24 0 15 ≤ 12) (hO : ∀ r : Nat, (r : Int) < σ 24 0 15 → mO σ r) (h1 : InR a) (hm : 0 ≤ σ 37 0 10 ∧ σ 37 0 10 ≤ 15) : oMi l g yX6_fill (.code yX6_fill cX6_fill 7 (some .int)) 4 0 [.ref (g.2.1 24 0), oi a] σ (fun z σ' => if mkC σ a then mFl σ a z σ' else σ' = o_up σ 24 0 31 1) := by
  refine oMi_of (own := RX6) (by decide +kernel) rfl (by simp [oi, Value.category]) (by simp) (fun x C E => ?_)
  show oW l g x σ 0 [some (.ref (g.2.1 24 0)), some (oi a), none, none, none, none, none] [] 0
  have L : ∀ (c : Nat) (best : Int), (c : Int) < σ 24 0 4 → isG (mWt σ (σ 28 0 c)) (σ 24 0 10) (σ 25 0 c - 2 * σ 24 0 8) best → mkC σ a → a = (c : Int) → ∀ (T : Nat → Int), (0 < best → ∀ u : Int, 0 ≤ u → u ≤ best → isD (mWt σ (σ 28 0 c)) 1000 u (T u.toNat)) → best ≤ 2000 → ∀ (N : Nat), N ≤ 15 → isN (mWt σ (σ 28 0 c)) N best → ∀ (n i : Nat) (μ : oMem) (lf : Int) (r1 r2 r3 : Option Value), i + n = N → (∀ K, K ≠ 24 → K ≠ 36 → K ≠ 37 → K ≠ 44 → μ K = σ K) → μ 24 = o_up σ 24 0 31 0 24 → (∀ j, j < 150 → μ 36 0 j = σ 36 0 j) → (∀ j, j ≠ 10 → μ 37 0 j = σ 37 0 j) → μ 44 0 = T → μ 37 0 10 = i → lf = best - o_sum (mDr μ) i → 0 ≤ lf → lf ≤ best → isN (mWt σ (σ 28 0 c)) n lf → (∀ j, j < i → isX (mWt σ (σ 28 0 c)) (best - o_sum (mDr μ) j) (N - 1 - j) (mDr μ j)) → oW l g x μ 30 [some (.ref (g.2.1 24 0)), some (oi (c : Int)), some (oi best), some (oi lf), r1, r2, r3] [] 0 := by
    intro c best hcc hG hCk hac T hT hb2 N hN15 hNN n
    have hW := mWt_ok (h := σ 28 0 c) hO
    have hwc := hw c hcc
    induction n with
    | zero =>
      intro i μ lf r1 r2 r3 a1 a2 a3 a4 a5 a6 a7 a8 a9 a10 a11 a12
      have hl0 : lf = 0 := a11.1
      refine o_iload_n (pc := 30) C dX6_fill_30 rfl ?_
      refine o_if_le (pc := 31) C (tgt := 158) dX6_fill_31 (by decide) (by omega) (fun h31 => ?_) (fun h31 => ?_)
      · refine o_iload_n (pc := 158) C dX6_fill_158 rfl ?_
        exact E _ _ _ _ _ dX6_fill_159 rfl (by rw [if_pos hCk]; subst hac; exact ⟨hG, ⟨N, hN15, by rw [a7]; omega, hNN, fun j hj => a12 j (by omega)⟩, a2, a4, a5, a3⟩) (by omega)
      · omega
    | succ n ih =>
      intro i μ lf r1 r2 r3 a1 a2 a3 a4 a5 a6 a7 a8 a9 a10 a11 a12
      have hlp : 0 < lf := by
        obtain ⟨⟨w, w1, w2, w3⟩, -⟩ := a11
        have := hW.2 w w1; omega
      have kO : ∀ r : Nat, mO μ r = mO σ r := fun r => by unfold mO; rw [a2 32 (by decide) (by decide) (by decide) (by decide), a2 33 (by decide) (by decide) (by decide) (by decide), a2 34 (by decide) (by decide) (by decide) (by decide), a2 35 (by decide) (by decide) (by decide) (by decide)]
      have kT : ∀ (r : Nat) (h : Int), mTk μ r h = mTk σ r h := fun r h => by unfold mTk; rw [a2 33 (by decide) (by decide) (by decide) (by decide), a2 34 (by decide) (by decide) (by decide) (by decide), a2 35 (by decide) (by decide) (by decide) (by decide)]
      have k28 : μ 28 = σ 28 := a2 28 (by decide) (by decide) (by decide) (by decide)
      have k32 : μ 32 = σ 32 := a2 32 (by decide) (by decide) (by decide) (by decide)
      have k15 : μ 24 0 15 = σ 24 0 15 := by rw [a3, o_up_j (by decide)]
      have hTl := hT (by omega) lf a9 a10
      have hTn : T lf.toNat = (n : Int) + 1 := by have := (isD_N hTl (n := n + 1) (by omega)).mpr a11; omega
      have ec : ((c : Int)).toNat = c := by omega
      have Lk : ∀ (m q : Nat) (nx k : Int) (r3 : Option Value), σ 24 0 15 < q + m → (q : Int) ≤ σ 24 0 15 → k = q → (nx = 0 ∨ ∃ r : Nat, r < q ∧ (mTk σ r (σ 28 0 c) ∧ σ 32 0 r ≤ lf ∧ isN (mWt σ (σ 28 0 c)) n (lf - σ 32 0 r)) ∧ σ 32 0 r = nx) → (∀ r : Nat, r < q → (mTk σ r (σ 28 0 c) ∧ σ 32 0 r ≤ lf ∧ isN (mWt σ (σ 28 0 c)) n (lf - σ 32 0 r)) → σ 32 0 r ≤ nx) → 0 ≤ nx → nx ≤ 1000 → oW l g x μ 40 [some (.ref (g.2.1 24 0)), some (oi (c : Int)), some (oi best), some (oi lf), some (oi nx), some (oi k), r3] [] 0 := by
        intro m
        induction m with
        | zero => intro q nx k r3 b1 b2; omega
        | succ m ihm =>
          intro q nx k r3 b1 b2 b3 b4 b5 b6 b7
          subst b3
          have eq : ((q : Int)).toNat = q := by omega
          have K105 : ∀ v : Int, (q : Int) < σ 24 0 15 → ((v = 1 ∧ (mTk σ q (σ 28 0 c) ∧ σ 32 0 q ≤ lf ∧ isN (mWt σ (σ 28 0 c)) n (lf - σ 32 0 q))) ∨ (v = 0 ∧ ¬ (mTk σ q (σ 28 0 c) ∧ σ 32 0 q ≤ lf ∧ isN (mWt σ (σ 28 0 c)) n (lf - σ 32 0 q)))) → oW l g x μ 105 [some (.ref (g.2.1 24 0)), some (oi (c : Int)), some (oi best), some (oi lf), some (oi nx), some (oi (q : Int)), r3] [oi v] 0 := by
            intro v hq9 hv
            have ho := (hO q hq9).1
            refine sti_6 (pc := 105) C dX6_fill_105 ?_
            refine o_iload (pc := 107) C dX6_fill_107 rfl ?_
            refine o_if_eq (pc := 109) C (tgt := 134) dX6_fill_109 (by decide) (by omega) (fun h109 => ?_) (fun h109 => ?_)
            · refine o_iload (pc := 134) C dX6_fill_134 rfl ?_
              refine sti_4 (pc := 136) C dX6_fill_136 ?_
              refine inc_5 (pc := 138) C dX6_fill_138 ?_
              refine o_goto (pc := 141) C (tgt := 40) dX6_fill_141 (by decide) ?_
              first
              | (have y := h121
                 rcases hv with ⟨hv1, hv2⟩ | ⟨hv1, -⟩
                 · refine ihm (q + 1) _ _ _ (by omega) (by omega) (by omega) (Or.inr ⟨q, by omega, hv2, rfl⟩) (fun r hr hcan => ?_) (by omega) (by omega)
                   rcases Nat.lt_succ_iff_lt_or_eq.mp hr with z | z
                   · have := b5 r z hcan; omega
                   · subst z; omega
                 · exact absurd hv1 h109)
              | (refine ihm (q + 1) _ _ _ (by omega) (by omega) (by omega) ?_ (fun r hr hcan => ?_) b6 b7
                 · rcases b4 with z | ⟨r, z1, z2⟩
                   · exact Or.inl z
                   · exact Or.inr ⟨r, by omega, z2⟩
                 · rcases Nat.lt_succ_iff_lt_or_eq.mp hr with z | z
                   · exact b5 r z hcan
                   · subst z
                     rcases hv with ⟨hv1, hv2⟩ | ⟨hv1, hv2⟩
                     · omega
                     · exact absurd hcan hv2)
            · refine o_aload_n (pc := 112) C dX6_fill_112 rfl ?_
              refine gf_X6_41 (pc := 113) C dX6_fill_113 ?_
              refine o_iload (pc := 116) C dX6_fill_116 rfl ?_
              refine ia_32 (pc := 118) C (by omega) (by omega) dX6_fill_118 ?_
              rw [eq, k32]
              refine o_iload (pc := 119) C dX6_fill_119 rfl ?_
              refine o_icmp_le (pc := 121) C (tgt := 134) dX6_fill_121 (by decide) (by omega) (by omega) (fun h121 => ?_) (fun h121 => ?_)
              · refine o_iload (pc := 134) C dX6_fill_134 rfl ?_
                refine sti_4 (pc := 136) C dX6_fill_136 ?_
                refine inc_5 (pc := 138) C dX6_fill_138 ?_
                refine o_goto (pc := 141) C (tgt := 40) dX6_fill_141 (by decide) ?_
                first
                | (have y := h121
                   rcases hv with ⟨hv1, hv2⟩ | ⟨hv1, -⟩
                   · refine ihm (q + 1) _ _ _ (by omega) (by omega) (by omega) (Or.inr ⟨q, by omega, hv2, rfl⟩) (fun r hr hcan => ?_) (by omega) (by omega)
                     rcases Nat.lt_succ_iff_lt_or_eq.mp hr with z | z
                     · have := b5 r z hcan; omega
                     · subst z; omega
                   · exact absurd hv1 h109)
                | (refine ihm (q + 1) _ _ _ (by omega) (by omega) (by omega) ?_ (fun r hr hcan => ?_) b6 b7
                   · rcases b4 with z | ⟨r, z1, z2⟩
                     · exact Or.inl z
                     · exact Or.inr ⟨r, by omega, z2⟩
                   · rcases Nat.lt_succ_iff_lt_or_eq.mp hr with z | z
                     · exact b5 r z hcan
                     · subst z
                       rcases hv with ⟨hv1, hv2⟩ | ⟨hv1, hv2⟩
                       · omega
                       · exact absurd hcan hv2)
              · refine o_aload_n (pc := 124) C dX6_fill_124 rfl ?_
                refine gf_X6_41 (pc := 125) C dX6_fill_125 ?_
                refine o_iload (pc := 128) C dX6_fill_128 rfl ?_
                refine ia_32 (pc := 130) C (by omega) (by omega) dX6_fill_130 ?_
                rw [eq, k32]
                refine o_goto (pc := 131) C (tgt := 136) dX6_fill_131 (by decide) ?_
                refine sti_4 (pc := 136) C dX6_fill_136 ?_
                refine inc_5 (pc := 138) C dX6_fill_138 ?_
                refine o_goto (pc := 141) C (tgt := 40) dX6_fill_141 (by decide) ?_
                first
                | (have y := h121
                   rcases hv with ⟨hv1, hv2⟩ | ⟨hv1, -⟩
                   · refine ihm (q + 1) _ _ _ (by omega) (by omega) (by omega) (Or.inr ⟨q, by omega, hv2, rfl⟩) (fun r hr hcan => ?_) (by omega) (by omega)
                     rcases Nat.lt_succ_iff_lt_or_eq.mp hr with z | z
                     · have := b5 r z hcan; omega
                     · subst z; omega
                   · exact absurd hv1 h109)
                | (refine ihm (q + 1) _ _ _ (by omega) (by omega) (by omega) ?_ (fun r hr hcan => ?_) b6 b7
                   · rcases b4 with z | ⟨r, z1, z2⟩
                     · exact Or.inl z
                     · exact Or.inr ⟨r, by omega, z2⟩
                   · rcases Nat.lt_succ_iff_lt_or_eq.mp hr with z | z
                     · exact b5 r z hcan
                     · subst z
                       rcases hv with ⟨hv1, hv2⟩ | ⟨hv1, hv2⟩
                       · omega
                       · exact absurd hcan hv2)
          refine o_iload (pc := 40) C dX6_fill_40 rfl ?_
          refine o_aload_n (pc := 42) C dX6_fill_42 rfl ?_
          refine gf_X6_121 (pc := 43) C dX6_fill_43 ?_
          rw [k15]
          refine o_icmp_ge (pc := 46) C (tgt := 144) dX6_fill_46 (by decide) (by omega) (by omega) (fun h46 => ?_) (fun h46 => ?_)
          · skip
            have hX : isX (mWt σ (σ 28 0 c)) lf n nx := by
              obtain ⟨w, w1, w2, w3⟩ := isN_step a11
              have hww := hW.2 w w1
              obtain ⟨r, r1, r2, r3'⟩ := w1
              have hge := b5 r (by omega) ⟨r3', by omega, by rw [r2]; exact w3⟩
              rcases b4 with z | ⟨r', z1, z2, z3⟩
              · omega
              · refine ⟨⟨r', by omega, z3, z2.1⟩, by rw [← z3]; exact z2.2.1, by rw [← z3]; exact z2.2.2, fun w' ⟨s, s1, s2, s3⟩ y2 y3 => ?_⟩
                have := b5 s (by omega) ⟨s3, by omega, by rw [s2]; exact y3⟩
                omega
            have hnx : 20 ≤ nx := hW.2 nx hX.1
            refine o_aload_n (pc := 144) C dX6_fill_144 rfl ?_
            skip
            refine o_iload (pc := 145) C dX6_fill_145 rfl ?_
            refine cl_X6_124 (pc := 147) C (c_X6_drafts (by omega)) (by omega) (by omega) (Nat.le_of_ble_eq_true rfl) dX6_fill_147 (fun σ2 hq => ?_)
            rw [a7, show ((i : Int)).toNat = i by omega] at hq
            rw [hq]; clear hq
            have hs : ∀ j, j ≤ i → o_sum (mDr (o_up (o_up μ 36 0 (150 + i) nx) 37 0 10 ((i : Int) + 1))) j = o_sum (mDr μ) j := fun j hj => o_sum_cong j (fun q hq => by unfold mDr; rw [o_up_k (by decide), o_up_j (by omega)])
            have hv : mDr (o_up (o_up μ 36 0 (150 + i) nx) 37 0 10 ((i : Int) + 1)) i = nx := by unfold mDr; rw [o_up_k (by decide), o_up_s]
            refine o_iload_n (pc := 150) C dX6_fill_150 rfl ?_
            refine o_iload (pc := 151) C dX6_fill_151 rfl ?_
            refine o_isub (pc := 153) C dX6_fill_153 ?_
            refine sti_3 (pc := 154) C dX6_fill_154 ?_
            refine o_goto (pc := 155) C (tgt := 30) dX6_fill_155 (by decide) ?_
            refine ih (i + 1) _ _ _ _ _ (by omega) (fun K k24 k36 k37 k44 => by rw [o_up_k k37, o_up_k k36, a2 K k24 k36 k37 k44]) (by rw [o_up_k (by decide), o_up_k (by decide), a3]) (fun j hj => by rw [o_up_k (by decide), o_up_j (by omega), a4 j hj]) (fun j hj => by rw [o_up_j hj, o_up_k (by decide), a5 j hj]) (by rw [o_up_k (by decide), o_up_k (by decide), a6]) (by rw [o_up_s]; omega) (by rw [o_sum, hs i (Nat.le_refl i), hv]; omega) (by have := hX.2.1; omega) (by omega) hX.2.2.1 (fun j hj => ?_)
            rw [hs j (by omega)]
            rcases Nat.lt_succ_iff_lt_or_eq.mp hj with z | z
            · have := a12 j z
              rw [show mDr (o_up (o_up μ 36 0 (150 + i) nx) 37 0 10 ((i : Int) + 1)) j = mDr μ j from by unfold mDr; rw [o_up_k (by decide), o_up_j (by omega)]]
              exact this
            · subst z
              rw [hv, ← a8, show N - 1 - j = n by omega]
              exact hX
          · have ho := hO q (by omega)
            have how := ho.1
            refine o_aload_n (pc := 49) C dX6_fill_49 rfl ?_
            refine o_iload (pc := 50) C dX6_fill_50 rfl ?_
            refine o_aload_n (pc := 52) C dX6_fill_52 rfl ?_
            refine gf_X6_19 (pc := 53) C dX6_fill_53 ?_
            refine o_iload_n (pc := 56) C dX6_fill_56 rfl ?_
            refine ia_28 (pc := 57) C (by omega) (by omega) dX6_fill_57 ?_
            rw [ec, k28]
            refine cl_X6_138 (pc := 58) C (c_X6_takes (by omega) (by rw [kO]; exact ho) hwc.2) (by omega) (by omega) (Nat.le_of_ble_eq_true rfl) dX6_fill_58 (fun z σ2 hq => ?_)
            obtain ⟨rfl, hq⟩ := hq
            rw [hq]; clear hq
            rw [show b2i (mTk μ q (σ 28 0 c)) = b2i (mTk σ q (σ 28 0 c)) by unfold b2i; simp only [kT]]
            refine o_if_eq (pc := 61) C (tgt := 104) dX6_fill_61 (by decide) (by unfold b2i; split <;> omega) (fun h61 => ?_) (fun h61 => ?_)
            · refine o_iconst (pc := 104) C dX6_fill_104 ?_
              first
              | exact K105 _ (by omega) (Or.inl ⟨rfl, hok, h72, hdn.mp (by omega)⟩)
              | exact K105 _ (by omega) (Or.inr ⟨rfl, fun z => by have := hdn.mpr z.2.2; omega⟩)
              | exact K105 _ (by omega) (Or.inr ⟨rfl, fun z => by have := z.2.1; omega⟩)
              | exact K105 _ (by omega) (Or.inr ⟨rfl, fun z => o_f h61 z.1⟩)
            · have hok := o_t h61
              refine o_aload_n (pc := 64) C dX6_fill_64 rfl ?_
              refine gf_X6_41 (pc := 65) C dX6_fill_65 ?_
              refine o_iload (pc := 68) C dX6_fill_68 rfl ?_
              refine ia_32 (pc := 70) C (by omega) (by omega) dX6_fill_70 ?_
              rw [eq, k32]
              refine o_iload_n (pc := 71) C dX6_fill_71 rfl ?_
              refine o_icmp_gt (pc := 72) C (tgt := 104) dX6_fill_72 (by decide) (by omega) (by omega) (fun h72 => ?_) (fun h72 => ?_)
              · refine o_iconst (pc := 104) C dX6_fill_104 ?_
                first
                | exact K105 _ (by omega) (Or.inl ⟨rfl, hok, h72, hdn.mp (by omega)⟩)
                | exact K105 _ (by omega) (Or.inr ⟨rfl, fun z => by have := hdn.mpr z.2.2; omega⟩)
                | exact K105 _ (by omega) (Or.inr ⟨rfl, fun z => by have := z.2.1; omega⟩)
                | exact K105 _ (by omega) (Or.inr ⟨rfl, fun z => o_f h61 z.1⟩)
              · have hd := hT (by omega) (lf - σ 32 0 q) (by omega) (by omega)
                have hd0 := hd.1
                have hd1 := hd.2.1
                have hdn := isD_N hd (n := n) (by omega)
                have h44 : ∀ z, μ 44 0 z = T z := fun z => by rw [a6]
                refine o_aload_n (pc := 75) C dX6_fill_75 rfl ?_
                refine gf_X6_80 (pc := 76) C dX6_fill_76 ?_
                refine o_iload_n (pc := 79) C dX6_fill_79 rfl ?_
                refine o_aload_n (pc := 80) C dX6_fill_80 rfl ?_
                refine gf_X6_41 (pc := 81) C dX6_fill_81 ?_
                refine o_iload (pc := 84) C dX6_fill_84 rfl ?_
                refine ia_32 (pc := 86) C (by omega) (by omega) dX6_fill_86 ?_
                rw [eq, k32]
                refine o_isub (pc := 87) C dX6_fill_87 ?_
                refine ia_44 (pc := 88) C (by omega) (by omega) dX6_fill_88 ?_
                rw [h44]
                refine o_iconst (pc := 89) C dX6_fill_89 ?_
                refine o_iadd (pc := 90) C dX6_fill_90 ?_
                refine o_aload_n (pc := 91) C dX6_fill_91 rfl ?_
                refine gf_X6_80 (pc := 92) C dX6_fill_92 ?_
                refine o_iload_n (pc := 95) C dX6_fill_95 rfl ?_
                refine ia_44 (pc := 96) C (by omega) (by omega) dX6_fill_96 ?_
                rw [h44, hTn]
                refine o_icmp_ne (pc := 97) C (tgt := 104) dX6_fill_97 (by decide) (by omega) (by omega) (fun h97 => ?_) (fun h97 => ?_)
                · refine o_iconst (pc := 104) C dX6_fill_104 ?_
                  first
                  | exact K105 _ (by omega) (Or.inl ⟨rfl, hok, h72, hdn.mp (by omega)⟩)
                  | exact K105 _ (by omega) (Or.inr ⟨rfl, fun z => by have := hdn.mpr z.2.2; omega⟩)
                  | exact K105 _ (by omega) (Or.inr ⟨rfl, fun z => by have := z.2.1; omega⟩)
                  | exact K105 _ (by omega) (Or.inr ⟨rfl, fun z => o_f h61 z.1⟩)
                · refine o_iconst (pc := 100) C dX6_fill_100 ?_
                  refine o_goto (pc := 101) C (tgt := 105) dX6_fill_101 (by decide) ?_
                  first
                  | exact K105 _ (by omega) (Or.inl ⟨rfl, hok, h72, hdn.mp (by omega)⟩)
                  | exact K105 _ (by omega) (Or.inr ⟨rfl, fun z => by have := hdn.mpr z.2.2; omega⟩)
                  | exact K105 _ (by omega) (Or.inr ⟨rfl, fun z => by have := z.2.1; omega⟩)
                  | exact K105 _ (by omega) (Or.inr ⟨rfl, fun z => o_f h61 z.1⟩)
      refine o_iload_n (pc := 30) C dX6_fill_30 rfl ?_
      refine o_if_le (pc := 31) C (tgt := 158) dX6_fill_31 (by decide) (by omega) (fun h31 => ?_) (fun h31 => ?_)
      · omega
      · refine o_iconst (pc := 34) C dX6_fill_34 ?_
        refine sti_4 (pc := 35) C dX6_fill_35 ?_
        refine o_iconst (pc := 37) C dX6_fill_37 ?_
        refine sti_5 (pc := 38) C dX6_fill_38 ?_
        exact Lk 13 0 _ _ _ (by omega) (by omega) rfl (Or.inl rfl) (fun r hr => absurd hr (Nat.not_lt_zero r)) (by omega) (by omega)
  refine o_aload_n (pc := 0) C dX6_fill_0 rfl ?_
  refine o_aload_n (pc := 1) C dX6_fill_1 rfl ?_
  refine o_iload_n (pc := 2) C dX6_fill_2 rfl ?_
  refine cl_X6_106 (pc := 3) C (c_X6_isCoil h1 hc) (by omega) (by omega) (Nat.le_of_ble_eq_true rfl) dX6_fill_3 (fun z σ2 hq => ?_)
  obtain ⟨rfl, hq⟩ := hq
  rw [hq]; clear hq
  refine cl_X6_117 (pc := 6) C (c_X6_asked (P := mkC σ a)) (by omega) (by omega) (Nat.le_of_ble_eq_true rfl) dX6_fill_6 (fun z σ2 hq => ?_)
  obtain ⟨rfl, hq⟩ := hq
  rw [hq]; clear hq
  refine o_if_ne (pc := 9) C (tgt := 14) dX6_fill_9 (by decide) (by unfold b2i; split <;> omega) (fun h9 => ?_) (fun h9 => ?_)
  · have hq := o_t h9
    rw [if_pos hq]
    obtain ⟨c, rfl⟩ : ∃ c : Nat, a = (c : Int) := ⟨a.toNat, by omega⟩
    have hwc := hw c (by omega)
    obtain ⟨μ, hμ⟩ : ∃ μ, μ = o_up σ 24 0 31 0 := ⟨_, rfl⟩
    have k25 : μ 25 0 c = σ 25 0 c := by rw [hμ, o_up_k (by decide)]
    have k28 : μ 28 0 c = σ 28 0 c := by rw [hμ, o_up_k (by decide)]
    have k8 : μ 24 0 8 = σ 24 0 8 := by rw [hμ, o_up_j (by decide)]
    have k10 : μ 24 0 10 = σ 24 0 10 := by rw [hμ, o_up_j (by decide)]
    have k15 : μ 24 0 15 = σ 24 0 15 := by rw [hμ, o_up_j (by decide)]
    have kO : ∀ r, mO μ r = mO σ r := fun r => by unfold mO; rw [hμ, o_up_k (by decide), o_up_k (by decide), o_up_k (by decide), o_up_k (by decide)]
    have kW : mWt μ (σ 28 0 c) = mWt σ (σ 28 0 c) := by unfold mWt mTk; rw [k15, hμ, o_up_k (by decide), o_up_k (by decide), o_up_k (by decide), o_up_k (by decide)]
    rw [← hμ]
    refine o_aload_n (pc := 14) C dX6_fill_14 rfl ?_
    refine o_iload_n (pc := 15) C dX6_fill_15 rfl ?_
    refine cl_X6_141 (pc := 16) C (c_X6_fullest (c := c) (by omega) (by rw [k25]; exact hwc.1) (by rw [k8]; exact he) (by rw [k10]; exact hk) (by rw [k15]; exact hn) (fun r hr => by rw [kO]; exact hO r (by rw [k15] at hr; exact hr)) (by rw [k28]; exact hwc.2)) (by omega) (by omega) (Nat.le_of_ble_eq_true rfl) dX6_fill_16 (fun z σ2 hq => ?_)
    obtain ⟨g1, g2, g3⟩ := hq
    rw [k25, k8, k10, k28] at g1
    rw [k25, k8, k28] at g2
    have g1 := isG_cong (fun w => by rw [kW]) g1
    have g2 : ∀ u : Int, 0 ≤ u → u ≤ σ 25 0 c - 2 * σ 24 0 8 → isD (mWt σ (σ 28 0 c)) 1000 u (σ2 44 0 u.toNat) := fun u u0 u1 => by
      have := g2 u u0 u1
      rwa [kW] at this
    refine sti_2 (pc := 19) C dX6_fill_19 ?_
    refine o_iload_n (pc := 20) C dX6_fill_20 rfl ?_
    refine sti_3 (pc := 21) C dX6_fill_21 ?_
    refine o_aload_n (pc := 22) C dX6_fill_22 rfl ?_
    refine gf_X6_56 (pc := 23) C dX6_fill_23 ?_
    refine o_bipush (pc := 26) C dX6_fill_26 rfl ?_
    refine o_iconst (pc := 28) C dX6_fill_28 ?_
    refine is_37 (pc := 29) C (by omega) (by omega) dX6_fill_29 ?_
    have hz : 0 ≤ z ∧ z ≤ 2000 := by
      rcases g1.1 with y | ⟨y, y', -⟩
      · omega
      · omega
    have hN : ∃ N : Nat, N ≤ 15 ∧ isN (mWt σ (σ 28 0 c)) N z := by
      rcases g1.1 with y | ⟨y, y', y2⟩
      · exact ⟨0, by omega, y, fun k hk => absurd hk (Nat.not_lt_zero k)⟩
      · have hd := g2 z (by omega) y'
        have h2 := (isD_lt (k := σ 24 0 10) hd (by omega)).mpr y2
        have h0 := hd.1
        exact ⟨(σ2 44 0 z.toNat).toNat, by omega, (isD_N hd (by omega)).mp (by omega)⟩
    obtain ⟨N, hN15, hNN⟩ := hN
    have hgd : 0 < z → ∀ u : Int, 0 ≤ u → u ≤ z → isD (mWt σ (σ 28 0 c)) 1000 u (σ2 44 0 u.toNat) := fun hp u u0 u1 => by
      rcases g1.1 with y | ⟨y, y', y2⟩
      · omega
      · exact g2 u u0 (by omega)
    rw [show Int.toNat 10 = 10 from rfl]
    exact L c z (by omega) g1 hq rfl (σ2 44 0) hgd hz.2 N hN15 hNN N 0 _ _ _ _ _ (by omega) (fun K k24 k36 k37 k44 => by rw [o_up_k k37, g3 K k44, hμ, o_up_k k24]) (by rw [o_up_k (by decide), g3 24 (by decide), hμ]) (fun j hj => by rw [o_up_k (by decide), g3 36 (by decide), hμ, o_up_k (by decide)]) (fun j hj => by rw [o_up_j hj, g3 37 (by decide), hμ, o_up_k (by decide)]) (by rw [o_up_k (by decide)]) (o_up_s _ _ _ _ _) (by simp [o_sum]) (by omega) (Int.le_refl _) hNN (fun j hj => absurd hj (Nat.not_lt_zero j))
  · refine o_iconst (pc := 12) C dX6_fill_12 ?_
    exact E _ _ _ _ _ dX6_fill_13 rfl (by rw [if_neg (o_f h9), if_neg (o_f h9)]) (by omega)
