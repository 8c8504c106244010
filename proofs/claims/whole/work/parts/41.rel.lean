/-! each step keeps the relation -/
theorem R_thr {σ μ : oMem} (h : Rel σ μ) (v : Int) : Rel σ (o_up μ 24 0 31 v) :=
  Rel_cg h h.tm.1 h.tm.2 (fun _ _ => rfl) rfl rfl (fun K h1 _ => o_up_k (by omega)) (fun j hj => o_up_j hj)
theorem R_coil {σ μ σ' μ' : oMem} {a b d e : Int} {n : Nat} (h : Rel σ μ) (hn : σ 0 0 1 = n) (hb : (100 ≤ a ∧ a ≤ 2000) ∧ (1 ≤ b ∧ b ≤ 30000) ∧ (10 ≤ d ∧ d ≤ 5000) ∧ (1 ≤ e ∧ e ≤ 99)) (hlt : n < 20) (hσ : σ' = o_up (o_up (o_up (o_up (o_up σ 1 n 0 a) 1 n 1 b) 1 n 2 d) 1 n 3 e) 0 0 1 (n + 1)) (hμ : μ' = o_up (o_up (o_up (o_up (o_up (o_up (o_up μ 24 0 31 0) 25 0 n a) 26 0 n b) 27 0 n d) 28 0 n e) 38 0 n (-1)) 24 0 4 (n + 1)) : Rel σ' μ' := by
  obtain ⟨⟨x1, x3, x5, x7, x10, x14, xC, xO, xP, xD, xW, xT, xM⟩, ⟨⟨n4, n15, n18⟩, ⟨n8, n9, n10⟩, n23, n24, n27⟩, hC, hU, hL, hOr, hV, hP, hDr, hWt⟩ := h
  have k : ∀ K, K ≠ 0 → K ≠ 1 → σ' K = σ K := fun K h0 h1 => by rw [hσ, o_up_k h0, o_up_k h1, o_up_k h1, o_up_k h1, o_up_k h1]
  have e0 : ∀ j, j ≠ 1 → σ' 0 0 j = σ 0 0 j := fun j hj => by rw [hσ]; simp [o_up, hj]
  have e01 : σ' 0 0 1 = n + 1 := by rw [hσ]; simp [o_up]
  have e1 : ∀ c, c ≠ n → σ' 1 c = σ 1 c := fun c hc => by rw [hσ]; funext j; simp [o_up, hc]
  have f0 : σ' 1 n 0 = a := by rw [hσ]; simp [o_up]
  have f1 : σ' 1 n 1 = b := by rw [hσ]; simp [o_up]
  have f2 : σ' 1 n 2 = d := by rw [hσ]; simp [o_up]
  have f3 : σ' 1 n 3 = e := by rw [hσ]; simp [o_up]
  have f4 : ∀ j, 4 ≤ j → σ' 1 n j = σ 1 n j := fun j hj => by rw [hσ]; simp [o_up]; omega
  have m : ∀ K, K ≠ 24 → (K < 25 ∨ 28 < K) → K ≠ 38 → μ' K = μ K := fun K h1 h2 h3 => by rw [hμ, o_up_k h1, o_up_k h3, o_up_k (by omega), o_up_k (by omega), o_up_k (by omega), o_up_k (by omega), o_up_k h1]
  have m24 : ∀ j, j ≠ 31 → j ≠ 4 → μ' 24 0 j = μ 24 0 j := fun j h1 h2 => by rw [hμ]; simp [o_up, h1, h2]
  have m244 : μ' 24 0 4 = n + 1 := by rw [hμ]; simp [o_up]
  have mc : ∀ K, K ≠ 24 → ∀ c, c ≠ n → μ' K 0 c = μ K 0 c := fun K h1 c hc => by rw [hμ]; simp [o_up, h1, hc]
  have g0 : μ' 25 0 n = a := by rw [hμ]; simp [o_up]
  have g1 : μ' 26 0 n = b := by rw [hμ]; simp [o_up]
  have g2 : μ' 27 0 n = d := by rw [hμ]; simp [o_up]
  have g3 : μ' 28 0 n = e := by rw [hμ]; simp [o_up]
  have g4 : μ' 38 0 n = -1 := by rw [hμ]; simp [o_up]
  have m1 : ∀ c, σ' 1 c 11 = σ 1 c 11 ∧ σ' 1 c 12 = σ 1 c 12 ∧ σ' 1 c 13 = σ 1 c 13 := fun c => by
    by_cases q : c = n
    · subst q; exact ⟨f4 _ (by decide), f4 _ (by decide), f4 _ (by decide)⟩
    · rw [e1 c q]; exact ⟨rfl, rfl, rfl⟩
  clear hσ hμ
  have hUn := hU n (by omega)
  have cr : ∀ c, c ≠ n → CR σ σ' c := fun c hc => ⟨e1 c hc, by rw [k 2 (by decide) (by decide)], by rw [k 3 (by decide) (by decide)], by rw [k 4 (by decide) (by decide)], by rw [k 5 (by decide) (by decide)], by rw [k 6 (by decide) (by decide)]⟩
  have mr : ∀ c, c ≠ n → MR μ μ' c := fun c hc => ⟨⟨mc 25 (by decide) c hc, mc 26 (by decide) c hc, mc 27 (by decide) c hc, mc 28 (by decide) c hc, mc 31 (by decide) c hc, mc 38 (by decide) c hc⟩, fun _ _ => by rw [m 29 (by decide) (by decide) (by decide), m 30 (by decide) (by decide) (by decide)]; exact ⟨rfl, rfl⟩, fun _ _ => by rw [m 39 (by decide) (by decide) (by decide), m 40 (by decide) (by decide) (by decide)]; exact ⟨rfl, rfl⟩⟩
  have k8 : σ' 8 = σ 8 := k 8 (by decide) (by decide)
  have k9 : σ' 9 = σ 9 := k 9 (by decide) (by decide)
  have k7 : σ' 7 = σ 7 := k 7 (by decide) (by decide)
  have hlt1 : ∀ c : Nat, (c : Int) < (n : Int) + 1 → c ≠ n → (c : Int) < σ 0 0 1 := fun c h1 h2 => by omega
  unfold Rel
  rw [e01, e0 3 (by decide), e0 5 (by decide), e0 14 (by decide)]
  refine ⟨?_, ?_, fun c hc => ?_, fun c hc => ?_, fun c => ?_, fun r hr => ?_, fun r hr => ?_, fun p hp => ?_, ?_, fun i hi => ?_⟩
  · unfold XI
    rw [e01, e0 3 (by decide), e0 5 (by decide), e0 7 (by decide), e0 8 (by decide), e0 9 (by decide), e0 10 (by decide), e0 14 (by decide), k 17 (by decide) (by decide), k 18 (by decide) (by decide)]
    refine ⟨by omega, x3, x5, x7, x10, x14, fun c hc => ?_, fun r hr => ?_, fun p hp => ?_, ?_, fun i hi => ?_, ?_, ?_⟩
    · by_cases q : c = n
      · subst q
        unfold CB DB SB
        rw [f0, f1, f2, f3, f4 6 (by decide), f4 10 (by decide), hUn.1, hUn.2.1]
        exact ⟨⟨hb.1, hb.2.1, hb.2.2.1, hb.2.2.2, ⟨by omega, by omega, fun j hj => by omega⟩, fun j hj => by omega⟩, by omega, fun j hj => by omega⟩
      · rw [(cr c q).cs.1, (cr c q).cs.2]; exact xC c (hlt1 c hc q)
    · rw [OO_cong k7]; exact xO r hr
    · rw [PB_cong k8 k9]; exact xP p hp
    · rw [PB_cong k8 k9]; exact xD
    · have := xW i hi; omega
    · rw [TB_cong (k 12 (by decide) (by decide))]; exact xT
    · unfold OM; rw [k 14 (by decide) (by decide), k 15 (by decide) (by decide)]; exact xM
  · unfold RN
    rw [e01, e0 3 (by decide), e0 5 (by decide), e0 7 (by decide), e0 8 (by decide), e0 9 (by decide), e0 10 (by decide), e0 11 (by decide), e0 14 (by decide), m244, m24 15 (by decide) (by decide), m24 18 (by decide) (by decide), m24 8 (by decide) (by decide), m24 9 (by decide) (by decide), m24 10 (by decide) (by decide), m24 23 (by decide) (by decide), m24 24 (by decide) (by decide), m24 27 (by decide) (by decide)]
    exact ⟨⟨rfl, n15, n18⟩, ⟨n8, n9, n10⟩, n23, n24, n27⟩
  · by_cases q : c = n
    · subst q
      refine ⟨⟨by rw [g0, f0], by rw [g1, f1], by rw [g2, f2], by rw [g3, f3]⟩, ?_, Or.inl ⟨g4, by rw [f4 10 (by decide), hUn.1]⟩⟩
      unfold RD
      rw [f4 6 (by decide), hUn.2.1, m 31 (by decide) (by decide) (by decide), hUn.2.2]
      exact ⟨rfl, fun i j _ hj => by omega, fun j hj => by omega, fun t => ⟨fun ⟨j, hj, _⟩ => by omega, fun ⟨j, hj, _⟩ => by omega⟩⟩
    · exact RC_keep (hC c (hlt1 c hc q)) (xC c (hlt1 c hc q)).1 (xC c (hlt1 c hc q)).2 (cr c q) (mr c q) (fun p hp => by rw [k8, k9]; exact ⟨rfl, rfl⟩) (by rw [e0 5 (by decide)]; exact Int.le_refl _)
  · have := hU c (by omega)
    unfold RU
    rw [e1 c (by omega), m 31 (by decide) (by decide) (by decide)]
    exact this
  · unfold RLo
    rw [(m1 c).1, (m1 c).2.1, (m1 c).2.2, m 41 (by decide) (by decide) (by decide)]
    exact hL c
  · unfold RO
    rw [k7, m 32 (by decide) (by decide) (by decide), m 33 (by decide) (by decide) (by decide), m 34 (by decide) (by decide) (by decide), m 35 (by decide) (by decide) (by decide)]
    exact hOr r hr
  · unfold RV
    rw [k7, m 34 (by decide) (by decide) (by decide)]
    exact hV r hr
  · unfold RP
    rw [k8, k9, m 36 (by decide) (by decide) (by decide), m 37 (by decide) (by decide) (by decide)]
    exact hP p hp
  · unfold RP
    rw [k8, k9, m 36 (by decide) (by decide) (by decide), m 37 (by decide) (by decide) (by decide)]
    exact hDr
  · unfold RW
    rw [k 17 (by decide) (by decide), k 18 (by decide) (by decide), m 42 (by decide) (by decide) (by decide), m 43 (by decide) (by decide) (by decide)]
    exact hWt i hi
theorem R_rules {σ μ σ' μ' : oMem} {a b d : Int} (h : Rel σ μ) (hb : (0 ≤ a ∧ a ≤ 100) ∧ (0 ≤ b ∧ b ≤ 500) ∧ (2 ≤ d ∧ d ≤ 16)) (hσ : σ' = o_up (o_up (o_up σ 0 0 7 a) 0 0 8 b) 0 0 9 d) (hμ : μ' = o_up (o_up (o_up (o_up μ 24 0 31 0) 24 0 8 a) 24 0 9 b) 24 0 10 d) : Rel σ' μ' := by
  obtain ⟨⟨x1, x3, x5, x7, x10, x14, xC, xO, xP, xD, xW, xT, xM⟩, ⟨⟨n4, n15, n18⟩, ⟨n8, n9, n10⟩, n23, n24, n27⟩, hC, hU, hL, hOr, hV, hP, hDr, hWt⟩ := h
  have k : ∀ K, K ≠ 0 → σ' K = σ K := fun K h0 => by rw [hσ, o_up_k h0, o_up_k h0, o_up_k h0]
  have e0 : ∀ j, j ≠ 7 → j ≠ 8 → j ≠ 9 → σ' 0 0 j = σ 0 0 j := fun j h1 h2 h3 => by rw [hσ]; simp [o_up, h1, h2, h3]
  have f7 : σ' 0 0 7 = a := by rw [hσ]; simp [o_up]
  have f8 : σ' 0 0 8 = b := by rw [hσ]; simp [o_up]
  have f9 : σ' 0 0 9 = d := by rw [hσ]; simp [o_up]
  have m : ∀ K, K ≠ 24 → μ' K = μ K := fun K h1 => by rw [hμ, o_up_k h1, o_up_k h1, o_up_k h1, o_up_k h1]
  have m24 : ∀ j, j ≠ 31 → j ≠ 8 → j ≠ 9 → j ≠ 10 → μ' 24 0 j = μ 24 0 j := fun j h1 h2 h3 h4 => by rw [hμ]; simp [o_up, h1, h2, h3, h4]
  have g8 : μ' 24 0 8 = a := by rw [hμ]; simp [o_up]
  have g9 : μ' 24 0 9 = b := by rw [hμ]; simp [o_up]
  have g10 : μ' 24 0 10 = d := by rw [hμ]; simp [o_up]
  clear hσ hμ
  have cr : ∀ c, CR σ σ' c := CR_of (fun K h1 h2 => k K (by omega))
  have mr : ∀ c, MR μ μ' c := MR_of (fun K h1 h2 h3 => m K (by omega))
  have k8 : σ' 8 = σ 8 := k 8 (by decide)
  have k9 : σ' 9 = σ 9 := k 9 (by decide)
  have k7 : σ' 7 = σ 7 := k 7 (by decide)
  have k1 : σ' 1 = σ 1 := k 1 (by decide)
  unfold Rel
  rw [e0 1 (by decide) (by decide) (by decide), e0 3 (by decide) (by decide) (by decide), e0 5 (by decide) (by decide) (by decide), e0 14 (by decide) (by decide) (by decide)]
  refine ⟨?_, ?_, fun c hc => ?_, fun c hc => ?_, fun c => ?_, fun r hr => ?_, fun r hr => ?_, fun p hp => ?_, ?_, fun i hi => ?_⟩
  · unfold XI
    rw [e0 1 (by decide) (by decide) (by decide), e0 3 (by decide) (by decide) (by decide), e0 5 (by decide) (by decide) (by decide), f7, f8, f9, e0 10 (by decide) (by decide) (by decide), e0 14 (by decide) (by decide) (by decide), k 17 (by decide), k 18 (by decide)]
    refine ⟨x1, x3, x5, hb, x10, x14, fun c hc => ?_, fun r hr => ?_, fun p hp => ?_, ?_, xW, ?_, ?_⟩
    · rw [(cr c).cs.1, (cr c).cs.2]; exact xC c hc
    · rw [OO_cong k7]; exact xO r hr
    · rw [PB_cong k8 k9]; exact xP p hp
    · rw [PB_cong k8 k9]; exact xD
    · rw [TB_cong (k 12 (by decide))]; exact xT
    · unfold OM; rw [k 14 (by decide), k 15 (by decide)]; exact xM
  · unfold RN
    rw [e0 1 (by decide) (by decide) (by decide), e0 3 (by decide) (by decide) (by decide), e0 5 (by decide) (by decide) (by decide), f7, f8, f9, e0 10 (by decide) (by decide) (by decide), e0 11 (by decide) (by decide) (by decide), e0 14 (by decide) (by decide) (by decide), g8, g9, g10, m24 4 (by decide) (by decide) (by decide) (by decide), m24 15 (by decide) (by decide) (by decide) (by decide), m24 18 (by decide) (by decide) (by decide) (by decide), m24 23 (by decide) (by decide) (by decide) (by decide), m24 24 (by decide) (by decide) (by decide) (by decide), m24 27 (by decide) (by decide) (by decide) (by decide)]
    exact ⟨⟨n4, n15, n18⟩, ⟨rfl, rfl, rfl⟩, n23, n24, n27⟩
  · exact RC_keep (hC c hc) (xC c hc).1 (xC c hc).2 (cr c) (mr c) (fun p hp => by rw [k8, k9]; exact ⟨rfl, rfl⟩) (by rw [e0 5 (by decide) (by decide) (by decide)]; exact Int.le_refl _)
  · unfold RU
    rw [k1, m 31 (by decide)]
    exact hU c hc
  · unfold RLo
    rw [k1, m 41 (by decide)]
    exact hL c
  · unfold RO
    rw [k7, m 32 (by decide), m 33 (by decide), m 34 (by decide), m 35 (by decide)]
    exact hOr r hr
  · unfold RV
    rw [k7, m 34 (by decide)]
    exact hV r hr
  · unfold RP
    rw [k8, k9, m 36 (by decide), m 37 (by decide)]
    exact hP p hp
  · unfold RP
    rw [k8, k9, m 36 (by decide), m 37 (by decide)]
    exact hDr
  · unfold RW
    rw [k 17 (by decide), k 18 (by decide), m 42 (by decide), m 43 (by decide)]
    exact hWt i hi
theorem R_order {σ μ σ' μ' : oMem} {a b : Int} {n : Nat} (h : Rel σ μ) (hn : σ 0 0 3 = n) (hb : (20 ≤ a ∧ a ≤ 1000) ∧ (1 ≤ b ∧ b ≤ 50000)) (hlt : n < 12) (hσ : σ' = o_up (o_up (o_up σ 7 n 0 a) 7 n 1 b) 0 0 3 (n + 1)) (hμ : μ' = o_up (o_up (o_up (o_up (o_up μ 24 0 31 0) 32 0 n a) 33 0 n b) 35 0 n (-1)) 24 0 15 (n + 1)) : Rel σ' μ' := by
  obtain ⟨⟨x1, x3, x5, x7, x10, x14, xC, xO, xP, xD, xW, xT, xM⟩, ⟨⟨n4, n15, n18⟩, ⟨n8, n9, n10⟩, n23, n24, n27⟩, hC, hU, hL, hOr, hV, hP, hDr, hWt⟩ := h
  have k : ∀ K, K ≠ 0 → K ≠ 7 → σ' K = σ K := fun K h0 h1 => by rw [hσ, o_up_k h0, o_up_k h1, o_up_k h1]
  have e0 : ∀ j, j ≠ 3 → σ' 0 0 j = σ 0 0 j := fun j hj => by rw [hσ]; simp [o_up, hj]
  have e03 : σ' 0 0 3 = n + 1 := by rw [hσ]; simp [o_up]
  have e7 : ∀ c, c ≠ n → σ' 7 c = σ 7 c := fun c hc => by rw [hσ]; funext j; simp [o_up, hc]
  have f0 : σ' 7 n 0 = a := by rw [hσ]; simp [o_up]
  have f1 : σ' 7 n 1 = b := by rw [hσ]; simp [o_up]
  have f2 : σ' 7 n 2 = σ 7 n 2 := by rw [hσ]; simp [o_up]
  have f3 : σ' 7 n 3 = σ 7 n 3 := by rw [hσ]; simp [o_up]
  have m : ∀ K, K ≠ 24 → K ≠ 32 → K ≠ 33 → K ≠ 35 → μ' K = μ K := fun K h1 h2 h3 h4 => by rw [hμ, o_up_k h1, o_up_k h4, o_up_k h3, o_up_k h2, o_up_k h1]
  have m24 : ∀ j, j ≠ 31 → j ≠ 15 → μ' 24 0 j = μ 24 0 j := fun j h1 h2 => by rw [hμ]; simp [o_up, h1, h2]
  have m15 : μ' 24 0 15 = n + 1 := by rw [hμ]; simp [o_up]
  have mc : ∀ K, K ≠ 24 → ∀ c, c ≠ n → μ' K 0 c = μ K 0 c := fun K h1 c hc => by rw [hμ]; simp [o_up, h1, hc]
  have g0 : μ' 32 0 n = a := by rw [hμ]; simp [o_up]
  have g1 : μ' 33 0 n = b := by rw [hμ]; simp [o_up]
  have g3 : μ' 35 0 n = -1 := by rw [hμ]; simp [o_up]
  clear hσ hμ
  have cr : ∀ c, CR σ σ' c := CR_of (fun K h1 h2 => k K (by omega) (by omega))
  have mr : ∀ c, MR μ μ' c := MR_of (fun K h1 h2 h3 => m K (by omega) (by omega) (by omega) (by omega))
  have k8 : σ' 8 = σ 8 := k 8 (by decide) (by decide)
  have k9 : σ' 9 = σ 9 := k 9 (by decide) (by decide)
  have k1 : σ' 1 = σ 1 := k 1 (by decide) (by decide)
  have hVn := hV n (by omega)
  unfold Rel
  rw [e03, e0 1 (by decide), e0 5 (by decide), e0 14 (by decide)]
  refine ⟨?_, ?_, fun c hc => ?_, fun c hc => ?_, fun c => ?_, fun r hr => ?_, fun r hr => ?_, fun p hp => ?_, ?_, fun i hi => ?_⟩
  · unfold XI
    rw [e03, e0 1 (by decide), e0 5 (by decide), e0 7 (by decide), e0 8 (by decide), e0 9 (by decide), e0 10 (by decide), e0 14 (by decide), k 17 (by decide) (by decide), k 18 (by decide) (by decide)]
    refine ⟨x1, by omega, x5, x7, x10, x14, fun c hc => ?_, fun r hr => ?_, fun p hp => ?_, ?_, xW, ?_, ?_⟩
    · rw [(cr c).cs.1, (cr c).cs.2]; exact xC c hc
    · by_cases q : r = n
      · subst q
        unfold OO
        rw [f0, f1, f2, f3, hVn.1, hVn.2.1]
        exact ⟨hb.1, hb.2, by omega, by omega⟩
      · unfold OO; rw [e7 r q]; exact xO r (by omega)
    · rw [PB_cong k8 k9]; exact xP p hp
    · rw [PB_cong k8 k9]; exact xD
    · rw [TB_cong (k 12 (by decide) (by decide))]; exact xT
    · unfold OM; rw [k 14 (by decide) (by decide), k 15 (by decide) (by decide)]; exact xM
  · unfold RN
    rw [e03, e0 1 (by decide), e0 5 (by decide), e0 7 (by decide), e0 8 (by decide), e0 9 (by decide), e0 10 (by decide), e0 11 (by decide), e0 14 (by decide), m15, m24 4 (by decide) (by decide), m24 18 (by decide) (by decide), m24 8 (by decide) (by decide), m24 9 (by decide) (by decide), m24 10 (by decide) (by decide), m24 23 (by decide) (by decide), m24 24 (by decide) (by decide), m24 27 (by decide) (by decide)]
    exact ⟨⟨n4, rfl, n18⟩, ⟨n8, n9, n10⟩, n23, n24, n27⟩
  · exact RC_keep (hC c hc) (xC c hc).1 (xC c hc).2 (cr c) (mr c) (fun p hp => by rw [k8, k9]; exact ⟨rfl, rfl⟩) (by rw [e0 5 (by decide)]; exact Int.le_refl _)
  · unfold RU
    rw [k1, m 31 (by decide) (by decide) (by decide) (by decide)]
    exact hU c hc
  · unfold RLo
    rw [k1, m 41 (by decide) (by decide) (by decide) (by decide)]
    exact hL c
  · unfold RO
    by_cases q : r = n
    · subst q
      rw [g0, g1, g3, f0, f1, f2, f3, m 34 (by decide) (by decide) (by decide) (by decide), hVn.1, hVn.2.1, hVn.2.2]
      exact ⟨rfl, rfl, rfl, rfl⟩
    · rw [e7 r q, mc 32 (by decide) r q, mc 33 (by decide) r q, mc 34 (by decide) r q, mc 35 (by decide) r q]
      exact hOr r (by omega)
  · unfold RV
    rw [e7 r (by omega), m 34 (by decide) (by decide) (by decide) (by decide)]
    exact hV r (by omega)
  · unfold RP
    rw [k8, k9, m 36 (by decide) (by decide) (by decide) (by decide), m 37 (by decide) (by decide) (by decide) (by decide)]
    exact hP p hp
  · unfold RP
    rw [k8, k9, m 36 (by decide) (by decide) (by decide) (by decide), m 37 (by decide) (by decide) (by decide) (by decide)]
    exact hDr
  · unfold RW
    rw [k 17 (by decide) (by decide), k 18 (by decide) (by decide), m 42 (by decide) (by decide) (by decide) (by decide), m 43 (by decide) (by decide) (by decide) (by decide)]
    exact hWt i hi
theorem R_plan {σ μ σ' μ' : oMem} {a b : Int} {n : Nat} (h : Rel σ μ) (hn : σ 0 0 14 = n) (ha : okC σ a) (hb : okP σ b) (hlt : n < 7) (hσ : σ' = o_up (o_up (o_up σ 17 0 n a) 18 0 n b) 0 0 14 (n + 1)) (hμ : μ' = o_up (o_up (o_up (o_up μ 24 0 31 0) 42 0 n a) 43 0 n b) 24 0 27 (n + 1)) : Rel σ' μ' := by
  obtain ⟨⟨x1, x3, x5, x7, x10, x14, xC, xO, xP, xD, xW, xT, xM⟩, ⟨⟨n4, n15, n18⟩, ⟨n8, n9, n10⟩, n23, n24, n27⟩, hC, hU, hL, hOr, hV, hP, hDr, hWt⟩ := h
  have k : ∀ K, K ≠ 0 → K ≠ 17 → K ≠ 18 → σ' K = σ K := fun K h0 h1 h2 => by rw [hσ, o_up_k h0, o_up_k h2, o_up_k h1]
  have e0 : ∀ j, j ≠ 14 → σ' 0 0 j = σ 0 0 j := fun j hj => by rw [hσ]; simp [o_up, hj]
  have e03 : σ' 0 0 14 = n + 1 := by rw [hσ]; simp [o_up]
  have f17 : ∀ i, σ' 17 0 i = if i = n then a else σ 17 0 i := fun i => by rw [hσ]; simp [o_up]
  have f18 : ∀ i, σ' 18 0 i = if i = n then b else σ 18 0 i := fun i => by rw [hσ]; simp [o_up]
  have m : ∀ K, K ≠ 24 → K ≠ 42 → K ≠ 43 → μ' K = μ K := fun K h1 h2 h3 => by rw [hμ, o_up_k h1, o_up_k h3, o_up_k h2, o_up_k h1]
  have m24 : ∀ j, j ≠ 31 → j ≠ 27 → μ' 24 0 j = μ 24 0 j := fun j h1 h2 => by rw [hμ]; simp [o_up, h1, h2]
  have m15 : μ' 24 0 27 = n + 1 := by rw [hμ]; simp [o_up]
  have g42 : ∀ i, μ' 42 0 i = if i = n then a else μ 42 0 i := fun i => by rw [hμ]; simp [o_up]
  have g43 : ∀ i, μ' 43 0 i = if i = n then b else μ 43 0 i := fun i => by rw [hμ]; simp [o_up]
  clear hσ hμ
  have cr : ∀ c, CR σ σ' c := CR_of (fun K h1 h2 => k K (by omega) (by omega) (by omega))
  have mr : ∀ c, MR μ μ' c := MR_of (fun K h1 h2 h3 => m K (by omega) (by omega) (by omega))
  have k8 : σ' 8 = σ 8 := k 8 (by decide) (by decide) (by decide)
  have k9 : σ' 9 = σ 9 := k 9 (by decide) (by decide) (by decide)
  have k1 : σ' 1 = σ 1 := k 1 (by decide) (by decide) (by decide)
  have k7 : σ' 7 = σ 7 := k 7 (by decide) (by decide) (by decide)
  unfold Rel
  rw [e03, e0 1 (by decide), e0 5 (by decide), e0 3 (by decide)]
  refine ⟨?_, ?_, fun c hc => ?_, fun c hc => ?_, fun c => ?_, fun r hr => ?_, fun r hr => ?_, fun p hp => ?_, ?_, fun i hi => ?_⟩
  · unfold XI
    rw [e03, e0 1 (by decide), e0 3 (by decide), e0 5 (by decide), e0 7 (by decide), e0 8 (by decide), e0 9 (by decide), e0 10 (by decide)]
    refine ⟨x1, x3, x5, x7, x10, by omega, fun c hc => ?_, fun r hr => ?_, fun p hp => ?_, ?_, fun i hi => ?_, ?_, ?_⟩
    · rw [(cr c).cs.1, (cr c).cs.2]; exact xC c hc
    · rw [OO_cong k7]; exact xO r hr
    · rw [PB_cong k8 k9]; exact xP p hp
    · rw [PB_cong k8 k9]; exact xD
    · rw [f17, f18]
      by_cases q : i = n
      · rw [if_pos q, if_pos q]; exact ⟨ha, hb⟩
      · rw [if_neg q, if_neg q]; exact xW i (by omega)
    · rw [TB_cong (k 12 (by decide) (by decide) (by decide))]; exact xT
    · unfold OM; rw [k 14 (by decide) (by decide) (by decide), k 15 (by decide) (by decide) (by decide)]; exact xM
  · unfold RN
    rw [e03, e0 1 (by decide), e0 5 (by decide), e0 7 (by decide), e0 8 (by decide), e0 9 (by decide), e0 10 (by decide), e0 11 (by decide), e0 3 (by decide), m15, m24 4 (by decide) (by decide), m24 18 (by decide) (by decide), m24 8 (by decide) (by decide), m24 9 (by decide) (by decide), m24 10 (by decide) (by decide), m24 23 (by decide) (by decide), m24 24 (by decide) (by decide), m24 15 (by decide) (by decide)]
    exact ⟨⟨n4, n15, n18⟩, ⟨n8, n9, n10⟩, n23, n24, rfl⟩
  · exact RC_keep (hC c hc) (xC c hc).1 (xC c hc).2 (cr c) (mr c) (fun p hp => by rw [k8, k9]; exact ⟨rfl, rfl⟩) (by rw [e0 5 (by decide)]; exact Int.le_refl _)
  · unfold RU
    rw [k1, m 31 (by decide) (by decide) (by decide)]
    exact hU c hc
  · unfold RLo
    rw [k1, m 41 (by decide) (by decide) (by decide)]
    exact hL c
  · unfold RO
    rw [k7, m 32 (by decide) (by decide) (by decide), m 33 (by decide) (by decide) (by decide), m 34 (by decide) (by decide) (by decide), m 35 (by decide) (by decide) (by decide)]
    exact hOr r hr
  · unfold RV
    rw [k7, m 34 (by decide) (by decide) (by decide)]
    exact hV r hr
  · unfold RP
    rw [k8, k9, m 36 (by decide) (by decide) (by decide), m 37 (by decide) (by decide) (by decide)]
    exact hP p hp
  · unfold RP
    rw [k8, k9, m 36 (by decide) (by decide) (by decide), m 37 (by decide) (by decide) (by decide)]
    exact hDr
  · unfold RW
    rw [f17, f18, g42, g43]
    by_cases q : i = n
    · rw [if_pos q, if_pos q, if_pos q, if_pos q]; exact ⟨rfl, rfl⟩
    · rw [if_neg q, if_neg q, if_neg q, if_neg q]; exact hWt i (by omega)
theorem R_draft0 {σ μ σ' μ' : oMem} (h : Rel σ μ) (hσ : σ' = o_up σ 8 10 1 0) (hμ : μ' = o_up (o_up μ 37 0 10 0) 24 0 31 0) : Rel σ' μ' := by
  have e : σ' 8 10 1 = 0 := by rw [hσ, o_up_s]
  refine Rel_draft h ⟨by omega, by omega, fun j hj => by omega⟩ ⟨?_, fun j hj => by omega⟩ (by rw [TB_cong (by rw [hσ, o_up_k (by decide)])]; exact h.tm.1) (by unfold OM; rw [hσ, o_up_k (by decide), o_up_k (by decide)]; exact h.tm.2) (fun K hK => by rw [hσ, o_up_k (by omega)]) (fun q hq => ?_) (by rw [hσ, o_up_k (by decide)]) (by rw [hσ, o_up_k (by decide)]) (fun K h1 h2 h3 h4 => by rw [hμ, o_up_k (by omega), o_up_k h4]) (fun j hj => by rw [hμ, o_up_k (by decide), o_up_k (by decide)]) (fun j hj => ?_) (fun j hj => by rw [hμ, o_up_j hj, o_up_k (by decide)])
  · rw [e, hμ, o_up_k (by decide), o_up_s]
  · rw [hσ]
    exact ⟨by funext j; simp [o_up, hq], by rw [o_up_k (by decide)]⟩
  · rw [hμ, o_up_k (by decide), o_up_j hj]
theorem R_addSlit {σ μ σ' μ' : oMem} {a : Int} {n : Nat} (h : Rel σ μ) (hn : σ 8 10 1 = n) (ha : 20 ≤ a ∧ a ≤ 1000) (hlt : n < 15) (hσ : σ' = o_up (o_up σ 9 10 n a) 8 10 1 (n + 1)) (hμ : μ' = o_up (o_up (o_up μ 24 0 31 0) 36 0 (150 + n) a) 37 0 10 (n + 1)) : Rel σ' μ' := by
  have hD := h.1.2.2.2.2.2.2.2.2.2.1
  have hR := h.2.2.2.2.2.2.2.2.1
  have e : σ' 8 10 1 = n + 1 := by rw [hσ, o_up_s]
  have f : ∀ j, σ' 9 10 j = if j = n then a else σ 9 10 j := fun j => by rw [hσ]; simp [o_up]
  have g : ∀ j, μ' 36 0 (150 + j) = if j = n then a else μ 36 0 (150 + j) := fun j => by rw [hμ]; simp [o_up]
  refine Rel_draft h ⟨by omega, by omega, fun j hj => ?_⟩ ⟨?_, fun j hj => ?_⟩ (by rw [TB_cong (by rw [hσ, o_up_k (by decide), o_up_k (by decide)])]; exact h.tm.1) (by unfold OM; rw [hσ, o_up_k (by decide), o_up_k (by decide), o_up_k (by decide), o_up_k (by decide)]; exact h.tm.2) (fun K hK => by rw [hσ, o_up_k (by omega), o_up_k (by omega)]) (fun q hq => ?_) (by rw [hσ, o_up_k (by decide), o_up_k (by decide)]) (by rw [hσ, o_up_k (by decide), o_up_k (by decide)]) (fun K h1 h2 h3 h4 => by rw [hμ, o_up_k h4, o_up_k h3, o_up_k (by omega)]) (fun j hj => by rw [hμ, o_up_k (by decide), o_up_j (by omega), o_up_k (by decide)]) (fun j hj => ?_) (fun j hj => by rw [hμ, o_up_k (by decide), o_up_k (by decide), o_up_j hj])
  · rw [f]
    by_cases q : j = n
    · rw [if_pos q]; exact ha
    · rw [if_neg q]; exact hD.2.2 j (by omega)
  · rw [e, hμ, o_up_s]
  · rw [show 15 * 10 + j = 150 + j by omega, f, g]
    by_cases q : j = n
    · rw [if_pos q, if_pos q]
    · rw [if_neg q, if_neg q]; exact hR.2 j (by omega)
  · rw [hσ]
    exact ⟨by rw [o_up_row _ _ _ _ _ _ _ (by omega), o_up_k (by decide)], by rw [o_up_k (by decide), o_up_row _ _ _ _ _ _ _ (by omega)]⟩
  · rw [hμ, o_up_j hj, o_up_k (by decide), o_up_k (by decide)]
