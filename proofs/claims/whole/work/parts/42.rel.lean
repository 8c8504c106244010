theorem ins_at {f : Nat → Int} {d pl : Nat} {v : Int} (j : Nat) : o_ins f d pl v j = if j < pl then f j else if j = pl then v else if j ≤ d then f (j - 1) else f j := rfl
/-- what stands at a place after an insertion -/
theorem ins_ex {f : Nat → Int} {d pl : Nat} {v : Int} (hp : pl ≤ d) (P : Int → Prop) : (∃ j : Nat, j < d + 1 ∧ P (o_ins f d pl v j)) ↔ P v ∨ ∃ j : Nat, j < d ∧ P (f j) := by
  constructor
  · rintro ⟨j, j1, j2⟩
    rw [ins_at] at j2
    by_cases a : j < pl
    · rw [if_pos a] at j2; exact Or.inr ⟨j, by omega, j2⟩
    · rw [if_neg a] at j2
      by_cases b : j = pl
      · rw [if_pos b] at j2; exact Or.inl j2
      · rw [if_neg b, if_pos (by omega)] at j2; exact Or.inr ⟨j - 1, by omega, j2⟩
  · rintro (h | ⟨j, j1, j2⟩)
    · exact ⟨pl, by omega, by rw [ins_at, if_neg (by omega), if_pos rfl]; exact h⟩
    · by_cases a : j < pl
      · exact ⟨j, by omega, by rw [ins_at, if_pos a]; exact j2⟩
      · exact ⟨j + 1, by omega, by rw [ins_at, if_neg (by omega), if_neg (by omega), if_pos (by omega)]; exact j2⟩
theorem ins_ex2 {f t : Nat → Int} {d pl : Nat} {v w : Int} (hp : pl ≤ d) (P : Int → Int → Prop) : (∃ j : Nat, j < d + 1 ∧ P (o_ins f d pl v j) (o_ins t d pl w j)) ↔ P v w ∨ ∃ j : Nat, j < d ∧ P (f j) (t j) := by
  constructor
  · rintro ⟨j, j1, j2⟩
    rw [ins_at, ins_at] at j2
    by_cases a : j < pl
    · rw [if_pos a, if_pos a] at j2; exact Or.inr ⟨j, by omega, j2⟩
    · rw [if_neg a, if_neg a] at j2
      by_cases b : j = pl
      · rw [if_pos b, if_pos b] at j2; exact Or.inl j2
      · rw [if_neg b, if_neg b, if_pos (by omega), if_pos (by omega)] at j2; exact Or.inr ⟨j - 1, by omega, j2⟩
  · rintro (h | ⟨j, j1, j2⟩)
    · exact ⟨pl, by omega, by rw [ins_at, ins_at, if_neg (by omega), if_pos rfl, if_neg (by omega), if_pos rfl]; exact h⟩
    · by_cases a : j < pl
      · exact ⟨j, by omega, by rw [ins_at, ins_at, if_pos a, if_pos a]; exact j2⟩
      · exact ⟨j + 1, by omega, by rw [ins_at, ins_at, if_neg (by omega), if_neg (by omega), if_pos (by omega), if_neg (by omega), if_neg (by omega), if_pos (by omega)]; exact j2⟩
theorem ins_sorted {f : Nat → Int} {d pl : Nat} {v : Int} (hp : pl ≤ d) (hs : ∀ i j : Nat, i ≤ j → j < d → f i ≤ f j) (h1 : 0 < pl → f (pl - 1) ≤ v) (h2 : ∀ j, pl ≤ j → j < d → v < f j) : ∀ i j : Nat, i ≤ j → j < d + 1 → o_ins f d pl v i ≤ o_ins f d pl v j := by
  intro i j hij hj
  rw [ins_at, ins_at]
  by_cases a : j < pl
  · rw [if_pos a, if_pos (by omega)]; exact hs i j hij (by omega)
  · rw [if_neg a]
    by_cases b : j = pl
    · rw [if_pos b]
      by_cases c : i < pl
      · rw [if_pos c]
        have := hs i (pl - 1) (by omega) (by omega)
        have := h1 (by omega)
        omega
      · rw [if_neg c, if_pos (by omega)]; exact Int.le_refl _
    · rw [if_neg b, if_pos (show j ≤ d by omega)]
      by_cases c : i < pl
      · rw [if_pos c]; exact hs i (j - 1) (by omega) (by omega)
      · rw [if_neg c]
        by_cases e : i = pl
        · rw [if_pos e]; have := h2 (j - 1) (by omega) (by omega); omega
        · rw [if_neg e, if_pos (by omega)]; exact hs (i - 1) (j - 1) (by omega) (by omega)
theorem R_defect {σ μ σ' μ' : oMem} {b d : Int} {c n pl : Nat} (h : Rel σ μ) (hc : (c : Int) < σ 0 0 1) (hn : σ 1 c 6 = n) (hlt : n < 8) (hb : (0 ≤ b ∧ b ≤ σ 1 c 2 - 1) ∧ (b + 1 ≤ d ∧ d ≤ σ 1 c 2)) (p1 : pl ≤ n) (p2 : 0 < pl → σ 2 c (pl - 1) ≤ b) (p3 : ∀ j : Nat, pl ≤ j → j < n → b < σ 2 c j) (hσ : σ' = o_up (o_rw (o_rw σ 2 c (o_ins (σ 2 c) n pl b)) 3 c (o_ins (σ 3 c) n pl d)) 1 c 6 (n + 1)) (hμ : μ' = o_up (o_up (o_up (o_up μ 24 0 31 0) 29 0 (8 * c + n) b) 30 0 (8 * c + n) d) 31 0 c (n + 1)) : Rel σ' μ' ∧ o_cutl σ' c = mCut μ' c := by
  obtain ⟨⟨x1, x3, x5, x7, x10, x14, xC, xO, xP, xD, xW, xT, xM⟩, ⟨⟨n4, n15, n18⟩, ⟨n8, n9, n10⟩, n23, n24, n27⟩, hC, hU, hL, hOr, hV, hP, hDr, hWt⟩ := h
  have k : ∀ K, K ≠ 1 → K ≠ 2 → K ≠ 3 → σ' K = σ K := fun K h1 h2 h3 => by rw [hσ, o_up_k h1, o_rw_k h3, o_rw_k h2]
  have e1 : ∀ i j, ¬ (i = c ∧ j = 6) → σ' 1 i j = σ 1 i j := fun i j hij => by rw [hσ, o_up_ij hij, o_rw_k (by decide), o_rw_k (by decide)]
  have e6 : σ' 1 c 6 = n + 1 := by rw [hσ, o_up_s]
  have r1 : ∀ i, i ≠ c → σ' 1 i = σ 1 i := fun i hi => by funext j; exact e1 i j (fun q => hi q.1)
  have r2 : ∀ i, i ≠ c → σ' 2 i = σ 2 i := fun i hi => by rw [hσ, o_up_k (by decide), o_rw_k (by decide)]; funext j; simp [o_rw, hi]
  have r3 : ∀ i, i ≠ c → σ' 3 i = σ 3 i := fun i hi => by rw [hσ, o_up_k (by decide)]; funext j; simp [o_rw, hi]
  have f2 : σ' 2 c = o_ins (σ 2 c) n pl b := by rw [hσ, o_up_k (by decide), o_rw_k (by decide)]; funext j; simp [o_rw]
  have f3 : σ' 3 c = o_ins (σ 3 c) n pl d := by rw [hσ, o_up_k (by decide)]; funext j; simp [o_rw]
  have m : ∀ K, K ≠ 24 → K ≠ 29 → K ≠ 30 → K ≠ 31 → μ' K = μ K := fun K h1 h2 h3 h4 => by rw [hμ, o_up_k h4, o_up_k h3, o_up_k h2, o_up_k h1]
  have m24 : ∀ j, j ≠ 31 → μ' 24 0 j = μ 24 0 j := fun j h1 => by rw [hμ]; simp [o_up, h1]
  have m29 : ∀ j, μ' 29 0 j = if j = 8 * c + n then b else μ 29 0 j := fun j => by rw [hμ]; simp [o_up]
  have m30 : ∀ j, μ' 30 0 j = if j = 8 * c + n then d else μ 30 0 j := fun j => by rw [hμ]; simp [o_up]
  have m31 : ∀ j, μ' 31 0 j = if j = c then (n : Int) + 1 else μ 31 0 j := fun j => by rw [hμ]; simp [o_up]
  clear hσ hμ
  have cr : ∀ i, i ≠ c → CR σ σ' i := fun i hi => ⟨r1 i hi, r2 i hi, r3 i hi, by rw [k 4 (by decide) (by decide) (by decide)], by rw [k 5 (by decide) (by decide) (by decide)], by rw [k 6 (by decide) (by decide) (by decide)]⟩
  have mr : ∀ i, i ≠ c → MR μ μ' i := fun i hi => ⟨⟨by rw [m 25 (by decide) (by decide) (by decide) (by decide)], by rw [m 26 (by decide) (by decide) (by decide) (by decide)], by rw [m 27 (by decide) (by decide) (by decide) (by decide)], by rw [m 28 (by decide) (by decide) (by decide) (by decide)], by rw [m31, if_neg hi], by rw [m 38 (by decide) (by decide) (by decide) (by decide)]⟩, fun k' hk' => ⟨by rw [m29, if_neg (by omega)], by rw [m30, if_neg (by omega)]⟩, fun k' hk' => ⟨by rw [m 39 (by decide) (by decide) (by decide) (by decide)], by rw [m 40 (by decide) (by decide) (by decide) (by decide)]⟩⟩
  have k8 : σ' 8 = σ 8 := k 8 (by decide) (by decide) (by decide)
  have k9 : σ' 9 = σ 9 := k 9 (by decide) (by decide) (by decide)
  have k0 : σ' 0 = σ 0 := k 0 (by decide) (by decide) (by decide)
  have k7 : σ' 7 = σ 7 := k 7 (by decide) (by decide) (by decide)
  obtain ⟨⟨c0, c1, c2, c3, ⟨b1, b2, b3⟩, c6⟩, cS⟩ := xC c hc
  obtain ⟨⟨a1, a2, a3, a4⟩, ⟨d1, d2, d3, d4⟩, hs⟩ := hC c hc
  rw [hn] at d1 d2 d3 d4 b3 c6
  have hins : ∀ P : Int → Prop, (P d) → (∀ j : Nat, j < n → P (σ 3 c j)) → ∀ j : Nat, (j : Int) < (n : Int) + 1 → P (σ' 3 c j) := fun P h1 h2 j hj => by
    rw [f3, ins_at]
    by_cases q : j < pl
    · rw [if_pos q]; exact h2 j (by omega)
    · rw [if_neg q]
      by_cases q2 : j = pl
      · rw [if_pos q2]; exact h1
      · rw [if_neg q2, if_pos (by omega)]; exact h2 (j - 1) (by omega)
  have hCB : CB σ' c := by
    refine ⟨by rw [e1 c 0 (by omega)]; exact c0, by rw [e1 c 1 (by omega)]; exact c1, by rw [e1 c 2 (by omega)]; exact c2, by rw [e1 c 3 (by omega)]; exact c3, ⟨by rw [e6]; omega, by rw [e6]; omega, ?_⟩, ?_⟩
    · rw [e6]
      intro j hj
      rw [f2, f3, ins_at, ins_at]
      by_cases q : j < pl
      · rw [if_pos q, if_pos q]; exact b3 j (by omega)
      · rw [if_neg q, if_neg q]
        by_cases q2 : j = pl
        · rw [if_pos q2, if_pos q2]; omega
        · rw [if_neg q2, if_neg q2, if_pos (by omega), if_pos (by omega)]; exact b3 (j - 1) (by omega)
    · rw [e6, e1 c 2 (by omega)]
      exact hins (fun v => v ≤ σ 1 c 2) (by omega) (fun j hj => c6 j (by omega))
  have hRD : RD σ' μ' c := by
    unfold RD
    rw [e6, m31, if_pos rfl, f2, f3]
    refine ⟨rfl, fun i j hij hj => ins_sorted p1 (fun i j hij hj => d2 i j hij (by omega)) p2 p3 i j hij (by omega), fun j hj => ?_, fun t => ?_⟩
    · rw [m29, m30]
      by_cases q : j = n
      · rw [if_pos (by omega), if_pos (by omega)]; omega
      · rw [if_neg (by omega), if_neg (by omega)]; exact d3 j (by omega)
    · have i1 := ins_ex2 (f := σ 2 c) (t := σ 3 c) (v := b) (w := d) p1 (fun u v => u ≤ t ∧ t < v)
      constructor
      · rintro ⟨j, j1, j2⟩
        rcases i1.mp ⟨j, by omega, j2⟩ with z | ⟨j, j1, j2⟩
        · exact ⟨n, by omega, by rw [m29, m30, if_pos rfl, if_pos rfl]; exact z⟩
        · obtain ⟨q, q1, q2⟩ := (d4 t).mp ⟨j, by omega, j2⟩
          exact ⟨q, by omega, by rw [m29, m30, if_neg (by omega), if_neg (by omega)]; exact q2⟩
      · rintro ⟨j, j1, j2⟩
        rw [m29, m30] at j2
        by_cases q : j = n
        · rw [if_pos (by omega), if_pos (by omega)] at j2
          obtain ⟨u, u1, u2⟩ := i1.mpr (Or.inl j2)
          exact ⟨u, by omega, u2⟩
        · rw [if_neg (by omega), if_neg (by omega)] at j2
          obtain ⟨u, u1, u2⟩ := (d4 t).mpr ⟨j, by omega, j2⟩
          obtain ⟨u, u1, u2⟩ := i1.mpr (Or.inr ⟨u, by omega, u2⟩)
          exact ⟨u, by omega, u2⟩
  have h27 : μ' 27 0 c = σ' 1 c 2 := by rw [m 27 (by decide) (by decide) (by decide) (by decide), e1 c 2 (by omega), a3]
  refine ⟨?_, (hRD.cut hCB h27).symm⟩
  unfold Rel
  rw [k0]
  refine ⟨?_, ?_, fun i hi => ?_, fun i hi => ?_, fun i => ?_, fun r hr => ?_, fun r hr => ?_, fun p hp => ?_, ?_, fun i hi => ?_⟩
  · unfold XI
    rw [k0, k 17 (by decide) (by decide) (by decide), k 18 (by decide) (by decide) (by decide)]
    refine ⟨x1, x3, x5, x7, x10, x14, fun i hi => ?_, fun r hr => ?_, fun p hp => ?_, ?_, xW, ?_, ?_⟩
    · by_cases q : i = c
      · subst q
        refine ⟨hCB, ?_⟩
        unfold SB
        rw [e1 i 10 (by omega), k 4 (by decide) (by decide) (by decide), k 5 (by decide) (by decide) (by decide), k 6 (by decide) (by decide) (by decide)]
        exact cS
      · rw [(cr i q).cs.1, (cr i q).cs.2]; exact xC i hi
    · rw [OO_cong k7]; exact xO r hr
    · rw [PB_cong k8 k9]; exact xP p hp
    · rw [PB_cong k8 k9]; exact xD
    · rw [TB_cong (k 12 (by decide) (by decide) (by decide))]; exact xT
    · unfold OM; rw [k 14 (by decide) (by decide) (by decide), k 15 (by decide) (by decide) (by decide)]; exact xM
  · unfold RN
    rw [k0, m24 4 (by decide), m24 15 (by decide), m24 18 (by decide), m24 8 (by decide), m24 9 (by decide), m24 10 (by decide), m24 23 (by decide), m24 24 (by decide), m24 27 (by decide)]
    exact ⟨⟨n4, n15, n18⟩, ⟨n8, n9, n10⟩, n23, n24, n27⟩
  · by_cases q : i = c
    · subst q
      refine ⟨⟨by rw [m 25 (by decide) (by decide) (by decide) (by decide), e1 i 0 (by omega), a1], by rw [m 26 (by decide) (by decide) (by decide) (by decide), e1 i 1 (by omega), a2], h27, by rw [m 28 (by decide) (by decide) (by decide) (by decide), e1 i 3 (by omega), a4]⟩, hRD, ?_⟩
      unfold RS
      rw [m 38 (by decide) (by decide) (by decide) (by decide), m 39 (by decide) (by decide) (by decide) (by decide), m 40 (by decide) (by decide) (by decide) (by decide), e1 i 10 (by omega), k0, k 4 (by decide) (by decide) (by decide), k 5 (by decide) (by decide) (by decide), k 6 (by decide) (by decide) (by decide), k8, k9]
      exact hs
    · exact RC_keep (hC i hi) (xC i hi).1 (xC i hi).2 (cr i q) (mr i q) (fun p hp => by rw [k8, k9]; exact ⟨rfl, rfl⟩) (by rw [k0]; exact Int.le_refl _)
  · unfold RU
    rw [r1 i (by omega), m31, if_neg (by omega)]
    exact hU i hi
  · unfold RLo
    rw [m 41 (by decide) (by decide) (by decide) (by decide), e1 i 11 (by omega), e1 i 12 (by omega), e1 i 13 (by omega)]
    exact hL i
  · unfold RO
    rw [k7, m 32 (by decide) (by decide) (by decide) (by decide), m 33 (by decide) (by decide) (by decide) (by decide), m 34 (by decide) (by decide) (by decide) (by decide), m 35 (by decide) (by decide) (by decide) (by decide)]
    exact hOr r hr
  · unfold RV
    rw [k7, m 34 (by decide) (by decide) (by decide) (by decide)]
    exact hV r hr
  · unfold RP
    rw [k8, k9, m 36 (by decide) (by decide) (by decide) (by decide), m 37 (by decide) (by decide) (by decide) (by decide)]
    exact hP p hp
  · unfold RP
    rw [k8, k9, m 36 (by decide) (by decide) (by decide) (by decide), m 37 (by decide) (by decide) (by decide) (by decide)]
    exact hDr
  · unfold RW
    rw [k 17 (by decide) (by decide) (by decide), k 18 (by decide) (by decide) (by decide), m 42 (by decide) (by decide) (by decide) (by decide), m 43 (by decide) (by decide) (by decide) (by decide)]
    exact hWt i hi
theorem R_keep {σ μ σ' μ' : oMem} {n w : Nat} (h : Rel σ μ) (hn : σ 0 0 5 = n) (hlt : n < 10) (hw : σ 8 10 1 = w) (hσ : σ' = o_up (o_up (o_up (o_bl σ 9 n w (σ 9 10)) 8 n 1 w) 8 10 1 0) 0 0 5 (n + 1)) (hμ : μ' = o_up (o_up (o_bs (o_up (o_up μ 24 0 31 0) 37 0 n w) 36 0 (15 * n) w (fun j => μ 36 0 (150 + j))) 37 0 10 0) 24 0 18 (n + 1)) : Rel σ' μ' := by
  obtain ⟨⟨x1, x3, x5, x7, x10, x14, xC, xO, xP, xD, xW, xT, xM⟩, ⟨⟨n4, n15, n18⟩, ⟨n8, n9, n10⟩, n23, n24, n27⟩, hC, hU, hL, hOr, hV, hP, hDr, hWt⟩ := h
  have hD0 := xD.1
  have hD1 := xD.2.1
  have hD2 := xD.2.2
  rw [hw] at hD0 hD1 hD2
  have k : ∀ K, K ≠ 0 → K ≠ 8 → K ≠ 9 → σ' K = σ K := fun K h0 h8 h9 => by rw [hσ, o_up_k h0, o_up_k h8, o_up_k h8, o_bl_k h9]
  have e0 : ∀ j, j ≠ 5 → σ' 0 0 j = σ 0 0 j := fun j hj => by rw [hσ, o_up_j hj, o_up_k (by decide), o_up_k (by decide), o_bl_k (by decide)]
  have e05 : σ' 0 0 5 = n + 1 := by rw [hσ, o_up_s]
  have e8 : ∀ p, p ≠ n → p ≠ 10 → σ' 8 p = σ 8 p := fun p h1 h2 => by rw [hσ, o_up_k (by decide), o_up_row _ _ _ _ _ _ _ (by omega), o_up_row _ _ _ _ _ _ _ (by omega), o_bl_k (by decide)]
  have e9 : ∀ p, p ≠ n → σ' 9 p = σ 9 p := fun p h1 => by rw [hσ, o_up_k (by decide), o_up_k (by decide), o_up_k (by decide)]; funext j; simp [o_bl, h1]
  have f8 : σ' 8 n 1 = w := by rw [hσ, o_up_k (by decide), o_up_ij (by omega), o_up_s]
  have f80 : σ' 8 10 1 = 0 := by rw [hσ, o_up_k (by decide), o_up_s]
  have f9 : ∀ j, j < w → σ' 9 n j = σ 9 10 j := fun j hj => by rw [hσ, o_up_k (by decide), o_up_k (by decide), o_up_k (by decide)]; simp [o_bl, hj]
  have m : ∀ K, K ≠ 24 → K ≠ 36 → K ≠ 37 → μ' K = μ K := fun K h1 h2 h3 => by rw [hμ, o_up_k h1, o_up_k h3, o_bs_k h2, o_up_k h3, o_up_k h1]
  have m24 : ∀ j, j ≠ 31 → j ≠ 18 → μ' 24 0 j = μ 24 0 j := fun j h1 h2 => by rw [hμ, o_up_j h2, o_up_k (by decide), o_bs_k (by decide), o_up_k (by decide), o_up_j h1]
  have m18 : μ' 24 0 18 = n + 1 := by rw [hμ, o_up_s]
  have m37 : ∀ p, μ' 37 0 p = if p = 10 then 0 else if p = n then (w : Int) else μ 37 0 p := fun p => by
    rw [hμ, o_up_k (by decide)]
    by_cases q : p = 10
    · rw [if_pos q, q, o_up_s]
    · rw [if_neg q, o_up_j q, o_bs_k (by decide)]
      by_cases q2 : p = n
      · rw [if_pos q2, q2, o_up_s]
      · rw [if_neg q2, o_up_j q2, o_up_k (by decide)]
  have m36 : ∀ j, ¬ (15 * n ≤ j ∧ j < 15 * n + w) → μ' 36 0 j = μ 36 0 j := fun j hj => by
    rw [hμ, o_up_k (by decide), o_up_k (by decide)]
    show (if 36 = 36 ∧ 0 = 0 ∧ 15 * n ≤ j ∧ j < 15 * n + w then _ else _) = _
    rw [if_neg (fun q => hj q.2.2), o_up_k (by decide), o_up_k (by decide)]
  have g36 : ∀ j, j < w → μ' 36 0 (15 * n + j) = μ 36 0 (150 + j) := fun j hj => by
    rw [hμ, o_up_k (by decide), o_up_k (by decide)]
    show (if 36 = 36 ∧ 0 = 0 ∧ 15 * n ≤ 15 * n + j ∧ 15 * n + j < 15 * n + w then μ 36 0 (150 + (15 * n + j - 15 * n)) else _) = _
    rw [if_pos ⟨rfl, rfl, by omega, by omega⟩, show 15 * n + j - 15 * n = j by omega]
  clear hσ hμ
  have cr : ∀ c, CR σ σ' c := CR_of (fun K h1 h2 => k K (by omega) (by omega) (by omega))
  have mr : ∀ c, MR μ μ' c := MR_of (fun K h1 h2 h3 => m K (by omega) (by omega) (by omega))
  have k1 : σ' 1 = σ 1 := k 1 (by decide) (by decide) (by decide)
  have k7 : σ' 7 = σ 7 := k 7 (by decide) (by decide) (by decide)
  have hPn : PB σ' n := ⟨by rw [f8]; exact hD0, by rw [f8]; exact hD1, fun j hj => by rw [f8] at hj; rw [f9 j (by omega)]; exact hD2 j (by omega)⟩
  have hlt1 : ∀ p : Nat, (p : Int) < (n : Int) + 1 → p ≠ n → (p : Int) < σ 0 0 5 := fun c h1 h2 => by omega
  unfold Rel
  rw [e05, e0 1 (by decide), e0 3 (by decide), e0 14 (by decide)]
  refine ⟨?_, ?_, fun c hc => ?_, fun c hc => ?_, fun c => ?_, fun r hr => ?_, fun r hr => ?_, fun p hp => ?_, ?_, fun i hi => ?_⟩
  · unfold XI
    rw [e05, e0 1 (by decide), e0 3 (by decide), e0 7 (by decide), e0 8 (by decide), e0 9 (by decide), e0 10 (by decide), e0 14 (by decide), k 17 (by decide) (by decide) (by decide), k 18 (by decide) (by decide) (by decide)]
    refine ⟨x1, x3, by omega, x7, by omega, x14, fun c hc => ?_, fun r hr => ?_, fun p hp => ?_, ⟨by omega, by omega, fun j hj => by omega⟩, fun i hi => ?_, ?_, ?_⟩
    · rw [(cr c).cs.1, (cr c).cs.2]; exact xC c hc
    · rw [OO_cong k7]; exact xO r hr
    · by_cases q : p = n
      · subst q; exact hPn
      · rw [PB_row (e8 p q (by omega)) (e9 p q)]; exact xP p (hlt1 p hp q)
    · have := xW i hi; omega
    · rw [TB_cong (k 12 (by decide) (by decide) (by decide))]; exact xT
    · unfold OM; rw [k 14 (by decide) (by decide) (by decide), k 15 (by decide) (by decide) (by decide)]; exact xM
  · unfold RN
    rw [e05, e0 1 (by decide), e0 3 (by decide), e0 7 (by decide), e0 8 (by decide), e0 9 (by decide), e0 10 (by decide), e0 11 (by decide), e0 14 (by decide), m18, m24 4 (by decide) (by decide), m24 15 (by decide) (by decide), m24 8 (by decide) (by decide), m24 9 (by decide) (by decide), m24 10 (by decide) (by decide), m24 23 (by decide) (by decide), m24 24 (by decide) (by decide), m24 27 (by decide) (by decide)]
    exact ⟨⟨n4, n15, rfl⟩, ⟨n8, n9, n10⟩, n23, n24, n27⟩
  · exact RC_keep (hC c hc) (xC c hc).1 (xC c hc).2 (cr c) (mr c) (fun p hp => ⟨e8 p (by omega) (by omega), e9 p (by omega)⟩) (by omega)
  · unfold RU
    rw [k1, m 31 (by decide) (by decide) (by decide)]
    exact hU c hc
  · unfold RLo
    rw [k1, m 41 (by decide) (by decide) (by decide)]
    exact hL c
  · unfold RO
    rw [k7, m 32 (by decide) (by decide) (by decide), m 33 (by decide) (by decide) (by decide), m 34 (by decide) (by decide) (by decide), m 35 (by decide) (by decide) (by decide)]
    exact hOr r hr
  · unfold RV
    rw [k7, m 34 (by decide) (by decide) (by decide)]
    exact hV r hr
  · by_cases q : p = n
    · subst q
      refine ⟨by rw [m37, if_neg (by omega), if_pos rfl, f8], fun j hj => ?_⟩
      rw [f8] at hj
      rw [g36 j (by omega), f9 j (by omega)]
      exact hDr.2 j (by omega)
    · exact RP_keep (hP p (hlt1 p hp q)) (xP p (hlt1 p hp q)) (e8 p q (by omega)) (e9 p q) (by rw [m37, if_neg (by omega), if_neg q]) (fun j hj => m36 _ (by omega))
  · exact ⟨by rw [m37, if_pos rfl, f80], fun j hj => by omega⟩
  · unfold RW
    rw [k 17 (by decide) (by decide) (by decide), k 18 (by decide) (by decide) (by decide), m 42 (by decide) (by decide) (by decide), m 43 (by decide) (by decide) (by decide)]
    exact hWt i hi
/-- the draft is filled alike -/
theorem R_fill {σ μ σ' μ' : oMem} {z b : Int} {c : Nat} (h : Rel σ μ) (hc : (c : Int) < σ 0 0 1) (hG : isG (oWt σ (σ 1 c 3)) (σ 0 0 9) (σ 1 c 0 - 2 * σ 0 0 7) z) (hF : ∃ n : Nat, n ≤ 15 ∧ σ' 8 10 1 = n ∧ isF (oWt σ (σ 1 c 3)) z n (σ' 9 10)) (hT : TB σ') (hk : ∀ K, K ≠ 8 → K ≠ 9 → K ≠ 10 → K ≠ 11 → K ≠ 12 → σ' K = σ K) (hk8 : ∀ q, q ≠ 10 → σ' 8 q = σ 8 q ∧ σ' 9 q = σ 9 q) (hm : mFl μ (c : Int) b μ') : Rel σ' μ' ∧ z = b := by
  obtain ⟨g1, ⟨n2, q1, q2, q3⟩, m1, m2, m3, m4⟩ := hm
  obtain ⟨n, p1, p2, p3⟩ := hF
  have hN := h.2.1
  have hcc := (h.2.2.1 c hc).1
  have hO := h.1.2.2.2.2.2.2.2.1
  rw [Int.toNat_natCast, hcc.2.2.2, hN.2.1.2.2, hcc.1, hN.2.1.1] at g1
  rw [Int.toNat_natCast, hcc.2.2.2] at q3
  have hw : ∀ w, oWt σ (σ 1 c 3) w ↔ mWt μ (σ 1 c 3) w := fun w => h.wt _ w
  have hz := isG_uniq (isG_cong hw hG) g1
  subst hz
  refine ⟨?_, rfl⟩
  obtain ⟨u1, u2⟩ := isF_uniq (isF_cong hw p3) q3
  subst u1
  have hX : ∀ i : Nat, i < n → 20 ≤ σ' 9 10 i ∧ σ' 9 10 i ≤ 1000 := fun i hi => by
    obtain ⟨r, r1, r2, r3⟩ := (p3.2 i hi).1
    have := (hO r r1).1
    omega
  refine Rel_draft h ⟨by omega, by omega, fun j hj => hX j (by omega)⟩ ⟨by rw [q2, p2], fun j hj => ?_⟩ hT (by unfold OM; rw [hk 14 (by decide) (by decide) (by decide) (by decide) (by decide), hk 15 (by decide) (by decide) (by decide) (by decide) (by decide)]; exact h.tm.2) (fun K hK => hk K (by omega) (by omega) (by omega) (by omega) (by omega)) hk8 (hk 17 (by decide) (by decide) (by decide) (by decide) (by decide)) (hk 18 (by decide) (by decide) (by decide) (by decide) (by decide)) (fun K h1 h2 h3 h4 => m1 K (by omega) h3 h4 (by omega)) m2 m3 (fun j hj => by rw [m4, o_up_j hj])
  rw [u2 j (by omega)]
  rfl
