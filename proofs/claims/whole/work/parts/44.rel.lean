theorem mRa_cg {μ : oMem} {q q' : Nat → Nat} : ∀ t : Nat, (∀ i, i < t → q i = q' i) → mRa μ q t = mRa μ q' t
  | 0, _ => rfl
  | t + 1, h => by rw [mRa, mRa, mRa_cg t (fun i hi => h i (by omega)), h t (by omega)]
theorem RS.iff {σ μ : oMem} {c : Nat} (h : RS σ μ c) (hP : ∀ p : Nat, (p : Int) < σ 0 0 5 → PB σ p) : σ 1 c 10 = -1 ↔ μ 38 0 c = -1 := by
  rcases h with ⟨a, b⟩ | ⟨p, a, b, d, e⟩
  · exact ⟨fun _ => a, fun _ => b⟩
  · have := (hP p a).1
    constructor <;> intro q <;> omega
theorem R_ra {σ μ : oMem} {q : Nat → Nat} {n : Nat} (h : Rel σ μ) (hn : σ 0 0 14 = n) (hq : ∀ i, i < n → q i < n) : ∀ t : Nat, t ≤ n → Rel (o_ra σ q t).1 (mRa μ q t).1 ∧ (o_ra σ q t).2 = (mRa μ q t).2 := by
  intro t
  induction t with
  | zero => intro _; exact ⟨h, rfl⟩
  | succ t ih =>
    intro ht
    obtain ⟨i1, i2⟩ := ih (by omega)
    have hqt := hq t (by omega)
    have hw := h.1.2.2.2.2.2.2.2.2.2.2.1 (q t) (by omega)
    obtain ⟨w1, w2⟩ := h.2.2.2.2.2.2.2.2.2 (q t) (by omega)
    rw [o_ra, mRa]
    dsimp only
    rw [w1, w2]
    obtain ⟨c, hc⟩ : ∃ c : Nat, σ 17 0 (q t) = (c : Int) := ⟨(σ 17 0 (q t)).toNat, by omega⟩
    obtain ⟨p, hp⟩ : ∃ p : Nat, σ 18 0 (q t) = (p : Int) := ⟨(σ 18 0 (q t)).toNat, by omega⟩
    rw [hc, hp, Int.toNat_natCast, Int.toNat_natCast]
    rw [hc, hp] at hw
    have c1 : (c : Int) < (o_ra σ q t).1 0 0 1 := by rw [ra_0 (by decide) (by decide)]; exact hw.1.2
    have p1 : (p : Int) < (o_ra σ q t).1 0 0 5 := by rw [ra_0 (by decide) (by decide)]; exact hw.2.2
    have hs := (i1.2.2.1 c c1).2.2.iff i1.1.2.2.2.2.2.2.2.2.1
    have hf := i1.fit p1 c1
    generalize o_ra σ q t = S at *
    generalize mRa μ q t = M at *
    unfold o_raS mRaS
    by_cases g : S.1 1 c 10 = -1 ∧ o_fit S.1 p c
    · rw [if_pos g, if_pos ⟨hs.mp g.1, hf.mpr g.2⟩]
      exact ⟨(R_run i1 c1 p1 g.2).1, by rw [i2]⟩
    · rw [if_neg g, if_neg (fun y => g ⟨hs.mpr y.1, hf.mp y.2⟩)]
      exact ⟨i1, by rw [i2]⟩
theorem R_done {σ μ σ' μ' : oMem} (h : Rel σ μ) (hσ : σ' = o_up σ 0 0 14 0) (hμ : μ' = o_up μ 24 0 27 0) : Rel σ' μ' := by
  obtain ⟨⟨x1, x3, x5, x7, x10, x14, xC, xO, xP, xD, xW, xT, xM⟩, ⟨⟨n4, n15, n18⟩, ⟨n8, n9, n10⟩, n23, n24, n27⟩, hC, hU, hL, hOr, hV, hP, hDr, hWt⟩ := h
  have k : ∀ K, K ≠ 0 → σ' K = σ K := fun K h0 => by rw [hσ, o_up_k h0]
  have e0 : ∀ j, j ≠ 14 → σ' 0 0 j = σ 0 0 j := fun j hj => by rw [hσ, o_up_j hj]
  have e03 : σ' 0 0 14 = 0 := by rw [hσ, o_up_s]
  have m : ∀ K, K ≠ 24 → μ' K = μ K := fun K h1 => by rw [hμ, o_up_k h1]
  have m24 : ∀ j, j ≠ 27 → μ' 24 0 j = μ 24 0 j := fun j h2 => by rw [hμ, o_up_j h2]
  have m15 : μ' 24 0 27 = 0 := by rw [hμ, o_up_s]
  clear hσ hμ
  have cr : ∀ c, CR σ σ' c := CR_of (fun K h1 h2 => k K (by omega))
  have mr : ∀ c, MR μ μ' c := MR_of (fun K h1 h2 h3 => m K (by omega))
  have k8 : σ' 8 = σ 8 := k 8 (by decide)
  have k9 : σ' 9 = σ 9 := k 9 (by decide)
  have k1 : σ' 1 = σ 1 := k 1 (by decide)
  have k7 : σ' 7 = σ 7 := k 7 (by decide)
  unfold Rel
  rw [e03, e0 1 (by decide), e0 5 (by decide), e0 3 (by decide)]
  refine ⟨?_, ?_, fun c hc => ?_, fun c hc => ?_, fun c => ?_, fun r hr => ?_, fun r hr => ?_, fun p hp => ?_, ?_, fun i hi => ?_⟩
  · unfold XI
    rw [e03, e0 1 (by decide), e0 3 (by decide), e0 5 (by decide), e0 7 (by decide), e0 8 (by decide), e0 9 (by decide), e0 10 (by decide)]
    refine ⟨x1, x3, x5, x7, x10, by omega, fun c hc => ?_, fun r hr => ?_, fun p hp => ?_, ?_, fun i hi => ?_, ?_, ?_⟩
    · rw [(cr c).cs.1, (cr c).cs.2]; exact xC c hc
    · rw [OO_cong k7]; exact xO r hr
    · rw [PB_cong k8 k9]; exact xP p hp
    · rw [PB_cong k8 k9]; exact xD
    · omega
    · rw [TB_cong (k 12 (by decide))]; exact xT
    · unfold OM; rw [k 14 (by decide), k 15 (by decide)]; exact xM
  · unfold RN
    rw [e03, e0 1 (by decide), e0 5 (by decide), e0 7 (by decide), e0 8 (by decide), e0 9 (by decide), e0 10 (by decide), e0 11 (by decide), e0 3 (by decide), m15, m24 4 (by decide), m24 18 (by decide), m24 8 (by decide), m24 9 (by decide), m24 10 (by decide), m24 23 (by decide), m24 24 (by decide), m24 15 (by decide)]
    exact ⟨⟨n4, n15, n18⟩, ⟨n8, n9, n10⟩, n23, n24, rfl⟩
  · exact RC_keep (hC c hc) (xC c hc).1 (xC c hc).2 (cr c) (mr c) (fun p hp => by rw [k8, k9]; exact ⟨rfl, rfl⟩) (by rw [e0 5 (by decide)]; exact Int.le_refl _)
  · unfold RU
    rw [k1, m 31 (by decide)]
    exact hU c hc
  · unfold RLo
    rw [k1, m 41 (by decide)]
    exact hL c
  · unfold RO
    rw [k7, m 32 (by decide), m 33 (by decide), m 34 (by decide), m 35 (by decide)]
    exact hOr r hr
  · unfold RV
    rw [k7, m 34 (by decide)]
    exact hV r hr
  · unfold RP
    rw [k8, k9, m 36 (by decide), m 37 (by decide)]
    exact hP p hp
  · unfold RP
    rw [k8, k9, m 36 (by decide), m 37 (by decide)]
    exact hDr
  · omega
/-- the moves between the waiting runs are the same -/
theorem Rel.mvb {σ μ : oMem} (h : Rel σ μ) {n : Nat} (hn : σ 0 0 14 = n) (b r : Nat) (hb : b < n ∨ b = 7) (hr : r < n) : mBt μ b r = mvX σ b r := by
  have hw := h.2.2.2.2.2.2.2.2.2
  have xW := h.1.2.2.2.2.2.2.2.2.2.2.1
  have x14 := h.1.2.2.2.2.2.1
  have x10 := h.1.2.2.2.2.1
  have n23 := h.2.1.2.2.1
  have w2 := (hw r (by omega)).2
  have xr := (xW r (by omega)).2
  unfold mBt mvX
  rw [w2, n23]
  by_cases c : b = 7
  · rw [if_pos c, if_pos c]
    have := h.mv x10 xr
    rw [this]
  · rw [if_neg c, if_neg c, (hw b (by omega)).2]
    have xb := (xW b (by omega)).2
    exact h.mv (by omega) xr
theorem Rel.mvbd {σ μ : oMem} (h : Rel σ μ) (b r : Nat) : 0 ≤ mvX σ b r ∧ mvX σ b r ≤ 16 := by
  have xP := h.1.2.2.2.2.2.2.2.2.1
  unfold mvX
  split
  · exact oMb_bd (fun q => xP _ (by omega))
  · exact oMb_bd (fun q => xP _ (by omega))
