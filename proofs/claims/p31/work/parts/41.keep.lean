/-! WHAT KEEPS THE INVARIANT -/
def CR (σ σ' : oMem) (c : Nat) : Prop := σ' 1 c = σ 1 c ∧ σ' 2 c = σ 2 c ∧ σ' 3 c = σ 3 c ∧ σ' 4 c = σ 4 c ∧ σ' 5 c = σ 5 c ∧ σ' 6 c = σ 6 c
theorem CR_of {σ σ' : oMem} (k : ∀ K, 1 ≤ K → K ≤ 6 → σ' K = σ K) (c : Nat) : CR σ σ' c := by
  unfold CR
  rw [k 1 (by decide) (by decide), k 2 (by decide) (by decide), k 3 (by decide) (by decide), k 4 (by decide) (by decide), k 5 (by decide) (by decide), k 6 (by decide) (by decide)]
  exact ⟨rfl, rfl, rfl, rfl, rfl, rfl⟩
theorem CR.cs {σ σ' : oMem} {c : Nat} (h : CR σ σ' c) : CB σ' c = CB σ c ∧ SB σ' c = SB σ c := by
  obtain ⟨h1, h2, h3, h4, h5, h6⟩ := h
  unfold CB DB SB
  rw [h1, h2, h3, h4, h5, h6]
  exact ⟨rfl, rfl⟩
theorem PB_row {σ σ' : oMem} {p : Nat} (h8 : σ' 8 p = σ 8 p) (h9 : σ' 9 p = σ 9 p) : PB σ' p = PB σ p := by
  unfold PB
  rw [h8, h9]
/-- what stands beyond the coils and the orders -/
def QU (σ : oMem) : Prop := (∀ c : Nat, σ 0 0 1 ≤ c → σ 1 c 10 = -1 ∧ σ 1 c 6 = 0) ∧ ∀ r : Nat, σ 0 0 3 ≤ r → σ 7 r 2 = 0 ∧ σ 7 r 3 = -1
def QI (σ : oMem) : Prop := XI σ ∧ QU σ
theorem QI_cong {σ σ' : oMem} (k : ∀ K, K < 24 → σ' K = σ K) (h : QI σ) : QI σ' := by
  unfold QI QU XI CB DB SB OO PB TB OM
  rw [k 0 (by decide), k 1 (by decide), k 2 (by decide), k 3 (by decide), k 4 (by decide), k 5 (by decide), k 6 (by decide), k 7 (by decide), k 8 (by decide), k 9 (by decide), k 12 (by decide), k 14 (by decide), k 15 (by decide), k 17 (by decide), k 18 (by decide)]
  exact h
theorem Q_coil {σ σ' : oMem} {a b d e : Int} {n : Nat} (h : QI σ) (hn : σ 0 0 1 = n) (hb : (100 ≤ a ∧ a ≤ 2000) ∧ (1 ≤ b ∧ b ≤ 30000) ∧ (10 ≤ d ∧ d ≤ 5000) ∧ (1 ≤ e ∧ e ≤ 99)) (hlt : n < 20) (hσ : σ' = o_up (o_up (o_up (o_up (o_up σ 1 n 0 a) 1 n 1 b) 1 n 2 d) 1 n 3 e) 0 0 1 (n + 1)) : QI σ' := by
  obtain ⟨⟨x1, x3, x5, x7, x10, x14, xC, xO, xP, xD, xW, xT, xM⟩, hU, hV⟩ := h
  have k : ∀ K, K ≠ 0 → K ≠ 1 → σ' K = σ K := fun K h0 h1 => by rw [hσ, o_up_k h0, o_up_k h1, o_up_k h1, o_up_k h1, o_up_k h1]
  have e0 : ∀ j, j ≠ 1 → σ' 0 0 j = σ 0 0 j := fun j hj => by rw [hσ]; simp [o_up, hj]
  have e01 : σ' 0 0 1 = n + 1 := by rw [hσ]; simp [o_up]
  have e1 : ∀ c, c ≠ n → σ' 1 c = σ 1 c := fun c hc => by rw [hσ]; funext j; simp [o_up, hc]
  have f0 : σ' 1 n 0 = a := by rw [hσ]; simp [o_up]
  have f1 : σ' 1 n 1 = b := by rw [hσ]; simp [o_up]
  have f2 : σ' 1 n 2 = d := by rw [hσ]; simp [o_up]
  have f3 : σ' 1 n 3 = e := by rw [hσ]; simp [o_up]
  have f4 : ∀ j, 4 ≤ j → σ' 1 n j = σ 1 n j := fun j hj => by rw [hσ]; simp [o_up]; omega
  clear hσ
  have hUn := hU n (by omega)
  have cr : ∀ c, c ≠ n → CR σ σ' c := fun c hc => ⟨e1 c hc, by rw [k 2 (by decide) (by decide)], by rw [k 3 (by decide) (by decide)], by rw [k 4 (by decide) (by decide)], by rw [k 5 (by decide) (by decide)], by rw [k 6 (by decide) (by decide)]⟩
  have k8 : σ' 8 = σ 8 := k 8 (by decide) (by decide)
  have k9 : σ' 9 = σ 9 := k 9 (by decide) (by decide)
  have k7 : σ' 7 = σ 7 := k 7 (by decide) (by decide)
  have hlt1 : ∀ c : Nat, (c : Int) < (n : Int) + 1 → c ≠ n → (c : Int) < σ 0 0 1 := fun c h1 h2 => by omega
  refine ⟨?_, fun c hc => ?_, fun r hr => ?_⟩
  · unfold XI
    rw [e01, e0 3 (by decide), e0 5 (by decide), e0 7 (by decide), e0 8 (by decide), e0 9 (by decide), e0 10 (by decide), e0 14 (by decide), k 17 (by decide) (by decide), k 18 (by decide) (by decide)]
    refine ⟨by omega, x3, x5, x7, x10, x14, fun c hc => ?_, fun r hr => ?_, fun p hp => ?_, ?_, fun i hi => ?_, ?_, ?_⟩
    · by_cases q : c = n
      · subst q
        unfold CB DB SB
        rw [f0, f1, f2, f3, f4 6 (by decide), f4 10 (by decide), hUn.1, hUn.2]
        exact ⟨⟨hb.1, hb.2.1, hb.2.2.1, hb.2.2.2, ⟨by omega, by omega, fun j hj => by omega⟩, fun j hj => by omega⟩, by omega, fun j hj => by omega⟩
      · rw [(cr c q).cs.1, (cr c q).cs.2]; exact xC c (hlt1 c hc q)
    · rw [OO_cong k7]; exact xO r hr
    · rw [PB_cong k8 k9]; exact xP p hp
    · rw [PB_cong k8 k9]; exact xD
    · have := xW i hi; omega
    · rw [TB_cong (k 12 (by decide) (by decide))]; exact xT
    · unfold OM; rw [k 14 (by decide) (by decide), k 15 (by decide) (by decide)]; exact xM
  · rw [e01] at hc
    rw [e1 c (by omega)]
    exact hU c (by omega)
  · rw [e0 3 (by decide)] at hr
    rw [k7]; exact hV r hr
theorem Q_rules {σ σ' : oMem} {a b d : Int} (h : QI σ) (hb : (0 ≤ a ∧ a ≤ 100) ∧ (0 ≤ b ∧ b ≤ 500) ∧ (2 ≤ d ∧ d ≤ 16)) (hσ : σ' = o_up (o_up (o_up σ 0 0 7 a) 0 0 8 b) 0 0 9 d) : QI σ' := by
  obtain ⟨⟨x1, x3, x5, x7, x10, x14, xC, xO, xP, xD, xW, xT, xM⟩, hU, hV⟩ := h
  have k : ∀ K, K ≠ 0 → σ' K = σ K := fun K h0 => by rw [hσ, o_up_k h0, o_up_k h0, o_up_k h0]
  have e0 : ∀ j, j ≠ 7 → j ≠ 8 → j ≠ 9 → σ' 0 0 j = σ 0 0 j := fun j h1 h2 h3 => by rw [hσ]; simp [o_up, h1, h2, h3]
  have f7 : σ' 0 0 7 = a := by rw [hσ]; simp [o_up]
  have f8 : σ' 0 0 8 = b := by rw [hσ]; simp [o_up]
  have f9 : σ' 0 0 9 = d := by rw [hσ]; simp [o_up]
  clear hσ
  have cr : ∀ c, CR σ σ' c := CR_of (fun K h1 h2 => k K (by omega))
  have k8 : σ' 8 = σ 8 := k 8 (by decide)
  have k9 : σ' 9 = σ 9 := k 9 (by decide)
  have k7 : σ' 7 = σ 7 := k 7 (by decide)
  have k1 : σ' 1 = σ 1 := k 1 (by decide)
  refine ⟨?_, ?_⟩
  · unfold XI
    rw [e0 1 (by decide) (by decide) (by decide), e0 3 (by decide) (by decide) (by decide), e0 5 (by decide) (by decide) (by decide), f7, f8, f9, e0 10 (by decide) (by decide) (by decide), e0 14 (by decide) (by decide) (by decide), k 17 (by decide), k 18 (by decide)]
    refine ⟨x1, x3, x5, hb, x10, x14, fun c hc => ?_, fun r hr => ?_, fun p hp => ?_, ?_, xW, ?_, ?_⟩
    · rw [(cr c).cs.1, (cr c).cs.2]; exact xC c hc
    · rw [OO_cong k7]; exact xO r hr
    · rw [PB_cong k8 k9]; exact xP p hp
    · rw [PB_cong k8 k9]; exact xD
    · rw [TB_cong (k 12 (by decide))]; exact xT
    · unfold OM; rw [k 14 (by decide), k 15 (by decide)]; exact xM
  · unfold QU
    rw [e0 1 (by decide) (by decide) (by decide), e0 3 (by decide) (by decide) (by decide), k1, k7]
    exact ⟨hU, hV⟩
theorem Q_order {σ σ' : oMem} {a b : Int} {n : Nat} (h : QI σ) (hn : σ 0 0 3 = n) (hb : (20 ≤ a ∧ a ≤ 1000) ∧ (1 ≤ b ∧ b ≤ 50000)) (hlt : n < 12) (hσ : σ' = o_up (o_up (o_up σ 7 n 0 a) 7 n 1 b) 0 0 3 (n + 1)) : QI σ' := by
  obtain ⟨⟨x1, x3, x5, x7, x10, x14, xC, xO, xP, xD, xW, xT, xM⟩, hU, hV⟩ := h
  have k : ∀ K, K ≠ 0 → K ≠ 7 → σ' K = σ K := fun K h0 h1 => by rw [hσ, o_up_k h0, o_up_k h1, o_up_k h1]
  have e0 : ∀ j, j ≠ 3 → σ' 0 0 j = σ 0 0 j := fun j hj => by rw [hσ]; simp [o_up, hj]
  have e03 : σ' 0 0 3 = n + 1 := by rw [hσ]; simp [o_up]
  have e7 : ∀ c, c ≠ n → σ' 7 c = σ 7 c := fun c hc => by rw [hσ]; funext j; simp [o_up, hc]
  have f0 : σ' 7 n 0 = a := by rw [hσ]; simp [o_up]
  have f1 : σ' 7 n 1 = b := by rw [hσ]; simp [o_up]
  have f2 : σ' 7 n 2 = σ 7 n 2 := by rw [hσ]; simp [o_up]
  have f3 : σ' 7 n 3 = σ 7 n 3 := by rw [hσ]; simp [o_up]
  clear hσ
  have cr : ∀ c, CR σ σ' c := CR_of (fun K h1 h2 => k K (by omega) (by omega))
  have k8 : σ' 8 = σ 8 := k 8 (by decide) (by decide)
  have k9 : σ' 9 = σ 9 := k 9 (by decide) (by decide)
  have k1 : σ' 1 = σ 1 := k 1 (by decide) (by decide)
  have hVn := hV n (by omega)
  refine ⟨?_, fun c hc => ?_, fun r hr => ?_⟩
  · unfold XI
    rw [e03, e0 1 (by decide), e0 5 (by decide), e0 7 (by decide), e0 8 (by decide), e0 9 (by decide), e0 10 (by decide), e0 14 (by decide), k 17 (by decide) (by decide), k 18 (by decide) (by decide)]
    refine ⟨x1, by omega, x5, x7, x10, x14, fun c hc => ?_, fun r hr => ?_, fun p hp => ?_, ?_, xW, ?_, ?_⟩
    · rw [(cr c).cs.1, (cr c).cs.2]; exact xC c hc
    · by_cases q : r = n
      · subst q
        unfold OO
        rw [f0, f1, f2, f3, hVn.1, hVn.2]
        exact ⟨hb.1, hb.2, by omega, by omega⟩
      · unfold OO; rw [e7 r q]; exact xO r (by omega)
    · rw [PB_cong k8 k9]; exact xP p hp
    · rw [PB_cong k8 k9]; exact xD
    · rw [TB_cong (k 12 (by decide) (by decide))]; exact xT
    · unfold OM; rw [k 14 (by decide) (by decide), k 15 (by decide) (by decide)]; exact xM
  · rw [e0 1 (by decide)] at hc
    rw [k1]; exact hU c hc
  · rw [e03] at hr
    rw [e7 r (by omega)]; exact hV r (by omega)
theorem Q_plan {σ σ' : oMem} {a b : Int} {n : Nat} (h : QI σ) (hn : σ 0 0 14 = n) (ha : okC σ a) (hb : okP σ b) (hlt : n < 7) (hσ : σ' = o_up (o_up (o_up σ 17 0 n a) 18 0 n b) 0 0 14 (n + 1)) : QI σ' := by
  obtain ⟨⟨x1, x3, x5, x7, x10, x14, xC, xO, xP, xD, xW, xT, xM⟩, hU, hV⟩ := h
  have k : ∀ K, K ≠ 0 → K ≠ 17 → K ≠ 18 → σ' K = σ K := fun K h0 h1 h2 => by rw [hσ, o_up_k h0, o_up_k h2, o_up_k h1]
  have e0 : ∀ j, j ≠ 14 → σ' 0 0 j = σ 0 0 j := fun j hj => by rw [hσ]; simp [o_up, hj]
  have e03 : σ' 0 0 14 = n + 1 := by rw [hσ]; simp [o_up]
  have f17 : ∀ i, σ' 17 0 i = if i = n then a else σ 17 0 i := fun i => by rw [hσ]; simp [o_up]
  have f18 : ∀ i, σ' 18 0 i = if i = n then b else σ 18 0 i := fun i => by rw [hσ]; simp [o_up]
  clear hσ
  have cr : ∀ c, CR σ σ' c := CR_of (fun K h1 h2 => k K (by omega) (by omega) (by omega))
  have k8 : σ' 8 = σ 8 := k 8 (by decide) (by decide) (by decide)
  have k9 : σ' 9 = σ 9 := k 9 (by decide) (by decide) (by decide)
  have k1 : σ' 1 = σ 1 := k 1 (by decide) (by decide) (by decide)
  have k7 : σ' 7 = σ 7 := k 7 (by decide) (by decide) (by decide)
  refine ⟨?_, ?_⟩
  · unfold XI
    rw [e03, e0 1 (by decide), e0 3 (by decide), e0 5 (by decide), e0 7 (by decide), e0 8 (by decide), e0 9 (by decide), e0 10 (by decide)]
    refine ⟨x1, x3, x5, x7, x10, by omega, fun c hc => ?_, fun r hr => ?_, fun p hp => ?_, ?_, fun i hi => ?_, ?_, ?_⟩
    · rw [(cr c).cs.1, (cr c).cs.2]; exact xC c hc
    · rw [OO_cong k7]; exact xO r hr
    · rw [PB_cong k8 k9]; exact xP p hp
    · rw [PB_cong k8 k9]; exact xD
    · rw [f17, f18]
      by_cases q : i = n
      · rw [if_pos q, if_pos q]; exact ⟨ha, hb⟩
      · rw [if_neg q, if_neg q]; exact xW i (by omega)
    · rw [TB_cong (k 12 (by decide) (by decide) (by decide))]; exact xT
    · unfold OM; rw [k 14 (by decide) (by decide) (by decide), k 15 (by decide) (by decide) (by decide)]; exact xM
  · unfold QU
    rw [e0 1 (by decide), e0 3 (by decide), k1, k7]
    exact ⟨hU, hV⟩
theorem Q_done {σ σ' : oMem} (h : QI σ) (hσ : σ' = o_up σ 0 0 14 0) : QI σ' := by
  obtain ⟨⟨x1, x3, x5, x7, x10, x14, xC, xO, xP, xD, xW, xT, xM⟩, hU, hV⟩ := h
  have k : ∀ K, K ≠ 0 → σ' K = σ K := fun K h0 => by rw [hσ, o_up_k h0]
  have e0 : ∀ j, j ≠ 14 → σ' 0 0 j = σ 0 0 j := fun j hj => by rw [hσ, o_up_j hj]
  have e03 : σ' 0 0 14 = 0 := by rw [hσ, o_up_s]
  clear hσ
  have cr : ∀ c, CR σ σ' c := CR_of (fun K h1 h2 => k K (by omega))
  have k8 : σ' 8 = σ 8 := k 8 (by decide)
  have k9 : σ' 9 = σ 9 := k 9 (by decide)
  have k1 : σ' 1 = σ 1 := k 1 (by decide)
  have k7 : σ' 7 = σ 7 := k 7 (by decide)
  refine ⟨?_, ?_⟩
  · unfold XI
    rw [e03, e0 1 (by decide), e0 3 (by decide), e0 5 (by decide), e0 7 (by decide), e0 8 (by decide), e0 9 (by decide), e0 10 (by decide)]
    refine ⟨x1, x3, x5, x7, x10, by omega, fun c hc => ?_, fun r hr => ?_, fun p hp => ?_, ?_, fun i hi => by omega, ?_, ?_⟩
    · rw [(cr c).cs.1, (cr c).cs.2]; exact xC c hc
    · rw [OO_cong k7]; exact xO r hr
    · rw [PB_cong k8 k9]; exact xP p hp
    · rw [PB_cong k8 k9]; exact xD
    · rw [TB_cong (k 12 (by decide))]; exact xT
    · unfold OM; rw [k 14 (by decide), k 15 (by decide)]; exact xM
  · unfold QU
    rw [e0 1 (by decide), e0 3 (by decide), k1, k7]
    exact ⟨hU, hV⟩
/-- what touches the draft alone, and the rows for search -/
theorem Q_draft {σ σ' : oMem} (h : QI σ) (hD : PB σ' 10) (hT : TB σ') (hO : OM σ') (k : ∀ K, K < 8 → σ' K = σ K) (k8 : ∀ q, q ≠ 10 → σ' 8 q = σ 8 q ∧ σ' 9 q = σ 9 q) (k17 : σ' 17 = σ 17) (k18 : σ' 18 = σ 18) : QI σ' := by
  obtain ⟨⟨x1, x3, x5, x7, x10, x14, xC, xO, xP, xD, xW, xT, xM⟩, hU, hV⟩ := h
  have e0 : σ' 0 = σ 0 := k 0 (by decide)
  have e1 : σ' 1 = σ 1 := k 1 (by decide)
  have e7 : σ' 7 = σ 7 := k 7 (by decide)
  have cr : ∀ c, CR σ σ' c := CR_of (fun K _ h2 => k K (by omega))
  refine ⟨?_, ?_⟩
  · unfold XI
    rw [e0, k17, k18]
    refine ⟨x1, x3, x5, x7, x10, x14, fun c hc => ?_, fun r hr => ?_, fun p hp => ?_, hD, xW, hT, hO⟩
    · rw [(cr c).cs.1, (cr c).cs.2]; exact xC c hc
    · rw [OO_cong e7]; exact xO r hr
    · rw [PB_row (k8 p (by omega)).1 (k8 p (by omega)).2]; exact xP p hp
  · unfold QU
    rw [e0, e1, e7]
    exact ⟨hU, hV⟩
theorem Q_addSlit {σ σ' : oMem} {a : Int} {n : Nat} (h : QI σ) (hn : σ 8 10 1 = n) (ha : 20 ≤ a ∧ a ≤ 1000) (hlt : n < 15) (hσ : σ' = o_up (o_up σ 9 10 n a) 8 10 1 (n + 1)) : QI σ' := by
  have k : ∀ K, K ≠ 8 → K ≠ 9 → σ' K = σ K := fun K h8 h9 => by rw [hσ, o_up_k h8, o_up_k h9]
  have e8 : σ' 8 10 1 = n + 1 := by rw [hσ, o_up_s]
  have e9 : ∀ j, σ' 9 10 j = if j = n then a else σ 9 10 j := fun j => by rw [hσ, o_up_k (by decide)]; simp [o_up]
  have hD := h.1.2.2.2.2.2.2.2.2.2.1
  refine Q_draft h ⟨by omega, by omega, fun j hj => ?_⟩ ?_ ?_ (fun K hK => k K (by omega) (by omega)) (fun q hq => ⟨?_, ?_⟩) (k 17 (by decide) (by decide)) (k 18 (by decide) (by decide))
  · rw [e9]
    by_cases q : j = n
    · rw [if_pos q]; exact ha
    · rw [if_neg q]; exact hD.2.2 j (by omega)
  · rw [TB_cong (k 12 (by decide) (by decide))]; exact h.1.2.2.2.2.2.2.2.2.2.2.2.1
  · unfold OM; rw [k 14 (by decide) (by decide), k 15 (by decide) (by decide)]; exact h.1.2.2.2.2.2.2.2.2.2.2.2.2
  · rw [hσ, o_up_row _ _ _ _ _ _ _ (by omega), o_up_k (by decide)]
  · rw [hσ, o_up_k (by decide), o_up_row _ _ _ _ _ _ _ (by omega)]
theorem Q_keep {σ σ' : oMem} {n w : Nat} (h : QI σ) (hn : σ 0 0 5 = n) (hlt : n < 10) (hw : σ 8 10 1 = w) (hσ : σ' = o_up (o_up (o_up (o_bl σ 9 n w (σ 9 10)) 8 n 1 w) 8 10 1 0) 0 0 5 (n + 1)) : QI σ' := by
  obtain ⟨⟨x1, x3, x5, x7, x10, x14, xC, xO, xP, xD, xW, xT, xM⟩, hU, hV⟩ := h
  have hD0 := xD.1
  have hD1 := xD.2.1
  have hD2 := xD.2.2
  rw [hw] at hD0 hD1 hD2
  have k : ∀ K, K ≠ 0 → K ≠ 8 → K ≠ 9 → σ' K = σ K := fun K h0 h8 h9 => by rw [hσ, o_up_k h0, o_up_k h8, o_up_k h8, o_bl_k h9]
  have e0 : ∀ j, j ≠ 5 → σ' 0 0 j = σ 0 0 j := fun j hj => by rw [hσ, o_up_j hj, o_up_k (by decide), o_up_k (by decide), o_bl_k (by decide)]
  have e05 : σ' 0 0 5 = n + 1 := by rw [hσ, o_up_s]
  have e8 : ∀ p, p ≠ n → p ≠ 10 → σ' 8 p = σ 8 p := fun p h1 h2 => by rw [hσ, o_up_k (by decide), o_up_row _ _ _ _ _ _ _ (by omega), o_up_row _ _ _ _ _ _ _ (by omega), o_bl_k (by decide)]
  have e9 : ∀ p, p ≠ n → σ' 9 p = σ 9 p := fun p h1 => by rw [hσ, o_up_k (by decide), o_up_k (by decide), o_up_k (by decide)]; funext j; simp [o_bl, h1]
  have f8 : σ' 8 n 1 = w := by rw [hσ, o_up_k (by decide), o_up_ij (by omega), o_up_s]
  have f80 : σ' 8 10 1 = 0 := by rw [hσ, o_up_k (by decide), o_up_s]
  have f9 : ∀ j, j < w → σ' 9 n j = σ 9 10 j := fun j hj => by rw [hσ, o_up_k (by decide), o_up_k (by decide), o_up_k (by decide)]; simp [o_bl, hj]
  clear hσ
  have cr : ∀ c, CR σ σ' c := CR_of (fun K h1 h2 => k K (by omega) (by omega) (by omega))
  have k1 : σ' 1 = σ 1 := k 1 (by decide) (by decide) (by decide)
  have k7 : σ' 7 = σ 7 := k 7 (by decide) (by decide) (by decide)
  have hPn : PB σ' n := ⟨by rw [f8]; exact hD0, by rw [f8]; exact hD1, fun j hj => by rw [f8] at hj; rw [f9 j (by omega)]; exact hD2 j (by omega)⟩
  have hlt1 : ∀ p : Nat, (p : Int) < (n : Int) + 1 → p ≠ n → (p : Int) < σ 0 0 5 := fun c h1 h2 => by omega
  refine ⟨?_, ?_⟩
  · unfold XI
    rw [e05, e0 1 (by decide), e0 3 (by decide), e0 7 (by decide), e0 8 (by decide), e0 9 (by decide), e0 10 (by decide), e0 14 (by decide), k 17 (by decide) (by decide) (by decide), k 18 (by decide) (by decide) (by decide)]
    refine ⟨x1, x3, by omega, x7, by omega, x14, fun c hc => ?_, fun r hr => ?_, fun p hp => ?_, ⟨by omega, by omega, fun j hj => by omega⟩, fun i hi => ?_, ?_, ?_⟩
    · rw [(cr c).cs.1, (cr c).cs.2]; exact xC c hc
    · rw [OO_cong k7]; exact xO r hr
    · by_cases q : p = n
      · subst q; exact hPn
      · rw [PB_row (e8 p q (by omega)) (e9 p q)]; exact xP p (hlt1 p hp q)
    · have := xW i hi; omega
    · rw [TB_cong (k 12 (by decide) (by decide) (by decide))]; exact xT
    · unfold OM; rw [k 14 (by decide) (by decide) (by decide), k 15 (by decide) (by decide) (by decide)]; exact xM
  · unfold QU
    rw [e0 1 (by decide), e0 3 (by decide), k1, k7]
    exact ⟨hU, hV⟩
theorem ins_at {f : Nat → Int} {d pl : Nat} {v : Int} (j : Nat) : o_ins f d pl v j = if j < pl then f j else if j = pl then v else if j ≤ d then f (j - 1) else f j := rfl
theorem Q_defect {σ σ' : oMem} {b d : Int} {c n pl : Nat} (h : QI σ) (hc : (c : Int) < σ 0 0 1) (hn : σ 1 c 6 = n) (hlt : n < 8) (hb : (0 ≤ b ∧ b ≤ σ 1 c 2 - 1) ∧ (b + 1 ≤ d ∧ d ≤ σ 1 c 2)) (p1 : pl ≤ n) (hσ : σ' = o_up (o_rw (o_rw σ 2 c (o_ins (σ 2 c) n pl b)) 3 c (o_ins (σ 3 c) n pl d)) 1 c 6 (n + 1)) : QI σ' := by
  obtain ⟨⟨x1, x3, x5, x7, x10, x14, xC, xO, xP, xD, xW, xT, xM⟩, hU, hV⟩ := h
  have k : ∀ K, K ≠ 1 → K ≠ 2 → K ≠ 3 → σ' K = σ K := fun K h1 h2 h3 => by rw [hσ, o_up_k h1, o_rw_k h3, o_rw_k h2]
  have e1 : ∀ i j, ¬ (i = c ∧ j = 6) → σ' 1 i j = σ 1 i j := fun i j hij => by rw [hσ, o_up_ij hij, o_rw_k (by decide), o_rw_k (by decide)]
  have e6 : σ' 1 c 6 = n + 1 := by rw [hσ, o_up_s]
  have r1 : ∀ i, i ≠ c → σ' 1 i = σ 1 i := fun i hi => by funext j; exact e1 i j (fun q => hi q.1)
  have r2 : ∀ i, i ≠ c → σ' 2 i = σ 2 i := fun i hi => by rw [hσ, o_up_k (by decide), o_rw_k (by decide)]; funext j; simp [o_rw, hi]
  have r3 : ∀ i, i ≠ c → σ' 3 i = σ 3 i := fun i hi => by rw [hσ, o_up_k (by decide)]; funext j; simp [o_rw, hi]
  have f2 : σ' 2 c = o_ins (σ 2 c) n pl b := by rw [hσ, o_up_k (by decide), o_rw_k (by decide)]; funext j; simp [o_rw]
  have f3 : σ' 3 c = o_ins (σ 3 c) n pl d := by rw [hσ, o_up_k (by decide)]; funext j; simp [o_rw]
  clear hσ
  have cr : ∀ i, i ≠ c → CR σ σ' i := fun i hi => ⟨r1 i hi, r2 i hi, r3 i hi, by rw [k 4 (by decide) (by decide) (by decide)], by rw [k 5 (by decide) (by decide) (by decide)], by rw [k 6 (by decide) (by decide) (by decide)]⟩
  have k8 : σ' 8 = σ 8 := k 8 (by decide) (by decide) (by decide)
  have k9 : σ' 9 = σ 9 := k 9 (by decide) (by decide) (by decide)
  have k0 : σ' 0 = σ 0 := k 0 (by decide) (by decide) (by decide)
  have k7 : σ' 7 = σ 7 := k 7 (by decide) (by decide) (by decide)
  obtain ⟨⟨c0, c1, c2, c3, ⟨b1, b2, b3⟩, c6⟩, cS⟩ := xC c hc
  rw [hn] at b3 c6
  have hins : ∀ P : Int → Prop, (P d) → (∀ j : Nat, j < n → P (σ 3 c j)) → ∀ j : Nat, (j : Int) < (n : Int) + 1 → P (σ' 3 c j) := fun P h1 h2 j hj => by
    rw [f3, ins_at]
    by_cases q : j < pl
    · rw [if_pos q]; exact h2 j (by omega)
    · rw [if_neg q]
      by_cases q2 : j = pl
      · rw [if_pos q2]; exact h1
      · rw [if_neg q2, if_pos (by omega)]; exact h2 (j - 1) (by omega)
  have hCB : CB σ' c := by
    refine ⟨by rw [e1 c 0 (by omega)]; exact c0, by rw [e1 c 1 (by omega)]; exact c1, by rw [e1 c 2 (by omega)]; exact c2, by rw [e1 c 3 (by omega)]; exact c3, ⟨by rw [e6]; omega, by rw [e6]; omega, ?_⟩, ?_⟩
    · rw [e6]
      intro j hj
      rw [f2, f3, ins_at, ins_at]
      by_cases q : j < pl
      · rw [if_pos q, if_pos q]; exact b3 j (by omega)
      · rw [if_neg q, if_neg q]
        by_cases q2 : j = pl
        · rw [if_pos q2, if_pos q2]; omega
        · rw [if_neg q2, if_neg q2, if_pos (by omega), if_pos (by omega)]; exact b3 (j - 1) (by omega)
    · rw [e6, e1 c 2 (by omega)]
      exact hins (fun v => v ≤ σ 1 c 2) (by omega) (fun j hj => c6 j (by omega))
  refine ⟨?_, fun i hi => ?_, fun r hr => ?_⟩
  · unfold XI
    rw [k0, k 17 (by decide) (by decide) (by decide), k 18 (by decide) (by decide) (by decide)]
    refine ⟨x1, x3, x5, x7, x10, x14, fun i hi => ?_, fun r hr => ?_, fun p hp => ?_, ?_, xW, ?_, ?_⟩
    · by_cases q : i = c
      · subst q
        refine ⟨hCB, ?_⟩
        unfold SB
        rw [e1 i 10 (by omega), k 4 (by decide) (by decide) (by decide), k 5 (by decide) (by decide) (by decide), k 6 (by decide) (by decide) (by decide)]
        exact cS
      · rw [(cr i q).cs.1, (cr i q).cs.2]; exact xC i hi
    · rw [OO_cong k7]; exact xO r hr
    · rw [PB_cong k8 k9]; exact xP p hp
    · rw [PB_cong k8 k9]; exact xD
    · rw [TB_cong (k 12 (by decide) (by decide) (by decide))]; exact xT
    · unfold OM; rw [k 14 (by decide) (by decide) (by decide), k 15 (by decide) (by decide) (by decide)]; exact xM
  · rw [k0] at hi
    rw [r1 i (by omega)]; exact hU i hi
  · rw [k0] at hr
    rw [k7]; exact hV r hr
theorem Q_run {σ : oMem} {c p : Nat} (h : QI σ) (hc : (c : Int) < σ 0 0 1) (hp : (p : Int) < σ 0 0 5) (hf : o_fit σ p c) : QI (o_run σ c p).1 := by
  have ho := run_o h.1 hc hp hf (σ 8 p 1).toNat (Nat.le_refl _)
  have k0 : ∀ j, j ≠ 10 → j ≠ 11 → (o_run σ c p).1 0 0 j = σ 0 0 j := fun j h1 h2 => by rw [run_k (by decide) (by decide), sc_0, if_neg (by omega), if_neg (by omega)]
  have k1i : ∀ i, i ≠ c → (o_run σ c p).1 1 i = σ 1 i := fun i hi => by funext j; rw [run_k (by decide) (by decide), sc_1, if_neg (by omega), if_neg (by omega), if_neg (by omega), if_neg (by omega)]
  refine ⟨XI_run h.1 hc hp hf, fun i hi => ?_, fun r hr => ?_⟩
  · rw [k0 1 (by decide) (by decide)] at hi
    rw [k1i i (by omega)]; exact h.2.1 i hi
  · rw [k0 3 (by decide) (by decide)] at hr
    have e := ho.2.2.1 r hr
    show (o_dl (o_sc σ c p) c (σ 8 p 1).toNat).1 7 r 2 = 0 ∧ (o_dl (o_sc σ c p) c (σ 8 p 1).toNat).1 7 r 3 = -1
    rw [e]; exact h.2.2 r hr
theorem Q_ra {σ : oMem} {q : Nat → Nat} {n : Nat} (h : QI σ) (hn : (n : Int) = σ 0 0 14) (hq : ∀ i, i < n → q i < n) : ∀ t : Nat, t ≤ n → QI (o_ra σ q t).1 := by
  intro t
  induction t with
  | zero => intro _; exact h
  | succ t ih =>
    intro ht
    have hx := ih (by omega)
    have hw := h.1.2.2.2.2.2.2.2.2.2.2.1 (q t) (by have := hq t (by omega); omega)
    show QI (o_raS _ _ _).1
    unfold o_raS
    split
    · rename_i hc
      exact Q_run hx (by rw [ra_0 (by decide) (by decide)]; omega) (by rw [ra_0 (by decide) (by decide)]; omega) hc.2
    · exact hx
theorem Q_ord {σ μ : oMem} (h : QI σ) (k : ∀ K, K ≠ 14 → K ≠ 15 → K ≠ 16 → μ K = σ K) (hM : OM μ) : QI μ := by
  refine ⟨XI_ord h.1 k hM, ?_⟩
  unfold QU
  rw [k 0 (by decide) (by decide) (by decide), k 1 (by decide) (by decide) (by decide), k 7 (by decide) (by decide) (by decide)]
  exact h.2
