/-! THE OFFICE AND THE MODEL: what they have in common -/
def RN (σ μ : oMem) : Prop := (μ 24 0 4 = σ 0 0 1 ∧ μ 24 0 15 = σ 0 0 3 ∧ μ 24 0 18 = σ 0 0 5) ∧ (μ 24 0 8 = σ 0 0 7 ∧ μ 24 0 9 = σ 0 0 8 ∧ μ 24 0 10 = σ 0 0 9) ∧ μ 24 0 23 = σ 0 0 10 ∧ μ 24 0 24 = σ 0 0 11 ∧ μ 24 0 27 = σ 0 0 14
def RD (σ μ : oMem) (c : Nat) : Prop := μ 31 0 c = σ 1 c 6 ∧ (∀ i j : Nat, i ≤ j → (j : Int) < σ 1 c 6 → σ 2 c i ≤ σ 2 c j) ∧ (∀ k : Nat, (k : Int) < σ 1 c 6 → InR (μ 29 0 (8 * c + k)) ∧ InR (μ 30 0 (8 * c + k))) ∧ ∀ m : Int, (∃ k : Nat, (k : Int) < σ 1 c 6 ∧ σ 2 c k ≤ m ∧ m < σ 3 c k) ↔ ∃ k : Nat, (k : Int) < σ 1 c 6 ∧ μ 29 0 (8 * c + k) ≤ m ∧ m < μ 30 0 (8 * c + k)
def RS (σ μ : oMem) (c : Nat) : Prop := (μ 38 0 c = -1 ∧ σ 1 c 10 = -1) ∨ ∃ p : Nat, (p : Int) < σ 0 0 5 ∧ μ 38 0 c = p ∧ σ 1 c 10 = σ 8 p 1 ∧ ∀ j : Nat, (j : Int) < σ 8 p 1 → σ 4 c j = σ 9 p j ∧ μ 39 0 (15 * c + j) = σ 5 c j ∧ μ 40 0 (15 * c + j) = σ 6 c j
def RC (σ μ : oMem) (c : Nat) : Prop := (μ 25 0 c = σ 1 c 0 ∧ μ 26 0 c = σ 1 c 1 ∧ μ 27 0 c = σ 1 c 2 ∧ μ 28 0 c = σ 1 c 3) ∧ RD σ μ c ∧ RS σ μ c
def RU (σ μ : oMem) (c : Nat) : Prop := σ 1 c 10 = -1 ∧ σ 1 c 6 = 0 ∧ μ 31 0 c = 0
def RLo (σ μ : oMem) (c : Nat) : Prop := μ 41 0 (3 * c) = σ 1 c 11 ∧ μ 41 0 (3 * c + 1) = σ 1 c 12 ∧ μ 41 0 (3 * c + 2) = σ 1 c 13
def RO (σ μ : oMem) (r : Nat) : Prop := μ 32 0 r = σ 7 r 0 ∧ μ 33 0 r = σ 7 r 1 ∧ μ 34 0 r = σ 7 r 2 ∧ μ 35 0 r = σ 7 r 3
def RV (σ μ : oMem) (r : Nat) : Prop := σ 7 r 2 = 0 ∧ σ 7 r 3 = -1 ∧ μ 34 0 r = 0
def RP (σ μ : oMem) (p : Nat) : Prop := μ 37 0 p = σ 8 p 1 ∧ ∀ j : Nat, (j : Int) < σ 8 p 1 → μ 36 0 (15 * p + j) = σ 9 p j
def RW (σ μ : oMem) (i : Nat) : Prop := μ 42 0 i = σ 17 0 i ∧ μ 43 0 i = σ 18 0 i
def Rel (σ μ : oMem) : Prop := XI σ ∧ RN σ μ ∧ (∀ c : Nat, (c : Int) < σ 0 0 1 → RC σ μ c) ∧ (∀ c : Nat, σ 0 0 1 ≤ c → RU σ μ c) ∧ (∀ c : Nat, RLo σ μ c) ∧ (∀ r : Nat, (r : Int) < σ 0 0 3 → RO σ μ r) ∧ (∀ r : Nat, σ 0 0 3 ≤ r → RV σ μ r) ∧ (∀ p : Nat, (p : Int) < σ 0 0 5 → RP σ μ p) ∧ RP σ μ 10 ∧ ∀ i : Nat, (i : Int) < σ 0 0 14 → RW σ μ i
theorem RP.mP {σ μ : oMem} {p : Nat} (h : RP σ μ p) (hP : PB σ p) : mP μ p := by
  obtain ⟨h1, h2⟩ := h
  obtain ⟨p1, p2, p3⟩ := hP
  refine ⟨by omega, by omega, fun j hj => ?_⟩
  have := h2 j (by omega)
  have := p3 j (by omega)
  unfold mW
  omega
theorem RP.sum {σ μ : oMem} {p : Nat} (h : RP σ μ p) {t : Nat} (ht : (t : Int) ≤ σ 8 p 1) : o_sum (mW μ p) t = o_sum (σ 9 p) t :=
  o_sum_cong t (fun j hj => h.2 j (by omega))
theorem RP.has {σ μ : oMem} {p : Nat} (h : RP σ μ p) (a : Int) : o_has (mW μ p) (μ 37 0 p).toNat a = o_has (σ 9 p) (σ 8 p 1).toNat a := by
  rw [h.1]
  apply Bool.eq_iff_iff.mpr
  rw [o_has_iff, o_has_iff]
  constructor
  · rintro ⟨k, k1, k2⟩
    refine ⟨k, k1, ?_⟩
    by_cases z : 0 ≤ σ 8 p 1
    · rw [← h.sum (t := k) (by omega)]; exact k2
    · have : k = 0 := by omega
      subst this; exact k2
  · rintro ⟨k, k1, k2⟩
    refine ⟨k, k1, ?_⟩
    by_cases z : 0 ≤ σ 8 p 1
    · rw [h.sum (t := k) (by omega)]; exact k2
    · have : k = 0 := by omega
      subst this; exact k2
/-- the kept rows of a coil -/
def CR (σ σ' : oMem) (c : Nat) : Prop := σ' 1 c = σ 1 c ∧ σ' 2 c = σ 2 c ∧ σ' 3 c = σ 3 c ∧ σ' 4 c = σ 4 c ∧ σ' 5 c = σ 5 c ∧ σ' 6 c = σ 6 c
def MR (μ μ' : oMem) (c : Nat) : Prop := (μ' 25 0 c = μ 25 0 c ∧ μ' 26 0 c = μ 26 0 c ∧ μ' 27 0 c = μ 27 0 c ∧ μ' 28 0 c = μ 28 0 c ∧ μ' 31 0 c = μ 31 0 c ∧ μ' 38 0 c = μ 38 0 c) ∧ (∀ k, k < 8 → μ' 29 0 (8 * c + k) = μ 29 0 (8 * c + k) ∧ μ' 30 0 (8 * c + k) = μ 30 0 (8 * c + k)) ∧ ∀ k, k < 15 → μ' 39 0 (15 * c + k) = μ 39 0 (15 * c + k) ∧ μ' 40 0 (15 * c + k) = μ 40 0 (15 * c + k)
theorem CR_of {σ σ' : oMem} (k : ∀ K, 1 ≤ K → K ≤ 6 → σ' K = σ K) (c : Nat) : CR σ σ' c := by
  unfold CR
  rw [k 1 (by decide) (by decide), k 2 (by decide) (by decide), k 3 (by decide) (by decide), k 4 (by decide) (by decide), k 5 (by decide) (by decide), k 6 (by decide) (by decide)]
  exact ⟨rfl, rfl, rfl, rfl, rfl, rfl⟩
theorem MR_of {μ μ' : oMem} (k : ∀ K, 25 ≤ K → K ≤ 40 → (K ≤ 31 ∨ 38 ≤ K) → μ' K = μ K) (c : Nat) : MR μ μ' c := by
  unfold MR
  rw [k 25 (by decide) (by decide) (by decide), k 26 (by decide) (by decide) (by decide), k 27 (by decide) (by decide) (by decide), k 28 (by decide) (by decide) (by decide), k 29 (by decide) (by decide) (by decide), k 30 (by decide) (by decide) (by decide), k 31 (by decide) (by decide) (by decide), k 38 (by decide) (by decide) (by decide), k 39 (by decide) (by decide) (by decide), k 40 (by decide) (by decide) (by decide)]
  exact ⟨⟨rfl, rfl, rfl, rfl, rfl, rfl⟩, fun _ _ => ⟨rfl, rfl⟩, fun _ _ => ⟨rfl, rfl⟩⟩
theorem CR.cs {σ σ' : oMem} {c : Nat} (h : CR σ σ' c) : CB σ' c = CB σ c ∧ SB σ' c = SB σ c := by
  obtain ⟨h1, h2, h3, h4, h5, h6⟩ := h
  unfold CB DB SB
  rw [h1, h2, h3, h4, h5, h6]
  exact ⟨rfl, rfl⟩
theorem RC_keep {σ σ' μ μ' : oMem} {c : Nat} (h : RC σ μ c) (hC : CB σ c) (hS : SB σ c) (hr : CR σ σ' c) (hm : MR μ μ' c) (hp : ∀ p : Nat, (p : Int) < σ 0 0 5 → σ' 8 p = σ 8 p ∧ σ' 9 p = σ 9 p) (h5 : σ 0 0 5 ≤ σ' 0 0 5) : RC σ' μ' c := by
  obtain ⟨r1, r2, r3, r4, r5, r6⟩ := hr
  obtain ⟨⟨m25, m26, m27, m28, m31, m38⟩, m29, m39⟩ := hm
  obtain ⟨⟨a1, a2, a3, a4⟩, ⟨d1, d2, d3, d4⟩, hs⟩ := h
  have hD := hC.2.2.2.2.1.2.1
  have hS2 := hS.1.2
  refine ⟨⟨by rw [m25, r1, a1], by rw [m26, r1, a2], by rw [m27, r1, a3], by rw [m28, r1, a4]⟩, ⟨by rw [m31, r1, d1], ?_, ?_, ?_⟩, ?_⟩
  · rw [r1, r2]; exact d2
  · rw [r1]
    intro k hk
    rw [(m29 k (by omega)).1, (m29 k (by omega)).2]
    exact d3 k hk
  · intro m
    rw [r1, r2, r3, d4 m]
    constructor
    · rintro ⟨k, k1, k2⟩
      exact ⟨k, k1, by rw [(m29 k (by omega)).1, (m29 k (by omega)).2]; exact k2⟩
    · rintro ⟨k, k1, k2⟩
      exact ⟨k, k1, by rw [(m29 k (by omega)).1, (m29 k (by omega)).2] at k2; exact k2⟩
  · rcases hs with ⟨s1, s2⟩ | ⟨p, s1, s2, s3, s4⟩
    · exact Or.inl ⟨by rw [m38, s1], by rw [r1, s2]⟩
    · obtain ⟨p8, p9⟩ := hp p s1
      refine Or.inr ⟨p, by omega, by rw [m38, s2], by rw [r1, p8, s3], fun j hj => ?_⟩
      rw [p8] at hj
      obtain ⟨t1, t2, t3⟩ := s4 j hj
      have hj15 : j < 15 := by omega
      refine ⟨by rw [r4, p9, t1], by rw [(m39 j hj15).1, r5, t2], by rw [(m39 j hj15).2, r6, t3]⟩
theorem RP_keep {σ σ' μ μ' : oMem} {p : Nat} (h : RP σ μ p) (hP : PB σ p) (h8 : σ' 8 p = σ 8 p) (h9 : σ' 9 p = σ 9 p) (m7 : μ' 37 0 p = μ 37 0 p) (m6 : ∀ j, j < 15 → μ' 36 0 (15 * p + j) = μ 36 0 (15 * p + j)) : RP σ' μ' p := by
  refine ⟨by rw [m7, h8, h.1], fun j hj => ?_⟩
  rw [h8] at hj
  have := hP.2.1
  rw [m6 j (by omega), h9, h.2 j hj]
theorem PB_row {σ σ' : oMem} {p : Nat} (h8 : σ' 8 p = σ 8 p) (h9 : σ' 9 p = σ 9 p) : PB σ' p = PB σ p := by
  unfold PB
  rw [h8, h9]
/-- what touches the draft alone keeps the rest -/
theorem Rel_draft {σ σ' μ μ' : oMem} (h : Rel σ μ) (hD : PB σ' 10) (hR : RP σ' μ' 10) (hT : TB σ') (hO : OM σ') (k : ∀ K, K < 8 → σ' K = σ K) (k8 : ∀ q, q ≠ 10 → σ' 8 q = σ 8 q ∧ σ' 9 q = σ 9 q) (k17 : σ' 17 = σ 17) (k18 : σ' 18 = σ 18) (m : ∀ K, 25 ≤ K → K ≤ 43 → K ≠ 36 → K ≠ 37 → μ' K = μ K) (m36 : ∀ j, j < 150 → μ' 36 0 j = μ 36 0 j) (m37 : ∀ j, j ≠ 10 → μ' 37 0 j = μ 37 0 j) (m24 : ∀ j, j ≠ 31 → μ' 24 0 j = μ 24 0 j) : Rel σ' μ' := by
  obtain ⟨⟨x1, x3, x5, x7, x10, x14, xC, xO, xP, xD, xW, xT, xM⟩, hN, hC, hU, hL, hOr, hV, hP, hDr, hWt⟩ := h
  have e0 : σ' 0 = σ 0 := k 0 (by decide)
  have e1 : σ' 1 = σ 1 := k 1 (by decide)
  have e7 : σ' 7 = σ 7 := k 7 (by decide)
  have cr : ∀ c, CR σ σ' c := CR_of (fun K _ h2 => k K (by omega))
  have mr : ∀ c, MR μ μ' c := MR_of (fun K h1 h2 h3 => m K h1 (by omega) (by omega) (by omega))
  unfold Rel
  rw [e0]
  refine ⟨?_, ?_, fun c hc => ?_, fun c hc => ?_, fun c => ?_, fun r hr => ?_, fun r hr => ?_, fun p hp => ?_, hR, fun i hi => ?_⟩
  · unfold XI
    rw [e0, k17, k18]
    refine ⟨x1, x3, x5, x7, x10, x14, fun c hc => ?_, fun r hr => ?_, fun p hp => ?_, hD, xW, hT, hO⟩
    · rw [(cr c).cs.1, (cr c).cs.2]; exact xC c hc
    · rw [OO_cong e7]; exact xO r hr
    · rw [PB_row (k8 p (by omega)).1 (k8 p (by omega)).2]; exact xP p hp
  · unfold RN
    rw [e0, m24 4 (by decide), m24 15 (by decide), m24 18 (by decide), m24 8 (by decide), m24 9 (by decide), m24 10 (by decide), m24 23 (by decide), m24 24 (by decide), m24 27 (by decide)]
    exact hN
  · exact RC_keep (hC c hc) (xC c hc).1 (xC c hc).2 (cr c) (mr c) (fun p hp => k8 p (by omega)) (by rw [e0]; exact Int.le_refl _)
  · unfold RU
    rw [e1, m 31 (by decide) (by decide) (by decide) (by decide)]
    exact hU c hc
  · unfold RLo
    rw [e1, m 41 (by decide) (by decide) (by decide) (by decide)]
    exact hL c
  · unfold RO
    rw [e7, m 32 (by decide) (by decide) (by decide) (by decide), m 33 (by decide) (by decide) (by decide) (by decide), m 34 (by decide) (by decide) (by decide) (by decide), m 35 (by decide) (by decide) (by decide) (by decide)]
    exact hOr r hr
  · unfold RV
    rw [e7, m 34 (by decide) (by decide) (by decide) (by decide)]
    exact hV r hr
  · exact RP_keep (hP p hp) (xP p hp) (k8 p (by omega)).1 (k8 p (by omega)).2 (m37 p (by omega)) (fun j hj => m36 _ (by omega))
  · unfold RW
    rw [k17, k18, m 42 (by decide) (by decide) (by decide) (by decide), m 43 (by decide) (by decide) (by decide) (by decide)]
    exact hWt i hi
theorem Rel_cg {σ σ' μ μ' : oMem} (h : Rel σ μ) (hT : TB σ') (hO : OM σ') (k : ∀ K, K < 10 → σ' K = σ K) (k17 : σ' 17 = σ 17) (k18 : σ' 18 = σ 18) (m : ∀ K, 25 ≤ K → K ≤ 43 → μ' K = μ K) (m24 : ∀ j, j ≠ 31 → μ' 24 0 j = μ 24 0 j) : Rel σ' μ' := by
  have hx := h.1
  have hd := hx.2.2.2.2.2.2.2.2.2.1
  have hr := h.2.2.2.2.2.2.2.2.1
  refine Rel_draft h (by rw [PB_row (by rw [k 8 (by decide)]) (by rw [k 9 (by decide)])]; exact hd) (RP_keep hr hd (by rw [k 8 (by decide)]) (by rw [k 9 (by decide)]) (by rw [m 37 (by decide) (by decide)]) (fun j _ => by rw [m 36 (by decide) (by decide)])) hT hO (fun K hK => k K (by omega)) (fun q _ => by rw [k 8 (by decide), k 9 (by decide)]; exact ⟨rfl, rfl⟩) k17 k18 (fun K h1 h2 _ _ => m K h1 h2) (fun j _ => by rw [m 36 (by decide) (by decide)]) (fun j _ => by rw [m 37 (by decide) (by decide)]) m24
theorem Rel.tm {σ μ : oMem} (h : Rel σ μ) : TB σ ∧ OM σ := h.1.2.2.2.2.2.2.2.2.2.2.2
/-- the model's invariant -/
theorem Rel.mi {σ μ : oMem} (h : Rel σ μ) : MI μ := by
  obtain ⟨⟨x1, x3, x5, ⟨x7, x8, x9⟩, x10, x14, xC, xO, xP, xD, xW, xT, xM⟩, ⟨⟨n4, n15, n18⟩, ⟨n8, n9, n10⟩, n23, n24, n27⟩, hC, hU, hL, hOr, hV, hP, hDr, hWt⟩ := h
  unfold MI
  rw [n4, n15, n18, n8, n9, n10, n23, n27]
  refine ⟨x1, x3, x5, ⟨x7, x8, x9⟩, x10, x14, fun c hc => ?_, fun r hr => ?_, fun p hp => (hP p hp).mP (xP p hp), hDr.mP xD, fun i hi => ?_⟩
  · obtain ⟨⟨a1, a2, a3, a4⟩, ⟨d1, d2, d3, d4⟩, hs⟩ := hC c hc
    obtain ⟨⟨c1, c2, c3, c4, c5, c6⟩, s1, s2⟩ := xC c hc
    refine ⟨⟨by rw [a1]; exact c1, by rw [a2]; exact c2, by rw [a3]; exact c3, by rw [a4]; exact c4, by rw [d1]; exact ⟨c5.1, c5.2.1⟩, by rw [d1]; exact d3⟩, ?_, ?_⟩
    · rcases hs with ⟨q1, q2⟩ | ⟨p, q1, q2, q3, q4⟩ <;> omega
    · intro j h0 hj
      rcases hs with ⟨q1, q2⟩ | ⟨p, q1, q2, q3, q4⟩
      · omega
      · rw [q2, show ((p : Int)).toNat = p by omega, (hP p q1).1] at hj
        obtain ⟨t1, t2, t3⟩ := q4 j hj
        have := s2 j (by omega)
        rw [t2, t3]
        exact this.2
  · obtain ⟨o1, o2, o3, o4⟩ := hOr r hr
    unfold mO
    rw [o1, o2, o3, o4]
    exact xO r hr
  · rw [(hWt i hi).1, (hWt i hi).2]
    exact xW i hi
/-- the same moves -/
theorem RP.kn {σ μ : oMem} {p q : Nat} (h : RP σ μ p) (hP : PB σ p) (hq : RP σ μ q) : o_sum (fun j => if o_has (mW μ q) (μ 37 0 q).toNat (o_sum (mW μ p) (j + 1)) = true then 0 else 1) (μ 37 0 p).toNat = o_kn σ q p := by
  unfold o_kn
  rw [h.1]
  have := hP.1
  exact o_sum_cong _ (fun j hj => by rw [hq.has, h.sum (t := j + 1) (by omega)])
theorem Rel.mv {σ μ : oMem} (h : Rel σ μ) {a b : Int} (ha : -1 ≤ a ∧ a < σ 0 0 5) (hb : okP σ b) : mMv μ a b.toNat = oMb σ a b := by
  have hP := h.2.2.2.2.2.2.2.1
  have xP := h.1.2.2.2.2.2.2.2.2.1
  have hb2 := hP b.toNat (by omega)
  unfold mMv oMb
  rw [if_pos hb]
  by_cases e : a = -1
  · rw [if_pos e, if_neg (by omega), hb2.1]; omega
  · rw [if_neg e, if_pos ⟨by omega, ha.2⟩]
    exact hb2.kn (xP b.toNat (by omega)) (hP a.toNat (by omega))
theorem Rel.fit {σ μ : oMem} (h : Rel σ μ) {p c : Nat} (hp : (p : Int) < σ 0 0 5) (hc : (c : Int) < σ 0 0 1) : mFit μ p c ↔ o_fit σ p c := by
  obtain ⟨hx, ⟨⟨n4, n15, n18⟩, ⟨n8, n9, n10⟩, n23, n24, n27⟩, hC, hU, hL, hOr, hV, hP, hDr, hWt⟩ := h
  have hp2 := hP p hp
  have hc2 := (hC c hc).1.1
  have hp3 := (hx.2.2.2.2.2.2.2.2.1 p hp).1
  unfold mFit o_fit o_tw
  rw [n8, n10, hp2.1, hp2.sum (by omega), hc2]
  omega
theorem Rel.wt {σ μ : oMem} (h : Rel σ μ) (t v : Int) : oWt σ t v ↔ mWt μ t v := by
  obtain ⟨hx, ⟨⟨n4, n15, n18⟩, ⟨n8, n9, n10⟩, n23, n24, n27⟩, hC, hU, hL, hOr, hV, hP, hDr, hWt⟩ := h
  unfold oWt mWt
  rw [n15]
  constructor
  · rintro ⟨r, r1, r2, r3⟩
    obtain ⟨o1, o2, o3, o4⟩ := hOr r r1
    exact ⟨r, r1, by rw [o1]; exact r2, by unfold mTk; rw [o2, o3, o4]; exact r3⟩
  · rintro ⟨r, r1, r2, r3⟩
    obtain ⟨o1, o2, o3, o4⟩ := hOr r r1
    unfold mTk at r3
    rw [o2, o3, o4] at r3
    exact ⟨r, r1, by rw [← o1]; exact r2, r3⟩
/-- the sweep counts the covered metres -/
def cv (f t : Nat → Int) (n : Nat) (m : Int) : Bool := (List.range n).any (fun k => decide (f k ≤ m ∧ m < t k))
theorem cv_iff {f t : Nat → Int} {n : Nat} {m : Int} : cv f t n m = true ↔ ∃ k, k < n ∧ f k ≤ m ∧ m < t k := by
  unfold cv
  rw [List.any_eq_true]
  constructor
  · rintro ⟨k, k1, k2⟩
    exact ⟨k, List.mem_range.mp k1, of_decide_eq_true k2⟩
  · rintro ⟨k, k1, k2⟩
    exact ⟨k, List.mem_range.mpr k1, decide_eq_true k2⟩
theorem o_sum_add (f h : Nat → Int) : ∀ n : Nat, o_sum (fun j => f j + h j) n = o_sum f n + o_sum h n
  | 0 => rfl
  | n + 1 => by rw [o_sum, o_sum, o_sum, o_sum_add f h n]; omega
theorem o_sum_ind {a b : Int} (h0 : 0 ≤ a) (h1 : a ≤ b) : ∀ n : Nat, o_sum (fun j => if a ≤ (j : Int) ∧ (j : Int) < b then 1 else 0) n = if (n : Int) ≤ a then 0 else if (n : Int) ≤ b then (n : Int) - a else b - a
  | 0 => by rw [o_sum, if_pos (by omega)]
  | n + 1 => by
    rw [o_sum, o_sum_ind h0 h1 n]
    split <;> split <;> (try split) <;> (try split) <;> (try split) <;> omega
theorem sw_count {f t : Nat → Int} : ∀ n : Nat, (∀ k, k < n → 0 ≤ f k ∧ f k < t k) → (∀ i j, i ≤ j → j < n → f i ≤ f j) → (0 ≤ (o_sw f t n).2 ∧ (∀ k, k < n → t k ≤ (o_sw f t n).2) ∧ ((o_sw f t n).2 = 0 ∨ ∃ k, k < n ∧ (o_sw f t n).2 = t k)) ∧ ∀ L : Nat, (o_sw f t n).2 ≤ L → o_sum (fun m => if cv f t n m = true then 1 else 0) L = (o_sw f t n).1 := by
  intro n
  induction n with
  | zero =>
    intro _ _
    refine ⟨⟨Int.le_refl 0, fun k hk => absurd hk (Nat.not_lt_zero k), Or.inl rfl⟩, fun L _ => ?_⟩
    rw [o_sum_cong (h := fun _ => 0) L (fun j _ => by rfl)]
    show o_sum (fun _ => 0) L = 0
    induction L with
    | zero => rfl
    | succ L ih => rw [o_sum, ih (by show (0 : Int) ≤ L; omega)]; rfl
  | succ n ih =>
    intro h1 h2
    obtain ⟨⟨i1, i2, i3⟩, i4⟩ := ih (fun k hk => h1 k (by omega)) (fun i j hij hj => h2 i j hij (by omega))
    have hn := h1 n (by omega)
    rw [o_sw]
    clear ih
    generalize o_sw f t n = w at i1 i2 i3 i4 ⊢
    obtain ⟨s, e⟩ := w
    dsimp only at i1 i2 i3 i4 ⊢
    obtain ⟨st, hst⟩ : ∃ st, st = if f n < e then e else f n := ⟨_, rfl⟩
    rw [← hst]
    have hst2 : e ≤ st ∧ f n ≤ st ∧ (st = e ∨ st = f n) := by rw [hst]; split <;> omega
    have hcov : ∀ m : Int, f n ≤ m → m < e → cv f t n m = true := fun m m1 m2 => by
      rcases i3 with i3 | ⟨k, k1, k2⟩
      · omega
      · exact cv_iff.mpr ⟨k, k1, by have := h2 k n (by omega) (by omega); omega, by omega⟩
    have hst3 : ∀ m : Int, f n ≤ m → m < st → cv f t n m = true := fun m m1 m2 => hcov m m1 (by omega)
    have hno : ∀ m : Int, st ≤ m → cv f t n m = false := fun m m1 => by
      cases hc : cv f t n m
      · rfl
      · obtain ⟨k, k1, k2, k3⟩ := cv_iff.mp hc
        have := i2 k k1
        omega
    have hs : ∀ m : Int, cv f t (n + 1) m = true ↔ cv f t n m = true ∨ (st ≤ m ∧ m < t n) := fun m => by
      constructor
      · intro hc
        obtain ⟨k, k1, k2, k3⟩ := cv_iff.mp hc
        rcases Nat.lt_succ_iff_lt_or_eq.mp k1 with z | z
        · exact Or.inl (cv_iff.mpr ⟨k, z, k2, k3⟩)
        · subst z
          by_cases q : m < st
          · exact Or.inl (hst3 m k2 q)
          · exact Or.inr ⟨by omega, k3⟩
      · rintro (hc | ⟨k2, k3⟩)
        · obtain ⟨k, k1, k2, k3⟩ := cv_iff.mp hc
          exact cv_iff.mpr ⟨k, by omega, k2, k3⟩
        · exact cv_iff.mpr ⟨n, by omega, by omega, k3⟩
    by_cases c : t n > st
    · rw [if_pos c]
      refine ⟨⟨by omega, fun k hk => ?_, Or.inr ⟨n, by omega, rfl⟩⟩, fun L hL => ?_⟩
      · rcases Nat.lt_succ_iff_lt_or_eq.mp hk with z | z
        · have := i2 k z; show t k ≤ t n; omega
        · subst z; exact Int.le_refl _
      · dsimp only at hL ⊢
        rw [o_sum_cong (h := fun (m : Nat) => (if cv f t n m = true then 1 else 0) + (if st ≤ (m : Int) ∧ (m : Int) < t n then 1 else 0)) L (fun j _ => ?_), o_sum_add, i4 L (by omega), o_sum_ind (by omega) (by omega) L]
        · by_cases q : (L : Int) ≤ st
          · omega
          · rw [if_neg q]
            split <;> omega
        · by_cases q : st ≤ (j : Int) ∧ (j : Int) < t n
          · rw [if_pos q, if_pos ((hs j).mpr (Or.inr q)), hno j q.1]; rfl
          · rw [if_neg q]
            by_cases q2 : cv f t n j = true
            · rw [if_pos q2, if_pos ((hs j).mpr (Or.inl q2))]; rfl
            · rw [if_neg q2, if_neg (fun z => ((hs j).mp z).elim q2 q)]; rfl
    · rw [if_neg c]
      refine ⟨⟨i1, fun k hk => ?_, ?_⟩, fun L hL => ?_⟩
      · rcases Nat.lt_succ_iff_lt_or_eq.mp hk with z | z
        · exact i2 k z
        · subst z; show t k ≤ e; omega
      · rcases i3 with i3 | ⟨k, k1, k2⟩
        · exact Or.inl i3
        · exact Or.inr ⟨k, by omega, k2⟩
      · rw [← i4 L hL]
        refine o_sum_cong L (fun j _ => ?_)
        by_cases q2 : cv f t n j = true
        · rw [if_pos q2, if_pos ((hs j).mpr (Or.inl q2))]
        · rw [if_neg q2, if_neg (fun z => ((hs j).mp z).elim q2 (fun y => by omega))]
theorem RD.cut {σ μ : oMem} {c : Nat} (h : RD σ μ c) (hC : CB σ c) (hl : μ 27 0 c = σ 1 c 2) : mCut μ c = o_cutl σ c := by
  obtain ⟨d1, d2, d3, d4⟩ := h
  obtain ⟨c1, c2, c3, c4, ⟨b1, b2, b3⟩, c6⟩ := hC
  have hs := sw_count (f := σ 2 c) (t := σ 3 c) (σ 1 c 6).toNat (fun k hk => by have := b3 k (by omega); omega) (fun i j hij hj => d2 i j hij (by omega))
  obtain ⟨⟨i1, i2, i3⟩, i4⟩ := hs
  unfold o_cutl
  rw [← i4 (σ 1 c 2).toNat (by
    rcases i3 with i3 | ⟨k, k1, k2⟩
    · omega
    · have := c6 k (by omega); omega)]
  unfold mCut
  rw [hl, d1]
  refine o_sum_cong _ (fun j _ => ?_)
  have : mCv μ c j (σ 1 c 6).toNat = cv (σ 2 c) (σ 3 c) (σ 1 c 6).toNat j := by
    apply Bool.eq_iff_iff.mpr
    rw [show mCv μ c j (σ 1 c 6).toNat = cv (fun k => μ 29 0 (8 * c + k)) (fun k => μ 30 0 (8 * c + k)) (σ 1 c 6).toNat j from rfl, cv_iff, cv_iff]
    constructor
    · rintro ⟨k, k1, k2⟩
      obtain ⟨q, q1, q2⟩ := (d4 j).mpr ⟨k, by omega, k2⟩
      exact ⟨q, by omega, q2⟩
    · rintro ⟨k, k1, k2⟩
      obtain ⟨q, q1, q2⟩ := (d4 j).mp ⟨k, by omega, k2⟩
      exact ⟨q, by omega, q2⟩
  rw [this]
