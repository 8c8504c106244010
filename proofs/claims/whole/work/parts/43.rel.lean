theorem mdS_39 {μ : oMem} {c k : Nat} {its t : Int} (j : Nat) : mdS μ c k its t 39 0 j = if j = 15 * c + k then its else μ 39 0 j := by
  unfold mdS
  rw [o_up_k (by decide), o_up_at]
  by_cases e : j = 15 * c + k
  · rw [if_pos ⟨rfl, rfl, e⟩, if_pos e]
  · rw [if_neg (fun q => e q.2.2), if_neg e]
    split
    · rfl
    · rw [o_up_k (by decide), o_up_k (by decide)]
theorem mdS_40 {μ : oMem} {c k : Nat} {its t : Int} (j : Nat) : mdS μ c k its t 40 0 j = if j = 15 * c + k then t else μ 40 0 j := by
  unfold mdS
  rw [o_up_at]
  by_cases e : j = 15 * c + k
  · rw [if_pos ⟨rfl, rfl, e⟩, if_pos e]
  · rw [if_neg (fun q => e q.2.2), if_neg e, o_up_k (by decide)]
    split
    · rfl
    · rw [o_up_k (by decide), o_up_k (by decide)]
/-- the weights of a run are the same -/
theorem R_weights {σ μ : oMem} {c p : Nat} (h : Rel σ μ) (hc : (c : Int) < σ 0 0 1) (hp : (p : Int) < σ 0 0 5) : mInner μ c = o_inner σ c (σ 0 0 8) ∧ mCutw μ c = o_cut σ c (σ 0 0 8) ∧ mNet μ c = o_net σ c (σ 0 0 8) ∧ ∀ j : Nat, (j : Int) < σ 8 p 1 → mIts μ c p (mNet μ c) j = o_wt σ c (σ 0 0 8) p j := by
  have hN := h.2.1
  obtain ⟨⟨a1, a2, a3, a4⟩, hD, hS⟩ := h.2.2.1 c hc
  have hC := (h.1.2.2.2.2.2.2.1 c hc).1
  have hP := h.2.2.2.2.2.2.2.1 p hp
  have n9 := hN.2.1.2.1
  have e1 : mInner μ c = o_inner σ c (σ 0 0 8) := by
    unfold mInner o_inner
    rw [a2, n9]
    split <;> split <;> omega
  have e2 : mCutw μ c = o_cut σ c (σ 0 0 8) := by
    unfold mCutw o_cut
    rw [a2, e1, hD.cut hC a3, a3]
  have e3 : mNet μ c = o_net σ c (σ 0 0 8) := by
    unfold mNet o_net
    rw [a2, e1, e2]
  refine ⟨e1, e2, e3, fun j hj => ?_⟩
  unfold mIts o_wt
  rw [e3, a1]
  unfold mW
  rw [hP.2 j hj]
theorem R_taker {σ μ : oMem} {w t w' t' : Int} {n : Nat} (h3 : σ 0 0 3 = n) (h15 : μ 24 0 15 = n) (hw : w = w') (ht : t = t') (hO : ∀ r : Nat, r < n → RO σ μ r) : o_taker σ w t = mTaker μ w' t' := by
  subst hw ht
  unfold o_taker mTaker
  rw [h3, h15]
  refine o_fs_cong (fun r hr => ?_)
  obtain ⟨o1, o2, o3, o4⟩ := hO r (by omega)
  unfold o_tkb mTkb mTk
  rw [o1, o2, o3, o4]
theorem dlS_70 {ν : oMem} {c k : Nat} {t : Int} (r : Nat) : o_dlS ν c k t 7 r 0 = ν 7 r 0 := by
  rw [dlS_7, if_neg (fun y => absurd y.2.2 (by decide)), if_neg (fun y => absurd y.2.2 (by decide))]
theorem dlS_71 {ν : oMem} {c k : Nat} {t : Int} (r : Nat) : o_dlS ν c k t 7 r 1 = ν 7 r 1 := by
  rw [dlS_7, if_neg (fun y => absurd y.2.2 (by decide)), if_neg (fun y => absurd y.2.2 (by decide))]
theorem dlS_72 {ν : oMem} {c k : Nat} {t : Int} (r : Nat) : o_dlS ν c k t 7 r 2 = if t ≠ -1 ∧ r = t.toNat then ν 7 r 2 + ν 5 c k else ν 7 r 2 := by
  rw [dlS_7, if_neg (fun y => absurd y.2.2 (by decide))]
  by_cases h : t ≠ -1 ∧ r = t.toNat
  · rw [if_pos h, if_pos ⟨h.1, h.2, rfl⟩]
  · rw [if_neg h, if_neg (fun y => h ⟨y.1, y.2.1⟩)]
theorem dlS_73 {ν : oMem} {c k : Nat} {t : Int} (r : Nat) : o_dlS ν c k t 7 r 3 = if t ≠ -1 ∧ r = t.toNat then ν 1 c 3 else ν 7 r 3 := by
  rw [dlS_7]
  by_cases h : t ≠ -1 ∧ r = t.toNat
  · rw [if_pos h, if_pos ⟨h.1, h.2, rfl⟩]
  · rw [if_neg h, if_neg (fun y => h ⟨y.1, y.2.1⟩), if_neg (fun y => h ⟨y.1, y.2.1⟩)]
theorem R_dl {σ μ : oMem} {c p : Nat} (h : Rel σ μ) (hc : (c : Int) < σ 0 0 1) (hp : (p : Int) < σ 0 0 5) : ∀ k : Nat, (k : Int) ≤ σ 8 p 1 → (o_dl (o_sc σ c p) c k).2 = (mdl (mPre μ c p) c p (mNet μ c) k).2 ∧ (∀ r : Nat, (r : Int) < σ 0 0 3 → RO (o_dl (o_sc σ c p) c k).1 (mdl (mPre μ c p) c p (mNet μ c) k).1 r) ∧ (∀ q : Nat, q < k → (mdl (mPre μ c p) c p (mNet μ c) k).1 39 0 (15 * c + q) = o_wt σ c (σ 0 0 8) p q ∧ (mdl (mPre μ c p) c p (mNet μ c) k).1 40 0 (15 * c + q) = (o_dl (o_sc σ c p) c k).1 6 c q) ∧ (∀ j : Nat, (∀ q : Nat, q < k → j ≠ 15 * c + q) → (mdl (mPre μ c p) c p (mNet μ c) k).1 39 0 j = μ 39 0 j ∧ (mdl (mPre μ c p) c p (mNet μ c) k).1 40 0 j = μ 40 0 j) ∧ ∀ r : Nat, σ 0 0 3 ≤ r → (mdl (mPre μ c p) c p (mNet μ c) k).1 34 0 r = μ 34 0 r := by
  have hW := R_weights h hc hp
  have hN := h.2.1
  obtain ⟨⟨a1, a2, a3, a4⟩, hD, hS⟩ := h.2.2.1 c hc
  have hP := h.2.2.2.2.2.2.2.1 p hp
  have hO := h.2.2.2.2.2.1
  have hx3 := h.1.2.1
  have s7 : o_sc σ c p 7 = σ 7 := sc_k (by decide) (by decide) (by decide) (by decide)
  have pk : ∀ K, K ≠ 24 → K ≠ 38 → mPre μ c p K = μ K := fun K h1 h2 => by unfold mPre; rw [o_up_k h2, o_up_k h1, o_up_k h1]
  have p15 : mPre μ c p 24 0 15 = μ 24 0 15 := by unfold mPre; rw [o_up_k (by decide), o_up_j (by decide), o_up_j (by decide)]
  have pW : ∀ q, mW (mPre μ c p) q = mW μ q := fun q => by unfold mW; rw [pk 36 (by decide) (by decide)]
  have pI : ∀ t q, mIts (mPre μ c p) c p t q = mIts μ c p t q := fun t q => by unfold mIts; rw [pW, pk 25 (by decide) (by decide)]
  obtain ⟨n, hn⟩ : ∃ n : Nat, σ 0 0 3 = n := ⟨(σ 0 0 3).toNat, by omega⟩
  intro k
  induction k with
  | zero =>
    intro _
    refine ⟨rfl, fun r hr => ?_, fun q hq => absurd hq (Nat.not_lt_zero q), fun j _ => ?_, fun r _ => ?_⟩
    · show RO (o_sc σ c p) (mPre μ c p) r
      unfold RO
      rw [s7, pk 32 (by decide) (by decide), pk 33 (by decide) (by decide), pk 34 (by decide) (by decide), pk 35 (by decide) (by decide)]
      exact hO r hr
    · show mPre μ c p 39 0 j = _ ∧ mPre μ c p 40 0 j = _
      rw [pk 39 (by decide) (by decide), pk 40 (by decide) (by decide)]
      exact ⟨rfl, rfl⟩
    · show mPre μ c p 34 0 r = _
      rw [pk 34 (by decide) (by decide)]
  | succ k ih =>
    intro hk
    obtain ⟨i1, i2, i3, i4, i5⟩ := ih (by omega)
    have d0 : ∀ K, K ≠ 6 → K ≠ 7 → (o_dl (o_sc σ c p) c k).1 K = o_sc σ c p K := fun K h6 h7 => dl_k h6 h7 k
    have m0 : ∀ K, K ≠ 34 → K ≠ 35 → K ≠ 39 → K ≠ 40 → (mdl (mPre μ c p) c p (mNet μ c) k).1 K = mPre μ c p K := fun K h1 h2 h3 h4 => mdl_k h1 h2 h3 h4 k
    have hT : o_taker (o_dl (o_sc σ c p) c k).1 ((o_dl (o_sc σ c p) c k).1 4 c k) ((o_dl (o_sc σ c p) c k).1 1 c 3) = mTaker (mdl (mPre μ c p) c p (mNet μ c) k).1 (mW (mPre μ c p) p k) (mPre μ c p 28 0 c) := by
      refine R_taker (n := n) ?_ ?_ ?_ ?_ (fun r hr => i2 r (by omega))
      · rw [d0 0 (by decide) (by decide), sc_0, if_neg (by omega), if_neg (by omega), hn]
      · rw [m0 24 (by decide) (by decide) (by decide) (by decide), p15, hN.1.2.1, hn]
      · rw [d0 4 (by decide) (by decide), sc_4, if_pos ⟨rfl, by omega⟩, pW]
        exact (hP.2 k (by omega)).symm
      · rw [d0 1 (by decide) (by decide), sc_1, if_neg (by omega), if_neg (by omega), if_neg (by omega), if_neg (by omega), pk 28 (by decide) (by decide), a4]
    have e5 : (o_dl (o_sc σ c p) c k).1 5 c k = o_wt σ c (σ 0 0 8) p k := by rw [d0 5 (by decide) (by decide), sc_5, if_pos ⟨rfl, by omega⟩]
    have eI : mIts (mPre μ c p) c p (mNet μ c) k = o_wt σ c (σ 0 0 8) p k := by rw [pI, hW.2.2.2 k (by omega)]
    have e1 : (o_dl (o_sc σ c p) c k).1 1 c 3 = (mdl (mPre μ c p) c p (mNet μ c) k).1 28 0 c := by rw [d0 1 (by decide) (by decide), sc_1, if_neg (by omega), if_neg (by omega), if_neg (by omega), if_neg (by omega), m0 28 (by decide) (by decide) (by decide) (by decide), pk 28 (by decide) (by decide), a4]
    have htb := o_fs_bd (P := o_tkb (o_dl (o_sc σ c p) c k).1 ((o_dl (o_sc σ c p) c k).1 4 c k) ((o_dl (o_sc σ c p) c k).1 1 c 3)) (n := ((o_dl (o_sc σ c p) c k).1 0 0 3).toNat)
    rw [show o_fs (o_tkb (o_dl (o_sc σ c p) c k).1 ((o_dl (o_sc σ c p) c k).1 4 c k) ((o_dl (o_sc σ c p) c k).1 1 c 3)) ((o_dl (o_sc σ c p) c k).1 0 0 3).toNat = o_taker (o_dl (o_sc σ c p) c k).1 ((o_dl (o_sc σ c p) c k).1 4 c k) ((o_dl (o_sc σ c p) c k).1 1 c 3) from rfl, hT, d0 0 (by decide) (by decide), sc_0, if_neg (by omega), if_neg (by omega)] at htb
    rw [o_dl, mdl]
    dsimp only
    rw [hT, eI]
    generalize mTaker (mdl (mPre μ c p) c p (mNet μ c) k).1 (mW (mPre μ c p) p k) (mPre μ c p 28 0 c) = t at htb ⊢
    have ht1 := htb.1
    have ht2 := htb.2.1
    generalize (mdl (mPre μ c p) c p (mNet μ c) k) = M at *
    generalize (o_dl (o_sc σ c p) c k) = S at *
    refine ⟨by rw [i1], fun r hr => ?_, fun q hq => ?_, fun j hj => ?_, fun r hr => ?_⟩
    · obtain ⟨o1, o2, o3, o4⟩ := i2 r hr
      unfold RO
      rw [dlS_70, dlS_71, dlS_72, dlS_73, mdS_34, mdS_35, mdS_k (by decide) (by decide) (by decide) (by decide), mdS_k (by decide) (by decide) (by decide) (by decide)]
      by_cases hq : t ≠ -1 ∧ r = t.toNat
      · rw [if_pos hq, if_pos hq, if_pos hq, if_pos hq, o3, e5, e1]
        exact ⟨o1, o2, rfl, rfl⟩
      · rw [if_neg hq, if_neg hq, if_neg hq, if_neg hq]
        exact ⟨o1, o2, o3, o4⟩
    · rw [mdS_39, mdS_40, dlS_6]
      by_cases e : q = k
      · rw [if_pos (by omega), if_pos (by omega), if_pos ⟨rfl, e⟩, e]
        exact ⟨rfl, rfl⟩
      · rw [if_neg (by omega), if_neg (by omega), if_neg (by omega)]
        exact i3 q (by omega)
    · have hjk := hj k (by omega)
      rw [mdS_39, mdS_40, if_neg hjk, if_neg hjk]
      exact i4 j (fun q hq => hj q (by omega))
    · rw [mdS_34, if_neg (by omega)]
      exact i5 r hr
theorem R_run {σ μ : oMem} {c p : Nat} (h : Rel σ μ) (hc : (c : Int) < σ 0 0 1) (hp : (p : Int) < σ 0 0 5) (hf : o_fit σ p c) : Rel (o_run σ c p).1 (mRun μ c p).1 ∧ (o_run σ c p).2 = (mRun μ c p).2 := by
  have hxr := XI_run h.1 hc hp hf
  have ho := run_o h.1 hc hp hf (σ 8 p 1).toNat (Nat.le_refl _)
  obtain ⟨w1, w2, w3, w4⟩ := R_weights h hc hp
  have hPp := h.2.2.2.2.2.2.2.1 p hp
  have hPB := h.1.2.2.2.2.2.2.2.2.1 p hp
  have hP0 := hPB.1
  have hP1 := hPB.2.1
  obtain ⟨l1, l2, l3, l4, l5⟩ := R_dl h hc hp (σ 8 p 1).toNat (by omega)
  have hmv := h.mv (a := σ 0 0 10) (b := p) (by have := h.1.2.2.2.2.1; omega) ⟨by omega, hp⟩
  rw [Int.toNat_natCast] at hmv
  have hsum : o_sum (mIts μ c p (mNet μ c)) (σ 8 p 1).toNat = o_sum (o_wt σ c (σ 0 0 8) p) (σ 8 p 1).toNat := o_sum_cong _ (fun j hj => w4 j (by omega))
  obtain ⟨hx, ⟨⟨n4, n15, n18⟩, ⟨n8, n9, n10⟩, n23, n24, n27⟩, hC, hU, hL, hOr, hV, hP, hDr, hWt⟩ := h
  have k : ∀ K, K ≠ 0 → K ≠ 1 → K ≠ 4 → K ≠ 5 → K ≠ 6 → K ≠ 7 → (o_run σ c p).1 K = σ K := fun K h0 h1 h4 h5 h6 h7 => by rw [run_k h6 h7, sc_k h0 h1 h4 h5]
  have k0 : ∀ j, j ≠ 10 → j ≠ 11 → (o_run σ c p).1 0 0 j = σ 0 0 j := fun j h1 h2 => by rw [run_k (by decide) (by decide), sc_0, if_neg (by omega), if_neg (by omega)]
  have k010 : (o_run σ c p).1 0 0 10 = p := by rw [run_k (by decide) (by decide), sc_0, if_pos ⟨rfl, rfl⟩]
  have k011 : (o_run σ c p).1 0 0 11 = σ 0 0 11 + oMb σ (σ 0 0 10) p := by rw [run_k (by decide) (by decide), sc_0, if_neg (by omega), if_pos ⟨rfl, rfl⟩]
  have k1 : ∀ i j, (o_run σ c p).1 1 i j = if i = c ∧ j = 10 then σ 8 p 1 else if i = c ∧ j = 13 then o_net σ c (σ 0 0 8) - o_sum (o_wt σ c (σ 0 0 8) p) (σ 8 p 1).toNat else if i = c ∧ j = 12 then o_cut σ c (σ 0 0 8) else if i = c ∧ j = 11 then o_inner σ c (σ 0 0 8) else σ 1 i j := fun i j => by rw [run_k (by decide) (by decide), sc_1]
  have k1o : ∀ i j, j ≠ 10 → j ≠ 11 → j ≠ 12 → j ≠ 13 → (o_run σ c p).1 1 i j = σ 1 i j := fun i j h1 h2 h3 h4 => by rw [k1, if_neg (by omega), if_neg (by omega), if_neg (by omega), if_neg (by omega)]
  have k1i : ∀ i, i ≠ c → (o_run σ c p).1 1 i = σ 1 i := fun i hi => by funext j; rw [k1, if_neg (by omega), if_neg (by omega), if_neg (by omega), if_neg (by omega)]
  have k4 : ∀ i j, (o_run σ c p).1 4 i j = if i = c ∧ j < (σ 8 p 1).toNat then σ 9 p j else σ 4 i j := fun i j => by rw [run_k (by decide) (by decide), sc_4]
  have k5 : ∀ i j, (o_run σ c p).1 5 i j = if i = c ∧ j < (σ 8 p 1).toNat then o_wt σ c (σ 0 0 8) p j else σ 5 i j := fun i j => by rw [run_k (by decide) (by decide), sc_5]
  have k6 : ∀ i, i ≠ c → (o_run σ c p).1 6 i = σ 6 i := fun i hi => by funext j; exact ho.2.2.2.1 i j (Or.inl hi)
  have e41 : ∀ j, (mRun μ c p).1 41 0 j = if j = 3 * c + 2 then o_net σ c (σ 0 0 8) - o_sum (o_wt σ c (σ 0 0 8) p) (σ 8 p 1).toNat else if j = 3 * c + 1 then o_cut σ c (σ 0 0 8) else if j = 3 * c then o_inner σ c (σ 0 0 8) else μ 41 0 j := fun j => by
    unfold mRun
    dsimp only
    rw [hPp.1, hsum, w1, w2, ← w3]
    simp only [o_up_at, true_and]
    rw [mdl_k (by decide) (by decide) (by decide) (by decide)]
    unfold mPre
    rw [o_up_k (by decide), o_up_k (by decide), o_up_k (by decide)]
  have m0 : ∀ K, K ≠ 41 → (mRun μ c p).1 K = (mdl (mPre μ c p) c p (mNet μ c) (σ 8 p 1).toNat).1 K := fun K h1 => by
    unfold mRun
    dsimp only
    rw [o_up_k h1, o_up_k h1, o_up_k h1, hPp.1]
  have mk : ∀ K, K ≠ 24 → K ≠ 34 → K ≠ 35 → K ≠ 38 → K ≠ 39 → K ≠ 40 → K ≠ 41 → (mRun μ c p).1 K = μ K := fun K a b d e f g i => mRun_k a b d e f g i
  have m38 : ∀ i, (mRun μ c p).1 38 0 i = if i = c then (p : Int) else μ 38 0 i := fun i => by
    rw [m0 38 (by decide), mdl_k (by decide) (by decide) (by decide) (by decide)]
    unfold mPre
    rw [o_up_at, o_up_k (by decide), o_up_k (by decide)]
    by_cases q : i = c
    · rw [if_pos ⟨rfl, rfl, q⟩, if_pos q]
    · rw [if_neg (fun y => q y.2.2), if_neg q]
  have m24 : ∀ j, (mRun μ c p).1 24 0 j = if j = 23 then (p : Int) else if j = 24 then μ 24 0 24 + mMv μ (μ 24 0 23) p else μ 24 0 j := fun j => mRun_24
  have m39 : (mRun μ c p).1 39 = (mdl (mPre μ c p) c p (mNet μ c) (σ 8 p 1).toNat).1 39 := m0 39 (by decide)
  have m40 : (mRun μ c p).1 40 = (mdl (mPre μ c p) c p (mNet μ c) (σ 8 p 1).toNat).1 40 := m0 40 (by decide)
  have m34 : (mRun μ c p).1 34 = (mdl (mPre μ c p) c p (mNet μ c) (σ 8 p 1).toNat).1 34 := m0 34 (by decide)
  have m35 : (mRun μ c p).1 35 = (mdl (mPre μ c p) c p (mNet μ c) (σ 8 p 1).toNat).1 35 := m0 35 (by decide)
  have m32 : (mRun μ c p).1 32 = (mdl (mPre μ c p) c p (mNet μ c) (σ 8 p 1).toNat).1 32 := m0 32 (by decide)
  have m33 : (mRun μ c p).1 33 = (mdl (mPre μ c p) c p (mNet μ c) (σ 8 p 1).toNat).1 33 := m0 33 (by decide)
  have r6 : (o_run σ c p).1 6 = (o_dl (o_sc σ c p) c (σ 8 p 1).toNat).1 6 := rfl
  have r7 : (o_run σ c p).1 7 = (o_dl (o_sc σ c p) c (σ 8 p 1).toNat).1 7 := rfl
  have r2 : (o_run σ c p).2 = (mRun μ c p).2 := by
    show (o_dl (o_sc σ c p) c (σ 8 p 1).toNat).2 = (mdl (mPre μ c p) c p (mNet μ c) (μ 37 0 p).toNat).2
    rw [hPp.1, l1]
  have k8 : (o_run σ c p).1 8 = σ 8 := k 8 (by decide) (by decide) (by decide) (by decide) (by decide) (by decide)
  have k9 : (o_run σ c p).1 9 = σ 9 := k 9 (by decide) (by decide) (by decide) (by decide) (by decide) (by decide)
  have k2 : (o_run σ c p).1 2 = σ 2 := k 2 (by decide) (by decide) (by decide) (by decide) (by decide) (by decide)
  have k3 : (o_run σ c p).1 3 = σ 3 := k 3 (by decide) (by decide) (by decide) (by decide) (by decide) (by decide)
  have k17 : (o_run σ c p).1 17 = σ 17 := k 17 (by decide) (by decide) (by decide) (by decide) (by decide) (by decide)
  have k18 : (o_run σ c p).1 18 = σ 18 := k 18 (by decide) (by decide) (by decide) (by decide) (by decide) (by decide)
  have g25 : (mRun μ c p).1 25 = μ 25 := mk 25 (by decide) (by decide) (by decide) (by decide) (by decide) (by decide) (by decide)
  have g26 : (mRun μ c p).1 26 = μ 26 := mk 26 (by decide) (by decide) (by decide) (by decide) (by decide) (by decide) (by decide)
  have g27 : (mRun μ c p).1 27 = μ 27 := mk 27 (by decide) (by decide) (by decide) (by decide) (by decide) (by decide) (by decide)
  have g28 : (mRun μ c p).1 28 = μ 28 := mk 28 (by decide) (by decide) (by decide) (by decide) (by decide) (by decide) (by decide)
  have g29 : (mRun μ c p).1 29 = μ 29 := mk 29 (by decide) (by decide) (by decide) (by decide) (by decide) (by decide) (by decide)
  have g30 : (mRun μ c p).1 30 = μ 30 := mk 30 (by decide) (by decide) (by decide) (by decide) (by decide) (by decide) (by decide)
  have g31 : (mRun μ c p).1 31 = μ 31 := mk 31 (by decide) (by decide) (by decide) (by decide) (by decide) (by decide) (by decide)
  have g36 : (mRun μ c p).1 36 = μ 36 := mk 36 (by decide) (by decide) (by decide) (by decide) (by decide) (by decide) (by decide)
  have g37 : (mRun μ c p).1 37 = μ 37 := mk 37 (by decide) (by decide) (by decide) (by decide) (by decide) (by decide) (by decide)
  have g42 : (mRun μ c p).1 42 = μ 42 := mk 42 (by decide) (by decide) (by decide) (by decide) (by decide) (by decide) (by decide)
  have g43 : (mRun μ c p).1 43 = μ 43 := mk 43 (by decide) (by decide) (by decide) (by decide) (by decide) (by decide) (by decide)
  refine ⟨?_, r2⟩
  generalize o_run σ c p = S at *
  generalize mRun μ c p = M at *
  unfold Rel
  rw [k0 1 (by decide) (by decide), k0 3 (by decide) (by decide), k0 5 (by decide) (by decide), k0 14 (by decide) (by decide)]
  refine ⟨hxr, ?_, fun i hi => ?_, fun i hi => ?_, fun i => ?_, fun r hr => ?_, fun r hr => ?_, fun q hq => ?_, ?_, fun i hi => ?_⟩
  · unfold RN
    rw [k0 1 (by decide) (by decide), k0 3 (by decide) (by decide), k0 5 (by decide) (by decide), k0 7 (by decide) (by decide), k0 8 (by decide) (by decide), k0 9 (by decide) (by decide), k0 14 (by decide) (by decide), k010, k011, m24, m24, m24, m24, m24, m24, m24, m24, m24]
    exact ⟨⟨n4, n15, n18⟩, ⟨n8, n9, n10⟩, rfl, by show μ 24 0 24 + mMv μ (μ 24 0 23) p = _; rw [n24, n23, hmv], n27⟩
  · by_cases q : i = c
    · subst q
      obtain ⟨a, d, s⟩ := hC i hi
      refine ⟨?_, ?_, Or.inr ⟨p, by rw [k0 5 (by decide) (by decide)]; exact hp, by rw [m38, if_pos rfl], by rw [k1, if_pos ⟨rfl, rfl⟩, k8], fun j hj => ?_⟩⟩
      · rw [g25, g26, g27, g28, k1o i 0 (by decide) (by decide) (by decide) (by decide), k1o i 1 (by decide) (by decide) (by decide) (by decide), k1o i 2 (by decide) (by decide) (by decide) (by decide), k1o i 3 (by decide) (by decide) (by decide) (by decide)]
        exact a
      · unfold RD
        rw [g29, g30, g31, k2, k3, k1o i 6 (by decide) (by decide) (by decide) (by decide)]
        exact d
      · rw [k8] at hj
        obtain ⟨u1, u2⟩ := l3 j (by omega)
        rw [k4, if_pos ⟨rfl, by omega⟩, k5, if_pos ⟨rfl, by omega⟩, k9, m39, m40, u1, u2, r6]
        exact ⟨rfl, rfl, rfl⟩
    · have hj15 : ∀ j, j < 15 → ∀ q2, q2 < (σ 8 p 1).toNat → 15 * i + j ≠ 15 * c + q2 := fun j h1 q2 h2 => by omega
      refine RC_keep (hC i hi) (hx.2.2.2.2.2.2.1 i hi).1 (hx.2.2.2.2.2.2.1 i hi).2 ⟨k1i i q, by rw [k2], by rw [k3], ?_, ?_, k6 i q⟩ ⟨⟨by rw [g25], by rw [g26], by rw [g27], by rw [g28], by rw [g31], by rw [m38, if_neg q]⟩, fun j hj => by rw [g29, g30]; exact ⟨rfl, rfl⟩, fun j hj => by rw [m39, m40]; exact l4 _ (hj15 j hj)⟩ (fun p hp => by rw [k8, k9]; exact ⟨rfl, rfl⟩) (by rw [k0 5 (by decide) (by decide)]; exact Int.le_refl _)
      · funext j; rw [k4, if_neg (fun y => q y.1)]
      · funext j; rw [k5, if_neg (fun y => q y.1)]
  · unfold RU
    rw [k1i i (by omega), g31]
    exact hU i hi
  · have := hL i
    unfold RLo at this ⊢
    rw [e41, e41, e41]
    by_cases q : i = c
    · subst q
      rw [if_neg (by omega), if_neg (by omega), if_pos rfl, if_neg (by omega), if_pos rfl, if_pos rfl, k1, k1, k1]
      simp
    · rw [k1i i q, if_neg (by omega), if_neg (by omega), if_neg (by omega), if_neg (by omega), if_neg (by omega), if_neg (by omega), if_neg (by omega), if_neg (by omega), if_neg (by omega)]
      exact this
  · have := l2 r hr
    unfold RO at this ⊢
    rw [r7, m32, m33, m34, m35]
    exact this
  · have := hV r hr
    unfold RV at this ⊢
    rw [r7, ho.2.2.1 r hr, m34, l5 r hr]
    exact this
  · unfold RP
    rw [k8, k9, g36, g37]
    exact hP q hq
  · unfold RP
    rw [k8, k9, g36, g37]
    exact hDr
  · unfold RW
    rw [k17, k18, g42, g43]
    exact hWt i hi
