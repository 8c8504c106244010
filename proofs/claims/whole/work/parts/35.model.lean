theorem sti_10 {l : Launch} {g : oG} {own : String} {cc : ByteArray} {lam mc : Nat} {x : oCtx} {σ : oMem} {pc : Nat} {st : List Value} {k : Nat} {b0 b1 b2 b3 b4 b5 b6 b7 b8 b9 b10 : Option Value} {r : List (Option Value)} {z : Int} (C : oK l g own cc lam mc x) (hd : decode cc pc = .ok (.istore 10, 2)) (kk : oW l g x σ (pc + 2) (b0 :: b1 :: b2 :: b3 :: b4 :: b5 :: b6 :: b7 :: b8 :: b9 :: some (oi z) :: r) st k) : oW l g x σ pc (b0 :: b1 :: b2 :: b3 :: b4 :: b5 :: b6 :: b7 :: b8 :: b9 :: b10 :: r) (oi z :: st) k := o_istore (i := 10) C hd (by show 10 < List.length _; simp only [List.length_cons]; omega) kk
theorem inc_10 {l : Launch} {g : oG} {own : String} {cc : ByteArray} {lam mc : Nat} {x : oCtx} {σ : oMem} {pc : Nat} {st : List Value} {k : Nat} {b0 b1 b2 b3 b4 b5 b6 b7 b8 b9 : Option Value} {r : List (Option Value)} {n z : Int} (C : oK l g own cc lam mc x) (hd : decode cc pc = .ok (.iinc 10 n, 3)) (kk : oW l g x σ (pc + 3) (b0 :: b1 :: b2 :: b3 :: b4 :: b5 :: b6 :: b7 :: b8 :: b9 :: some (oi (z + n)) :: r) st k) : oW l g x σ pc (b0 :: b1 :: b2 :: b3 :: b4 :: b5 :: b6 :: b7 :: b8 :: b9 :: some (oi z) :: r) st k := o_iinc (i := 10) C hd rfl kk
theorem sti_11 {l : Launch} {g : oG} {own : String} {cc : ByteArray} {lam mc : Nat} {x : oCtx} {σ : oMem} {pc : Nat} {st : List Value} {k : Nat} {b0 b1 b2 b3 b4 b5 b6 b7 b8 b9 b10 b11 : Option Value} {r : List (Option Value)} {z : Int} (C : oK l g own cc lam mc x) (hd : decode cc pc = .ok (.istore 11, 2)) (kk : oW l g x σ (pc + 2) (b0 :: b1 :: b2 :: b3 :: b4 :: b5 :: b6 :: b7 :: b8 :: b9 :: b10 :: some (oi z) :: r) st k) : oW l g x σ pc (b0 :: b1 :: b2 :: b3 :: b4 :: b5 :: b6 :: b7 :: b8 :: b9 :: b10 :: b11 :: r) (oi z :: st) k := o_istore (i := 11) C hd (by show 11 < List.length _; simp only [List.length_cons]; omega) kk
theorem inc_11 {l : Launch} {g : oG} {own : String} {cc : ByteArray} {lam mc : Nat} {x : oCtx} {σ : oMem} {pc : Nat} {st : List Value} {k : Nat} {b0 b1 b2 b3 b4 b5 b6 b7 b8 b9 b10 : Option Value} {r : List (Option Value)} {n z : Int} (C : oK l g own cc lam mc x) (hd : decode cc pc = .ok (.iinc 11 n, 3)) (kk : oW l g x σ (pc + 3) (b0 :: b1 :: b2 :: b3 :: b4 :: b5 :: b6 :: b7 :: b8 :: b9 :: b10 :: some (oi (z + n)) :: r) st k) : oW l g x σ pc (b0 :: b1 :: b2 :: b3 :: b4 :: b5 :: b6 :: b7 :: b8 :: b9 :: b10 :: some (oi z) :: r) st k := o_iinc (i := 11) C hd rfl kk
theorem sti_12 {l : Launch} {g : oG} {own : String} {cc : ByteArray} {lam mc : Nat} {x : oCtx} {σ : oMem} {pc : Nat} {st : List Value} {k : Nat} {b0 b1 b2 b3 b4 b5 b6 b7 b8 b9 b10 b11 b12 : Option Value} {r : List (Option Value)} {z : Int} (C : oK l g own cc lam mc x) (hd : decode cc pc = .ok (.istore 12, 2)) (kk : oW l g x σ (pc + 2) (b0 :: b1 :: b2 :: b3 :: b4 :: b5 :: b6 :: b7 :: b8 :: b9 :: b10 :: b11 :: some (oi z) :: r) st k) : oW l g x σ pc (b0 :: b1 :: b2 :: b3 :: b4 :: b5 :: b6 :: b7 :: b8 :: b9 :: b10 :: b11 :: b12 :: r) (oi z :: st) k := o_istore (i := 12) C hd (by show 12 < List.length _; simp only [List.length_cons]; omega) kk
theorem inc_12 {l : Launch} {g : oG} {own : String} {cc : ByteArray} {lam mc : Nat} {x : oCtx} {σ : oMem} {pc : Nat} {st : List Value} {k : Nat} {b0 b1 b2 b3 b4 b5 b6 b7 b8 b9 b10 b11 : Option Value} {r : List (Option Value)} {n z : Int} (C : oK l g own cc lam mc x) (hd : decode cc pc = .ok (.iinc 12 n, 3)) (kk : oW l g x σ (pc + 3) (b0 :: b1 :: b2 :: b3 :: b4 :: b5 :: b6 :: b7 :: b8 :: b9 :: b10 :: b11 :: some (oi (z + n)) :: r) st k) : oW l g x σ pc (b0 :: b1 :: b2 :: b3 :: b4 :: b5 :: b6 :: b7 :: b8 :: b9 :: b10 :: b11 :: some (oi z) :: r) st k := o_iinc (i := 12) C hd rfl kk
theorem sti_13 {l : Launch} {g : oG} {own : String} {cc : ByteArray} {lam mc : Nat} {x : oCtx} {σ : oMem} {pc : Nat} {st : List Value} {k : Nat} {b0 b1 b2 b3 b4 b5 b6 b7 b8 b9 b10 b11 b12 b13 : Option Value} {r : List (Option Value)} {z : Int} (C : oK l g own cc lam mc x) (hd : decode cc pc = .ok (.istore 13, 2)) (kk : oW l g x σ (pc + 2) (b0 :: b1 :: b2 :: b3 :: b4 :: b5 :: b6 :: b7 :: b8 :: b9 :: b10 :: b11 :: b12 :: some (oi z) :: r) st k) : oW l g x σ pc (b0 :: b1 :: b2 :: b3 :: b4 :: b5 :: b6 :: b7 :: b8 :: b9 :: b10 :: b11 :: b12 :: b13 :: r) (oi z :: st) k := o_istore (i := 13) C hd (by show 13 < List.length _; simp only [List.length_cons]; omega) kk
theorem inc_13 {l : Launch} {g : oG} {own : String} {cc : ByteArray} {lam mc : Nat} {x : oCtx} {σ : oMem} {pc : Nat} {st : List Value} {k : Nat} {b0 b1 b2 b3 b4 b5 b6 b7 b8 b9 b10 b11 b12 : Option Value} {r : List (Option Value)} {n z : Int} (C : oK l g own cc lam mc x) (hd : decode cc pc = .ok (.iinc 13 n, 3)) (kk : oW l g x σ (pc + 3) (b0 :: b1 :: b2 :: b3 :: b4 :: b5 :: b6 :: b7 :: b8 :: b9 :: b10 :: b11 :: b12 :: some (oi (z + n)) :: r) st k) : oW l g x σ pc (b0 :: b1 :: b2 :: b3 :: b4 :: b5 :: b6 :: b7 :: b8 :: b9 :: b10 :: b11 :: b12 :: some (oi z) :: r) st k := o_iinc (i := 13) C hd rfl kk
/-- the model's taker, its deliveries -/
def mTkb (μ : oMem) (w h : Int) (r : Nat) : Bool := decide (μ 32 0 r = w ∧ mTk μ r h)
def mTaker (μ : oMem) (w h : Int) : Int := o_fs (mTkb μ w h) (μ 24 0 15).toNat
def mdS (μ : oMem) (c k : Nat) (its t : Int) : oMem := o_up (o_up (if t = -1 then μ else o_up (o_up μ 34 0 t.toNat (μ 34 0 t.toNat + its)) 35 0 t.toNat (μ 28 0 c)) 39 0 (15 * c + k) its) 40 0 (15 * c + k) t
def mIts (σ : oMem) (c p : Nat) (net : Int) (k : Nat) : Int := net * mW σ p k / σ 25 0 c
def mdl (σ : oMem) (c p : Nat) (net : Int) : Nat → oMem × Int
  | 0 => (σ, 0)
  | k + 1 => (mdS (mdl σ c p net k).1 c k (mIts σ c p net k) (mTaker (mdl σ c p net k).1 (mW σ p k) (σ 28 0 c)), if mTaker (mdl σ c p net k).1 (mW σ p k) (σ 28 0 c) = -1 then (mdl σ c p net k).2 else (mdl σ c p net k).2 + 1)
theorem mdS_k {μ : oMem} {c k : Nat} {its t : Int} {K : Nat} (h1 : K ≠ 34) (h2 : K ≠ 35) (h3 : K ≠ 39) (h4 : K ≠ 40) : mdS μ c k its t K = μ K := by
  unfold mdS
  rw [o_up_k h4, o_up_k h3]
  split
  · rfl
  · rw [o_up_k h2, o_up_k h1]
theorem mdl_k {σ : oMem} {c p : Nat} {net : Int} {K : Nat} (h1 : K ≠ 34) (h2 : K ≠ 35) (h3 : K ≠ 39) (h4 : K ≠ 40) : ∀ k : Nat, (mdl σ c p net k).1 K = σ K
  | 0 => rfl
  | k + 1 => by
    show mdS _ _ _ _ _ K = _
    rw [mdS_k h1 h2 h3 h4, mdl_k h1 h2 h3 h4 k]
theorem mdS_34 {μ : oMem} {c k : Nat} {its t : Int} (r : Nat) : mdS μ c k its t 34 0 r = if t ≠ -1 ∧ r = t.toNat then μ 34 0 r + its else μ 34 0 r := by
  unfold mdS
  rw [o_up_k (by decide), o_up_k (by decide)]
  by_cases h : t = -1
  · rw [if_pos h, if_neg (fun q => q.1 h)]
  · rw [if_neg h, o_up_k (by decide), o_up_at]
    by_cases e : r = t.toNat
    · rw [if_pos ⟨rfl, rfl, e⟩, if_pos ⟨h, e⟩, e]
    · rw [if_neg (fun q => e q.2.2), if_neg (fun q => e q.2)]
theorem mdS_35 {μ : oMem} {c k : Nat} {its t : Int} (r : Nat) : mdS μ c k its t 35 0 r = if t ≠ -1 ∧ r = t.toNat then μ 28 0 c else μ 35 0 r := by
  unfold mdS
  rw [o_up_k (by decide), o_up_k (by decide)]
  by_cases h : t = -1
  · rw [if_pos h, if_neg (fun q => q.1 h)]
  · rw [if_neg h, o_up_at]
    by_cases e : r = t.toNat
    · rw [if_pos ⟨rfl, rfl, e⟩, if_pos ⟨h, e⟩]
    · rw [if_neg (fun q => e q.2.2), if_neg (fun q => e q.2), o_up_k (by decide)]
theorem mdl_o {σ : oMem} {c p : Nat} {net : Int} {n : Nat} (hn : ∀ k, k < n → 0 ≤ mIts σ c p net k ∧ mIts σ c p net k ≤ 30000) (hh : -1 ≤ σ 28 0 c ∧ σ 28 0 c ≤ 99) (hO : ∀ r : Nat, (r : Int) < σ 24 0 15 → mO σ r) : ∀ k : Nat, k ≤ n → (∀ r : Nat, (r : Int) < σ 24 0 15 → mO (mdl σ c p net k).1 r) ∧ ∀ r : Nat, σ 24 0 15 ≤ r → (mdl σ c p net k).1 34 0 r = σ 34 0 r ∧ (mdl σ c p net k).1 35 0 r = σ 35 0 r := by
  intro k
  induction k with
  | zero => intro _; exact ⟨hO, fun _ _ => ⟨rfl, rfl⟩⟩
  | succ k ih =>
    intro hk
    obtain ⟨i1, i2⟩ := ih (by omega)
    have hw := hn k (by omega)
    have hb := o_fs_bd (P := mTkb (mdl σ c p net k).1 (mW σ p k) (σ 28 0 c)) (n := ((mdl σ c p net k).1 24 0 15).toNat)
    rw [show o_fs (mTkb (mdl σ c p net k).1 (mW σ p k) (σ 28 0 c)) ((mdl σ c p net k).1 24 0 15).toNat = mTaker (mdl σ c p net k).1 (mW σ p k) (σ 28 0 c) from rfl] at hb
    show (∀ r : Nat, (r : Int) < σ 24 0 15 → mO (mdS _ c k _ _) r) ∧ ∀ r : Nat, σ 24 0 15 ≤ r → mdS _ c k _ _ 34 0 r = σ 34 0 r ∧ mdS _ c k _ _ 35 0 r = σ 35 0 r
    generalize mTaker (mdl σ c p net k).1 (mW σ p k) (σ 28 0 c) = t at hb ⊢
    rw [mdl_k (by decide) (by decide) (by decide) (by decide) k] at hb
    have k28 : (mdl σ c p net k).1 28 0 c = σ 28 0 c := by rw [mdl_k (by decide) (by decide) (by decide) (by decide) k]
    obtain ⟨b1, b2, b3⟩ := hb
    refine ⟨fun r hr => ?_, fun r hr => ?_⟩
    · obtain ⟨a, b, d, e⟩ := i1 r hr
      unfold mO
      rw [mdS_34, mdS_35, mdS_k (by decide) (by decide) (by decide) (by decide), mdS_k (by decide) (by decide) (by decide) (by decide), k28]
      by_cases ht : t ≠ -1 ∧ r = t.toNat
      · have hq := b3 ht.1
        rw [← ht.2] at hq
        unfold mTkb at hq
        rw [decide_eq_true_iff] at hq
        have hk2 := hq.2.1
        rw [if_pos ht, if_pos ht]
        exact ⟨a, b, by omega, by omega⟩
      · rw [if_neg ht, if_neg ht]
        exact ⟨a, b, d, e⟩
    · rw [mdS_34, mdS_35, if_neg (by omega), if_neg (by omega)]
      exact i2 r hr
def mInner (σ : oMem) (c : Nat) : Int := if σ 24 0 9 < σ 26 0 c then σ 24 0 9 else σ 26 0 c
def mCutw (σ : oMem) (c : Nat) : Int := (σ 26 0 c - mInner σ c) * mCut σ c / σ 27 0 c
def mNet (σ : oMem) (c : Nat) : Int := σ 26 0 c - mInner σ c - mCutw σ c
def mPre (σ : oMem) (c p : Nat) : oMem := o_up (o_up (o_up σ 24 0 24 (σ 24 0 24 + mMv σ (σ 24 0 23) p)) 24 0 23 p) 38 0 c p
def mRun (σ : oMem) (c p : Nat) : oMem × Int := (o_up (o_up (o_up (mdl (mPre σ c p) c p (mNet σ c) (σ 37 0 p).toNat).1 41 0 (3 * c) (mInner σ c)) 41 0 (3 * c + 1) (mCutw σ c)) 41 0 (3 * c + 2) (mNet σ c - o_sum (mIts σ c p (mNet σ c)) (σ 37 0 p).toNat), (mdl (mPre σ c p) c p (mNet σ c) (σ 37 0 p).toNat).2)
def mC (σ : oMem) (c : Nat) : Prop := (100 ≤ σ 25 0 c ∧ σ 25 0 c ≤ 2000) ∧ (1 ≤ σ 26 0 c ∧ σ 26 0 c ≤ 30000) ∧ (10 ≤ σ 27 0 c ∧ σ 27 0 c ≤ 5000) ∧ (1 ≤ σ 28 0 c ∧ σ 28 0 c ≤ 99) ∧ mD σ c
theorem mC_net {σ : oMem} {c : Nat} (h : mC σ c) (hl : 0 ≤ σ 24 0 9 ∧ σ 24 0 9 ≤ 500) : 0 ≤ mInner σ c ∧ mInner σ c ≤ σ 26 0 c ∧ 0 ≤ mCut σ c ∧ mCut σ c ≤ σ 27 0 c ∧ 0 ≤ (σ 26 0 c - mInner σ c) * mCut σ c ∧ (σ 26 0 c - mInner σ c) * mCut σ c ≤ 150000000 ∧ 0 ≤ mCutw σ c ∧ 0 ≤ mNet σ c ∧ mNet σ c ≤ 30000 := by
  obtain ⟨w, g1, le, he, d⟩ := h
  have i0 : 0 ≤ mInner σ c := by unfold mInner; split <;> omega
  have i1 : mInner σ c ≤ σ 26 0 c := by unfold mInner; split <;> omega
  have hs := o_sum_01 (f := fun m => if mCv σ c m (σ 31 0 c).toNat = true then 1 else 0) (fun j => by split <;> omega) (σ 27 0 c).toNat
  have c0 : 0 ≤ mCut σ c := hs.1
  have c1 : mCut σ c ≤ σ 27 0 c := by unfold mCut; omega
  have m0 : 0 ≤ (σ 26 0 c - mInner σ c) * mCut σ c := Int.mul_nonneg (by omega) c0
  have m1 : (σ 26 0 c - mInner σ c) * mCut σ c ≤ (σ 26 0 c - mInner σ c) * σ 27 0 c := Int.mul_le_mul_of_nonneg_left c1 (by omega)
  have m2 : (σ 26 0 c - mInner σ c) * σ 27 0 c ≤ 30000 * 5000 := Int.mul_le_mul (by omega) (by omega) (by omega) (by omega)
  have q0 : 0 ≤ mCutw σ c := Int.ediv_nonneg m0 (by omega)
  have q1 : mCutw σ c ≤ σ 26 0 c - mInner σ c := Int.ediv_le_of_le_mul (by omega) (by omega)
  refine ⟨i0, i1, c0, c1, m0, by omega, q0, ?_, ?_⟩ <;> unfold mNet <;> omega
theorem mIts_bd {σ : oMem} {c p k : Nat} {net : Int} (hw : 100 ≤ σ 25 0 c) (h0 : 0 ≤ net) (h1 : net ≤ 30000) (hk : 0 ≤ mW σ p k ∧ mW σ p k ≤ σ 25 0 c) : 0 ≤ mIts σ c p net k ∧ mIts σ c p net k ≤ 30000 := by
  have m0 : 0 ≤ net * mW σ p k := Int.mul_nonneg (by omega) (by omega)
  have m1 : net * mW σ p k ≤ 30000 * σ 25 0 c := Int.mul_le_mul (by omega) (by omega) (by omega) (by omega)
  unfold mIts
  exact ⟨Int.ediv_nonneg m0 (by omega), Int.ediv_le_of_le_mul (by omega) m1⟩
theorem o_fs_down {P : Nat → Bool} {n : Nat} {t : Int} (h : (t = -1 ∧ ∀ r, r < n → P r = false) ∨ ∃ r : Nat, r < n ∧ P r = true ∧ (∀ q, q < r → P q = false) ∧ t = r) : t = o_fs P n := by
  rcases h with ⟨h1, h2⟩ | ⟨r, h1, h2, h3, h4⟩
  · rw [h1, o_fs_none h2]
  · rw [h4, o_fs_some h1 h2 h3]
set_option maxRecDepth 100000 in
set_option maxHeartbeats 1000000 in
theorem c_X6_runs {l : Launch} {g : oG} {σ : oMem} {c p : Nat} (hc : c < 20) (hp : p < 10) (hC : mC σ c) (hP : mP σ p) (hl : 0 ≤ σ 24 0 9 ∧ σ 24 0 9 ≤ 500) (hs : -1 ≤ σ 24 0 23 ∧ σ 24 0 23 ≤ 10) (hS : 0 ≤ σ 24 0 23 → mP σ (σ 24 0 23).toNat) (hf : o_sum (mW σ p) (σ 37 0 p).toNat ≤ σ 25 0 c) (hn : 0 ≤ σ 24 0 15 ∧ σ 24 0 15 ≤ 12) (hO : ∀ r : Nat, (r : Int) < σ 24 0 15 → mO σ r) : oMi l g yX6_runs (.code yX6_runs cX6_runs 14 (some .int)) 3 0 [.ref (g.2.1 24 0), oi (c : Int), oi (p : Int)] σ (fun z σ' => z = (mRun σ c p).2 ∧ σ' = (mRun σ c p).1) := by
  refine oMi_of (own := RX6) (by decide +kernel) rfl (by simp [oi, Value.category]) (by simp) (fun x C E => ?_)
  show oW l g x σ 0 [some (.ref (g.2.1 24 0)), some (oi (c : Int)), some (oi (p : Int)), none, none, none, none, none, none, none, none, none, none, none] [] 0
  have hnet := mC_net hC hl
  obtain ⟨cw, cg, cl, ch, cd⟩ := id hC
  obtain ⟨p0, p1, p2⟩ := id hP
  obtain ⟨net, hne⟩ : ∃ net, net = mNet σ c := ⟨_, rfl⟩
  obtain ⟨σ0, hσ0⟩ : ∃ σ0, σ0 = mPre σ c p := ⟨_, rfl⟩
  have s : ∀ K, K ≠ 24 → K ≠ 38 → σ0 K = σ K := fun K h1 h2 => by rw [hσ0]; unfold mPre; rw [o_up_k h2, o_up_k h1, o_up_k h1]
  have s15 : σ0 24 0 15 = σ 24 0 15 := by rw [hσ0]; unfold mPre; rw [o_up_k (by decide), o_up_j (by decide), o_up_j (by decide)]
  have sW : mW σ0 p = mW σ p := by unfold mW; rw [s 36 (by decide) (by decide)]
  have sI : ∀ k, mIts σ0 c p net k = mIts σ c p net k := fun k => by unfold mIts; rw [sW, s 25 (by decide) (by decide)]
  have hwk : ∀ k : Nat, (k : Int) < σ 37 0 p → mW σ p k ≤ σ 25 0 c := fun k hk => by
    have := (o_sum_ge (f := mW σ p) (σ 37 0 p).toNat (fun q hq => by have := p2 q (by omega); omega)).2 k (by omega)
    omega
  have hits : ∀ k : Nat, (k : Int) < σ 37 0 p → 0 ≤ mIts σ c p net k ∧ mIts σ c p net k ≤ 30000 := fun k hk => mIts_bd (by omega) (by omega) (by omega) ⟨by have := p2 k hk; omega, hwk k hk⟩
  have sO : ∀ r : Nat, mO σ0 r = mO σ r := fun r => by unfold mO; rw [s 32 (by decide) (by decide), s 33 (by decide) (by decide), s 34 (by decide) (by decide), s 35 (by decide) (by decide)]
  have hmo := mdl_o (σ := σ0) (c := c) (p := p) (net := net) (n := (σ 37 0 p).toNat) (fun k hk => by rw [sI]; exact hits k (by omega)) (by rw [s 28 (by decide) (by decide)]; omega) (fun r hr => by rw [sO]; exact hO r (by rw [s15] at hr; exact hr))
  have L : ∀ (n t : Nat) (tr m i : Int) (r10 r11 r12 r13 : Option Value), σ 37 0 p < t + n → (t : Int) ≤ σ 37 0 p → i = t → tr = net - o_sum (mIts σ c p net) t → m = (mdl σ0 c p net t).2 → oW l g x (mdl σ0 c p net t).1 101 [some (.ref (g.2.1 24 0)), some (oi (c : Int)), some (oi (p : Int)), some (oi (mInner σ c)), some (oi (σ 26 0 c - mInner σ c)), some (oi (mCutw σ c)), some (oi net), some (oi tr), some (oi m), some (oi i), r10, r11, r12, r13] [] 0 := by
    intro n
    induction n with
    | zero => intro t tr m i r10 r11 r12 r13 a1 a2; omega
    | succ n ih =>
      intro t tr m i r10 r11 r12 r13 a1 a2 a3 a4 a5
      subst a3
      have hmot := hmo t (by omega)
      have kf : ∀ K, K ≠ 34 → K ≠ 35 → K ≠ 39 → K ≠ 40 → (mdl σ0 c p net t).1 K = σ0 K := fun K h1 h2 h3 h4 => mdl_k h1 h2 h3 h4 t
      have ih2 := ih (t + 1)
      simp only [mdl] at ih2
      obtain ⟨μ, hμ⟩ : ∃ μ, μ = (mdl σ0 c p net t).1 := ⟨_, rfl⟩
      rw [← hμ] at hmot kf ih2 ⊢
      have k37 : μ 37 = σ 37 := by rw [kf 37 (by decide) (by decide) (by decide) (by decide), s 37 (by decide) (by decide)]
      have k36 : μ 36 = σ 36 := by rw [kf 36 (by decide) (by decide) (by decide) (by decide), s 36 (by decide) (by decide)]
      have k25 : μ 25 = σ 25 := by rw [kf 25 (by decide) (by decide) (by decide) (by decide), s 25 (by decide) (by decide)]
      have k28 : μ 28 = σ 28 := by rw [kf 28 (by decide) (by decide) (by decide) (by decide), s 28 (by decide) (by decide)]
      have k15 : μ 24 0 15 = σ 24 0 15 := by rw [kf 24 (by decide) (by decide) (by decide) (by decide), s15]
      have ec : ((c : Int)).toNat = c := by omega
      have ep : ((p : Int)).toNat = p := by omega
      rw [s15] at hmot
      rw [sI, sW, s 28 (by decide) (by decide)] at ih2
      have L3 : (t : Int) < σ 37 0 p → (∀ ord j : Int, ord = mTaker μ (mW σ p t) (σ 28 0 c) → oW l g x μ 198 [some (.ref (g.2.1 24 0)), some (oi (c : Int)), some (oi (p : Int)), some (oi (mInner σ c)), some (oi (σ 26 0 c - mInner σ c)), some (oi (mCutw σ c)), some (oi net), some (oi tr), some (oi m), some (oi (t : Int)), some (oi (mW σ p t)), some (oi (mIts σ c p net t)), some (oi ord), some (oi j)] [] 0) → ∀ (q : Nat) (ord j : Int), (q : Int) ≤ σ 24 0 15 → j = (q : Int) - 1 → ((ord = -1 ∧ ∀ r : Nat, q ≤ r → (r : Int) < σ 24 0 15 → mTkb μ (mW σ p t) (σ 28 0 c) r = false) ∨ ∃ r : Nat, q ≤ r ∧ (r : Int) < σ 24 0 15 ∧ mTkb μ (mW σ p t) (σ 28 0 c) r = true ∧ (∀ z : Nat, q ≤ z → z < r → mTkb μ (mW σ p t) (σ 28 0 c) z = false) ∧ ord = r) → oW l g x μ 151 [some (.ref (g.2.1 24 0)), some (oi (c : Int)), some (oi (p : Int)), some (oi (mInner σ c)), some (oi (σ 26 0 c - mInner σ c)), some (oi (mCutw σ c)), some (oi net), some (oi tr), some (oi m), some (oi (t : Int)), some (oi (mW σ p t)), some (oi (mIts σ c p net t)), some (oi ord), some (oi j)] [] 0 := by
        intro ht kk q
        induction q with
        | zero =>
          intro ord j b1 b2 b3
          refine o_iload (pc := 151) C dX6_runs_151 rfl ?_
          refine o_if_lt (pc := 153) C (tgt := 198) dX6_runs_153 (by decide) (by omega) (fun h153 => ?_) (fun h153 => ?_)
          · refine kk _ _ ?_
            unfold mTaker
            rw [k15]
            refine o_fs_down ?_
            rcases b3 with ⟨y1, y2⟩ | ⟨r, y1, y2, y3, y4, y5⟩
            · exact Or.inl ⟨y1, fun r hr => y2 r (Nat.zero_le r) (by omega)⟩
            · exact Or.inr ⟨r, by omega, y3, fun z hz => y4 z (Nat.zero_le z) hz, y5⟩
          · omega
        | succ q ihq =>
          intro ord j b1 b2 b3
          have ej : j = (q : Int) := by omega
          subst ej
          have eq : ((q : Int)).toNat = q := by omega
          have hoq := hmot.1 q (by omega)
          have hoq0 := hoq.1
          have hw9 := p2 t ht
          have hno : mTkb μ (mW σ p t) (σ 28 0 c) q = false → ∀ j2 : Int, j2 = (q : Int) - 1 → oW l g x μ 151 [some (.ref (g.2.1 24 0)), some (oi (c : Int)), some (oi (p : Int)), some (oi (mInner σ c)), some (oi (σ 26 0 c - mInner σ c)), some (oi (mCutw σ c)), some (oi net), some (oi tr), some (oi m), some (oi (t : Int)), some (oi (mW σ p t)), some (oi (mIts σ c p net t)), some (oi ord), some (oi j2)] [] 0 := fun hf2 j2 hj2 => by
            refine ihq _ _ (by omega) hj2 ?_
            rcases b3 with ⟨y1, y2⟩ | ⟨r, y1, y2, y3, y4, y5⟩
            · refine Or.inl ⟨y1, fun r r1 r2 => ?_⟩
              rcases Nat.lt_or_eq_of_le r1 with z | z
              · exact y2 r z r2
              · subst z; exact hf2
            · refine Or.inr ⟨r, by omega, y2, y3, fun z z1 z2 => ?_, y5⟩
              rcases Nat.lt_or_eq_of_le z1 with w | w
              · exact y4 z w z2
              · subst w; exact hf2
          refine o_iload (pc := 151) C dX6_runs_151 rfl ?_
          refine o_if_lt (pc := 153) C (tgt := 198) dX6_runs_153 (by decide) (by omega) (fun h153 => ?_) (fun h153 => ?_)
          · omega
          · refine o_aload_n (pc := 156) C dX6_runs_156 rfl ?_
            refine gf_X6_41 (pc := 157) C dX6_runs_157 ?_
            refine o_iload (pc := 160) C dX6_runs_160 rfl ?_
            refine ia_32 (pc := 162) C (by omega) (by omega) dX6_runs_162 ?_
            rw [eq]
            refine o_iload (pc := 163) C dX6_runs_163 rfl ?_
            refine o_icmp_ne (pc := 165) C (tgt := 188) dX6_runs_165 (by decide) (by omega) (by omega) (fun h165 => ?_) (fun h165 => ?_)
            · refine o_iload (pc := 188) C dX6_runs_188 rfl ?_
              refine sti_12 (pc := 190) C dX6_runs_190 ?_
              refine inc_13 (pc := 192) C dX6_runs_192 ?_
              refine o_goto (pc := 195) C (tgt := 151) dX6_runs_195 (by decide) ?_
              first
              | (have y := h180
                 first
                 | exact hno (decide_eq_false (fun z => o_f h180 z.2)) _ (by omega)
                 | exact ihq _ _ (by omega) (by omega) (Or.inr ⟨q, Nat.le_refl q, by omega, decide_eq_true ⟨h165, o_t h180⟩, fun z z1 z2 => by omega, rfl⟩))
              | exact hno (decide_eq_false (fun z => h165 z.1)) _ (by omega)
            · refine o_aload_n (pc := 168) C dX6_runs_168 rfl ?_
              refine o_iload (pc := 169) C dX6_runs_169 rfl ?_
              refine o_aload_n (pc := 171) C dX6_runs_171 rfl ?_
              refine gf_X6_19 (pc := 172) C dX6_runs_172 ?_
              refine o_iload_n (pc := 175) C dX6_runs_175 rfl ?_
              refine ia_28 (pc := 176) C (by omega) (by omega) dX6_runs_176 ?_
              rw [ec, k28]
              refine cl_X6_138 (pc := 177) C (c_X6_takes (by omega) hoq (by omega)) (by omega) (by omega) (Nat.le_of_ble_eq_true rfl) dX6_runs_177 (fun z σ2 hq => ?_)
              obtain ⟨rfl, hq⟩ := hq
              rw [hq]; clear hq
              refine o_if_eq (pc := 180) C (tgt := 188) dX6_runs_180 (by decide) (by unfold b2i; split <;> omega) (fun h180 => ?_) (fun h180 => ?_)
              · refine o_iload (pc := 188) C dX6_runs_188 rfl ?_
                refine sti_12 (pc := 190) C dX6_runs_190 ?_
                refine inc_13 (pc := 192) C dX6_runs_192 ?_
                refine o_goto (pc := 195) C (tgt := 151) dX6_runs_195 (by decide) ?_
                first
                | (have y := h180
                   first
                   | exact hno (decide_eq_false (fun z => o_f h180 z.2)) _ (by omega)
                   | exact ihq _ _ (by omega) (by omega) (Or.inr ⟨q, Nat.le_refl q, by omega, decide_eq_true ⟨h165, o_t h180⟩, fun z z1 z2 => by omega, rfl⟩))
                | exact hno (decide_eq_false (fun z => h165 z.1)) _ (by omega)
              · refine o_iload (pc := 183) C dX6_runs_183 rfl ?_
                refine o_goto (pc := 185) C (tgt := 190) dX6_runs_185 (by decide) ?_
                refine sti_12 (pc := 190) C dX6_runs_190 ?_
                refine inc_13 (pc := 192) C dX6_runs_192 ?_
                refine o_goto (pc := 195) C (tgt := 151) dX6_runs_195 (by decide) ?_
                first
                | (have y := h180
                   first
                   | exact hno (decide_eq_false (fun z => o_f h180 z.2)) _ (by omega)
                   | exact ihq _ _ (by omega) (by omega) (Or.inr ⟨q, Nat.le_refl q, by omega, decide_eq_true ⟨h165, o_t h180⟩, fun z z1 z2 => by omega, rfl⟩))
                | exact hno (decide_eq_false (fun z => h165 z.1)) _ (by omega)
      refine o_iload (pc := 101) C dX6_runs_101 rfl ?_
      refine o_aload_n (pc := 103) C dX6_runs_103 rfl ?_
      refine gf_X6_56 (pc := 104) C dX6_runs_104 ?_
      refine o_iload_n (pc := 107) C dX6_runs_107 rfl ?_
      refine ia_37 (pc := 108) C (by omega) (by omega) dX6_runs_108 ?_
      rw [ep, k37]
      refine o_icmp_ge (pc := 109) C (tgt := 273) dX6_runs_109 (by decide) (by omega) (by omega) (fun h109 => ?_) (fun h109 => ?_)
      · refine o_aload_n (pc := 273) C dX6_runs_273 rfl ?_
        refine gf_X6_68 (pc := 274) C dX6_runs_274 ?_
        refine o_iconst (pc := 277) C dX6_runs_277 ?_
        refine o_iload_n (pc := 278) C dX6_runs_278 rfl ?_
        refine o_imul (pc := 279) C dX6_runs_279 ?_
        refine o_iload_n (pc := 280) C dX6_runs_280 rfl ?_
        refine is_41 (pc := 281) C (by omega) (by omega) dX6_runs_281 ?_
        refine o_aload_n (pc := 282) C dX6_runs_282 rfl ?_
        refine gf_X6_68 (pc := 283) C dX6_runs_283 ?_
        refine o_iconst (pc := 286) C dX6_runs_286 ?_
        refine o_iload_n (pc := 287) C dX6_runs_287 rfl ?_
        refine o_imul (pc := 288) C dX6_runs_288 ?_
        refine o_iconst (pc := 289) C dX6_runs_289 ?_
        refine o_iadd (pc := 290) C dX6_runs_290 ?_
        refine o_iload (pc := 291) C dX6_runs_291 rfl ?_
        refine is_41 (pc := 293) C (by omega) (by omega) dX6_runs_293 ?_
        refine o_aload_n (pc := 294) C dX6_runs_294 rfl ?_
        refine gf_X6_68 (pc := 295) C dX6_runs_295 ?_
        refine o_iconst (pc := 298) C dX6_runs_298 ?_
        refine o_iload_n (pc := 299) C dX6_runs_299 rfl ?_
        refine o_imul (pc := 300) C dX6_runs_300 ?_
        refine o_iconst (pc := 301) C dX6_runs_301 ?_
        refine o_iadd (pc := 302) C dX6_runs_302 ?_
        refine o_iload (pc := 303) C dX6_runs_303 rfl ?_
        refine is_41 (pc := 305) C (by omega) (by omega) dX6_runs_305 ?_
        refine o_iload (pc := 306) C dX6_runs_306 rfl ?_
        rw [hμ]
        have en : (σ 37 0 p).toNat = t := by omega
        exact E _ _ _ _ _ dX6_runs_308 rfl ⟨by unfold mRun; rw [en, ← hne, ← hσ0]; exact a5, by unfold mRun; rw [en, ← hne, ← hσ0, show (3 * (c : Int)).toNat = 3 * c by omega, show (3 * (c : Int) + 1).toNat = 3 * c + 1 by omega, show (3 * (c : Int) + 2).toNat = 3 * c + 2 by omega, a4]⟩ (by omega)
      · have hw9 := p2 t (by omega)
        have hwk9 := hwk t (by omega)
        have m0 : 0 ≤ net * mW σ p t := Int.mul_nonneg (by omega) (by omega)
        have m1 : net * mW σ p t ≤ 30000 * 1000 := Int.mul_le_mul (by omega) (by omega) (by omega) (by omega)
        refine o_aload_n (pc := 112) C dX6_runs_112 rfl ?_
        refine gf_X6_53 (pc := 113) C dX6_runs_113 ?_
        refine o_bipush (pc := 116) C dX6_runs_116 rfl ?_
        refine o_iload_n (pc := 118) C dX6_runs_118 rfl ?_
        refine o_imul (pc := 119) C dX6_runs_119 ?_
        refine o_iload (pc := 120) C dX6_runs_120 rfl ?_
        refine o_iadd (pc := 122) C dX6_runs_122 ?_
        refine ia_36 (pc := 123) C (by omega) (by omega) dX6_runs_123 ?_
        rw [e_iw, k36, show σ 36 0 (15 * p + t) = mW σ p t from rfl]
        refine sti_10 (pc := 124) C dX6_runs_124 ?_
        refine o_iload (pc := 126) C dX6_runs_126 rfl ?_
        refine o_iload (pc := 128) C dX6_runs_128 rfl ?_
        refine o_imul (pc := 130) C dX6_runs_130 ?_
        refine o_aload_n (pc := 131) C dX6_runs_131 rfl ?_
        refine gf_X6_7 (pc := 132) C dX6_runs_132 ?_
        refine o_iload_n (pc := 135) C dX6_runs_135 rfl ?_
        refine ia_25 (pc := 136) C (by omega) (by omega) dX6_runs_136 ?_
        rw [ec, k25]
        refine o_idiv (pc := 137) C dX6_runs_137 (by omega) (by omega) (by omega) (by omega) ?_
        rw [show net * mW σ p t / σ 25 0 c = mIts σ c p net t from rfl]
        refine sti_11 (pc := 138) C dX6_runs_138 ?_
        refine o_iconst (pc := 140) C dX6_runs_140 ?_
        refine sti_12 (pc := 141) C dX6_runs_141 ?_
        refine o_aload_n (pc := 143) C dX6_runs_143 rfl ?_
        refine gf_X6_121 (pc := 144) C dX6_runs_144 ?_
        rw [k15]
        refine o_iconst (pc := 147) C dX6_runs_147 ?_
        refine o_isub (pc := 148) C dX6_runs_148 ?_
        refine sti_13 (pc := 149) C dX6_runs_149 ?_
        refine L3 (by omega) (fun ord j hord => ?_) (σ 24 0 15).toNat _ _ (by omega) (by omega) (Or.inl ⟨rfl, fun r r1 r2 => by omega⟩)
        have hb9 := o_fs_bd (P := mTkb μ (mW σ p t) (σ 28 0 c)) (n := (μ 24 0 15).toNat)
        rw [show o_fs (mTkb μ (mW σ p t) (σ 28 0 c)) (μ 24 0 15).toNat = mTaker μ (mW σ p t) (σ 28 0 c) from rfl, ← hord, k15] at hb9
        obtain ⟨hb1, hb2, hb3⟩ := hb9
        rw [← hord] at ih2
        have ei : (15 * (c : Int) + (t : Int)).toNat = 15 * c + t := by omega
        refine o_iload (pc := 198) C dX6_runs_198 rfl ?_
        refine o_iconst (pc := 200) C dX6_runs_200 ?_
        refine o_icmp_eq (pc := 201) C (tgt := 232) dX6_runs_201 (by decide) (by omega) (by omega) (fun h201 => ?_) (fun h201 => ?_)
        · refine o_aload_n (pc := 232) C dX6_runs_232 rfl ?_
          refine gf_X6_62 (pc := 233) C dX6_runs_233 ?_
          refine o_bipush (pc := 236) C dX6_runs_236 rfl ?_
          refine o_iload_n (pc := 238) C dX6_runs_238 rfl ?_
          refine o_imul (pc := 239) C dX6_runs_239 ?_
          refine o_iload (pc := 240) C dX6_runs_240 rfl ?_
          refine o_iadd (pc := 242) C dX6_runs_242 ?_
          refine o_iload (pc := 243) C dX6_runs_243 rfl ?_
          refine is_39 (pc := 245) C (by omega) (by omega) dX6_runs_245 ?_
          refine o_aload_n (pc := 246) C dX6_runs_246 rfl ?_
          refine gf_X6_65 (pc := 247) C dX6_runs_247 ?_
          refine o_bipush (pc := 250) C dX6_runs_250 rfl ?_
          refine o_iload_n (pc := 252) C dX6_runs_252 rfl ?_
          refine o_imul (pc := 253) C dX6_runs_253 ?_
          refine o_iload (pc := 254) C dX6_runs_254 rfl ?_
          refine o_iadd (pc := 256) C dX6_runs_256 ?_
          refine o_iload (pc := 257) C dX6_runs_257 rfl ?_
          refine is_40 (pc := 259) C (by omega) (by omega) dX6_runs_259 ?_
          refine o_iload (pc := 260) C dX6_runs_260 rfl ?_
          refine o_iload (pc := 262) C dX6_runs_262 rfl ?_
          refine o_isub (pc := 264) C dX6_runs_264 ?_
          refine sti_7 (pc := 265) C dX6_runs_265 ?_
          refine inc_9 (pc := 267) C dX6_runs_267 ?_
          refine o_goto (pc := 270) C (tgt := 101) dX6_runs_270 (by decide) ?_
          rw [ei]
          first
          | (have e := ih2 (tr - mIts σ c p net t) m ((t : Int) + 1) (some (oi (mW σ p t))) (some (oi (mIts σ c p net t))) (some (oi ord)) (some (oi j)) (by omega) (by omega) (by omega) (by rw [o_sum, a4]; omega) (by rw [if_pos h201, a5])
             unfold mdS at e
             rw [if_pos h201] at e
             exact e)
          | (have e := ih2 (tr - mIts σ c p net t) (m + 1) ((t : Int) + 1) (some (oi (mW σ p t))) (some (oi (mIts σ c p net t))) (some (oi ord)) (some (oi j)) (by omega) (by omega) (by omega) (by rw [o_sum, a4]; omega) (by rw [if_neg h201, a5])
             unfold mdS at e
             rw [if_neg h201, k28] at e
             exact e)
        · refine o_aload_n (pc := 204) C dX6_runs_204 rfl ?_
          refine gf_X6_47 (pc := 205) C dX6_runs_205 ?_
          refine o_iload (pc := 208) C dX6_runs_208 rfl ?_
          refine o_dup2 (pc := 210) C dX6_runs_210 rfl rfl ?_
          skip
          refine ia_34 (pc := 211) C (by omega) (by omega) dX6_runs_211 ?_
          refine o_iload (pc := 212) C dX6_runs_212 rfl ?_
          refine o_iadd (pc := 214) C dX6_runs_214 ?_
          refine is_34 (pc := 215) C (by omega) (by omega) dX6_runs_215 ?_
          refine o_aload_n (pc := 216) C dX6_runs_216 rfl ?_
          refine gf_X6_50 (pc := 217) C dX6_runs_217 ?_
          refine o_iload (pc := 220) C dX6_runs_220 rfl ?_
          refine o_aload_n (pc := 222) C dX6_runs_222 rfl ?_
          refine gf_X6_19 (pc := 223) C dX6_runs_223 ?_
          refine o_iload_n (pc := 226) C dX6_runs_226 rfl ?_
          refine ia_28 (pc := 227) C (by omega) (by omega) dX6_runs_227 ?_
          rw [ec, o_up_k (by decide), k28]
          refine is_35 (pc := 228) C (by omega) (by omega) dX6_runs_228 ?_
          refine inc_8 (pc := 229) C dX6_runs_229 ?_
          refine o_aload_n (pc := 232) C dX6_runs_232 rfl ?_
          refine gf_X6_62 (pc := 233) C dX6_runs_233 ?_
          refine o_bipush (pc := 236) C dX6_runs_236 rfl ?_
          refine o_iload_n (pc := 238) C dX6_runs_238 rfl ?_
          refine o_imul (pc := 239) C dX6_runs_239 ?_
          refine o_iload (pc := 240) C dX6_runs_240 rfl ?_
          refine o_iadd (pc := 242) C dX6_runs_242 ?_
          refine o_iload (pc := 243) C dX6_runs_243 rfl ?_
          refine is_39 (pc := 245) C (by omega) (by omega) dX6_runs_245 ?_
          refine o_aload_n (pc := 246) C dX6_runs_246 rfl ?_
          refine gf_X6_65 (pc := 247) C dX6_runs_247 ?_
          refine o_bipush (pc := 250) C dX6_runs_250 rfl ?_
          refine o_iload_n (pc := 252) C dX6_runs_252 rfl ?_
          refine o_imul (pc := 253) C dX6_runs_253 ?_
          refine o_iload (pc := 254) C dX6_runs_254 rfl ?_
          refine o_iadd (pc := 256) C dX6_runs_256 ?_
          refine o_iload (pc := 257) C dX6_runs_257 rfl ?_
          refine is_40 (pc := 259) C (by omega) (by omega) dX6_runs_259 ?_
          refine o_iload (pc := 260) C dX6_runs_260 rfl ?_
          refine o_iload (pc := 262) C dX6_runs_262 rfl ?_
          refine o_isub (pc := 264) C dX6_runs_264 ?_
          refine sti_7 (pc := 265) C dX6_runs_265 ?_
          refine inc_9 (pc := 267) C dX6_runs_267 ?_
          refine o_goto (pc := 270) C (tgt := 101) dX6_runs_270 (by decide) ?_
          rw [ei]
          first
          | (have e := ih2 (tr - mIts σ c p net t) m ((t : Int) + 1) (some (oi (mW σ p t))) (some (oi (mIts σ c p net t))) (some (oi ord)) (some (oi j)) (by omega) (by omega) (by omega) (by rw [o_sum, a4]; omega) (by rw [if_pos h201, a5])
             unfold mdS at e
             rw [if_pos h201] at e
             exact e)
          | (have e := ih2 (tr - mIts σ c p net t) (m + 1) ((t : Int) + 1) (some (oi (mW σ p t))) (some (oi (mIts σ c p net t))) (some (oi ord)) (some (oi j)) (by omega) (by omega) (by omega) (by rw [o_sum, a4]; omega) (by rw [if_neg h201, a5])
             unfold mdS at e
             rw [if_neg h201, k28] at e
             exact e)
  have K56 : ∀ v : Int, v = mInner σ c → oW l g x σ0 56 [some (.ref (g.2.1 24 0)), some (oi (c : Int)), some (oi (p : Int)), none, none, none, none, none, none, none, none, none, none, none] [oi v] 0 := by
    intro v hv
    subst hv
    have ec : ((c : Int)).toNat = c := by omega
    have k26 : σ0 26 = σ 26 := s 26 (by decide) (by decide)
    have k27 : σ0 27 = σ 27 := s 27 (by decide) (by decide)
    have kcut : mCut σ0 c = mCut σ c := by unfold mCut mCv; rw [k27, s 29 (by decide) (by decide), s 30 (by decide) (by decide), s 31 (by decide) (by decide)]
    have kD : mD σ0 c := by unfold mD; rw [s 29 (by decide) (by decide), s 30 (by decide) (by decide), s 31 (by decide) (by decide)]; exact cd
    refine sti_3 (pc := 56) C dX6_runs_56 ?_
    refine o_aload_n (pc := 57) C dX6_runs_57 rfl ?_
    refine gf_X6_13 (pc := 58) C dX6_runs_58 ?_
    refine o_iload_n (pc := 61) C dX6_runs_61 rfl ?_
    refine ia_26 (pc := 62) C (by omega) (by omega) dX6_runs_62 ?_
    rw [ec, k26]
    refine o_iload_n (pc := 63) C dX6_runs_63 rfl ?_
    refine o_isub (pc := 64) C dX6_runs_64 ?_
    refine sti_4 (pc := 65) C dX6_runs_65 ?_
    refine o_iload (pc := 67) C dX6_runs_67 rfl ?_
    refine o_aload_n (pc := 69) C dX6_runs_69 rfl ?_
    refine o_iload_n (pc := 70) C dX6_runs_70 rfl ?_
    refine cl_X6_113 (pc := 71) C (c_X6_cutOut hc (by rw [k27]; omega) kD) (by omega) (by omega) (Nat.le_of_ble_eq_true rfl) dX6_runs_71 (fun z σ2 hq => ?_)
    obtain ⟨rfl, hq⟩ := hq
    rw [hq]; clear hq
    refine o_imul (pc := 74) C dX6_runs_74 ?_
    refine o_aload_n (pc := 75) C dX6_runs_75 rfl ?_
    refine gf_X6_16 (pc := 76) C dX6_runs_76 ?_
    refine o_iload_n (pc := 79) C dX6_runs_79 rfl ?_
    refine ia_27 (pc := 80) C (by omega) (by omega) dX6_runs_80 ?_
    rw [ec, k27]
    refine o_idiv (pc := 81) C dX6_runs_81 (by rw [kcut]; omega) (by omega) (by rw [kcut]; omega) (by omega) ?_
    rw [kcut, show (σ 26 0 c - mInner σ c) * mCut σ c / σ 27 0 c = mCutw σ c from rfl]
    refine sti_5 (pc := 82) C dX6_runs_82 ?_
    refine o_iload (pc := 84) C dX6_runs_84 rfl ?_
    refine o_iload (pc := 86) C dX6_runs_86 rfl ?_
    refine o_isub (pc := 88) C dX6_runs_88 ?_
    rw [show σ 26 0 c - mInner σ c - mCutw σ c = net by rw [hne]; rfl]
    refine sti_6 (pc := 89) C dX6_runs_89 ?_
    refine o_iload (pc := 91) C dX6_runs_91 rfl ?_
    refine sti_7 (pc := 93) C dX6_runs_93 ?_
    refine o_iconst (pc := 95) C dX6_runs_95 ?_
    refine sti_8 (pc := 96) C dX6_runs_96 ?_
    refine o_iconst (pc := 98) C dX6_runs_98 ?_
    refine sti_9 (pc := 99) C dX6_runs_99 ?_
    exact L 16 0 _ _ _ _ _ _ _ (by omega) (by omega) rfl (by simp [o_sum]) rfl
  refine o_aload_n (pc := 0) C dX6_runs_0 rfl ?_
  refine o_dup (pc := 1) C dX6_runs_1 rfl ?_
  refine gf_X6_147 (pc := 2) C dX6_runs_2 ?_
  try simp (disch := decide) only [o_up_s, o_up_k, o_up_j, o_bl_k, o_rw_k]
  refine o_aload_n (pc := 5) C dX6_runs_5 rfl ?_
  refine o_aload_n (pc := 6) C dX6_runs_6 rfl ?_
  refine gf_X6_71 (pc := 7) C dX6_runs_7 ?_
  try simp (disch := decide) only [o_up_s, o_up_k, o_up_j, o_bl_k, o_rw_k]
  refine o_iload_n (pc := 10) C dX6_runs_10 rfl ?_
  refine cl_X6_150 (pc := 11) C (c_X6_movesFrom (by omega) hP hs hS) (by omega) (by omega) (Nat.le_of_ble_eq_true rfl) dX6_runs_11 (fun z σ2 hq => ?_)
  obtain ⟨rfl, hq⟩ := hq
  rw [hq]; clear hq
  refine o_iadd (pc := 14) C dX6_runs_14 ?_
  refine pf_X6_147 (pc := 15) C dX6_runs_15 ?_
  refine o_aload_n (pc := 18) C dX6_runs_18 rfl ?_
  refine o_iload_n (pc := 19) C dX6_runs_19 rfl ?_
  refine pf_X6_71 (pc := 20) C dX6_runs_20 ?_
  refine o_aload_n (pc := 23) C dX6_runs_23 rfl ?_
  refine gf_X6_59 (pc := 24) C dX6_runs_24 ?_
  refine o_iload_n (pc := 27) C dX6_runs_27 rfl ?_
  refine o_iload_n (pc := 28) C dX6_runs_28 rfl ?_
  skip
  refine is_38 (pc := 29) C (by omega) (by omega) dX6_runs_29 ?_
  rw [show ((c : Int)).toNat = c by omega, show o_up (o_up (o_up σ 24 0 24 (σ 24 0 24 + mMv σ (σ 24 0 23) p)) 24 0 23 p) 38 0 c p = σ0 from by rw [hσ0]; rfl]
  have k9 : σ0 24 0 9 = σ 24 0 9 := by rw [hσ0]; unfold mPre; rw [o_up_k (by decide), o_up_j (by decide), o_up_j (by decide)]
  have k26 : σ0 26 = σ 26 := s 26 (by decide) (by decide)
  refine o_aload_n (pc := 30) C dX6_runs_30 rfl ?_
  refine gf_X6_35 (pc := 31) C dX6_runs_31 ?_
  try simp (disch := decide) only [o_up_s, o_up_k, o_up_j, o_bl_k, o_rw_k]
  rw [k9]
  refine o_aload_n (pc := 34) C dX6_runs_34 rfl ?_
  refine gf_X6_13 (pc := 35) C dX6_runs_35 ?_
  refine o_iload_n (pc := 38) C dX6_runs_38 rfl ?_
  refine ia_26 (pc := 39) C (by omega) (by omega) dX6_runs_39 ?_
  try simp (disch := decide) only [o_up_s, o_up_k, o_up_j, o_bl_k, o_rw_k]
  rw [show ((c : Int)).toNat = c by omega, k26]
  refine o_icmp_ge (pc := 40) C (tgt := 50) dX6_runs_40 (by decide) (by omega) (by omega) (fun h40 => ?_) (fun h40 => ?_)
  · refine o_aload_n (pc := 50) C dX6_runs_50 rfl ?_
    refine gf_X6_13 (pc := 51) C dX6_runs_51 ?_
    refine o_iload_n (pc := 54) C dX6_runs_54 rfl ?_
    skip
    refine ia_26 (pc := 55) C (by omega) (by omega) dX6_runs_55 ?_
    try simp (disch := decide) only [o_up_s, o_up_k, o_up_j, o_bl_k, o_rw_k]
    first
    | exact K56 _ (by unfold mInner; rw [if_pos h40])
    | (rw [show ((c : Int)).toNat = c by omega, k26]; exact K56 _ (by unfold mInner; rw [if_neg (by omega)]))
  · refine o_aload_n (pc := 43) C dX6_runs_43 rfl ?_
    refine gf_X6_35 (pc := 44) C dX6_runs_44 ?_
    try simp (disch := decide) only [o_up_s, o_up_k, o_up_j, o_bl_k, o_rw_k]
    rw [k9]
    refine o_goto (pc := 47) C (tgt := 56) dX6_runs_47 (by decide) ?_
    first
    | exact K56 _ (by unfold mInner; rw [if_pos h40])
    | (rw [show ((c : Int)).toNat = c by omega, k26]; exact K56 _ (by unfold mInner; rw [if_neg (by omega)]))
