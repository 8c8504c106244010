theorem o_up_cg {σ μ : oMem} {K i j L : Nat} {v : Int} (h : μ L = σ L) : o_up μ K i j v L = o_up σ K i j v L := by
  unfold o_up
  rw [h]
theorem mBt_thr {σ : oMem} {v : Int} (b r : Nat) : mBt (o_up σ 24 0 31 v) b r = mBt σ b r := by
  unfold mBt mMv mW
  rw [o_up_j (by decide), o_up_k (by decide), o_up_k (by decide), o_up_k (by decide)]
def mRaS (μ : oMem) (c p : Nat) : oMem × Int := if μ 38 0 c = -1 ∧ mFit μ p c then ((mRun μ c p).1, 1) else (μ, 0)
def mRa (σ : oMem) (q : Nat → Nat) : Nat → oMem × Int
  | 0 => (σ, 0)
  | t + 1 => ((mRaS (mRa σ q t).1 (σ 42 0 (q t)).toNat (σ 43 0 (q t)).toNat).1, (mRa σ q t).2 + (mRaS (mRa σ q t).1 (σ 42 0 (q t)).toNat (σ 43 0 (q t)).toNat).2)
theorem mRun_k {σ : oMem} {c p K : Nat} (h0 : K ≠ 24) (h1 : K ≠ 34) (h2 : K ≠ 35) (h3 : K ≠ 38) (h4 : K ≠ 39) (h5 : K ≠ 40) (h6 : K ≠ 41) : (mRun σ c p).1 K = σ K := by
  unfold mRun
  show o_up _ _ _ _ _ K = _
  rw [o_up_k h6, o_up_k h6, o_up_k h6, mdl_k h1 h2 h4 h5]
  unfold mPre
  rw [o_up_k h3, o_up_k h0, o_up_k h0]
theorem mRun_24 {σ : oMem} {c p j : Nat} : (mRun σ c p).1 24 0 j = if j = 23 then (p : Int) else if j = 24 then σ 24 0 24 + mMv σ (σ 24 0 23) p else σ 24 0 j := by
  have e : (mRun σ c p).1 24 = mPre σ c p 24 := by
    unfold mRun
    dsimp only
    rw [o_up_k (by decide), o_up_k (by decide), o_up_k (by decide), mdl_k (by decide) (by decide) (by decide) (by decide)]
  rw [e]
  unfold mPre
  rw [o_up_k (by decide)]
  by_cases h : j = 23
  · rw [if_pos h, h, o_up_s]
  · rw [if_neg h, o_up_j h]
    by_cases h2 : j = 24
    · rw [if_pos h2, h2, o_up_s]
    · rw [if_neg h2, o_up_j h2]
theorem mRa_k {σ : oMem} {q : Nat → Nat} {K : Nat} (h0 : K ≠ 24) (h1 : K ≠ 34) (h2 : K ≠ 35) (h3 : K ≠ 38) (h4 : K ≠ 39) (h5 : K ≠ 40) (h6 : K ≠ 41) : ∀ t : Nat, (mRa σ q t).1 K = σ K
  | 0 => rfl
  | t + 1 => by
    show (mRaS _ _ _).1 K = _
    unfold mRaS
    split
    · show (mRun _ _ _).1 K = _
      rw [mRun_k h0 h1 h2 h3 h4 h5 h6, mRa_k h0 h1 h2 h3 h4 h5 h6 t]
    · exact mRa_k h0 h1 h2 h3 h4 h5 h6 t
theorem mRa_24 {σ : oMem} {q : Nat → Nat} {j : Nat} (h0 : j ≠ 23) (h1 : j ≠ 24) : ∀ t : Nat, (mRa σ q t).1 24 0 j = σ 24 0 j
  | 0 => rfl
  | t + 1 => by
    show (mRaS (mRa σ q t).1 (σ 42 0 (q t)).toNat (σ 43 0 (q t)).toNat).1 24 0 j = _
    unfold mRaS
    split
    · dsimp only
      rw [mRun_24, if_neg h0, if_neg h1, mRa_24 h0 h1 t]
    · exact mRa_24 h0 h1 t
set_option maxRecDepth 100000 in
set_option maxHeartbeats 1000000 in
theorem c_X6_fewestMoves {l : Launch} {g : oG} {σ : oMem} {n : Nat} {mv : Nat → Nat → Int} (hM : MI σ) (hn0 : (n : Int) = σ 24 0 27) (hmv : ∀ b r, b < n ∨ b = 7 → r < n → mBt σ b r = mv b r) (hbd : ∀ b r, b < 8 → r < n → 0 ≤ mv b r ∧ mv b r ≤ 16) : oMi l g yX6_fewestMoves (.code yX6_fewestMoves cX6_fewestMoves 1 (some .int)) 5 0 [.ref (g.2.1 24 0)] σ (fun z σ' => z = oFC mv n 7 (2 ^ n - 1) ∧ ∀ K, K ≠ 45 → K ≠ 46 → σ' K = o_up σ 24 0 31 0 K) := by
  refine oMi_of (own := RX6) (by decide +kernel) rfl (by simp [oi, Value.category]) (by simp) (fun x C E => ?_)
  show oW l g x σ 0 [some (.ref (g.2.1 24 0))] [] 0
  obtain ⟨y1, y3, y5, ⟨y7, y8, y9⟩, y10, y14, yC, yO, yP, yD, yW⟩ := id hM
  refine o_aload_n (pc := 0) C dX6_fewestMoves_0 rfl ?_
  refine o_aload_n (pc := 1) C dX6_fewestMoves_1 rfl ?_
  refine cl_X6_163 (pc := 2) C (c_X6_best y14 y10 y5.2 yP (fun i hi => (yW i hi).2) hn0 hmv hbd) (by omega) (by omega) (Nat.le_of_ble_eq_true rfl) dX6_fewestMoves_2 (fun z σ2 hq => ?_)
  obtain ⟨rfl, hB, kk⟩ := hq
  refine cl_X6_128 (pc := 5) C (c_X6_told) (by omega) (by omega) (Nat.le_of_ble_eq_true rfl) dX6_fewestMoves_5 (fun z σ2 hq => ?_)
  obtain ⟨rfl, hq⟩ := hq
  rw [hq]; clear hq
  exact E _ _ _ _ _ dX6_fewestMoves_8 rfl ⟨rfl, fun K h1 h2 => o_up_cg (kk K h1 h2)⟩ (by omega)
set_option maxRecDepth 100000 in
set_option maxHeartbeats 1000000 in
theorem c_X6_fewestByTrying {l : Launch} {g : oG} {σ : oMem} {n : Nat} {mv : Nat → Nat → Int} (hM : MI σ) (hn0 : (n : Int) = σ 24 0 27) (hmv : ∀ b r, b < n ∨ b = 7 → r < n → mBt σ b r = mv b r) (hbd : ∀ b r, b < 8 → r < n → 0 ≤ mv b r ∧ mv b r ≤ 16) : oMi l g yX6_fewestByTrying (.code yX6_fewestByTrying cX6_fewestByTrying 1 (some .int)) 5 0 [.ref (g.2.1 24 0)] σ (fun z σ' => z = oFC mv n 7 (2 ^ n - 1) ∧ ∀ K, K ≠ 45 → K ≠ 46 → σ' K = o_up σ 24 0 31 0 K) := by
  refine oMi_of (own := RX6) (by decide +kernel) rfl (by simp [oi, Value.category]) (by simp) (fun x C E => ?_)
  show oW l g x σ 0 [some (.ref (g.2.1 24 0))] [] 0
  obtain ⟨y1, y3, y5, ⟨y7, y8, y9⟩, y10, y14, yC, yO, yP, yD, yW⟩ := id hM
  refine o_aload_n (pc := 0) C dX6_fewestByTrying_0 rfl ?_
  refine o_aload_n (pc := 1) C dX6_fewestByTrying_1 rfl ?_
  refine cl_X6_163 (pc := 2) C (c_X6_best y14 y10 y5.2 yP (fun i hi => (yW i hi).2) hn0 hmv hbd) (by omega) (by omega) (Nat.le_of_ble_eq_true rfl) dX6_fewestByTrying_2 (fun z σ2 hq => ?_)
  obtain ⟨rfl, hB, kk⟩ := hq
  refine cl_X6_128 (pc := 5) C (c_X6_told) (by omega) (by omega) (Nat.le_of_ble_eq_true rfl) dX6_fewestByTrying_5 (fun z σ2 hq => ?_)
  obtain ⟨rfl, hq⟩ := hq
  rw [hq]; clear hq
  exact E _ _ _ _ _ dX6_fewestByTrying_8 rfl ⟨rfl, fun K h1 h2 => o_up_cg (kk K h1 h2)⟩ (by omega)
set_option maxRecDepth 100000 in
set_option maxHeartbeats 1000000 in
theorem c_X6_nextAt {l : Launch} {g : oG} {σ : oMem} {a : Int} {n : Nat} {mv : Nat → Nat → Int} (hM : MI σ) (hn0 : (n : Int) = σ 24 0 27) (hmv : ∀ b r, b < n ∨ b = 7 → r < n → mBt σ b r = mv b r) (hbd : ∀ b r, b < 8 → r < n → 0 ≤ mv b r ∧ mv b r ≤ 16) (h1 : InR a) : oMi l g yX6_nextAt (.code yX6_nextAt cX6_nextAt 2 (some .int)) 5 0 [.ref (g.2.1 24 0), oi a] σ (fun z σ' => ((0 ≤ a ∧ a ≤ σ 24 0 27 - 1) → ∃ q : Nat → Nat, isBest mv n q ∧ z = q a.toNat) ∧ ∀ K, K ≠ 45 → K ≠ 46 → σ' K = o_up σ 24 0 31 (if (0 ≤ a ∧ a ≤ σ 24 0 27 - 1) then 0 else 1) K) := by
  refine oMi_of (own := RX6) (by decide +kernel) rfl (by simp [oi, Value.category]) (by simp) (fun x C E => ?_)
  show oW l g x σ 0 [some (.ref (g.2.1 24 0)), some (oi a)] [] 0
  obtain ⟨y1, y3, y5, ⟨y7, y8, y9⟩, y10, y14, yC, yO, yP, yD, yW⟩ := id hM
  refine o_aload_n (pc := 0) C dX6_nextAt_0 rfl ?_
  refine o_iload_n (pc := 1) C dX6_nextAt_1 rfl ?_
  refine o_iconst (pc := 2) C dX6_nextAt_2 ?_
  refine o_aload_n (pc := 3) C dX6_nextAt_3 rfl ?_
  refine gf_X6_157 (pc := 4) C dX6_nextAt_4 ?_
  try simp (disch := decide) only [o_up_s, o_up_k, o_up_j, o_bl_k, o_rw_k]
  refine o_iconst (pc := 7) C dX6_nextAt_7 ?_
  refine o_isub (pc := 8) C dX6_nextAt_8 ?_
  refine cl_X6_95 (pc := 9) C (c_X6_in h1 (by omega) (by omega)) (by omega) (by omega) (Nat.le_of_ble_eq_true rfl) dX6_nextAt_9 (fun z σ2 hq => ?_)
  obtain ⟨rfl, hq⟩ := hq
  rw [hq]; clear hq
  refine cl_X6_117 (pc := 12) C (c_X6_asked (P := (0 ≤ a ∧ a ≤ σ 24 0 27 - 1))) (by omega) (by omega) (Nat.le_of_ble_eq_true rfl) dX6_nextAt_12 (fun z σ2 hq => ?_)
  obtain ⟨rfl, hq⟩ := hq
  rw [hq]; clear hq
  refine o_if_ne (pc := 15) C (tgt := 20) dX6_nextAt_15 (by decide) (by unfold b2i; split <;> omega) (fun h15 => ?_) (fun h15 => ?_)
  · have hq := o_t h15
    have hM2 := MI_thr (v := if 0 ≤ a ∧ a ≤ σ 24 0 27 - 1 then 0 else 1) hM
    obtain ⟨z1, z3, z5, ⟨z7, z8, z9⟩, z10, z14, zC, zO, zP, zD, zW⟩ := id hM2
    refine o_aload_n (pc := 20) C dX6_nextAt_20 rfl ?_
    refine cl_X6_163 (pc := 21) C (c_X6_best (n := n) (mv := mv) z14 z10 z5.2 zP (fun i hi => (zW i hi).2) hn0 (fun b r h1 h2 => by rw [mBt_thr]; exact hmv b r h1 h2) hbd) (by omega) (by omega) (Nat.le_of_ble_eq_true rfl) dX6_nextAt_21 (fun z σ2 hq => ?_)
    obtain ⟨rfl, ⟨q, q1, q2⟩, kk⟩ := hq
    refine o_pop (pc := 24) C dX6_nextAt_24 rfl ?_
    refine o_aload_n (pc := 25) C dX6_nextAt_25 rfl ?_
    refine gf_X6_86 (pc := 26) C dX6_nextAt_26 ?_
    refine o_iload_n (pc := 29) C dX6_nextAt_29 rfl ?_
    refine ia_46 (pc := 30) C (by omega) (by omega) dX6_nextAt_30 ?_
    try simp (disch := decide) only [o_up_s, o_up_k, o_up_j, o_bl_k, o_rw_k]
    first
    | (have y := q1; exact E _ _ _ _ _ dX6_nextAt_31 rfl ⟨fun _ => ⟨q, q2, q1 _ (by omega)⟩, fun K h1 h2 => kk K h1 h2⟩ (by omega))
    | exact E _ _ _ _ _ dX6_nextAt_31 rfl ⟨fun q => absurd q (o_f h15), fun _ _ _ => rfl⟩ (by omega)
  · refine o_iconst (pc := 18) C dX6_nextAt_18 ?_
    first
    | (have y := q1; exact E _ _ _ _ _ dX6_nextAt_19 rfl ⟨fun _ => ⟨q, q2, q1 _ (by omega)⟩, fun K h1 h2 => kk K h1 h2⟩ (by omega))
    | exact E _ _ _ _ _ dX6_nextAt_19 rfl ⟨fun q => absurd q (o_f h15), fun _ _ _ => rfl⟩ (by omega)
theorem mFit_cg {σ μ : oMem} (h : σ = μ) (p c : Nat) : mFit σ p c = mFit μ p c := by rw [h]
set_option maxRecDepth 100000 in
set_option maxHeartbeats 1000000 in
theorem c_X6_runAll {l : Launch} {g : oG} {σ : oMem} {n : Nat} {mv : Nat → Nat → Int} (hM : MI σ) (hn0 : (n : Int) = σ 24 0 27) (hmv : ∀ b r, b < n ∨ b = 7 → r < n → mBt σ b r = mv b r) (hbd : ∀ b r, b < 8 → r < n → 0 ≤ mv b r ∧ mv b r ≤ 16) (hI : ∀ (μ : oMem) (q : Nat → Nat), (∀ K, K ≠ 45 → K ≠ 46 → μ K = o_up σ 24 0 31 0 K) → isBest mv n q → ∀ t, t ≤ n → MI (mRa μ q t).1) : oMi l g yX6_runAll (.code yX6_runAll cX6_runAll 5 (some .int)) 6 0 [.ref (g.2.1 24 0)] σ (fun z σ' => ∃ (q : Nat → Nat) (μ : oMem), isBest mv n q ∧ (∀ K, K ≠ 45 → K ≠ 46 → μ K = o_up σ 24 0 31 0 K) ∧ z = (mRa μ q n).2 ∧ σ' = o_up (mRa μ q n).1 24 0 27 0) := by
  refine oMi_of (own := RX6) (by decide +kernel) rfl (by simp [oi, Value.category]) (by simp) (fun x C E => ?_)
  show oW l g x σ 0 [some (.ref (g.2.1 24 0)), none, none, none, none] [] 0
  have hM2 := MI_thr (v := 0) hM
  obtain ⟨z1, z3, z5, ⟨z7, z8, z9⟩, z10, z14, zC, zO, zP, zD, zW⟩ := id hM2
  have L : ∀ (μ : oMem) (q : Nat → Nat), (∀ t, t ≤ n → MI (mRa μ q t).1) → (∀ i, i < n → q i < n) → (∀ i, i < n → μ 46 0 i = q i) → μ 24 0 27 = n → isBest mv n q → (∀ K, K ≠ 45 → K ≠ 46 → μ K = o_up σ 24 0 31 0 K) → ∀ (k t : Nat) (m i : Int) (r r2 : Option Value), n < t + k → t ≤ n → i = t → m = (mRa μ q t).2 → oW l g x (mRa μ q t).1 14 [some (.ref (g.2.1 24 0)), some (oi m), some (oi i), r, r2] [] 0 := by
    intro μ q hX hq1 hq2 hq3 hq4 hq5 k
    induction k with
    | zero => intro t m i r r2 a1 a2; omega
    | succ k ih =>
      intro t m i r r2 a1 a2 a3 a4
      subst a3
      have hXt := hX t a2
      have k14 : (mRa μ q t).1 24 0 27 = n := by rw [mRa_24 (by decide) (by decide), hq3]
      have k16 : t < n → (mRa μ q t).1 46 0 t = q t := fun h => by rw [mRa_k (by decide) (by decide) (by decide) (by decide) (by decide) (by decide) (by decide)]; exact hq2 t h
      have k17 : (mRa μ q t).1 42 = μ 42 := mRa_k (by decide) (by decide) (by decide) (by decide) (by decide) (by decide) (by decide) t
      have k18 : (mRa μ q t).1 43 = μ 43 := mRa_k (by decide) (by decide) (by decide) (by decide) (by decide) (by decide) (by decide) t
      have ih2 := ih (t + 1)
      simp only [mRa] at ih2
      obtain ⟨ν, hν⟩ : ∃ ν, ν = (mRa μ q t).1 := ⟨_, rfl⟩
      rw [← hν] at hXt k14 k16 k17 k18 ih2 ⊢
      obtain ⟨y1, y3, y5, ⟨y7, y8, y9⟩, y10, y14, yC, yO, yP, yD, yW⟩ := id hXt
      refine o_iload_n (pc := 14) C dX6_runAll_14 rfl ?_
      refine o_aload_n (pc := 15) C dX6_runAll_15 rfl ?_
      refine gf_X6_157 (pc := 16) C dX6_runAll_16 ?_
      rw [k14]
      refine o_icmp_ge (pc := 19) C (tgt := 84) dX6_runAll_19 (by decide) (by omega) (by omega) (fun h19 => ?_) (fun h19 => ?_)
      · refine o_aload_n (pc := 84) C dX6_runAll_84 rfl ?_
        refine o_iconst (pc := 85) C dX6_runAll_85 ?_
        refine pf_X6_157 (pc := 86) C dX6_runAll_86 ?_
        refine o_iload_n (pc := 89) C dX6_runAll_89 rfl ?_
        rw [hν]
        refine E _ _ _ _ _ dX6_runAll_90 rfl ⟨q, μ, hq4, hq5, by rw [show n = t by omega]; exact a4, by rw [show n = t by omega]⟩ (by omega)
      · refine o_aload_n (pc := 22) C dX6_runAll_22 rfl ?_
        refine gf_X6_74 (pc := 23) C dX6_runAll_23 ?_
        refine o_aload_n (pc := 26) C dX6_runAll_26 rfl ?_
        refine gf_X6_86 (pc := 27) C dX6_runAll_27 ?_
        refine o_iload_n (pc := 30) C dX6_runAll_30 rfl ?_
        refine ia_46 (pc := 31) C (by omega) (by omega) dX6_runAll_31 ?_
        rw [show ((t : Int)).toNat = t by omega, k16 (by omega)]
        have hqt := hq1 t (by omega)
        have hwt := yW (q t) (by omega)
        rw [k17, k18] at hwt
        obtain ⟨c, hc⟩ : ∃ c : Nat, μ 42 0 (q t) = (c : Int) := ⟨(μ 42 0 (q t)).toNat, by omega⟩
        obtain ⟨p, hp⟩ : ∃ p : Nat, μ 43 0 (q t) = (p : Int) := ⟨(μ 43 0 (q t)).toNat, by omega⟩
        rw [hc, hp] at hwt
        have hcc := yC c (by omega)
        have hcw := hcc.1.1
        have hc38 := hcc.2.1
        refine ia_42 (pc := 32) C (by omega) (by omega) dX6_runAll_32 ?_
        rw [show ((q t : Int)).toNat = q t by omega, k17, hc]
        refine sti_3 (pc := 33) C dX6_runAll_33 ?_
        refine o_aload_n (pc := 34) C dX6_runAll_34 rfl ?_
        refine gf_X6_77 (pc := 35) C dX6_runAll_35 ?_
        refine o_aload_n (pc := 38) C dX6_runAll_38 rfl ?_
        refine gf_X6_86 (pc := 39) C dX6_runAll_39 ?_
        refine o_iload_n (pc := 42) C dX6_runAll_42 rfl ?_
        refine ia_46 (pc := 43) C (by omega) (by omega) dX6_runAll_43 ?_
        rw [show ((t : Int)).toNat = t by omega, k16 (by omega)]
        refine ia_43 (pc := 44) C (by omega) (by omega) dX6_runAll_44 ?_
        rw [show ((q t : Int)).toNat = q t by omega, k18, hp]
        refine sti_4 (pc := 45) C dX6_runAll_45 ?_
        refine o_aload_n (pc := 47) C dX6_runAll_47 rfl ?_
        refine gf_X6_59 (pc := 48) C dX6_runAll_48 ?_
        refine o_iload_n (pc := 51) C dX6_runAll_51 rfl ?_
        refine ia_38 (pc := 52) C (by omega) (by omega) dX6_runAll_52 ?_
        rw [show ((c : Int)).toNat = c by omega]
        refine o_iconst (pc := 53) C dX6_runAll_53 ?_
        refine o_icmp_ne (pc := 54) C (tgt := 78) dX6_runAll_54 (by decide) (by omega) (by omega) (fun h54 => ?_) (fun h54 => ?_)
        · refine inc_2 (pc := 78) C dX6_runAll_78 ?_
          refine o_goto (pc := 81) C (tgt := 14) dX6_runAll_81 (by decide) ?_
          rw [hc, hp] at ih2
          first
          | (have y := hft
             rw [show mRaS ν ((c : Int)).toNat ((p : Int)).toNat = ((mRun ν c p).1, 1) from if_pos ⟨h54, hft⟩] at ih2
             exact ih2 (m + 1) ((t : Int) + 1) _ _ (by omega) (by omega) (by omega) (by simp only [a4]))
          | (have hno : ¬ (ν 38 0 ((c : Int)).toNat = -1 ∧ mFit ν ((p : Int)).toNat ((c : Int)).toNat) := fun y => by
               first
               | exact o_f h64 y.2
               | exact h54 y.1
             rw [show mRaS ν ((c : Int)).toNat ((p : Int)).toNat = (ν, 0) from if_neg hno] at ih2
             exact ih2 m ((t : Int) + 1) _ _ (by omega) (by omega) (by omega) (by simp only [a4]; omega))
        · refine o_aload_n (pc := 57) C dX6_runAll_57 rfl ?_
          refine o_iload (pc := 58) C dX6_runAll_58 rfl ?_
          refine o_iload_n (pc := 60) C dX6_runAll_60 rfl ?_
          refine cl_X6_134 (pc := 61) C (c_X6_canRun (p := p) (c := c) (by omega) (by omega) (yP p (by omega)) y7 (by omega) (by omega)) (by omega) (by omega) (Nat.le_of_ble_eq_true rfl) dX6_runAll_61 (fun z σ2 hq => ?_)
          obtain ⟨rfl, hq⟩ := hq
          rw [hq]; clear hq
          refine o_if_eq (pc := 64) C (tgt := 78) dX6_runAll_64 (by decide) (by unfold b2i; split <;> omega) (fun h64 => ?_) (fun h64 => ?_)
          · refine inc_2 (pc := 78) C dX6_runAll_78 ?_
            refine o_goto (pc := 81) C (tgt := 14) dX6_runAll_81 (by decide) ?_
            rw [hc, hp] at ih2
            first
            | (have y := hft
               rw [show mRaS ν ((c : Int)).toNat ((p : Int)).toNat = ((mRun ν c p).1, 1) from if_pos ⟨h54, hft⟩] at ih2
               exact ih2 (m + 1) ((t : Int) + 1) _ _ (by omega) (by omega) (by omega) (by simp only [a4]))
            | (have hno : ¬ (ν 38 0 ((c : Int)).toNat = -1 ∧ mFit ν ((p : Int)).toNat ((c : Int)).toNat) := fun y => by
                 first
                 | exact o_f h64 y.2
                 | exact h54 y.1
               rw [show mRaS ν ((c : Int)).toNat ((p : Int)).toNat = (ν, 0) from if_neg hno] at ih2
               exact ih2 m ((t : Int) + 1) _ _ (by omega) (by omega) (by omega) (by simp only [a4]; omega))
          · have hft := o_t h64
            refine o_aload_n (pc := 67) C dX6_runAll_67 rfl ?_
            refine o_iload_n (pc := 68) C dX6_runAll_68 rfl ?_
            refine o_iload (pc := 69) C dX6_runAll_69 rfl ?_
            refine cl_X6_154 (pc := 71) C (c_X6_runs (c := c) (p := p) (by omega) (by omega) hcc.1 (yP p (by omega)) y8 (by omega) (fun z => yP _ (by omega)) (by have := hft.1; omega) y3 yO) (by omega) (by omega) (Nat.le_of_ble_eq_true rfl) dX6_runAll_71 (fun z σ2 hq => ?_)
            obtain ⟨rfl, hz⟩ := hq
            rw [hz]; clear hz
            refine o_pop (pc := 74) C dX6_runAll_74 rfl ?_
            refine inc_1 (pc := 75) C dX6_runAll_75 ?_
            refine inc_2 (pc := 78) C dX6_runAll_78 ?_
            refine o_goto (pc := 81) C (tgt := 14) dX6_runAll_81 (by decide) ?_
            rw [hc, hp] at ih2
            first
            | (have y := hft
               rw [show mRaS ν ((c : Int)).toNat ((p : Int)).toNat = ((mRun ν c p).1, 1) from if_pos ⟨h54, hft⟩] at ih2
               exact ih2 (m + 1) ((t : Int) + 1) _ _ (by omega) (by omega) (by omega) (by simp only [a4]))
            | (have hno : ¬ (ν 38 0 ((c : Int)).toNat = -1 ∧ mFit ν ((p : Int)).toNat ((c : Int)).toNat) := fun y => by
                 first
                 | exact o_f h64 y.2
                 | exact h54 y.1
               rw [show mRaS ν ((c : Int)).toNat ((p : Int)).toNat = (ν, 0) from if_neg hno] at ih2
               exact ih2 m ((t : Int) + 1) _ _ (by omega) (by omega) (by omega) (by simp only [a4]; omega))
  refine o_aload_n (pc := 0) C dX6_runAll_0 rfl ?_
  refine o_iconst (pc := 1) C dX6_runAll_1 ?_
  refine pf_X6_89 (pc := 2) C dX6_runAll_2 ?_
  refine o_aload_n (pc := 5) C dX6_runAll_5 rfl ?_
  refine cl_X6_163 (pc := 6) C (c_X6_best (n := n) (mv := mv) z14 z10 z5.2 zP (fun i hi => (zW i hi).2) hn0 (fun b r h1 h2 => by rw [mBt_thr]; exact hmv b r h1 h2) hbd) (by omega) (by omega) (Nat.le_of_ble_eq_true rfl) dX6_runAll_6 (fun z σ2 hq => ?_)
  obtain ⟨f1, ⟨q, f4, f5⟩, kk⟩ := hq
  refine o_pop (pc := 9) C dX6_runAll_9 rfl ?_
  refine o_iconst (pc := 10) C dX6_runAll_10 ?_
  refine sti_1 (pc := 11) C dX6_runAll_11 ?_
  refine o_iconst (pc := 12) C dX6_runAll_12 ?_
  refine sti_2 (pc := 13) C dX6_runAll_13 ?_
  exact L σ2 q (fun t ht => hI σ2 q kk f5 t ht) (isBest_lt f5) f4 (by rw [kk 24 (by decide) (by decide), o_up_j (by decide)]; omega) f5 kk (n + 1) 0 _ _ _ _ (by omega) (by omega) rfl rfl
set_option maxRecDepth 100000 in
set_option maxHeartbeats 1000000 in
theorem c_X6_slits {l : Launch} {g : oG} {σ : oMem} {a : Int} (hM : MI σ) (h1 : InR a) : oMi l g yX6_slits (.code yX6_slits cX6_slits 2 (some .int)) 4 0 [.ref (g.2.1 24 0), oi a] σ (fun z σ' => (mkC σ a → z = if σ 38 0 a.toNat = -1 then -1 else σ 37 0 (σ 38 0 a.toNat).toNat) ∧ σ' = o_up σ 24 0 31 (if mkC σ a then 0 else 1)) := by
  refine oMi_of (own := RX6) (by decide +kernel) rfl (by simp [oi, Value.category]) (by simp) (fun x C E => ?_)
  show oW l g x σ 0 [some (.ref (g.2.1 24 0)), some (oi a)] [] 0
  obtain ⟨y1, y3, y5, ⟨y7, y8, y9⟩, y10, y14, yC, yO, yP, yD, yW⟩ := id hM
  refine o_aload_n (pc := 0) C dX6_slits_0 rfl ?_
  refine o_aload_n (pc := 1) C dX6_slits_1 rfl ?_
  refine o_iload_n (pc := 2) C dX6_slits_2 rfl ?_
  refine cl_X6_106 (pc := 3) C (c_X6_isCoil h1 y1) (by omega) (by omega) (Nat.le_of_ble_eq_true rfl) dX6_slits_3 (fun z σ2 hq => ?_)
  obtain ⟨rfl, hq⟩ := hq
  rw [hq]; clear hq
  refine cl_X6_117 (pc := 6) C (c_X6_asked (P := mkC σ a)) (by omega) (by omega) (Nat.le_of_ble_eq_true rfl) dX6_slits_6 (fun z σ2 hq => ?_)
  obtain ⟨rfl, hq⟩ := hq
  rw [hq]; clear hq
  refine o_if_eq (pc := 9) C (tgt := 40) dX6_slits_9 (by decide) (by unfold b2i; split <;> omega) (fun h9 => ?_) (fun h9 => ?_)
  · refine o_iconst (pc := 40) C dX6_slits_40 ?_
    first
    | (have y : σ 38 0 a.toNat = -1 := by have y2 := hp; exact h19
       exact E _ _ _ _ _ dX6_slits_41 rfl ⟨fun _ => (if_pos y).symm, rfl⟩ (by omega))
    | (have y : ¬ σ 38 0 a.toNat = -1 := by have y2 := hp; exact h19
       exact E _ _ _ _ _ dX6_slits_41 rfl ⟨fun _ => (if_neg y).symm, rfl⟩ (by omega))
    | exact E _ _ _ _ _ dX6_slits_41 rfl ⟨fun q => absurd q (o_f h9), rfl⟩ (by omega)
  · have hp := o_t h9
    have hb38 := (yC a.toNat (by omega)).2.1
    refine o_aload_n (pc := 12) C dX6_slits_12 rfl ?_
    refine gf_X6_59 (pc := 13) C dX6_slits_13 ?_
    refine o_iload_n (pc := 16) C dX6_slits_16 rfl ?_
    refine ia_38 (pc := 17) C (by omega) (by omega) dX6_slits_17 ?_
    try simp (disch := decide) only [o_up_s, o_up_k, o_up_j, o_bl_k, o_rw_k]
    refine o_iconst (pc := 18) C dX6_slits_18 ?_
    refine o_icmp_ne (pc := 19) C (tgt := 26) dX6_slits_19 (by decide) (by omega) (by omega) (fun h19 => ?_) (fun h19 => ?_)
    · refine o_aload_n (pc := 26) C dX6_slits_26 rfl ?_
      refine gf_X6_56 (pc := 27) C dX6_slits_27 ?_
      refine o_aload_n (pc := 30) C dX6_slits_30 rfl ?_
      refine gf_X6_59 (pc := 31) C dX6_slits_31 ?_
      refine o_iload_n (pc := 34) C dX6_slits_34 rfl ?_
      refine ia_38 (pc := 35) C (by omega) (by omega) dX6_slits_35 ?_
      try simp (disch := decide) only [o_up_s, o_up_k, o_up_j, o_bl_k, o_rw_k]
      refine ia_37 (pc := 36) C (by omega) (by omega) dX6_slits_36 ?_
      try simp (disch := decide) only [o_up_s, o_up_k, o_up_j, o_bl_k, o_rw_k]
      refine o_goto (pc := 37) C (tgt := 41) dX6_slits_37 (by decide) ?_
      first
      | (have y : σ 38 0 a.toNat = -1 := by have y2 := hp; exact h19
         exact E _ _ _ _ _ dX6_slits_41 rfl ⟨fun _ => (if_pos y).symm, rfl⟩ (by omega))
      | (have y : ¬ σ 38 0 a.toNat = -1 := by have y2 := hp; exact h19
         exact E _ _ _ _ _ dX6_slits_41 rfl ⟨fun _ => (if_neg y).symm, rfl⟩ (by omega))
      | exact E _ _ _ _ _ dX6_slits_41 rfl ⟨fun q => absurd q (o_f h9), rfl⟩ (by omega)
    · refine o_iconst (pc := 22) C dX6_slits_22 ?_
      refine o_goto (pc := 23) C (tgt := 41) dX6_slits_23 (by decide) ?_
      first
      | (have y : σ 38 0 a.toNat = -1 := by have y2 := hp; exact h19
         exact E _ _ _ _ _ dX6_slits_41 rfl ⟨fun _ => (if_pos y).symm, rfl⟩ (by omega))
      | (have y : ¬ σ 38 0 a.toNat = -1 := by have y2 := hp; exact h19
         exact E _ _ _ _ _ dX6_slits_41 rfl ⟨fun _ => (if_neg y).symm, rfl⟩ (by omega))
      | exact E _ _ _ _ _ dX6_slits_41 rfl ⟨fun q => absurd q (o_f h9), rfl⟩ (by omega)
abbrev mkS (σ : oMem) (a b : Int) : Prop := mkC σ a ∧ σ 38 0 a.toNat ≠ -1 ∧ 0 ≤ b ∧ b ≤ σ 37 0 (σ 38 0 a.toNat).toNat - 1
abbrev mkO (σ : oMem) (a : Int) : Prop := 0 ≤ a ∧ a ≤ σ 24 0 15 - 1
set_option maxRecDepth 100000 in
set_option maxHeartbeats 1000000 in
theorem c_X6_isSlit {l : Launch} {g : oG} {σ : oMem} {a b : Int} (hM : MI σ) (h1 : InR a) (h2 : InR b) : oMi l g yX6_isSlit (.code yX6_isSlit cX6_isSlit 4 (some .boolean)) 3 0 [.ref (g.2.1 24 0), oi a, oi b] σ (fun z σ' => z = b2i (mkS σ a b) ∧ σ' = o_up σ 24 0 31 (if mkS σ a b then 0 else 1)) := by
  refine oMi_of (own := RX6) (by decide +kernel) rfl (by simp [oi, Value.category]) (by simp) (fun x C E => ?_)
  show oW l g x σ 0 [some (.ref (g.2.1 24 0)), some (oi a), some (oi b), none] [] 0
  obtain ⟨y1, y3, y5, ⟨y7, y8, y9⟩, y10, y14, yC, yO, yP, yD, yW⟩ := id hM
  have K47 : ∀ (v u : Int), v = b2i (mkS σ a b) → oW l g x σ 47 [some (.ref (g.2.1 24 0)), some (oi a), some (oi b), some (oi u)] [oi v, .ref (g.2.1 24 0)] 0 := by
    intro v u hv
    subst hv
    refine cl_X6_117 (pc := 47) C (c_X6_asked (P := mkS σ a b)) (by omega) (by omega) (Nat.le_of_ble_eq_true rfl) dX6_isSlit_47 (fun z σ2 hq => ?_)
    obtain ⟨rfl, hq⟩ := hq
    rw [hq]; clear hq
    exact E _ _ _ _ _ dX6_isSlit_50 (by unfold b2i; split <;> rfl) ⟨rfl, rfl⟩ (by omega)
  refine o_aload_n (pc := 0) C dX6_isSlit_0 rfl ?_
  refine o_iload_n (pc := 1) C dX6_isSlit_1 rfl ?_
  refine cl_X6_106 (pc := 2) C (c_X6_isCoil h1 y1) (by omega) (by omega) (Nat.le_of_ble_eq_true rfl) dX6_isSlit_2 (fun z σ2 hq => ?_)
  obtain ⟨rfl, hq⟩ := hq
  rw [hq]; clear hq
  refine sti_3 (pc := 5) C dX6_isSlit_5 ?_
  refine o_aload_n (pc := 6) C dX6_isSlit_6 rfl ?_
  refine o_iload_n (pc := 7) C dX6_isSlit_7 rfl ?_
  refine o_if_eq (pc := 8) C (tgt := 46) dX6_isSlit_8 (by decide) (by unfold b2i; split <;> omega) (fun h8 => ?_) (fun h8 => ?_)
  · refine o_iconst (pc := 46) C dX6_isSlit_46 ?_
    first
    | (have y := o_t h39
       exact K47 _ _ (b2i_t ⟨hp, h18, y⟩))
    | (have y := hm
       exact K47 _ _ (b2i_f (fun z => o_f h39 z.2.2)))
    | (have y := hp
       exact K47 _ _ (b2i_f (fun z => z.2.1 h18)))
    | exact K47 _ _ (b2i_f (fun z => o_f h8 z.1))
  · have hp := o_t h8
    have hb38 := (yC a.toNat (by omega)).2.1
    refine o_aload_n (pc := 11) C dX6_isSlit_11 rfl ?_
    refine gf_X6_59 (pc := 12) C dX6_isSlit_12 ?_
    refine o_iload_n (pc := 15) C dX6_isSlit_15 rfl ?_
    refine ia_38 (pc := 16) C (by omega) (by omega) dX6_isSlit_16 ?_
    refine o_iconst (pc := 17) C dX6_isSlit_17 ?_
    refine o_icmp_eq (pc := 18) C (tgt := 46) dX6_isSlit_18 (by decide) (by omega) (by omega) (fun h18 => ?_) (fun h18 => ?_)
    · refine o_iconst (pc := 46) C dX6_isSlit_46 ?_
      first
      | (have y := o_t h39
         exact K47 _ _ (b2i_t ⟨hp, h18, y⟩))
      | (have y := hm
         exact K47 _ _ (b2i_f (fun z => o_f h39 z.2.2)))
      | (have y := hp
         exact K47 _ _ (b2i_f (fun z => z.2.1 h18)))
      | exact K47 _ _ (b2i_f (fun z => o_f h8 z.1))
    · refine o_iload_n (pc := 21) C dX6_isSlit_21 rfl ?_
      refine o_iconst (pc := 22) C dX6_isSlit_22 ?_
      refine o_aload_n (pc := 23) C dX6_isSlit_23 rfl ?_
      refine gf_X6_56 (pc := 24) C dX6_isSlit_24 ?_
      refine o_aload_n (pc := 27) C dX6_isSlit_27 rfl ?_
      refine gf_X6_59 (pc := 28) C dX6_isSlit_28 ?_
      refine o_iload_n (pc := 31) C dX6_isSlit_31 rfl ?_
      refine ia_38 (pc := 32) C (by omega) (by omega) dX6_isSlit_32 ?_
      refine ia_37 (pc := 33) C (by omega) (by omega) dX6_isSlit_33 ?_
      have hm := yP (σ 38 0 a.toNat).toNat (by omega)
      have hm2 := hm.1
      have hm3 := hm.2.1
      refine o_iconst (pc := 34) C dX6_isSlit_34 ?_
      refine o_isub (pc := 35) C dX6_isSlit_35 ?_
      refine cl_X6_95 (pc := 36) C (c_X6_in h2 (by omega) (by omega)) (by omega) (by omega) (Nat.le_of_ble_eq_true rfl) dX6_isSlit_36 (fun z σ2 hq => ?_)
      obtain ⟨rfl, hq⟩ := hq
      rw [hq]; clear hq
      refine o_if_eq (pc := 39) C (tgt := 46) dX6_isSlit_39 (by decide) (by unfold b2i; split <;> omega) (fun h39 => ?_) (fun h39 => ?_)
      · refine o_iconst (pc := 46) C dX6_isSlit_46 ?_
        first
        | (have y := o_t h39
           exact K47 _ _ (b2i_t ⟨hp, h18, y⟩))
        | (have y := hm
           exact K47 _ _ (b2i_f (fun z => o_f h39 z.2.2)))
        | (have y := hp
           exact K47 _ _ (b2i_f (fun z => z.2.1 h18)))
        | exact K47 _ _ (b2i_f (fun z => o_f h8 z.1))
      · refine o_iconst (pc := 42) C dX6_isSlit_42 ?_
        refine o_goto (pc := 43) C (tgt := 47) dX6_isSlit_43 (by decide) ?_
        first
        | (have y := o_t h39
           exact K47 _ _ (b2i_t ⟨hp, h18, y⟩))
        | (have y := hm
           exact K47 _ _ (b2i_f (fun z => o_f h39 z.2.2)))
        | (have y := hp
           exact K47 _ _ (b2i_f (fun z => z.2.1 h18)))
        | exact K47 _ _ (b2i_f (fun z => o_f h8 z.1))
set_option maxRecDepth 100000 in
set_option maxHeartbeats 1000000 in
theorem c_X6_slitWeight {l : Launch} {g : oG} {σ : oMem} {a b : Int} (hM : MI σ) (h1 : InR a) (h2 : InR b) : oMi l g yX6_slitWeight (.code yX6_slitWeight cX6_slitWeight 3 (some .int)) 4 0 [.ref (g.2.1 24 0), oi a, oi b] σ (fun z σ' => (mkS σ a b → z = σ 39 0 (15 * a.toNat + b.toNat)) ∧ σ' = o_up σ 24 0 31 (if mkS σ a b then 0 else 1)) := by
  refine oMi_of (own := RX6) (by decide +kernel) rfl (by simp [oi, Value.category]) (by simp) (fun x C E => ?_)
  show oW l g x σ 0 [some (.ref (g.2.1 24 0)), some (oi a), some (oi b)] [] 0
  obtain ⟨y1, y3, y5, ⟨y7, y8, y9⟩, y10, y14, yC, yO, yP, yD, yW⟩ := id hM
  refine o_aload_n (pc := 0) C dX6_slitWeight_0 rfl ?_
  refine o_iload_n (pc := 1) C dX6_slitWeight_1 rfl ?_
  refine o_iload_n (pc := 2) C dX6_slitWeight_2 rfl ?_
  refine cl_X6_167 (pc := 3) C (c_X6_isSlit hM h1 h2) (by omega) (by omega) (Nat.le_of_ble_eq_true rfl) dX6_slitWeight_3 (fun z σ2 hq => ?_)
  obtain ⟨rfl, hq⟩ := hq
  rw [hq]; clear hq
  refine o_if_eq (pc := 6) C (tgt := 23) dX6_slitWeight_6 (by decide) (by unfold b2i; split <;> omega) (fun h6 => ?_) (fun h6 => ?_)
  · refine o_iconst (pc := 23) C dX6_slitWeight_23 ?_
    first
    | (have y := hm3
       exact E _ _ _ _ _ dX6_slitWeight_24 rfl ⟨fun _ => by rw [show 15 * a.toNat + b.toNat = (15 * a + b).toNat by omega], rfl⟩ (by omega))
    | exact E _ _ _ _ _ dX6_slitWeight_24 rfl ⟨fun q => absurd q (o_f h6), rfl⟩ (by omega)
  · have hp := o_t h6
    have hb38 := (yC a.toNat (by omega)).2.1
    have hm3 := (yP (σ 38 0 a.toNat).toNat (by omega)).2.1
    refine o_aload_n (pc := 9) C dX6_slitWeight_9 rfl ?_
    refine gf_X6_62 (pc := 10) C dX6_slitWeight_10 ?_
    refine o_bipush (pc := 13) C dX6_slitWeight_13 rfl ?_
    refine o_iload_n (pc := 15) C dX6_slitWeight_15 rfl ?_
    refine o_imul (pc := 16) C dX6_slitWeight_16 ?_
    refine o_iload_n (pc := 17) C dX6_slitWeight_17 rfl ?_
    refine o_iadd (pc := 18) C dX6_slitWeight_18 ?_
    refine ia_39 (pc := 19) C (by omega) (by omega) dX6_slitWeight_19 ?_
    try simp (disch := decide) only [o_up_s, o_up_k, o_up_j, o_bl_k, o_rw_k]
    refine o_goto (pc := 20) C (tgt := 24) dX6_slitWeight_20 (by decide) ?_
    first
    | (have y := hm3
       exact E _ _ _ _ _ dX6_slitWeight_24 rfl ⟨fun _ => by rw [show 15 * a.toNat + b.toNat = (15 * a + b).toNat by omega], rfl⟩ (by omega))
    | exact E _ _ _ _ _ dX6_slitWeight_24 rfl ⟨fun q => absurd q (o_f h6), rfl⟩ (by omega)
set_option maxRecDepth 100000 in
set_option maxHeartbeats 1000000 in
theorem c_X6_slitOrder {l : Launch} {g : oG} {σ : oMem} {a b : Int} (hM : MI σ) (h1 : InR a) (h2 : InR b) : oMi l g yX6_slitOrder (.code yX6_slitOrder cX6_slitOrder 3 (some .int)) 4 0 [.ref (g.2.1 24 0), oi a, oi b] σ (fun z σ' => (mkS σ a b → z = σ 40 0 (15 * a.toNat + b.toNat)) ∧ σ' = o_up σ 24 0 31 (if mkS σ a b then 0 else 1)) := by
  refine oMi_of (own := RX6) (by decide +kernel) rfl (by simp [oi, Value.category]) (by simp) (fun x C E => ?_)
  show oW l g x σ 0 [some (.ref (g.2.1 24 0)), some (oi a), some (oi b)] [] 0
  obtain ⟨y1, y3, y5, ⟨y7, y8, y9⟩, y10, y14, yC, yO, yP, yD, yW⟩ := id hM
  refine o_aload_n (pc := 0) C dX6_slitOrder_0 rfl ?_
  refine o_iload_n (pc := 1) C dX6_slitOrder_1 rfl ?_
  refine o_iload_n (pc := 2) C dX6_slitOrder_2 rfl ?_
  refine cl_X6_167 (pc := 3) C (c_X6_isSlit hM h1 h2) (by omega) (by omega) (Nat.le_of_ble_eq_true rfl) dX6_slitOrder_3 (fun z σ2 hq => ?_)
  obtain ⟨rfl, hq⟩ := hq
  rw [hq]; clear hq
  refine o_if_eq (pc := 6) C (tgt := 23) dX6_slitOrder_6 (by decide) (by unfold b2i; split <;> omega) (fun h6 => ?_) (fun h6 => ?_)
  · refine o_iconst (pc := 23) C dX6_slitOrder_23 ?_
    first
    | (have y := hm3
       exact E _ _ _ _ _ dX6_slitOrder_24 rfl ⟨fun _ => by rw [show 15 * a.toNat + b.toNat = (15 * a + b).toNat by omega], rfl⟩ (by omega))
    | exact E _ _ _ _ _ dX6_slitOrder_24 rfl ⟨fun q => absurd q (o_f h6), rfl⟩ (by omega)
  · have hp := o_t h6
    have hb38 := (yC a.toNat (by omega)).2.1
    have hm3 := (yP (σ 38 0 a.toNat).toNat (by omega)).2.1
    refine o_aload_n (pc := 9) C dX6_slitOrder_9 rfl ?_
    refine gf_X6_65 (pc := 10) C dX6_slitOrder_10 ?_
    refine o_bipush (pc := 13) C dX6_slitOrder_13 rfl ?_
    refine o_iload_n (pc := 15) C dX6_slitOrder_15 rfl ?_
    refine o_imul (pc := 16) C dX6_slitOrder_16 ?_
    refine o_iload_n (pc := 17) C dX6_slitOrder_17 rfl ?_
    refine o_iadd (pc := 18) C dX6_slitOrder_18 ?_
    refine ia_40 (pc := 19) C (by omega) (by omega) dX6_slitOrder_19 ?_
    try simp (disch := decide) only [o_up_s, o_up_k, o_up_j, o_bl_k, o_rw_k]
    refine o_goto (pc := 20) C (tgt := 24) dX6_slitOrder_20 (by decide) ?_
    first
    | (have y := hm3
       exact E _ _ _ _ _ dX6_slitOrder_24 rfl ⟨fun _ => by rw [show 15 * a.toNat + b.toNat = (15 * a + b).toNat by omega], rfl⟩ (by omega))
    | exact E _ _ _ _ _ dX6_slitOrder_24 rfl ⟨fun q => absurd q (o_f h6), rfl⟩ (by omega)
set_option maxRecDepth 100000 in
set_option maxHeartbeats 1000000 in
theorem c_X6_lost {l : Launch} {g : oG} {σ : oMem} {a b : Int} (hM : MI σ) (h1 : InR a) (h2 : InR b) : oMi l g yX6_lost (.code yX6_lost cX6_lost 3 (some .int)) 4 0 [.ref (g.2.1 24 0), oi a, oi b] σ (fun z σ' => (mkC σ a ∧ (0 ≤ b ∧ b ≤ 2) → z = σ 41 0 (3 * a.toNat + b.toNat)) ∧ σ' = o_up σ 24 0 31 (if mkC σ a then (if (0 ≤ b ∧ b ≤ 2) then 0 else 2) else 1)) := by
  refine oMi_of (own := RX6) (by decide +kernel) rfl (by simp [oi, Value.category]) (by simp) (fun x C E => ?_)
  show oW l g x σ 0 [some (.ref (g.2.1 24 0)), some (oi a), some (oi b)] [] 0
  obtain ⟨y1, y3, y5, ⟨y7, y8, y9⟩, y10, y14, yC, yO, yP, yD, yW⟩ := id hM
  refine o_aload_n (pc := 0) C dX6_lost_0 rfl ?_
  refine o_aload_n (pc := 1) C dX6_lost_1 rfl ?_
  refine o_iload_n (pc := 2) C dX6_lost_2 rfl ?_
  refine cl_X6_106 (pc := 3) C (c_X6_isCoil h1 y1) (by omega) (by omega) (Nat.le_of_ble_eq_true rfl) dX6_lost_3 (fun z σ2 hq => ?_)
  obtain ⟨rfl, hq⟩ := hq
  rw [hq]; clear hq
  refine o_iload_n (pc := 6) C dX6_lost_6 rfl ?_
  refine o_iconst (pc := 7) C dX6_lost_7 ?_
  refine o_iconst (pc := 8) C dX6_lost_8 ?_
  refine cl_X6_95 (pc := 9) C (c_X6_in h2 (by omega) (by omega)) (by omega) (by omega) (Nat.le_of_ble_eq_true rfl) dX6_lost_9 (fun z σ2 hq => ?_)
  obtain ⟨rfl, hq⟩ := hq
  rw [hq]; clear hq
  refine cl_X6_102 (pc := 12) C (c_X6_asked_ (P := mkC σ a) (Q := (0 ≤ b ∧ b ≤ 2))) (by omega) (by omega) (Nat.le_of_ble_eq_true rfl) dX6_lost_12 (fun z σ2 hq => ?_)
  obtain ⟨rfl, hq⟩ := hq
  rw [hq]; clear hq
  refine o_if_eq (pc := 15) C (tgt := 31) dX6_lost_15 (by decide) (by unfold b2i; split <;> omega) (fun h15 => ?_) (fun h15 => ?_)
  · refine o_iconst (pc := 31) C dX6_lost_31 ?_
    first
    | (have y := hp
       exact E _ _ _ _ _ dX6_lost_32 rfl ⟨fun _ => by rw [show 3 * a.toNat + b.toNat = (3 * a + b).toNat by omega], rfl⟩ (by omega))
    | exact E _ _ _ _ _ dX6_lost_32 rfl ⟨fun q => absurd q (o_f h15), rfl⟩ (by omega)
  · have hp := o_t h15
    refine o_aload_n (pc := 18) C dX6_lost_18 rfl ?_
    refine gf_X6_68 (pc := 19) C dX6_lost_19 ?_
    refine o_iconst (pc := 22) C dX6_lost_22 ?_
    refine o_iload_n (pc := 23) C dX6_lost_23 rfl ?_
    refine o_imul (pc := 24) C dX6_lost_24 ?_
    refine o_iload_n (pc := 25) C dX6_lost_25 rfl ?_
    refine o_iadd (pc := 26) C dX6_lost_26 ?_
    refine ia_41 (pc := 27) C (by omega) (by omega) dX6_lost_27 ?_
    try simp (disch := decide) only [o_up_s, o_up_k, o_up_j, o_bl_k, o_rw_k]
    refine o_goto (pc := 28) C (tgt := 32) dX6_lost_28 (by decide) ?_
    first
    | (have y := hp
       exact E _ _ _ _ _ dX6_lost_32 rfl ⟨fun _ => by rw [show 3 * a.toNat + b.toNat = (3 * a + b).toNat by omega], rfl⟩ (by omega))
    | exact E _ _ _ _ _ dX6_lost_32 rfl ⟨fun q => absurd q (o_f h15), rfl⟩ (by omega)
set_option maxRecDepth 100000 in
set_option maxHeartbeats 1000000 in
theorem c_X6_isOrder {l : Launch} {g : oG} {σ : oMem} {a : Int} (hM : MI σ) (h1 : InR a) : oMi l g yX6_isOrder (.code yX6_isOrder cX6_isOrder 2 (some .boolean)) 3 0 [.ref (g.2.1 24 0), oi a] σ (fun z σ' => z = b2i (mkO σ a) ∧ σ' = o_up σ 24 0 31 (if mkO σ a then 0 else 1)) := by
  refine oMi_of (own := RX6) (by decide +kernel) rfl (by simp [oi, Value.category]) (by simp) (fun x C E => ?_)
  show oW l g x σ 0 [some (.ref (g.2.1 24 0)), some (oi a)] [] 0
  obtain ⟨y1, y3, y5, ⟨y7, y8, y9⟩, y10, y14, yC, yO, yP, yD, yW⟩ := id hM
  refine o_aload_n (pc := 0) C dX6_isOrder_0 rfl ?_
  refine o_iload_n (pc := 1) C dX6_isOrder_1 rfl ?_
  refine o_iconst (pc := 2) C dX6_isOrder_2 ?_
  refine o_aload_n (pc := 3) C dX6_isOrder_3 rfl ?_
  refine gf_X6_121 (pc := 4) C dX6_isOrder_4 ?_
  refine o_iconst (pc := 7) C dX6_isOrder_7 ?_
  refine o_isub (pc := 8) C dX6_isOrder_8 ?_
  refine cl_X6_95 (pc := 9) C (c_X6_in h1 (by omega) (by omega)) (by omega) (by omega) (Nat.le_of_ble_eq_true rfl) dX6_isOrder_9 (fun z σ2 hq => ?_)
  obtain ⟨rfl, hq⟩ := hq
  rw [hq]; clear hq
  refine cl_X6_117 (pc := 12) C (c_X6_asked (P := mkO σ a)) (by omega) (by omega) (Nat.le_of_ble_eq_true rfl) dX6_isOrder_12 (fun z σ2 hq => ?_)
  obtain ⟨rfl, hq⟩ := hq
  rw [hq]; clear hq
  exact E _ _ _ _ _ dX6_isOrder_15 (by unfold b2i; split <;> rfl) ⟨rfl, rfl⟩ (by omega)
set_option maxRecDepth 100000 in
set_option maxHeartbeats 1000000 in
theorem c_X6_delivered {l : Launch} {g : oG} {σ : oMem} {a : Int} (hM : MI σ) (h1 : InR a) : oMi l g yX6_delivered (.code yX6_delivered cX6_delivered 2 (some .int)) 4 0 [.ref (g.2.1 24 0), oi a] σ (fun z σ' => (mkO σ a → z = σ 34 0 a.toNat) ∧ σ' = o_up σ 24 0 31 (if mkO σ a then 0 else 1)) := by
  refine oMi_of (own := RX6) (by decide +kernel) rfl (by simp [oi, Value.category]) (by simp) (fun x C E => ?_)
  show oW l g x σ 0 [some (.ref (g.2.1 24 0)), some (oi a)] [] 0
  obtain ⟨y1, y3, y5, ⟨y7, y8, y9⟩, y10, y14, yC, yO, yP, yD, yW⟩ := id hM
  refine o_aload_n (pc := 0) C dX6_delivered_0 rfl ?_
  refine o_iload_n (pc := 1) C dX6_delivered_1 rfl ?_
  refine cl_X6_170 (pc := 2) C (c_X6_isOrder hM h1) (by omega) (by omega) (Nat.le_of_ble_eq_true rfl) dX6_delivered_2 (fun z σ2 hq => ?_)
  obtain ⟨rfl, hq⟩ := hq
  rw [hq]; clear hq
  refine o_if_eq (pc := 5) C (tgt := 17) dX6_delivered_5 (by decide) (by unfold b2i; split <;> omega) (fun h5 => ?_) (fun h5 => ?_)
  · refine o_iconst (pc := 17) C dX6_delivered_17 ?_
    first
    | (have y := hp
       exact E _ _ _ _ _ dX6_delivered_18 rfl ⟨fun _ => rfl, rfl⟩ (by omega))
    | exact E _ _ _ _ _ dX6_delivered_18 rfl ⟨fun q => absurd q (o_f h5), rfl⟩ (by omega)
  · have hp := o_t h5
    refine o_aload_n (pc := 8) C dX6_delivered_8 rfl ?_
    refine gf_X6_47 (pc := 9) C dX6_delivered_9 ?_
    refine o_iload_n (pc := 12) C dX6_delivered_12 rfl ?_
    refine ia_34 (pc := 13) C (by omega) (by omega) dX6_delivered_13 ?_
    try simp (disch := decide) only [o_up_s, o_up_k, o_up_j, o_bl_k, o_rw_k]
    refine o_goto (pc := 14) C (tgt := 18) dX6_delivered_14 (by decide) ?_
    first
    | (have y := hp
       exact E _ _ _ _ _ dX6_delivered_18 rfl ⟨fun _ => rfl, rfl⟩ (by omega))
    | exact E _ _ _ _ _ dX6_delivered_18 rfl ⟨fun q => absurd q (o_f h5), rfl⟩ (by omega)
set_option maxRecDepth 100000 in
set_option maxHeartbeats 1000000 in
theorem c_X6_heatOf {l : Launch} {g : oG} {σ : oMem} {a : Int} (hM : MI σ) (h1 : InR a) : oMi l g yX6_heatOf (.code yX6_heatOf cX6_heatOf 2 (some .int)) 4 0 [.ref (g.2.1 24 0), oi a] σ (fun z σ' => (mkO σ a → z = σ 35 0 a.toNat) ∧ σ' = o_up σ 24 0 31 (if mkO σ a then 0 else 1)) := by
  refine oMi_of (own := RX6) (by decide +kernel) rfl (by simp [oi, Value.category]) (by simp) (fun x C E => ?_)
  show oW l g x σ 0 [some (.ref (g.2.1 24 0)), some (oi a)] [] 0
  obtain ⟨y1, y3, y5, ⟨y7, y8, y9⟩, y10, y14, yC, yO, yP, yD, yW⟩ := id hM
  refine o_aload_n (pc := 0) C dX6_heatOf_0 rfl ?_
  refine o_iload_n (pc := 1) C dX6_heatOf_1 rfl ?_
  refine cl_X6_170 (pc := 2) C (c_X6_isOrder hM h1) (by omega) (by omega) (Nat.le_of_ble_eq_true rfl) dX6_heatOf_2 (fun z σ2 hq => ?_)
  obtain ⟨rfl, hq⟩ := hq
  rw [hq]; clear hq
  refine o_if_eq (pc := 5) C (tgt := 17) dX6_heatOf_5 (by decide) (by unfold b2i; split <;> omega) (fun h5 => ?_) (fun h5 => ?_)
  · refine o_iconst (pc := 17) C dX6_heatOf_17 ?_
    first
    | (have y := hp
       exact E _ _ _ _ _ dX6_heatOf_18 rfl ⟨fun _ => rfl, rfl⟩ (by omega))
    | exact E _ _ _ _ _ dX6_heatOf_18 rfl ⟨fun q => absurd q (o_f h5), rfl⟩ (by omega)
  · have hp := o_t h5
    refine o_aload_n (pc := 8) C dX6_heatOf_8 rfl ?_
    refine gf_X6_50 (pc := 9) C dX6_heatOf_9 ?_
    refine o_iload_n (pc := 12) C dX6_heatOf_12 rfl ?_
    refine ia_35 (pc := 13) C (by omega) (by omega) dX6_heatOf_13 ?_
    try simp (disch := decide) only [o_up_s, o_up_k, o_up_j, o_bl_k, o_rw_k]
    refine o_goto (pc := 14) C (tgt := 18) dX6_heatOf_14 (by decide) ?_
    first
    | (have y := hp
       exact E _ _ _ _ _ dX6_heatOf_18 rfl ⟨fun _ => rfl, rfl⟩ (by omega))
    | exact E _ _ _ _ _ dX6_heatOf_18 rfl ⟨fun q => absurd q (o_f h5), rfl⟩ (by omega)
def mSt1 (σ : oMem) (w : Int) (c j : Nat) : Int := if σ 40 0 (15 * c + j) = -1 ∧ mW σ (σ 38 0 c).toNat j = w then σ 39 0 (15 * c + j) else 0
def mSt (σ : oMem) (w : Int) (c : Nat) : Int := if σ 38 0 c = -1 then 0 else o_sum (mSt1 σ w c) (σ 37 0 (σ 38 0 c).toNat).toNat
set_option maxRecDepth 100000 in
set_option maxHeartbeats 1000000 in
theorem c_X6_stock {l : Launch} {g : oG} {σ : oMem} {a : Int} (hM : MI σ) (h1 : InR a) : oMi l g yX6_stock (.code yX6_stock cX6_stock 6 (some .int)) 4 0 [.ref (g.2.1 24 0), oi a] σ (fun z σ' => z = o_sum (mSt σ a) (σ 24 0 4).toNat ∧ σ' = o_up σ 24 0 31 0) := by
  refine oMi_of (own := RX6) (by decide +kernel) rfl (by simp [oi, Value.category]) (by simp) (fun x C E => ?_)
  show oW l g x σ 0 [some (.ref (g.2.1 24 0)), some (oi a), none, none, none, none] [] 0
  obtain ⟨y1, y3, y5, ⟨y7, y8, y9⟩, y10, y14, yC, yO, yP, yD, yW⟩ := id hM
  have L2 : ∀ (t : Nat) (s0 : Int), (t : Int) < σ 24 0 4 → (∀ (s : Int) (r4 r5 : Option Value), s = s0 + mSt σ a t → oW l g x σ 115 [some (.ref (g.2.1 24 0)), some (oi a), some (oi s), some (oi (t : Int)), r4, r5] [] 0) → ∀ (n k : Nat) (s i : Int) (r5 : Option Value), 15 < k + n → k ≤ 15 → i = k → (k : Nat) ≤ (if σ 38 0 t = -1 then 0 else (σ 37 0 (σ 38 0 t).toNat).toNat) → s = s0 + (if σ 38 0 t = -1 then 0 else o_sum (mSt1 σ a t) k) → oW l g x σ 15 [some (.ref (g.2.1 24 0)), some (oi a), some (oi s), some (oi (t : Int)), some (oi i), r5] [] 0 := by
    intro t s0 ht kk n
    induction n with
    | zero => intro k s i r5 a1 a2; omega
    | succ n ih =>
      intro k s i r5 a1 a2 a3 a4 a5
      subst a3
      have hct := yC t ht
      have hb38 := hct.2.1
      have hm3 : σ 38 0 t ≠ -1 → mP σ (σ 38 0 t).toNat := fun q => yP _ (by omega)
      have e1 : ((t : Int)).toNat = t := by omega
      have K83 : ∀ (v : Int), σ 38 0 t ≠ -1 → (k : Int) < σ 37 0 (σ 38 0 t).toNat → v = b2i (σ 40 0 (15 * t + k) = -1 ∧ mW σ (σ 38 0 t).toNat k = a) → oW l g x σ 83 [some (.ref (g.2.1 24 0)), some (oi a), some (oi s), some (oi (t : Int)), some (oi (k : Int)), r5] [oi v] 0 := by
        intro v hx hk hv
        subst hv
        have hm := hm3 hx
        have hm2 := hm.2.1
        rw [if_neg hx] at a4 a5
        have ih2 := ih (k + 1)
        rw [if_neg hx, if_neg hx] at ih2
        have e2 : (15 * (t : Int) + (k : Int)).toNat = 15 * t + k := by omega
        refine sti_5 (pc := 83) C dX6_stock_83 ?_
        refine o_iload_n (pc := 85) C dX6_stock_85 rfl ?_
        refine o_iload (pc := 86) C dX6_stock_86 rfl ?_
        refine o_if_eq (pc := 88) C (tgt := 106) dX6_stock_88 (by decide) (by unfold b2i; split <;> omega) (fun h88 => ?_) (fun h88 => ?_)
        · refine o_iconst (pc := 106) C dX6_stock_106 ?_
          refine o_iadd (pc := 107) C dX6_stock_107 ?_
          refine sti_2 (pc := 108) C dX6_stock_108 ?_
          refine inc_4 (pc := 109) C dX6_stock_109 ?_
          refine o_goto (pc := 112) C (tgt := 15) dX6_stock_112 (by decide) ?_
          first
          | (have y := o_t h88
             exact ih2 _ _ _ (by omega) (by omega) (by omega) (by omega) (by rw [o_sum, a5, mSt1, if_pos y]; omega))
          | (have y := o_f h88
             exact ih2 _ _ _ (by omega) (by omega) (by omega) (by omega) (by rw [o_sum, a5, mSt1, if_neg y]; omega))
        · refine o_aload_n (pc := 91) C dX6_stock_91 rfl ?_
          refine gf_X6_62 (pc := 92) C dX6_stock_92 ?_
          refine o_bipush (pc := 95) C dX6_stock_95 rfl ?_
          refine o_iload_n (pc := 97) C dX6_stock_97 rfl ?_
          refine o_imul (pc := 98) C dX6_stock_98 ?_
          refine o_iload (pc := 99) C dX6_stock_99 rfl ?_
          refine o_iadd (pc := 101) C dX6_stock_101 ?_
          refine ia_39 (pc := 102) C (by omega) (by omega) dX6_stock_102 ?_
          rw [e2]
          refine o_goto (pc := 103) C (tgt := 107) dX6_stock_103 (by decide) ?_
          refine o_iadd (pc := 107) C dX6_stock_107 ?_
          refine sti_2 (pc := 108) C dX6_stock_108 ?_
          refine inc_4 (pc := 109) C dX6_stock_109 ?_
          refine o_goto (pc := 112) C (tgt := 15) dX6_stock_112 (by decide) ?_
          first
          | (have y := o_t h88
             exact ih2 _ _ _ (by omega) (by omega) (by omega) (by omega) (by rw [o_sum, a5, mSt1, if_pos y]; omega))
          | (have y := o_f h88
             exact ih2 _ _ _ (by omega) (by omega) (by omega) (by omega) (by rw [o_sum, a5, mSt1, if_neg y]; omega))
      refine o_aload_n (pc := 15) C dX6_stock_15 rfl ?_
      refine gf_X6_59 (pc := 16) C dX6_stock_16 ?_
      refine o_iload_n (pc := 19) C dX6_stock_19 rfl ?_
      refine ia_38 (pc := 20) C (by omega) (by omega) dX6_stock_20 ?_
      rw [e1]
      refine o_iconst (pc := 21) C dX6_stock_21 ?_
      refine o_icmp_eq (pc := 22) C (tgt := 115) dX6_stock_22 (by decide) (by omega) (by omega) (fun h22 => ?_) (fun h22 => ?_)
      · first
        | (have y := hx
           rw [if_neg hx] at a4 a5
           exact kk _ _ _ (by rw [a5, mSt, if_neg hx, show k = (σ 37 0 (σ 38 0 t).toNat).toNat by omega]))
        | (have y : σ 38 0 t = -1 := by omega
           rw [if_pos y] at a5
           exact kk _ _ _ (by rw [a5, mSt, if_pos y]))
      · refine o_iload (pc := 25) C dX6_stock_25 rfl ?_
        refine o_aload_n (pc := 27) C dX6_stock_27 rfl ?_
        refine gf_X6_56 (pc := 28) C dX6_stock_28 ?_
        refine o_aload_n (pc := 31) C dX6_stock_31 rfl ?_
        refine gf_X6_59 (pc := 32) C dX6_stock_32 ?_
        refine o_iload_n (pc := 35) C dX6_stock_35 rfl ?_
        refine ia_38 (pc := 36) C (by omega) (by omega) dX6_stock_36 ?_
        rw [e1]
        have hx : σ 38 0 t ≠ -1 := by rw [← e1]; exact h22
        have hm := hm3 hx
        have hm1 := hm.1
        have hm2 := hm.2.1
        refine ia_37 (pc := 37) C (by omega) (by omega) dX6_stock_37 ?_
        refine o_icmp_ge (pc := 38) C (tgt := 115) dX6_stock_38 (by decide) (by omega) (by omega) (fun h38 => ?_) (fun h38 => ?_)
        · first
          | (have y := hx
             rw [if_neg hx] at a4 a5
             exact kk _ _ _ (by rw [a5, mSt, if_neg hx, show k = (σ 37 0 (σ 38 0 t).toNat).toNat by omega]))
          | (have y : σ 38 0 t = -1 := by omega
             rw [if_pos y] at a5
             exact kk _ _ _ (by rw [a5, mSt, if_pos y]))
        · refine o_aload_n (pc := 41) C dX6_stock_41 rfl ?_
          refine gf_X6_65 (pc := 42) C dX6_stock_42 ?_
          refine o_bipush (pc := 45) C dX6_stock_45 rfl ?_
          refine o_iload_n (pc := 47) C dX6_stock_47 rfl ?_
          refine o_imul (pc := 48) C dX6_stock_48 ?_
          refine o_iload (pc := 49) C dX6_stock_49 rfl ?_
          refine o_iadd (pc := 51) C dX6_stock_51 ?_
          refine ia_40 (pc := 52) C (by omega) (by omega) dX6_stock_52 ?_
          rw [show (15 * (t : Int) + (k : Int)).toNat = 15 * t + k by omega]
          have hc2 := hct.2.2 k (by omega) (by omega)
          refine o_iconst (pc := 53) C dX6_stock_53 ?_
          refine o_icmp_ne (pc := 54) C (tgt := 82) dX6_stock_54 (by decide) (by omega) (by omega) (fun h54 => ?_) (fun h54 => ?_)
          · refine o_iconst (pc := 82) C dX6_stock_82 ?_
            first
            | (have y := h75
               first
               | exact K83 _ hx (by omega) (b2i_t ⟨h54, h75⟩)
               | exact K83 _ hx (by omega) (b2i_f (fun z => h75 z.2)))
            | exact K83 _ hx (by omega) (b2i_f (fun z => h54 z.1))
          · refine o_aload_n (pc := 57) C dX6_stock_57 rfl ?_
            refine gf_X6_53 (pc := 58) C dX6_stock_58 ?_
            refine o_bipush (pc := 61) C dX6_stock_61 rfl ?_
            refine o_aload_n (pc := 63) C dX6_stock_63 rfl ?_
            refine gf_X6_59 (pc := 64) C dX6_stock_64 ?_
            refine o_iload_n (pc := 67) C dX6_stock_67 rfl ?_
            refine ia_38 (pc := 68) C (by omega) (by omega) dX6_stock_68 ?_
            rw [e1]
            refine o_imul (pc := 69) C dX6_stock_69 ?_
            refine o_iload (pc := 70) C dX6_stock_70 rfl ?_
            refine o_iadd (pc := 72) C dX6_stock_72 ?_
            refine ia_36 (pc := 73) C (by omega) (by omega) dX6_stock_73 ?_
            rw [show (15 * σ 38 0 t + (k : Int)).toNat = 15 * (σ 38 0 t).toNat + k by omega]
            have hwk := hm.2.2 k (by omega)
            unfold mW at hwk
            refine o_iload_n (pc := 74) C dX6_stock_74 rfl ?_
            refine o_icmp_ne (pc := 75) C (tgt := 82) dX6_stock_75 (by decide) (by omega) (by omega) (fun h75 => ?_) (fun h75 => ?_)
            · refine o_iconst (pc := 82) C dX6_stock_82 ?_
              first
              | (have y := h75
                 first
                 | exact K83 _ hx (by omega) (b2i_t ⟨h54, h75⟩)
                 | exact K83 _ hx (by omega) (b2i_f (fun z => h75 z.2)))
              | exact K83 _ hx (by omega) (b2i_f (fun z => h54 z.1))
            · refine o_iconst (pc := 78) C dX6_stock_78 ?_
              refine o_goto (pc := 79) C (tgt := 83) dX6_stock_79 (by decide) ?_
              first
              | (have y := h75
                 first
                 | exact K83 _ hx (by omega) (b2i_t ⟨h54, h75⟩)
                 | exact K83 _ hx (by omega) (b2i_f (fun z => h75 z.2)))
              | exact K83 _ hx (by omega) (b2i_f (fun z => h54 z.1))
  have L : ∀ (n t : Nat) (s i : Int) (r4 r5 : Option Value), σ 24 0 4 < t + n → (t : Int) ≤ σ 24 0 4 → i = t → s = o_sum (mSt σ a) t → oW l g x σ 4 [some (.ref (g.2.1 24 0)), some (oi a), some (oi s), some (oi i), r4, r5] [] 0 := by
    intro n
    induction n with
    | zero => intro t s i r4 r5 a1 a2; omega
    | succ n ih =>
      intro t s i r4 r5 a1 a2 a3 a4
      subst a3
      refine o_iload_n (pc := 4) C dX6_stock_4 rfl ?_
      refine o_aload_n (pc := 5) C dX6_stock_5 rfl ?_
      refine gf_X6_92 (pc := 6) C dX6_stock_6 ?_
      refine o_icmp_ge (pc := 9) C (tgt := 121) dX6_stock_9 (by decide) (by omega) (by omega) (fun h9 => ?_) (fun h9 => ?_)
      · refine o_aload_n (pc := 121) C dX6_stock_121 rfl ?_
        refine o_iload_n (pc := 122) C dX6_stock_122 rfl ?_
        refine cl_X6_128 (pc := 123) C (c_X6_told) (by omega) (by omega) (Nat.le_of_ble_eq_true rfl) dX6_stock_123 (fun z σ2 hq => ?_)
        obtain ⟨rfl, hq⟩ := hq
        rw [hq]; clear hq
        exact E _ _ _ _ _ dX6_stock_126 rfl ⟨by rw [a4, show (σ 24 0 4).toNat = t by omega], rfl⟩ (by omega)
      · refine o_iconst (pc := 12) C dX6_stock_12 ?_
        refine sti_4 (pc := 13) C dX6_stock_13 ?_
        refine L2 t s (by omega) (fun s2 r4 r5 hs2 => ?_) 16 0 _ _ _ (by omega) (by omega) rfl (Nat.zero_le _) (by split <;> (try rw [o_sum]) <;> omega)
        refine inc_3 (pc := 115) C dX6_stock_115 ?_
        refine o_goto (pc := 118) C (tgt := 4) dX6_stock_118 (by decide) ?_
        exact ih (t + 1) _ _ _ _ (by omega) (by omega) (by omega) (by rw [o_sum, hs2, a4])
  refine o_iconst (pc := 0) C dX6_stock_0 ?_
  refine sti_2 (pc := 1) C dX6_stock_1 ?_
  refine o_iconst (pc := 2) C dX6_stock_2 ?_
  refine sti_3 (pc := 3) C dX6_stock_3 ?_
  exact L 21 0 _ _ _ _ (by omega) (by omega) rfl rfl
