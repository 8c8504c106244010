theorem b_or : ∀ s : Nat, s < 128 → ∀ r : Nat, r < 7 → hb s r = false → Int32.ofInt (s : Int) ||| Int32.ofInt ((2 ^ r : Nat) : Int) = Int32.ofInt ((s + 2 ^ r : Nat) : Int) := by decide +kernel
theorem b_cmp : ∀ n : Nat, n < 8 → ∀ s : Nat, s < 2 ^ n → ∀ r : Nat, r < n → hb (2 ^ n - 1 - s) r = !hb s r := by decide +kernel
theorem b_cmp2 : ∀ n : Nat, n < 8 → ∀ s : Nat, s < 2 ^ n → ∀ r : Nat, r < n → hb s r = false → s + 2 ^ r < 2 ^ n ∧ 2 ^ n - 1 - (s + 2 ^ r) = wo (2 ^ n - 1 - s) r := by decide +kernel
theorem b_bit : ∀ s : Nat, s < 128 → ∀ r : Nat, r < 7 → (hb s r = true ↔ s / 2 ^ r % 2 = 1) := by decide +kernel
theorem p2_pos (r : Nat) : 0 < 2 ^ r := Nat.pos_of_ne_zero (by simp)
/-- the model's moves between waiting runs -/
def mBt (σ : oMem) (b r : Nat) : Int := mMv σ (if b = 7 then σ 24 0 23 else σ 43 0 b) (σ 43 0 r).toNat
theorem mBt_cong {σ μ : oMem} (k : ∀ K, K ≠ 45 → K ≠ 46 → μ K = σ K) (b r : Nat) : mBt μ b r = mBt σ b r := by
  unfold mBt mMv mW
  rw [k 24 (by decide) (by decide), k 43 (by decide) (by decide), k 36 (by decide) (by decide), k 37 (by decide) (by decide)]
theorem fo_B {ok : Nat → Bool} {c : Nat → Int} {A B : Int} {n : Nat} (h : ∃ r, r < n ∧ ok r = true ∧ c r ≤ A ∧ c r ≤ B) : o_fo ok c A n = o_fo ok c B n := by
  obtain ⟨r, r1, r2, r3, r4⟩ := h
  obtain ⟨a1, a2, a3⟩ := fo_le (ok := ok) (c := c) (B := A) n
  obtain ⟨b1, b2, b3⟩ := fo_le (ok := ok) (c := c) (B := B) n
  have ha := a2 r r1 r2
  have hb := b2 r r1 r2
  rcases a3 with a3 | ⟨x, x1, x2, x3⟩
  · rcases b3 with b3 | ⟨y, y1, y2, y3⟩
    · omega
    · have := a2 y y1 y2; omega
  · have h1 := b2 x x1 x2
    rcases b3 with b3 | ⟨y, y1, y2, y3⟩
    · omega
    · have := a2 y y1 y2; omega
theorem fo_none {ok : Nat → Bool} {c : Nat → Int} {B : Int} : ∀ n : Nat, (∀ r, r < n → ok r = false) → o_fo ok c B n = B
  | 0, _ => rfl
  | n + 1, h => by rw [o_fo, if_neg (by rw [h n (by omega)]; decide), fo_none n (fun r hr => h r (by omega))]
set_option maxRecDepth 100000 in
set_option maxHeartbeats 1000000 in
theorem c_X6_between {l : Launch} {g : oG} {σ : oMem} {b r : Nat} (hn : 0 ≤ σ 24 0 27 ∧ σ 24 0 27 ≤ 7) (hs : -1 ≤ σ 24 0 23 ∧ σ 24 0 23 < σ 24 0 18) (hp : σ 24 0 18 ≤ 10) (hP : ∀ p : Nat, (p : Int) < σ 24 0 18 → mP σ p) (hw : ∀ i : Nat, (i : Int) < σ 24 0 27 → 0 ≤ σ 43 0 i ∧ σ 43 0 i < σ 24 0 18) (hb0 : (b : Int) < σ 24 0 27 ∨ b = 7) (hr : (r : Int) < σ 24 0 27) : oMi l g yX6_between (.code yX6_between cX6_between 3 (some .int)) 3 0 [.ref (g.2.1 24 0), oi (b : Int), oi (r : Int)] σ (fun z σ' => z = mBt σ b r ∧ σ' = σ) := by
  refine oMi_of (own := RX6) (by decide +kernel) rfl (by simp [oi, Value.category]) (by simp) (fun x C E => ?_)
  show oW l g x σ 0 [some (.ref (g.2.1 24 0)), some (oi (b : Int)), some (oi (r : Int))] [] 0
  have hr2 := hw r hr
  have K20 : ∀ v : Int, v = (if b = 7 then σ 24 0 23 else σ 43 0 b) → -1 ≤ v → v < σ 24 0 18 → oW l g x σ 20 [some (.ref (g.2.1 24 0)), some (oi (b : Int)), some (oi (r : Int))] [oi v, .ref (g.2.1 24 0)] 0 := by
    intro v hv v0 v1
    refine o_aload_n (pc := 20) C dX6_between_20 rfl ?_
    refine gf_X6_77 (pc := 21) C dX6_between_21 ?_
    refine o_iload_n (pc := 24) C dX6_between_24 rfl ?_
    refine ia_43 (pc := 25) C (by omega) (by omega) dX6_between_25 ?_
    rw [show ((r : Int)).toNat = r by omega, show σ 43 0 r = ((σ 43 0 r).toNat : Int) by omega]
    refine cl_X6_150 (pc := 26) C (c_X6_movesFrom (p := (σ 43 0 r).toNat) (b := v) (by omega) (hP _ (by omega)) (by omega) (fun z => hP _ (by omega))) (by omega) (by omega) (Nat.le_of_ble_eq_true rfl) dX6_between_26 (fun z σ2 hq => ?_)
    obtain ⟨rfl, hq⟩ := hq
    rw [hq]; clear hq
    exact E _ _ _ _ _ dX6_between_29 rfl ⟨by unfold mBt; rw [hv], rfl⟩ (by omega)
  refine o_aload_n (pc := 0) C dX6_between_0 rfl ?_
  refine o_iload_n (pc := 1) C dX6_between_1 rfl ?_
  refine o_bipush (pc := 2) C dX6_between_2 rfl ?_
  refine o_icmp_ne (pc := 4) C (tgt := 14) dX6_between_4 (by decide) (by omega) (by omega) (fun h4 => ?_) (fun h4 => ?_)
  · refine o_aload_n (pc := 14) C dX6_between_14 rfl ?_
    refine gf_X6_77 (pc := 15) C dX6_between_15 ?_
    refine o_iload_n (pc := 18) C dX6_between_18 rfl ?_
    refine ia_43 (pc := 19) C (by omega) (by omega) dX6_between_19 ?_
    first
    | (have y : b = 7 := by omega
       exact K20 _ (by rw [if_pos y]) (by omega) (by omega))
    | (have y : ¬ b = 7 := by omega
       have hb2 := hw b (by omega)
       rw [show ((b : Int)).toNat = b by omega]
       exact K20 _ (by rw [if_neg y]) (by omega) (by omega))
  · refine o_aload_n (pc := 7) C dX6_between_7 rfl ?_
    refine gf_X6_71 (pc := 8) C dX6_between_8 ?_
    refine o_goto (pc := 11) C (tgt := 20) dX6_between_11 (by decide) ?_
    first
    | (have y : b = 7 := by omega
       exact K20 _ (by rw [if_pos y]) (by omega) (by omega))
    | (have y : ¬ b = 7 := by omega
       have hb2 := hw b (by omega)
       rw [show ((b : Int)).toNat = b by omega]
       exact K20 _ (by rw [if_neg y]) (by omega) (by omega))
/-- the model's table is right for the sets from q on, for q itself for the runs below b -/
def RTok (mv : Nat → Nat → Int) (n : Nat) (μ : oMem) (q b : Nat) : Prop := ∀ s l : Nat, s < 2 ^ n → l ≤ 7 → (q < s ∨ (s = q ∧ l < b)) → (0 ≤ μ 45 0 (8 * s + l) ∧ μ 45 0 (8 * s + l) ≤ 1000) ∧ ((l < n ∨ l = 7) → μ 45 0 (8 * s + l) = oFC mv n l (2 ^ n - 1 - s))
theorem RTok_up {mv : Nat → Nat → Int} {n : Nat} {μ : oMem} {q b : Nat} {v : Int} (h : RTok mv n μ q b) (hb7 : b ≤ 7) (h0 : 0 ≤ v ∧ v ≤ 1000) (hv : (b < n ∨ b = 7) → v = oFC mv n b (2 ^ n - 1 - q)) : RTok mv n (o_up μ 45 0 (8 * q + b) v) q (b + 1) := by
  intro s l hs hl hc
  by_cases e : s = q ∧ l = b
  · obtain ⟨rfl, rfl⟩ := e
    rw [o_up_s]
    exact ⟨h0, hv⟩
  · rw [o_up_j (by omega)]
    exact h s l hs hl (by omega)
theorem RT_val {mv : Nat → Nat → Int} {n s l : Nat} {v : Int} {R : Nat → Int} (hn : n < 8) (hbd : ∀ b r, b < 8 → r < n → 0 ≤ mv b r ∧ mv b r ≤ 16) (hs : s < 2 ^ n) (hl : l < n ∨ l = 7) (hR : ∀ r, r < n → hb s r = false → R r = oFC mv n r (wo (2 ^ n - 1 - s) r)) (hv : v = o_fo (hb (2 ^ n - 1 - s)) (fun r => mv l r + R r) (if s = 2 ^ n - 1 then 0 else 1000) n) : v = oFC mv n l (2 ^ n - 1 - s) := by
  have h128 := p2_le n hn
  by_cases e : s = 2 ^ n - 1
  · rw [hv, if_pos e, show 2 ^ n - 1 - s = 0 by omega, oFC_0]
    exact fo_none n (fun r hr => by
      have := b_cmp n hn (2 ^ n - 1) (by omega) r hr
      unfold hb
      simp)
  · have h0 : 2 ^ n - 1 - s ≠ 0 := by omega
    rw [hv, if_neg e, oFC_eq mv hn (by omega) h0]
    have hcg : o_fo (hb (2 ^ n - 1 - s)) (fun r => mv l r + R r) 1000 n = o_fo (hb (2 ^ n - 1 - s)) (fun r => mv l r + oFC mv n r (wo (2 ^ n - 1 - s) r)) 1000 n := by
      apply fo_cong
      intro r hr hk
      rw [hR r hr (by have := b_cmp n hn s hs r hr; rw [hk] at this; simpa using this.symm)]
    rw [hcg]
    apply fo_B
    obtain ⟨r, r1, r2⟩ := hb_some n hn (2 ^ n - 1 - s) (by omega) h0
    have hw := hb_cd (2 ^ n - 1 - s) (by omega) r (by omega) r2
    have h7 := cd_7 (2 ^ n - 1 - s) (by omega)
    have hb := oFC_bd hn hbd (cd (wo (2 ^ n - 1 - s) r)) r (wo (2 ^ n - 1 - s) r) (by omega) (wo_n n hn _ (by omega) r (by omega)) rfl
    have hm := hbd l r (by omega) r1
    exact ⟨r, r1, r2, by omega, by omega⟩
theorem hb_iff {s r : Nat} (hs : s < 128) (hr : r < 7) : (((s / 2 ^ r % 2 : Nat) : Int) = 0 ↔ hb s r = false) := by
  have h1 := b_bit s hs r hr
  have h2 : s / 2 ^ r % 2 < 2 := Nat.mod_lt _ (by decide)
  generalize s / 2 ^ r % 2 = y at h1 h2
  cases h : hb s r
  · rw [h] at h1
    refine ⟨fun _ => rfl, fun _ => ?_⟩
    have : ¬ y = 1 := fun z => absurd (h1.mpr z) (by decide)
    omega
  · rw [h] at h1
    have := h1.mp rfl
    refine ⟨fun z => ?_, fun z => absurd z (by decide)⟩
    omega
set_option maxRecDepth 100000 in
set_option maxHeartbeats 1000000 in
theorem c_X6_best {l9 : Launch} {g : oG} {σ : oMem} {n : Nat} {mv : Nat → Nat → Int} (hn : 0 ≤ σ 24 0 27 ∧ σ 24 0 27 ≤ 7) (hs : -1 ≤ σ 24 0 23 ∧ σ 24 0 23 < σ 24 0 18) (hp : σ 24 0 18 ≤ 10) (hP : ∀ p : Nat, (p : Int) < σ 24 0 18 → mP σ p) (hw : ∀ i : Nat, (i : Int) < σ 24 0 27 → 0 ≤ σ 43 0 i ∧ σ 43 0 i < σ 24 0 18) (hn0 : (n : Int) = σ 24 0 27) (hmv : ∀ b r, b < n ∨ b = 7 → r < n → mBt σ b r = mv b r) (hbd : ∀ b r, b < 8 → r < n → 0 ≤ mv b r ∧ mv b r ≤ 16) : oMi l9 g yX6_best (.code yX6_best cX6_best 8 (some .int)) 4 0 [.ref (g.2.1 24 0)] σ (fun z σ' => z = oFC mv n 7 (2 ^ n - 1) ∧ (∃ q : Nat → Nat, (∀ i, i < n → σ' 46 0 i = q i) ∧ isBest mv n q) ∧ ∀ K, K ≠ 45 → K ≠ 46 → σ' K = σ K) := by
  refine oMi_of (own := RX6) (by decide +kernel) rfl (by simp [oi, Value.category]) (by simp) (fun x C E => ?_)
  show oW l9 g x σ 0 [some (.ref (g.2.1 24 0)), none, none, none, none, none, none, none] [] 0
  have h128 := p2_le n (by omega)
  have LK : ∀ (s l : Nat) (μ : oMem), s < 2 ^ n → l ≤ 7 → (∀ K, K ≠ 45 → K ≠ 46 → μ K = σ K) → RTok mv n μ s l → (∀ (v : Int) (r5 r6 : Option Value), (0 ≤ v ∧ v ≤ 1000) → ((l < n ∨ l = 7) → v = o_fo (hb (2 ^ n - 1 - s)) (fun r => mv l r + μ 45 0 (8 * (s + 2 ^ r) + r)) (if s = 2 ^ n - 1 then 0 else 1000) n) → oW l9 g x μ 121 [some (.ref (g.2.1 24 0)), some (oi (((2 ^ n : Nat) : Int) - 1)), some (oi (s : Int)), some (oi (l : Int)), some (oi v), r5, r6, none] [] 0) → ∀ (m k : Nat) (v i : Int) (r6 : Option Value), n < k + m → k ≤ n → i = k → (0 ≤ v ∧ v ≤ 1000) → v = o_fo (hb (2 ^ n - 1 - s)) (fun r => mv l r + μ 45 0 (8 * (s + 2 ^ r) + r)) (if s = 2 ^ n - 1 then 0 else 1000) k → oW l9 g x μ 40 [some (.ref (g.2.1 24 0)), some (oi (((2 ^ n : Nat) : Int) - 1)), some (oi (s : Int)), some (oi (l : Int)), some (oi v), some (oi i), r6, none] [] 0 := by
    intro s l μ hs9 hl7 hμ hRT kk m
    induction m with
    | zero => intro k v i r6 a1 a2; omega
    | succ m ih =>
      intro k v i r6 a1 a2 a3 a4 a5
      subst a3
      have k24 : μ 24 = σ 24 := hμ 24 (by decide) (by decide)
      have k43 : μ 43 = σ 43 := hμ 43 (by decide) (by decide)
      have kP : ∀ p, mP μ p = mP σ p := fun p => by unfold mP mW; rw [hμ 36 (by decide) (by decide), hμ 37 (by decide) (by decide)]
      have e27 : μ 24 0 27 = n := by rw [k24]; omega
      have hdiv : s / 2 ^ k < 128 := Nat.lt_of_le_of_lt (Nat.div_le_self _ _) (by omega)
      have hpk := p2_pos k
      refine o_iload (pc := 40) C dX6_best_40 rfl ?_
      refine o_aload_n (pc := 42) C dX6_best_42 rfl ?_
      refine gf_X6_157 (pc := 43) C dX6_best_43 ?_
      rw [e27]
      refine o_icmp_ge (pc := 46) C (tgt := 121) dX6_best_46 (by decide) (by omega) (by omega) (fun h46 => ?_) (fun h46 => ?_)
      · first
        | exact kk _ _ _ a4 (fun _ => by rw [a5, show k = n by omega])
        | exact kk _ _ _ a4 (fun z => by omega)
      · refine o_iload_n (pc := 49) C dX6_best_49 rfl ?_
        refine o_aload_n (pc := 50) C dX6_best_50 rfl ?_
        refine gf_X6_157 (pc := 51) C dX6_best_51 ?_
        rw [e27]
        refine o_icmp_lt (pc := 54) C (tgt := 63) dX6_best_54 (by decide) (by omega) (by omega) (fun h54 => ?_) (fun h54 => ?_)
        · refine o_iload_n (pc := 63) C dX6_best_63 rfl ?_
          refine o_iload (pc := 64) C dX6_best_64 rfl ?_
          refine o_ishr (pc := 66) C dX6_best_66 (b_shr s (by omega) k (by omega)) ?_
          refine o_iconst (pc := 67) C dX6_best_67 ?_
          refine o_iand (pc := 68) C dX6_best_68 (b_and1 _ hdiv) ?_
          refine o_if_ne (pc := 69) C (tgt := 115) dX6_best_69 (by decide) (by omega) (fun h69 => ?_) (fun h69 => ?_)
          · refine inc_5 (pc := 115) C dX6_best_115 ?_
            refine o_goto (pc := 118) C (tgt := 40) dX6_best_118 (by decide) ?_
            first
            | (have y := h103
               refine ih (k + 1) _ _ _ (by omega) (by omega) (by omega) (by omega) ?_
               rw [o_fo, if_pos (by rw [hct]; rfl), ← a5]
               first
               | rw [if_pos (by omega)]
               | rw [if_neg (by omega)])
            | (have hbt : hb s k = true := by
                 cases h9 : hb s k
                 · exact absurd ((hb_iff (s := s) (r := k) (by omega) (by omega)).mpr h9) h69
                 · rfl
               have hct := b_cmp n (by omega) s hs9 k (by omega)
               rw [hbt] at hct
               refine ih (k + 1) _ _ _ (by omega) (by omega) (by omega) a4 ?_
               rw [o_fo, if_neg (by rw [hct]; decide), a5])
          · have hf := (hb_iff (s := s) (r := k) (by omega) (by omega)).mp h69
            have hc2 := b_cmp2 n (by omega) s hs9 k (by omega) hf
            have hct := b_cmp n (by omega) s hs9 k (by omega)
            rw [hf] at hct
            refine o_aload_n (pc := 72) C dX6_best_72 rfl ?_
            refine o_iload_n (pc := 73) C dX6_best_73 rfl ?_
            refine o_iload (pc := 74) C dX6_best_74 rfl ?_
            refine cl_X6_160 (pc := 76) C (c_X6_between (by rw [k24]; exact hn) (by rw [k24]; exact hs) (by rw [k24]; exact hp) (fun p hp9 => by rw [kP]; exact hP p (by rw [k24] at hp9; exact hp9)) (fun i hi => by rw [k24, k43]; rw [k24] at hi; exact hw i hi) (by rw [k24, ← hn0]; exact (show l < n ∨ l = 7 by omega).imp (fun y => Int.ofNat_lt.mpr y) id) (by rw [k24]; omega) (b := l) (r := k)) (by omega) (by omega) (Nat.le_of_ble_eq_true rfl) dX6_best_76 (fun z σ2 hq => ?_)
            obtain ⟨rfl, hq⟩ := hq
            rw [hq]; clear hq
            refine o_aload_n (pc := 79) C dX6_best_79 rfl ?_
            refine gf_X6_83 (pc := 80) C dX6_best_80 ?_
            refine o_bipush (pc := 83) C dX6_best_83 rfl ?_
            refine o_iload_n (pc := 85) C dX6_best_85 rfl ?_
            refine o_iconst (pc := 86) C dX6_best_86 ?_
            refine o_iload (pc := 87) C dX6_best_87 rfl ?_
            refine o_ishl (pc := 89) C dX6_best_89 (b_shl k (by omega)) ?_
            refine o_ior (pc := 90) C dX6_best_90 (b_or s (by omega) k (by omega) hf) ?_
            refine o_imul (pc := 91) C dX6_best_91 ?_
            refine o_iload (pc := 92) C dX6_best_92 rfl ?_
            refine o_iadd (pc := 94) C dX6_best_94 ?_
            refine ia_45 (pc := 95) C (by omega) (by omega) dX6_best_95 ?_
            rw [show (8 * ((s + 2 ^ k : Nat) : Int) + (k : Int)).toNat = 8 * (s + 2 ^ k) + k by omega, mBt_cong hμ, hmv l k (by omega) (by omega)]
            have hrt := hRT (s + 2 ^ k) k hc2.1 (by omega) (Or.inl (by omega))
            have hmb := hbd l k (by omega) (by omega)
            refine o_iadd (pc := 96) C dX6_best_96 ?_
            refine sti_6 (pc := 97) C dX6_best_97 ?_
            refine o_iload (pc := 99) C dX6_best_99 rfl ?_
            refine o_iload (pc := 101) C dX6_best_101 rfl ?_
            refine o_icmp_ge (pc := 103) C (tgt := 111) dX6_best_103 (by decide) (by omega) (by omega) (fun h103 => ?_) (fun h103 => ?_)
            · refine o_iload (pc := 111) C dX6_best_111 rfl ?_
              refine sti_4 (pc := 113) C dX6_best_113 ?_
              refine inc_5 (pc := 115) C dX6_best_115 ?_
              refine o_goto (pc := 118) C (tgt := 40) dX6_best_118 (by decide) ?_
              first
              | (have y := h103
                 refine ih (k + 1) _ _ _ (by omega) (by omega) (by omega) (by omega) ?_
                 rw [o_fo, if_pos (by rw [hct]; rfl), ← a5]
                 first
                 | rw [if_pos (by omega)]
                 | rw [if_neg (by omega)])
              | (have hbt : hb s k = true := by
                   cases h9 : hb s k
                   · exact absurd ((hb_iff (s := s) (r := k) (by omega) (by omega)).mpr h9) h69
                   · rfl
                 have hct := b_cmp n (by omega) s hs9 k (by omega)
                 rw [hbt] at hct
                 refine ih (k + 1) _ _ _ (by omega) (by omega) (by omega) a4 ?_
                 rw [o_fo, if_neg (by rw [hct]; decide), a5])
            · refine o_iload (pc := 106) C dX6_best_106 rfl ?_
              refine o_goto (pc := 108) C (tgt := 113) dX6_best_108 (by decide) ?_
              refine sti_4 (pc := 113) C dX6_best_113 ?_
              refine inc_5 (pc := 115) C dX6_best_115 ?_
              refine o_goto (pc := 118) C (tgt := 40) dX6_best_118 (by decide) ?_
              first
              | (have y := h103
                 refine ih (k + 1) _ _ _ (by omega) (by omega) (by omega) (by omega) ?_
                 rw [o_fo, if_pos (by rw [hct]; rfl), ← a5]
                 first
                 | rw [if_pos (by omega)]
                 | rw [if_neg (by omega)])
              | (have hbt : hb s k = true := by
                   cases h9 : hb s k
                   · exact absurd ((hb_iff (s := s) (r := k) (by omega) (by omega)).mpr h9) h69
                   · rfl
                 have hct := b_cmp n (by omega) s hs9 k (by omega)
                 rw [hbt] at hct
                 refine ih (k + 1) _ _ _ (by omega) (by omega) (by omega) a4 ?_
                 rw [o_fo, if_neg (by rw [hct]; decide), a5])
        · refine o_iload_n (pc := 57) C dX6_best_57 rfl ?_
          refine o_bipush (pc := 58) C dX6_best_58 rfl ?_
          refine o_icmp_ne (pc := 60) C (tgt := 121) dX6_best_60 (by decide) (by omega) (by omega) (fun h60 => ?_) (fun h60 => ?_)
          · first
            | exact kk _ _ _ a4 (fun _ => by rw [a5, show k = n by omega])
            | exact kk _ _ _ a4 (fun z => by omega)
          · refine o_iload_n (pc := 63) C dX6_best_63 rfl ?_
            refine o_iload (pc := 64) C dX6_best_64 rfl ?_
            refine o_ishr (pc := 66) C dX6_best_66 (b_shr s (by omega) k (by omega)) ?_
            refine o_iconst (pc := 67) C dX6_best_67 ?_
            refine o_iand (pc := 68) C dX6_best_68 (b_and1 _ hdiv) ?_
            refine o_if_ne (pc := 69) C (tgt := 115) dX6_best_69 (by decide) (by omega) (fun h69 => ?_) (fun h69 => ?_)
            · refine inc_5 (pc := 115) C dX6_best_115 ?_
              refine o_goto (pc := 118) C (tgt := 40) dX6_best_118 (by decide) ?_
              first
              | (have y := h103
                 refine ih (k + 1) _ _ _ (by omega) (by omega) (by omega) (by omega) ?_
                 rw [o_fo, if_pos (by rw [hct]; rfl), ← a5]
                 first
                 | rw [if_pos (by omega)]
                 | rw [if_neg (by omega)])
              | (have hbt : hb s k = true := by
                   cases h9 : hb s k
                   · exact absurd ((hb_iff (s := s) (r := k) (by omega) (by omega)).mpr h9) h69
                   · rfl
                 have hct := b_cmp n (by omega) s hs9 k (by omega)
                 rw [hbt] at hct
                 refine ih (k + 1) _ _ _ (by omega) (by omega) (by omega) a4 ?_
                 rw [o_fo, if_neg (by rw [hct]; decide), a5])
            · have hf := (hb_iff (s := s) (r := k) (by omega) (by omega)).mp h69
              have hc2 := b_cmp2 n (by omega) s hs9 k (by omega) hf
              have hct := b_cmp n (by omega) s hs9 k (by omega)
              rw [hf] at hct
              refine o_aload_n (pc := 72) C dX6_best_72 rfl ?_
              refine o_iload_n (pc := 73) C dX6_best_73 rfl ?_
              refine o_iload (pc := 74) C dX6_best_74 rfl ?_
              refine cl_X6_160 (pc := 76) C (c_X6_between (by rw [k24]; exact hn) (by rw [k24]; exact hs) (by rw [k24]; exact hp) (fun p hp9 => by rw [kP]; exact hP p (by rw [k24] at hp9; exact hp9)) (fun i hi => by rw [k24, k43]; rw [k24] at hi; exact hw i hi) (by rw [k24, ← hn0]; exact (show l < n ∨ l = 7 by omega).imp (fun y => Int.ofNat_lt.mpr y) id) (by rw [k24]; omega) (b := l) (r := k)) (by omega) (by omega) (Nat.le_of_ble_eq_true rfl) dX6_best_76 (fun z σ2 hq => ?_)
              obtain ⟨rfl, hq⟩ := hq
              rw [hq]; clear hq
              refine o_aload_n (pc := 79) C dX6_best_79 rfl ?_
              refine gf_X6_83 (pc := 80) C dX6_best_80 ?_
              refine o_bipush (pc := 83) C dX6_best_83 rfl ?_
              refine o_iload_n (pc := 85) C dX6_best_85 rfl ?_
              refine o_iconst (pc := 86) C dX6_best_86 ?_
              refine o_iload (pc := 87) C dX6_best_87 rfl ?_
              refine o_ishl (pc := 89) C dX6_best_89 (b_shl k (by omega)) ?_
              refine o_ior (pc := 90) C dX6_best_90 (b_or s (by omega) k (by omega) hf) ?_
              refine o_imul (pc := 91) C dX6_best_91 ?_
              refine o_iload (pc := 92) C dX6_best_92 rfl ?_
              refine o_iadd (pc := 94) C dX6_best_94 ?_
              refine ia_45 (pc := 95) C (by omega) (by omega) dX6_best_95 ?_
              rw [show (8 * ((s + 2 ^ k : Nat) : Int) + (k : Int)).toNat = 8 * (s + 2 ^ k) + k by omega, mBt_cong hμ, hmv l k (by omega) (by omega)]
              have hrt := hRT (s + 2 ^ k) k hc2.1 (by omega) (Or.inl (by omega))
              have hmb := hbd l k (by omega) (by omega)
              refine o_iadd (pc := 96) C dX6_best_96 ?_
              refine sti_6 (pc := 97) C dX6_best_97 ?_
              refine o_iload (pc := 99) C dX6_best_99 rfl ?_
              refine o_iload (pc := 101) C dX6_best_101 rfl ?_
              refine o_icmp_ge (pc := 103) C (tgt := 111) dX6_best_103 (by decide) (by omega) (by omega) (fun h103 => ?_) (fun h103 => ?_)
              · refine o_iload (pc := 111) C dX6_best_111 rfl ?_
                refine sti_4 (pc := 113) C dX6_best_113 ?_
                refine inc_5 (pc := 115) C dX6_best_115 ?_
                refine o_goto (pc := 118) C (tgt := 40) dX6_best_118 (by decide) ?_
                first
                | (have y := h103
                   refine ih (k + 1) _ _ _ (by omega) (by omega) (by omega) (by omega) ?_
                   rw [o_fo, if_pos (by rw [hct]; rfl), ← a5]
                   first
                   | rw [if_pos (by omega)]
                   | rw [if_neg (by omega)])
                | (have hbt : hb s k = true := by
                     cases h9 : hb s k
                     · exact absurd ((hb_iff (s := s) (r := k) (by omega) (by omega)).mpr h9) h69
                     · rfl
                   have hct := b_cmp n (by omega) s hs9 k (by omega)
                   rw [hbt] at hct
                   refine ih (k + 1) _ _ _ (by omega) (by omega) (by omega) a4 ?_
                   rw [o_fo, if_neg (by rw [hct]; decide), a5])
              · refine o_iload (pc := 106) C dX6_best_106 rfl ?_
                refine o_goto (pc := 108) C (tgt := 113) dX6_best_108 (by decide) ?_
                refine sti_4 (pc := 113) C dX6_best_113 ?_
                refine inc_5 (pc := 115) C dX6_best_115 ?_
                refine o_goto (pc := 118) C (tgt := 40) dX6_best_118 (by decide) ?_
                first
                | (have y := h103
                   refine ih (k + 1) _ _ _ (by omega) (by omega) (by omega) (by omega) ?_
                   rw [o_fo, if_pos (by rw [hct]; rfl), ← a5]
                   first
                   | rw [if_pos (by omega)]
                   | rw [if_neg (by omega)])
                | (have hbt : hb s k = true := by
                     cases h9 : hb s k
                     · exact absurd ((hb_iff (s := s) (r := k) (by omega) (by omega)).mpr h9) h69
                     · rfl
                   have hct := b_cmp n (by omega) s hs9 k (by omega)
                   rw [hbt] at hct
                   refine ih (k + 1) _ _ _ (by omega) (by omega) (by omega) a4 ?_
                   rw [o_fo, if_neg (by rw [hct]; decide), a5])
  have LL : ∀ (s : Nat), s < 2 ^ n → (∀ (μ : oMem) (r3 r4 r5 r6 : Option Value), (∀ K, K ≠ 45 → K ≠ 46 → μ K = σ K) → RTok mv n μ s 8 → oW l9 g x μ 140 [some (.ref (g.2.1 24 0)), some (oi (((2 ^ n : Nat) : Int) - 1)), some (oi (s : Int)), r3, r4, r5, r6, none] [] 0) → ∀ (m l : Nat) (μ : oMem) (i : Int) (r4 r5 r6 : Option Value), 8 < l + m → l ≤ 8 → i = l → (∀ K, K ≠ 45 → K ≠ 46 → μ K = σ K) → RTok mv n μ s l → oW l9 g x μ 17 [some (.ref (g.2.1 24 0)), some (oi (((2 ^ n : Nat) : Int) - 1)), some (oi (s : Int)), some (oi i), r4, r5, r6, none] [] 0 := by
    intro s hs9 kk m
    induction m with
    | zero => intro l μ i r4 r5 r6 a1 a2; omega
    | succ m ih =>
      intro l μ i r4 r5 r6 a1 a2 a3 hμ a5
      subst a3
      have K35 : ∀ v : Int, l ≤ 7 → v = (if s = 2 ^ n - 1 then 0 else 1000) → oW l9 g x μ 35 [some (.ref (g.2.1 24 0)), some (oi (((2 ^ n : Nat) : Int) - 1)), some (oi (s : Int)), some (oi (l : Int)), r4, r5, r6, none] [oi v] 0 := by
        intro v hl7 hv
        refine sti_4 (pc := 35) C dX6_best_35 ?_
        refine o_iconst (pc := 37) C dX6_best_37 ?_
        refine sti_5 (pc := 38) C dX6_best_38 ?_
        refine LK s l μ hs9 hl7 hμ a5 (fun v2 r5 r6 hv0 hv2 => ?_) 8 0 _ _ _ (by omega) (by omega) rfl (by rw [hv]; split <;> omega) (by rw [hv]; rfl)
        have ei : (8 * (s : Int) + (l : Int)).toNat = 8 * s + l := by omega
        refine o_aload_n (pc := 121) C dX6_best_121 rfl ?_
        refine gf_X6_83 (pc := 122) C dX6_best_122 ?_
        refine o_bipush (pc := 125) C dX6_best_125 rfl ?_
        refine o_iload_n (pc := 127) C dX6_best_127 rfl ?_
        refine o_imul (pc := 128) C dX6_best_128 ?_
        refine o_iload_n (pc := 129) C dX6_best_129 rfl ?_
        refine o_iadd (pc := 130) C dX6_best_130 ?_
        refine o_iload (pc := 131) C dX6_best_131 rfl ?_
        refine is_45 (pc := 133) C (by omega) (by omega) dX6_best_133 ?_
        refine inc_3 (pc := 134) C dX6_best_134 ?_
        refine o_goto (pc := 137) C (tgt := 17) dX6_best_137 (by decide) ?_
        rw [ei]
        refine ih (l + 1) _ _ _ _ _ (by omega) (by omega) (by omega) (fun K h45 h46 => by rw [o_up_k h45, hμ K h45 h46]) (RTok_up a5 hl7 hv0 (fun hl => ?_))
        exact RT_val (R := fun r => μ 45 0 (8 * (s + 2 ^ r) + r)) (by omega) hbd hs9 hl (fun r hr hf => by
          have hc2 := b_cmp2 n (by omega) s hs9 r hr hf
          have hpr := p2_pos r
          have := (a5 (s + 2 ^ r) r hc2.1 (by omega) (Or.inl (by omega))).2 (Or.inl hr)
          rw [hc2.2] at this
          exact this) (hv2 hl)
      refine o_iload_n (pc := 17) C dX6_best_17 rfl ?_
      refine o_bipush (pc := 18) C dX6_best_18 rfl ?_
      refine o_icmp_gt (pc := 20) C (tgt := 140) dX6_best_20 (by decide) (by omega) (by omega) (fun h20 => ?_) (fun h20 => ?_)
      · exact kk _ _ _ _ _ hμ (by rw [show (8 : Nat) = l by omega]; exact a5)
      · refine o_iload_n (pc := 23) C dX6_best_23 rfl ?_
        refine o_iload_n (pc := 24) C dX6_best_24 rfl ?_
        refine o_icmp_ne (pc := 25) C (tgt := 32) dX6_best_25 (by decide) (by omega) (by omega) (fun h25 => ?_) (fun h25 => ?_)
        · refine o_sipush (pc := 32) C dX6_best_32 rfl ?_
          first
          | exact K35 _ (by omega) (by rw [if_pos (by omega)])
          | exact K35 _ (by omega) (by rw [if_neg (by omega)])
        · refine o_iconst (pc := 28) C dX6_best_28 ?_
          refine o_goto (pc := 29) C (tgt := 35) dX6_best_29 (by decide) ?_
          first
          | exact K35 _ (by omega) (by rw [if_pos (by omega)])
          | exact K35 _ (by omega) (by rw [if_neg (by omega)])
  have L2 : ∀ (μ : oMem), (∀ K, K ≠ 45 → K ≠ 46 → μ K = σ K) → (∀ s l : Nat, s < 2 ^ n → l ≤ 7 → (0 ≤ μ 45 0 (8 * s + l) ∧ μ 45 0 (8 * s + l) ≤ 1000) ∧ ((l < n ∨ l = 7) → μ 45 0 (8 * s + l) = oFC mv n l (2 ^ n - 1 - s))) → ∀ (m t : Nat) (ν : oMem) (q : Nat → Nat) (se la i : Int) (r5 r6 r7 : Option Value), n < t + m → t ≤ n → i = t → (∀ K, K ≠ 46 → ν K = μ K) → (∀ i, i < t → ν 46 0 i = q i) → (∀ i, i < t → isLst (oNx mv n (oBf q i) (oS n q i)) n (q i)) → la = oBf q t → se = ((2 ^ n - 1 - oS n q t : Nat) : Int) → cd (oS n q t) + t = n → oS n q t < 2 ^ n → (oBf q t < n ∨ oBf q t = 7) → oW l9 g x ν 154 [some (.ref (g.2.1 24 0)), some (oi (((2 ^ n : Nat) : Int) - 1)), some (oi se), some (oi la), some (oi i), r5, r6, r7] [] 0 := by
    intro μ hμ0 hR m
    induction m with
    | zero => intro t ν q se la i r5 r6 r7 a1 a2; omega
    | succ m ih =>
      intro t ν q se la i r5 r6 r7 a1 a2 a3 a4 a5 a6 a7 a8 a9 a10 a11
      subst a3 a7
      have hν : ∀ K, K ≠ 45 → K ≠ 46 → ν K = σ K := fun K h1 h2 => by rw [a4 K h2, hμ0 K h1 h2]
      obtain ⟨s, hse⟩ : ∃ s : Nat, s = 2 ^ n - 1 - oS n q t := ⟨_, rfl⟩
      have hs9 : s < 2 ^ n := by omega
      have hcs : 2 ^ n - 1 - s = oS n q t := by omega
      rw [← hse] at a8
      subst a8
      have hR2 : ∀ z, ν 45 0 z = μ 45 0 z := fun z => by rw [a4 45 (by decide)]
      have k24 : ν 24 = σ 24 := hν 24 (by decide) (by decide)
      have k43 : ν 43 = σ 43 := hν 43 (by decide) (by decide)
      have kP : ∀ p, mP ν p = mP σ p := fun p => by unfold mP mW; rw [hν 36 (by decide) (by decide), hν 37 (by decide) (by decide)]
      have e27 : ν 24 0 27 = n := by rw [k24]; omega
      have hRl := hR s (oBf q t) hs9 (by omega)
      have hRl2 := hRl.2 a11
      rw [hcs] at hRl2
      have LC : t < n → ∀ (k : Nat) (ch j : Int) (r7 : Option Value), k ≤ n → j = (k : Int) - 1 → ((ch = -1 ∧ ∀ r, k ≤ r → r < n → ¬ oNx mv n (oBf q t) (oS n q t) r) ∨ ∃ r : Nat, k ≤ r ∧ r < n ∧ oNx mv n (oBf q t) (oS n q t) r ∧ (∀ z, k ≤ z → z < r → ¬ oNx mv n (oBf q t) (oS n q t) z) ∧ ch = r) → oW l9 g x ν 174 [some (.ref (g.2.1 24 0)), some (oi (((2 ^ n : Nat) : Int) - 1)), some (oi (s : Int)), some (oi (oBf q t : Int)), some (oi (t : Int)), some (oi ch), some (oi j), r7] [] 0 := by
        intro htn k
        induction k with
        | zero =>
          intro ch j r7 b1 b2 b3
          have hch : ∃ w : Nat, ch = w ∧ isLst (oNx mv n (oBf q t) (oS n q t)) n w := by
            rcases b3 with ⟨y1, y2⟩ | ⟨r, y1, y2, y3, y4, y5⟩
            · exfalso
              obtain ⟨r, r1, r2⟩ := oNx_some (mv := mv) (n := n) (b := oBf q t) (s := oS n q t) (by omega) hbd (by omega) a10 (by intro h0; rw [h0] at a9; simp [cd] at a9; omega)
              exact y2 r (Nat.zero_le r) r1 r2
            · exact ⟨r, y5, y2, y3, fun z hz => y4 z (Nat.zero_le z) hz⟩
          obtain ⟨w, rfl, hw9⟩ := hch
          have hw1 := hw9.1
          have hbw := hw9.2.1.1
          have hwb := hb_cd (oS n q t) (by omega) w (by omega) hbw
          have hfs : hb s w = false := by
            have := b_cmp n (by omega) s hs9 w hw1
            rw [hcs, hbw] at this
            simpa using this.symm
          have hc2 := b_cmp2 n (by omega) s hs9 w hw1 hfs
          refine o_iload (pc := 174) C dX6_best_174 rfl ?_
          refine o_if_lt (pc := 176) C (tgt := 254) dX6_best_176 (by decide) (by omega) (fun h176 => ?_) (fun h176 => ?_)
          · refine o_aload_n (pc := 254) C dX6_best_254 rfl ?_
            refine gf_X6_86 (pc := 255) C dX6_best_255 ?_
            refine o_iload (pc := 258) C dX6_best_258 rfl ?_
            refine o_iload (pc := 260) C dX6_best_260 rfl ?_
            refine is_46 (pc := 262) C (by omega) (by omega) dX6_best_262 ?_
            refine o_iload_n (pc := 263) C dX6_best_263 rfl ?_
            refine o_iconst (pc := 264) C dX6_best_264 ?_
            refine o_iload (pc := 265) C dX6_best_265 rfl ?_
            refine o_ishl (pc := 267) C dX6_best_267 (b_shl w (by omega)) ?_
            refine o_ior (pc := 268) C dX6_best_268 (b_or s (by omega) w (by omega) hfs) ?_
            refine sti_2 (pc := 269) C dX6_best_269 ?_
            refine o_iload (pc := 270) C dX6_best_270 rfl ?_
            refine sti_3 (pc := 272) C dX6_best_272 ?_
            refine inc_4 (pc := 273) C dX6_best_273 ?_
            refine o_goto (pc := 276) C (tgt := 154) dX6_best_276 (by decide) ?_
            obtain ⟨q', hq'⟩ : ∃ q' : Nat → Nat, q' = fun i => if i = t then w else q i := ⟨_, rfl⟩
            have hc : ∀ j, j < t → q' j = q j := fun j hj => by rw [hq']; exact if_neg (by omega)
            have hct : q' t = w := by rw [hq']; exact if_pos rfl
            clear hq'
            have hS : ∀ j, j ≤ t → oS n q' j = oS n q j := fun j hj => oS_cong j (fun j' hj' => hc j' (by omega))
            have hB : ∀ j, j ≤ t → oBf q' j = oBf q j := fun j hj => by
              unfold oBf
              by_cases c : j = 0
              · rw [if_pos c, if_pos c]
              · rw [if_neg c, if_neg c]; exact hc _ (by omega)
            have hbf : oBf q' (t + 1) = w := by unfold oBf; rw [if_neg (by omega)]; exact hct
            refine ih (t + 1) _ q' _ _ _ _ _ _ (by omega) (by omega) (by omega) (fun K hK => by rw [o_up_k hK, a4 K hK]) ?_ ?_ (by rw [hbf]) (by have y := hc2.2; rw [hcs] at y; rw [oS, hS t (Nat.le_refl t), hct, ← y]; omega) ?_ ?_ (by rw [hbf]; exact Or.inl hw1)
            · intro j hj
              rw [show ((t : Int)).toNat = t by omega, o_up_at]
              by_cases c : j = t
              · rw [if_pos ⟨rfl, rfl, c⟩, c, hct]
              · rw [if_neg (fun z => c z.2.2), hc j (by omega)]; exact a5 j (by omega)
            · intro j hj
              rw [hB j (by omega), hS j (by omega)]
              by_cases c : j = t
              · rw [c, hct]; exact hw9
              · rw [hc j (by omega)]; exact a6 j (by omega)
            · rw [oS, hS t (Nat.le_refl t), hct]; omega
            · rw [oS, hS t (Nat.le_refl t), hct]; omega
          · omega
        | succ k ihk =>
          intro ch j r7 b1 b2 b3
          have ej : j = (k : Int) := by omega
          subst ej
          have hdiv : s / 2 ^ k < 128 := Nat.lt_of_le_of_lt (Nat.div_le_self _ _) (by omega)
          have hpk := p2_pos k
          have hchb : -1 ≤ ch ∧ ch ≤ 100 := by
            rcases b3 with ⟨y1, y2⟩ | ⟨r, y1, y2, y3, y4, y5⟩ <;> omega
          have K232 : ∀ v : Int, ((v = 1 ∧ oNx mv n (oBf q t) (oS n q t) k) ∨ (v = 0 ∧ ¬ oNx mv n (oBf q t) (oS n q t) k)) → oW l9 g x ν 232 [some (.ref (g.2.1 24 0)), some (oi (((2 ^ n : Nat) : Int) - 1)), some (oi (s : Int)), some (oi (oBf q t : Int)), some (oi (t : Int)), some (oi ch), some (oi (k : Int)), r7] [oi v] 0 := by
            intro v hv
            refine sti_7 (pc := 232) C dX6_best_232 ?_
            refine o_iload (pc := 234) C dX6_best_234 rfl ?_
            refine o_if_eq (pc := 236) C (tgt := 244) dX6_best_236 (by decide) (by omega) (fun h236 => ?_) (fun h236 => ?_)
            · refine o_iload (pc := 244) C dX6_best_244 rfl ?_
              refine sti_5 (pc := 246) C dX6_best_246 ?_
              refine inc_6 (pc := 248) C dX6_best_248 ?_
              refine o_goto (pc := 251) C (tgt := 174) dX6_best_251 (by decide) ?_
              rcases hv with ⟨hv1, hv2⟩ | ⟨hv1, hv2⟩
              · first
                | (exfalso; omega)
                | exact ihk _ _ _ (by omega) (by omega) (Or.inr ⟨k, Nat.le_refl k, by omega, hv2, fun z z1 z2 => by omega, rfl⟩)
              · first
                | (exfalso; omega)
                | (refine ihk _ _ _ (by omega) (by omega) ?_
                   rcases b3 with ⟨y1, y2⟩ | ⟨r, y1, y2, y3, y4, y5⟩
                   · refine Or.inl ⟨y1, fun r r1 r2 => ?_⟩
                     rcases Nat.lt_or_eq_of_le r1 with z | z
                     · exact y2 r z r2
                     · subst z; exact hv2
                   · refine Or.inr ⟨r, by omega, y2, y3, fun z z1 z2 => ?_, y5⟩
                     rcases Nat.lt_or_eq_of_le z1 with u | u
                     · exact y4 z u z2
                     · subst u; exact hv2)
            · refine o_iload (pc := 239) C dX6_best_239 rfl ?_
              refine o_goto (pc := 241) C (tgt := 246) dX6_best_241 (by decide) ?_
              refine sti_5 (pc := 246) C dX6_best_246 ?_
              refine inc_6 (pc := 248) C dX6_best_248 ?_
              refine o_goto (pc := 251) C (tgt := 174) dX6_best_251 (by decide) ?_
              rcases hv with ⟨hv1, hv2⟩ | ⟨hv1, hv2⟩
              · first
                | (exfalso; omega)
                | exact ihk _ _ _ (by omega) (by omega) (Or.inr ⟨k, Nat.le_refl k, by omega, hv2, fun z z1 z2 => by omega, rfl⟩)
              · first
                | (exfalso; omega)
                | (refine ihk _ _ _ (by omega) (by omega) ?_
                   rcases b3 with ⟨y1, y2⟩ | ⟨r, y1, y2, y3, y4, y5⟩
                   · refine Or.inl ⟨y1, fun r r1 r2 => ?_⟩
                     rcases Nat.lt_or_eq_of_le r1 with z | z
                     · exact y2 r z r2
                     · subst z; exact hv2
                   · refine Or.inr ⟨r, by omega, y2, y3, fun z z1 z2 => ?_, y5⟩
                     rcases Nat.lt_or_eq_of_le z1 with u | u
                     · exact y4 z u z2
                     · subst u; exact hv2)
          refine o_iload (pc := 174) C dX6_best_174 rfl ?_
          refine o_if_lt (pc := 176) C (tgt := 254) dX6_best_176 (by decide) (by omega) (fun h176 => ?_) (fun h176 => ?_)
          · omega
          · refine o_iload_n (pc := 179) C dX6_best_179 rfl ?_
            refine o_iload (pc := 180) C dX6_best_180 rfl ?_
            refine o_ishr (pc := 182) C dX6_best_182 (b_shr s (by omega) k (by omega)) ?_
            refine o_iconst (pc := 183) C dX6_best_183 ?_
            refine o_iand (pc := 184) C dX6_best_184 (b_and1 _ hdiv) ?_
            refine o_if_ne (pc := 185) C (tgt := 231) dX6_best_185 (by decide) (by omega) (fun h185 => ?_) (fun h185 => ?_)
            · refine o_iconst (pc := 231) C dX6_best_231 ?_
              first
              | (have y := h224
                 first
                 | exact K232 _ (Or.inl ⟨rfl, hbn, by omega⟩)
                 | exact K232 _ (Or.inr ⟨rfl, fun z => by have := z.2; omega⟩))
              | (have hbt : hb s k = true := by
                   cases h9 : hb s k
                   · exact absurd ((hb_iff (s := s) (r := k) (by omega) (by omega)).mpr h9) h185
                   · rfl
                 have hct := b_cmp n (by omega) s hs9 k (by omega)
                 rw [hbt, hcs] at hct
                 exact K232 _ (Or.inr ⟨rfl, fun z => by have := z.1; rw [hct] at this; exact absurd this (by decide)⟩))
            · have hf := (hb_iff (s := s) (r := k) (by omega) (by omega)).mp h185
              have hc2 := b_cmp2 n (by omega) s hs9 k (by omega) hf
              have hbn : hb (oS n q t) k = true := by
                have := b_cmp n (by omega) s hs9 k (by omega)
                rw [hcs, hf] at this
                simpa using this
              rw [hcs] at hc2
              refine o_aload_n (pc := 188) C dX6_best_188 rfl ?_
              refine o_iload_n (pc := 189) C dX6_best_189 rfl ?_
              refine o_iload (pc := 190) C dX6_best_190 rfl ?_
              refine cl_X6_160 (pc := 192) C (c_X6_between (by rw [k24]; exact hn) (by rw [k24]; exact hs) (by rw [k24]; exact hp) (fun p hp9 => by rw [kP]; exact hP p (by rw [k24] at hp9; exact hp9)) (fun i hi => by rw [k24, k43]; rw [k24] at hi; exact hw i hi) (by rw [k24, ← hn0]; exact a11.imp (fun y => Int.ofNat_lt.mpr y) id) (by rw [k24]; omega) (b := oBf q t) (r := k)) (by omega) (by omega) (Nat.le_of_ble_eq_true rfl) dX6_best_192 (fun z σ2 hq => ?_)
              obtain ⟨rfl, hq⟩ := hq
              rw [hq]; clear hq
              refine o_aload_n (pc := 195) C dX6_best_195 rfl ?_
              refine gf_X6_83 (pc := 196) C dX6_best_196 ?_
              refine o_bipush (pc := 199) C dX6_best_199 rfl ?_
              refine o_iload_n (pc := 201) C dX6_best_201 rfl ?_
              refine o_iconst (pc := 202) C dX6_best_202 ?_
              refine o_iload (pc := 203) C dX6_best_203 rfl ?_
              refine o_ishl (pc := 205) C dX6_best_205 (b_shl k (by omega)) ?_
              refine o_ior (pc := 206) C dX6_best_206 (b_or s (by omega) k (by omega) hf) ?_
              refine o_imul (pc := 207) C dX6_best_207 ?_
              refine o_iload (pc := 208) C dX6_best_208 rfl ?_
              refine o_iadd (pc := 210) C dX6_best_210 ?_
              refine ia_45 (pc := 211) C (by omega) (by omega) dX6_best_211 ?_
              rw [show (8 * ((s + 2 ^ k : Nat) : Int) + (k : Int)).toNat = 8 * (s + 2 ^ k) + k by omega, mBt_cong hν, hmv _ k a11 (by omega), hR2]
              have hrt := hR (s + 2 ^ k) k hc2.1 (by omega)
              have hrt2 := hrt.2 (Or.inl (by omega))
              rw [hc2.2] at hrt2
              have hmb := hbd (oBf q t) k (by omega) (by omega)
              refine o_iadd (pc := 212) C dX6_best_212 ?_
              refine o_aload_n (pc := 213) C dX6_best_213 rfl ?_
              refine gf_X6_83 (pc := 214) C dX6_best_214 ?_
              refine o_bipush (pc := 217) C dX6_best_217 rfl ?_
              refine o_iload_n (pc := 219) C dX6_best_219 rfl ?_
              refine o_imul (pc := 220) C dX6_best_220 ?_
              refine o_iload_n (pc := 221) C dX6_best_221 rfl ?_
              refine o_iadd (pc := 222) C dX6_best_222 ?_
              refine ia_45 (pc := 223) C (by omega) (by omega) dX6_best_223 ?_
              rw [show (8 * (s : Int) + (oBf q t : Int)).toNat = 8 * s + oBf q t by omega, hR2]
              refine o_icmp_ne (pc := 224) C (tgt := 231) dX6_best_224 (by decide) (by omega) (by omega) (fun h224 => ?_) (fun h224 => ?_)
              · refine o_iconst (pc := 231) C dX6_best_231 ?_
                first
                | (have y := h224
                   first
                   | exact K232 _ (Or.inl ⟨rfl, hbn, by omega⟩)
                   | exact K232 _ (Or.inr ⟨rfl, fun z => by have := z.2; omega⟩))
                | (have hbt : hb s k = true := by
                     cases h9 : hb s k
                     · exact absurd ((hb_iff (s := s) (r := k) (by omega) (by omega)).mpr h9) h185
                     · rfl
                   have hct := b_cmp n (by omega) s hs9 k (by omega)
                   rw [hbt, hcs] at hct
                   exact K232 _ (Or.inr ⟨rfl, fun z => by have := z.1; rw [hct] at this; exact absurd this (by decide)⟩))
              · refine o_iconst (pc := 227) C dX6_best_227 ?_
                refine o_goto (pc := 228) C (tgt := 232) dX6_best_228 (by decide) ?_
                first
                | (have y := h224
                   first
                   | exact K232 _ (Or.inl ⟨rfl, hbn, by omega⟩)
                   | exact K232 _ (Or.inr ⟨rfl, fun z => by have := z.2; omega⟩))
                | (have hbt : hb s k = true := by
                     cases h9 : hb s k
                     · exact absurd ((hb_iff (s := s) (r := k) (by omega) (by omega)).mpr h9) h185
                     · rfl
                   have hct := b_cmp n (by omega) s hs9 k (by omega)
                   rw [hbt, hcs] at hct
                   exact K232 _ (Or.inr ⟨rfl, fun z => by have := z.1; rw [hct] at this; exact absurd this (by decide)⟩))
      refine o_iload (pc := 154) C dX6_best_154 rfl ?_
      refine o_aload_n (pc := 156) C dX6_best_156 rfl ?_
      refine gf_X6_157 (pc := 157) C dX6_best_157 ?_
      rw [e27]
      refine o_icmp_ge (pc := 160) C (tgt := 279) dX6_best_160 (by decide) (by omega) (by omega) (fun h160 => ?_) (fun h160 => ?_)
      · refine o_aload_n (pc := 279) C dX6_best_279 rfl ?_
        refine gf_X6_83 (pc := 280) C dX6_best_280 ?_
        refine o_bipush (pc := 283) C dX6_best_283 rfl ?_
        refine ia_45 (pc := 285) C (by omega) (by omega) dX6_best_285 ?_
        rw [show Int.toNat 7 = 8 * 0 + 7 from rfl, hR2]
        exact E _ _ _ _ _ dX6_best_286 rfl ⟨(hR 0 7 (by omega) (by omega)).2 (Or.inr rfl), ⟨q, fun i hi => a5 i (by omega), oS n q, rfl, fun i hi => ⟨a6 i (by omega), rfl⟩⟩, hν⟩ (by omega)
      · refine o_iconst (pc := 163) C dX6_best_163 ?_
        refine sti_5 (pc := 164) C dX6_best_164 ?_
        refine o_aload_n (pc := 166) C dX6_best_166 rfl ?_
        refine gf_X6_157 (pc := 167) C dX6_best_167 ?_
        rw [e27]
        refine o_iconst (pc := 170) C dX6_best_170 ?_
        refine o_isub (pc := 171) C dX6_best_171 ?_
        refine sti_6 (pc := 172) C dX6_best_172 ?_
        exact LC (by omega) n _ _ _ (Nat.le_refl n) rfl (Or.inl ⟨rfl, fun r r1 r2 => by omega⟩)
  have L1 : ∀ (q : Nat) (μ : oMem) (j : Int) (r3 r4 r5 r6 : Option Value), q ≤ 2 ^ n → j = (q : Int) - 1 → (∀ K, K ≠ 45 → K ≠ 46 → μ K = σ K) → (∀ s l : Nat, q ≤ s → s < 2 ^ n → l ≤ 7 → (0 ≤ μ 45 0 (8 * s + l) ∧ μ 45 0 (8 * s + l) ≤ 1000) ∧ ((l < n ∨ l = 7) → μ 45 0 (8 * s + l) = oFC mv n l (2 ^ n - 1 - s))) → oW l9 g x μ 11 [some (.ref (g.2.1 24 0)), some (oi (((2 ^ n : Nat) : Int) - 1)), some (oi j), r3, r4, r5, r6, none] [] 0 := by
    intro q
    induction q with
    | zero =>
      intro μ j r3 r4 r5 r6 a1 a2 a3 a4
      refine o_iload_n (pc := 11) C dX6_best_11 rfl ?_
      refine o_if_lt (pc := 12) C (tgt := 146) dX6_best_12 (by decide) (by omega) (fun h12 => ?_) (fun h12 => ?_)
      · refine o_iconst (pc := 146) C dX6_best_146 ?_
        refine sti_2 (pc := 147) C dX6_best_147 ?_
        refine o_bipush (pc := 148) C dX6_best_148 rfl ?_
        refine sti_3 (pc := 150) C dX6_best_150 ?_
        refine o_iconst (pc := 151) C dX6_best_151 ?_
        refine sti_4 (pc := 152) C dX6_best_152 ?_
        exact L2 μ a3 (fun s l => a4 s l (Nat.zero_le s)) (n + 1) 0 μ (fun _ => 0) _ _ _ _ _ _ (by omega) (by omega) rfl (fun _ _ => rfl) (fun i hi => absurd hi (Nat.not_lt_zero i)) (fun i hi => absurd hi (Nat.not_lt_zero i)) rfl (by show (0 : Int) = ((2 ^ n - 1 - (2 ^ n - 1) : Nat) : Int); omega) (by show cd (2 ^ n - 1) + 0 = n; rw [cd_all n (by omega)]; rfl) (by show 2 ^ n - 1 < 2 ^ n; omega) (Or.inr rfl)
      · omega
    | succ q ih =>
      intro μ j r3 r4 r5 r6 a1 a2 a3 a4
      have ej : j = (q : Int) := by omega
      subst ej
      refine o_iload_n (pc := 11) C dX6_best_11 rfl ?_
      refine o_if_lt (pc := 12) C (tgt := 146) dX6_best_12 (by decide) (by omega) (fun h12 => ?_) (fun h12 => ?_)
      · omega
      · refine o_iconst (pc := 15) C dX6_best_15 ?_
        refine sti_3 (pc := 16) C dX6_best_16 ?_
        refine LL q (by omega) (fun μ2 s3 s4 s5 s6 hμ2 hR2 => ?_) 9 0 μ _ _ _ _ (by omega) (by omega) rfl a3 (fun s l c1 c2 c3 => a4 s l (by omega) c1 c2)
        refine inc_2 (pc := 140) C dX6_best_140 ?_
        refine o_goto (pc := 143) C (tgt := 11) dX6_best_143 (by decide) ?_
        exact ih μ2 _ _ _ _ _ (by omega) (by omega) hμ2 (fun s l c0 c1 c2 => hR2 s l c1 c2 (by omega))
  refine o_iconst (pc := 0) C dX6_best_0 ?_
  refine o_aload_n (pc := 1) C dX6_best_1 rfl ?_
  refine gf_X6_157 (pc := 2) C dX6_best_2 ?_
  rw [← hn0]
  refine o_ishl (pc := 5) C dX6_best_5 (b_shl n (by omega)) ?_
  refine o_iconst (pc := 6) C dX6_best_6 ?_
  refine o_isub (pc := 7) C dX6_best_7 ?_
  refine sti_1 (pc := 8) C dX6_best_8 ?_
  refine o_iload_n (pc := 9) C dX6_best_9 rfl ?_
  refine sti_2 (pc := 10) C dX6_best_10 ?_
  exact L1 (2 ^ n) σ _ _ _ _ _ (Nat.le_refl _) rfl (fun _ _ _ => rfl) (fun s l c0 c1 => by omega)
