set_option maxRecDepth 100000 in
set_option maxHeartbeats 4000000 in
theorem c_X1_greatestTotal {l : Launch} {g : oG} {σ : oMem} {a b : Int} (hF : FW σ) (hT : TB σ) (ha0 : -1000 ≤ a) (ha1 : a ≤ 2000) (hb0 : 1 ≤ b) (hb1 : b ≤ 15) : oMi l g yX1_greatestTotal (.code yX1_greatestTotal cX1_greatestTotal 5 (some .int)) 2 0 [.ref (g.2.1 10 0), oi a, oi b] σ (fun z σ' => isG (FM σ) (b + 1) a z ∧ (∀ u : Int, 0 ≤ u → (u ≤ a ∨ u = 0) → isD (FM σ) 16 u (σ' 12 0 u.toNat)) ∧ TB σ' ∧ ∀ K, K ≠ 12 → σ' K = σ K) := by
  refine oMi_of (own := RX1) (by decide +kernel) rfl (by simp [oi, Value.category]) (by simp) (fun x C E => ?_)
  show oW l g x σ 0 [some (.ref (g.2.1 10 0)), some (oi a), some (oi b), none, none] [] 0
  have hok := FM_ok hF
  have L : ∀ (n t : Nat) (μ : oMem) (c i : Int), a + 1 < t + n → 1 ≤ t → ((t : Int) ≤ a + 1 ∨ t = 1) → i = t → (∀ K, K ≠ 12 → μ K = σ K) → TB μ → (∀ u : Int, 0 ≤ u → u < t → isD (FM σ) 16 u (μ 12 0 u.toNat)) → isG (FM σ) (b + 1) (t - 1) c → 0 ≤ c → c ≤ 2000 → 0 < n → oW l g x μ 5 [some (.ref (g.2.1 10 0)), some (oi a), some (oi b), some (oi c), some (oi i)] [] 0 := by
    intro n
    induction n with
    | zero => intro t μ c i a1 a2 a3 a4 a5 a6 a7 a8 a9 a10 a11; omega
    | succ n ih =>
      intro t μ c i a1 a2 a3 a4 a5 a6 a7 a8 a9 a10 _
      have ei : i.toNat = t := by omega
      have hFμ : FW μ := by rw [FW_cong (a5 10 (by decide)) (a5 11 (by decide))]; exact hF
      have hd : isD (FM σ) 16 i (o_ff (μ 11 0) (fun _ => true) (μ 12 0) i 16 (μ 10 0 1).toNat) := by
        rw [a5 11 (by decide), a5 10 (by decide)]
        exact ff_D hok.1 hok.2 (by omega) (fun u u0 u1 => a7 u u0 (by omega)) (by omega)
      refine o_iload (pc := 5) C dX1_greatestTotal_5 rfl ?_
      refine o_iload_n (pc := 7) C dX1_greatestTotal_7 rfl ?_
      refine o_icmp_gt (pc := 8) C (tgt := 54) dX1_greatestTotal_8 (by decide) (by omega) (by omega) (fun h8 => ?_) (fun h8 => ?_)
      · refine o_iload_n (pc := 54) C dX1_greatestTotal_54 rfl ?_
        first
        | exact E _ _ _ _ _ dX1_greatestTotal_55 rfl ⟨⟨by
            rcases a8.1 with q | ⟨q1, q2, q3⟩
            · exact Or.inl q
            · exact Or.inr ⟨q1, by omega, q3⟩, fun u u1 u2 u3 => a8.2 u u1 (by omega) u3⟩, fun u u0 u1 => a7 u u0 (by omega), a6, a5⟩ (by omega)
        | (exfalso; omega)
      · refine o_iload (pc := 11) C dX1_greatestTotal_11 rfl ?_
        refine o_aload_n (pc := 13) C dX1_greatestTotal_13 rfl ?_
        refine gf_X1_19 (pc := 14) C dX1_greatestTotal_14 ?_
        refine al_12 (pc := 17) C dX1_greatestTotal_17 ?_
        refine o_icmp_ge (pc := 18) C (tgt := 54) dX1_greatestTotal_18 (by decide) (by omega) (by omega) (fun h18 => ?_) (fun h18 => ?_)
        · refine o_iload_n (pc := 54) C dX1_greatestTotal_54 rfl ?_
          first
          | exact E _ _ _ _ _ dX1_greatestTotal_55 rfl ⟨⟨by
              rcases a8.1 with q | ⟨q1, q2, q3⟩
              · exact Or.inl q
              · exact Or.inr ⟨q1, by omega, q3⟩, fun u u1 u2 u3 => a8.2 u u1 (by omega) u3⟩, fun u u0 u1 => a7 u u0 (by omega), a6, a5⟩ (by omega)
          | (exfalso; omega)
        · refine o_aload_n (pc := 21) C dX1_greatestTotal_21 rfl ?_
          refine gf_X1_19 (pc := 22) C dX1_greatestTotal_22 ?_
          refine o_iload (pc := 25) C dX1_greatestTotal_25 rfl ?_
          refine o_aload_n (pc := 27) C dX1_greatestTotal_27 rfl ?_
          refine o_iload (pc := 28) C dX1_greatestTotal_28 rfl ?_
          refine cl_X1_22 (pc := 30) C (c_X1_fewestSlitsFor hFμ (by omega) (by omega) a6) (by omega) (by omega) (Nat.le_of_ble_eq_true rfl) dX1_greatestTotal_30 (fun z σ2 hq => ?_)
          obtain ⟨rfl, hq⟩ := hq
          rw [hq]; clear hq
          obtain ⟨v, hv⟩ : ∃ v, v = o_ff (μ 11 0) (fun _ => true) (μ 12 0) i 16 (μ 10 0 1).toNat := ⟨_, rfl⟩
          rw [← hv] at hd ⊢
          have hT2 : TB (o_up μ 12 0 i.toNat v) := by
            refine ⟨?_, fun u hu => ?_⟩
            · rw [o_up_at, if_neg (by omega)]; exact a6.1
            · rw [o_up_at]
              split
              · exact ⟨hd.1, hd.2.1⟩
              · exact a6.2 u hu
          have hD2 : ∀ u : Int, 0 ≤ u → u < ((t + 1 : Nat) : Int) → isD (FM σ) 16 u (o_up μ 12 0 i.toNat v 12 0 u.toNat) := by
            intro u u0 u1
            rw [o_up_at]
            by_cases q : u.toNat = i.toNat
            · rw [if_pos ⟨rfl, rfl, q⟩, show u = i by omega]; exact hd
            · rw [if_neg (fun z => q z.2.2)]; exact a7 u u0 (by omega)
          have hK2 : ∀ K, K ≠ 12 → o_up μ 12 0 i.toNat v K = σ K := fun K hK => by rw [o_up_k hK, a5 K hK]
          have hlt := isD_lt (k := b + 1) hd (by omega)
          refine is_12 (pc := 33) C (by omega) (by omega) dX1_greatestTotal_33 ?_
          refine o_aload_n (pc := 34) C dX1_greatestTotal_34 rfl ?_
          refine gf_X1_19 (pc := 35) C dX1_greatestTotal_35 ?_
          refine o_iload (pc := 38) C dX1_greatestTotal_38 rfl ?_
          refine ia_12 (pc := 40) C (by omega) (by omega) dX1_greatestTotal_40 ?_
          rw [show o_up μ 12 0 i.toNat v 12 0 i.toNat = v from o_up_s _ _ _ _ _]
          have hv0 := hd.1
          have hv1 := hd.2.1
          refine o_iload_n (pc := 41) C dX1_greatestTotal_41 rfl ?_
          refine o_icmp_gt (pc := 42) C (tgt := 48) dX1_greatestTotal_42 (by decide) (by omega) (by omega) (fun h42 => ?_) (fun h42 => ?_)
          · refine inc_4 (pc := 48) C dX1_greatestTotal_48 ?_
            refine o_goto (pc := 51) C (tgt := 5) dX1_greatestTotal_51 (by decide) ?_
            by_cases hvb : b < v
            · have hG : isG (FM σ) (b + 1) (((t + 1 : Nat) : Int) - 1) c := by
                refine ⟨?_, fun u u1 u2 u3 => ?_⟩
                · rcases a8.1 with q | ⟨q1, q2, q3⟩
                  · exact Or.inl q
                  · exact Or.inr ⟨q1, by omega, q3⟩
                · rcases Int.lt_or_le u t with q | q
                  · exact a8.2 u u1 (by omega) u3
                  · exfalso
                    rw [show u = i by omega, ← hlt] at u3
                    omega
              first
              | exact ih (t + 1) _ _ _ (by omega) (by omega) (by omega) (by omega) hK2 hT2 hD2 hG a9 a10 (by omega)
              | (exfalso; omega)
            · first
              | (exfalso; omega)
              | exact ih (t + 1) _ _ _ (by omega) (by omega) (by omega) (by omega) hK2 hT2 hD2 ⟨Or.inr ⟨by omega, by omega, hlt.mp (by omega)⟩, fun u u1 u2 u3 => by omega⟩ (by omega) (by omega) (by omega)
          · refine o_iload (pc := 45) C dX1_greatestTotal_45 rfl ?_
            refine sti_3 (pc := 47) C dX1_greatestTotal_47 ?_
            refine inc_4 (pc := 48) C dX1_greatestTotal_48 ?_
            refine o_goto (pc := 51) C (tgt := 5) dX1_greatestTotal_51 (by decide) ?_
            by_cases hvb : b < v
            · have hG : isG (FM σ) (b + 1) (((t + 1 : Nat) : Int) - 1) c := by
                refine ⟨?_, fun u u1 u2 u3 => ?_⟩
                · rcases a8.1 with q | ⟨q1, q2, q3⟩
                  · exact Or.inl q
                  · exact Or.inr ⟨q1, by omega, q3⟩
                · rcases Int.lt_or_le u t with q | q
                  · exact a8.2 u u1 (by omega) u3
                  · exfalso
                    rw [show u = i by omega, ← hlt] at u3
                    omega
              first
              | exact ih (t + 1) _ _ _ (by omega) (by omega) (by omega) (by omega) hK2 hT2 hD2 hG a9 a10 (by omega)
              | (exfalso; omega)
            · first
              | (exfalso; omega)
              | exact ih (t + 1) _ _ _ (by omega) (by omega) (by omega) (by omega) hK2 hT2 hD2 ⟨Or.inr ⟨by omega, by omega, hlt.mp (by omega)⟩, fun u u1 u2 u3 => by omega⟩ (by omega) (by omega) (by omega)
  refine o_iconst (pc := 0) C dX1_greatestTotal_0 ?_
  refine sti_3 (pc := 1) C dX1_greatestTotal_1 ?_
  refine o_iconst (pc := 2) C dX1_greatestTotal_2 ?_
  refine sti_4 (pc := 3) C dX1_greatestTotal_3 ?_
  exact L (a.toNat + 2) 1 σ _ _ (by omega) (by omega) (by omega) rfl (fun _ _ => rfl) hT (fun u u0 u1 => by rw [show u = 0 by omega]; show isD _ _ _ (σ 12 0 0); rw [hT.1]; exact isD_zero (by omega)) ⟨Or.inl rfl, fun u u1 u2 => by omega⟩ (by omega) (by omega) (by omega)
set_option maxRecDepth 100000 in
set_option maxHeartbeats 4000000 in
theorem c_X1_greatestBefore {l : Launch} {g : oG} {σ : oMem} {a b : Int} (hF : FW σ) (hT : TB σ) (ha0 : 0 ≤ a) (ha1 : a ≤ 2000) (hb0 : 0 ≤ b) (hb1 : b ≤ 14) (hD : ∀ u : Int, 0 ≤ u → u ≤ a → isD (FM σ) 16 u (σ 12 0 u.toNat)) (hN : isN (FM σ) (b.toNat + 1) a) : oMi l g yX1_greatestBefore (.code yX1_greatestBefore cX1_greatestBefore 4 (some .int)) 1 0 [.ref (g.2.1 10 0), oi a, oi b] σ (fun z σ' => isX (FM σ) a b.toNat z ∧ σ' = σ) := by
  refine oMi_of (own := RX1) (by decide +kernel) rfl (by simp [oi, Value.category]) (by simp) (fun x C E => ?_)
  show oW l g x σ 0 [some (.ref (g.2.1 10 0)), some (oi a), some (oi b), none] [] 0
  obtain ⟨g0, g1, g2, g3⟩ := id hF
  have L : ∀ (n t : Nat) (c : Int), σ 10 0 1 < t + n → (t : Int) ≤ σ 10 0 1 → c = t → (∀ i, i < t → ¬ (σ 11 0 i ≤ a ∧ σ 12 0 (a - σ 11 0 i).toNat = b)) → oW l g x σ 2 [some (.ref (g.2.1 10 0)), some (oi a), some (oi b), some (oi c)] [] 0 := by
    intro n
    induction n with
    | zero => intro t c a1 a2; omega
    | succ n ih =>
      intro t c a1 a2 a3 a4
      have ec : c.toNat = t := by omega
      refine o_iload_n (pc := 2) C dX1_greatestBefore_2 rfl ?_
      refine o_aload_n (pc := 3) C dX1_greatestBefore_3 rfl ?_
      refine gf_X1_15 (pc := 4) C dX1_greatestBefore_4 ?_
      refine o_icmp_ge (pc := 7) C (tgt := 50) dX1_greatestBefore_7 (by decide) (by omega) (by omega) (fun h7 => ?_) (fun h7 => ?_)
      · exfalso
        obtain ⟨w, w1, w2, w3⟩ := isN_step hN
        have hpos := (FM_ok hF).2 w w1
        obtain ⟨j, j1, j2⟩ := w1
        refine a4 j (by omega) ⟨by omega, ?_⟩
        have := (isD_N (hD (a - w) (by omega) (by omega)) (n := b.toNat) (by omega)).mpr w3
        rw [j2]; omega
      · have hb := g2 t (by omega)
        rw [← ec] at hb
        refine o_aload_n (pc := 10) C dX1_greatestBefore_10 rfl ?_
        refine gf_X1_9 (pc := 11) C dX1_greatestBefore_11 ?_
        refine o_iload_n (pc := 14) C dX1_greatestBefore_14 rfl ?_
        refine ia_11 (pc := 15) C (by omega) (by omega) dX1_greatestBefore_15 ?_
        refine o_iload_n (pc := 16) C dX1_greatestBefore_16 rfl ?_
        refine o_icmp_gt (pc := 17) C (tgt := 44) dX1_greatestBefore_17 (by decide) (by omega) (by omega) (fun h17 => ?_) (fun h17 => ?_)
        · refine inc_3 (pc := 44) C dX1_greatestBefore_44 ?_
          refine o_goto (pc := 47) C (tgt := 2) dX1_greatestBefore_47 (by decide) ?_
          exact ih (t + 1) _ (by omega) (by omega) (by omega) (fun i hi => by
            rcases Nat.lt_succ_iff_lt_or_eq.mp hi with q | q
            · exact a4 i q
            · subst q; rw [← ec]; omega)
        · have ht := hT.2 (a - σ 11 0 c.toNat).toNat (by omega)
          refine o_aload_n (pc := 20) C dX1_greatestBefore_20 rfl ?_
          refine gf_X1_19 (pc := 21) C dX1_greatestBefore_21 ?_
          refine o_iload_n (pc := 24) C dX1_greatestBefore_24 rfl ?_
          refine o_aload_n (pc := 25) C dX1_greatestBefore_25 rfl ?_
          refine gf_X1_9 (pc := 26) C dX1_greatestBefore_26 ?_
          refine o_iload_n (pc := 29) C dX1_greatestBefore_29 rfl ?_
          refine ia_11 (pc := 30) C (by omega) (by omega) dX1_greatestBefore_30 ?_
          refine o_isub (pc := 31) C dX1_greatestBefore_31 ?_
          refine ia_12 (pc := 32) C (by omega) (by omega) dX1_greatestBefore_32 ?_
          refine o_iload_n (pc := 33) C dX1_greatestBefore_33 rfl ?_
          refine o_icmp_ne (pc := 34) C (tgt := 44) dX1_greatestBefore_34 (by decide) (by omega) (by omega) (fun h34 => ?_) (fun h34 => ?_)
          · refine inc_3 (pc := 44) C dX1_greatestBefore_44 ?_
            refine o_goto (pc := 47) C (tgt := 2) dX1_greatestBefore_47 (by decide) ?_
            exact ih (t + 1) _ (by omega) (by omega) (by omega) (fun i hi => by
              rcases Nat.lt_succ_iff_lt_or_eq.mp hi with q | q
              · exact a4 i q
              · subst q; rw [← ec]; omega)
          · refine o_aload_n (pc := 37) C dX1_greatestBefore_37 rfl ?_
            refine gf_X1_9 (pc := 38) C dX1_greatestBefore_38 ?_
            refine o_iload_n (pc := 41) C dX1_greatestBefore_41 rfl ?_
            refine ia_11 (pc := 42) C (by omega) (by omega) dX1_greatestBefore_42 ?_
            refine E _ _ _ _ _ dX1_greatestBefore_43 rfl ⟨⟨⟨t, by omega, by rw [ec]⟩, by omega, ?_, ?_⟩, rfl⟩ (by omega)
            · exact (isD_N (hD (a - σ 11 0 c.toNat) (by omega) (by omega)) (n := b.toNat) (by omega)).mp (by omega)
            · intro w w1 w2 w3
              have hpos := (FM_ok hF).2 w w1
              obtain ⟨j, j1, j2⟩ := w1
              rcases Nat.lt_trichotomy j t with q | q | q
              · exfalso
                refine a4 j q ⟨by omega, ?_⟩
                have := (isD_N (hD (a - w) (by omega) (by omega)) (n := b.toNat) (by omega)).mpr w3
                rw [j2]; omega
              · rw [← j2, q, ec]; omega
              · have := g3 t j q j1
                rw [ec]; omega
  refine o_iconst (pc := 0) C dX1_greatestBefore_0 ?_
  refine sti_3 (pc := 1) C dX1_greatestBefore_1 ?_
  exact L 13 0 _ (by omega) (by omega) rfl (fun i hi => absurd hi (Nat.not_lt_zero i))
set_option maxRecDepth 100000 in
set_option maxHeartbeats 4000000 in
theorem c_X1_layOut {l : Launch} {g : oG} {σ : oMem} {a : Int} (hF : FW σ) (hT : TB σ) (ha0 : 0 ≤ a) (ha1 : a ≤ 2000) (hD : ∀ u : Int, 0 ≤ u → u ≤ a → isD (FM σ) 16 u (σ 12 0 u.toNat)) (hn : σ 12 0 a.toNat ≤ 15) : oMv l g yX1_layOut (.code yX1_layOut cX1_layOut 6 none) 3 0 [.ref (g.2.1 10 0), oi a, .ref (g.2.1 8 10)] σ (fun σ' => (∀ K, K ≠ 8 → K ≠ 9 → σ' K = σ K) ∧ (∀ q, q ≠ 10 → σ' 8 q = σ 8 q ∧ σ' 9 q = σ 9 q) ∧ σ' 8 10 1 = σ 12 0 a.toNat ∧ isF (FM σ) a (σ 12 0 a.toNat).toNat (σ' 9 10)) := by
  refine oMv_of (own := RX1) (by decide +kernel) rfl (by simp [oi, Value.category]) (by simp) (fun x C E => ?_)
  show oW l g x σ 0 [some (.ref (g.2.1 10 0)), some (oi a), some (.ref (g.2.1 8 10)), none, none, none] [] 0
  have hp0 := (hT.2 a.toNat (by omega)).1
  obtain ⟨N, hN0⟩ : ∃ N : Nat, (N : Int) = σ 12 0 a.toNat := ⟨(σ 12 0 a.toNat).toNat, by omega⟩
  have hN1 : isN (FM σ) N a := (isD_N (hD a ha0 (Int.le_refl a)) (by omega)).mp hN0.symm
  rw [show (σ 12 0 a.toNat).toNat = N by omega, ← hN0] at E
  have L : ∀ (n i : Nat) (μ : oMem) (lf sl : Int) (r : Option Value), i + n = N → sl = n → lf = a - o_sum (μ 9 10) i → 0 ≤ lf → lf ≤ a → isN (FM σ) n lf → (∀ K, K ≠ 8 → K ≠ 9 → μ K = σ K) → (∀ q, q ≠ 10 → μ 8 q = σ 8 q ∧ μ 9 q = σ 9 q) → μ 8 10 1 = i → (∀ j, j < i → isX (FM σ) (a - o_sum (μ 9 10) j) (N - 1 - j) (μ 9 10 j)) → oW l g x μ 14 [some (.ref (g.2.1 10 0)), some (oi a), some (.ref (g.2.1 8 10)), some (oi lf), some (oi sl), r] [] 0 := by
    intro n
    induction n with
    | zero =>
      intro i μ lf sl r a1 a2 a3 a4 a5 a6 a7 a8 a9 a10
      refine o_iload (pc := 14) C dX1_layOut_14 rfl ?_
      refine o_if_le (pc := 16) C (tgt := 47) dX1_layOut_16 (by decide) (by omega) (fun h16 => ?_) (fun h16 => ?_)
      · exact E _ _ _ _ dX1_layOut_47 ⟨a7, a8, by omega, hN1, fun j hj => a10 j (by omega)⟩ (by omega)
      · omega
    | succ n ih =>
      intro i μ lf sl r a1 a2 a3 a4 a5 a6 a7 a8 a9 a10
      have hFμ : FW μ := by rw [FW_cong (a7 10 (by decide) (by decide)) (a7 11 (by decide) (by decide))]; exact hF
      have hTμ : TB μ := by unfold TB; rw [a7 12 (by decide) (by decide)]; exact hT
      have hMμ : FM μ = FM σ := FM_cong (a7 10 (by decide) (by decide)) (a7 11 (by decide) (by decide))
      have hDμ : ∀ u : Int, 0 ≤ u → u ≤ lf → isD (FM μ) 16 u (μ 12 0 u.toNat) := fun u u0 u1 => by rw [hMμ, a7 12 (by decide) (by decide)]; exact hD u u0 (by omega)
      refine o_iload (pc := 14) C dX1_layOut_14 rfl ?_
      refine o_if_le (pc := 16) C (tgt := 47) dX1_layOut_16 (by decide) (by omega) (fun h16 => ?_) (fun h16 => ?_)
      · omega
      · refine o_aload_n (pc := 19) C dX1_layOut_19 rfl ?_
        refine o_iload_n (pc := 20) C dX1_layOut_20 rfl ?_
        refine o_iload (pc := 21) C dX1_layOut_21 rfl ?_
        refine o_iconst (pc := 23) C dX1_layOut_23 ?_
        refine o_isub (pc := 24) C dX1_layOut_24 ?_
        refine cl_X1_37 (pc := 25) C (c_X1_greatestBefore hFμ hTμ a4 (by omega) (by omega) (by omega) hDμ (by rw [hMμ, show (sl - 1).toNat + 1 = n + 1 by omega]; exact a6)) (by omega) (by omega) (Nat.le_of_ble_eq_true rfl) dX1_layOut_25 (fun z σ2 hq => ?_)
        obtain ⟨hX, hq⟩ := hq
        rw [hq]; clear hq
        rw [hMμ, show (sl - 1).toNat = n by omega] at hX
        refine sti_5 (pc := 28) C dX1_layOut_28 ?_
        refine o_aload_n (pc := 30) C dX1_layOut_30 rfl ?_
        refine o_iload (pc := 31) C dX1_layOut_31 rfl ?_
        refine cl_X1_40 (pc := 33) C (c_X3_append (by decide) (by omega) (by omega)) (by omega) (by omega) (by omega) (Nat.le_of_ble_eq_true rfl) dX1_layOut_33 (fun σ2 hq => ?_)
        rw [if_pos (by omega), a9, show ((i : Int)).toNat = i by omega] at hq
        rw [hq]; clear hq
        have hs : ∀ j, j ≤ i → o_sum (o_up (o_up μ 9 10 i z) 8 10 1 (i + 1) 9 10) j = o_sum (μ 9 10) j := fun j hj => o_sum_cong j (fun q hq => by simp [o_up]; omega)
        have hv : o_up (o_up μ 9 10 i z) 8 10 1 (i + 1) 9 10 i = z := by simp [o_up]
        refine o_iload_n (pc := 36) C dX1_layOut_36 rfl ?_
        refine o_iload (pc := 37) C dX1_layOut_37 rfl ?_
        refine o_isub (pc := 39) C dX1_layOut_39 ?_
        refine sti_3 (pc := 40) C dX1_layOut_40 ?_
        refine inc_4 (pc := 41) C dX1_layOut_41 ?_
        refine o_goto (pc := 44) C (tgt := 14) dX1_layOut_44 (by decide) ?_
        have hpos := (FM_ok hF).2 z hX.1
        refine ih (i + 1) _ _ _ _ (by omega) (by omega) (by rw [o_sum, hs i (Nat.le_refl i), hv]; omega) (by have := hX.2.1; omega) (by omega) hX.2.2.1 (fun K k8 k9 => by rw [o_up_k k8, o_up_k k9, a7 K k8 k9]) (fun q hq => ?_) (by simp [o_up]) (fun j hj => ?_)
        · refine ⟨?_, ?_⟩
          · rw [o_up_row _ _ _ _ _ _ _ (fun z => hq z.2), o_up_k (by decide)]; exact (a8 q hq).1
          · rw [o_up_k (by decide), o_up_row _ _ _ _ _ _ _ (fun z => hq z.2)]; exact (a8 q hq).2
        · rw [hs j (by omega)]
          rcases Nat.lt_succ_iff_lt_or_eq.mp hj with q | q
          · have := a10 j q
            rw [show o_up (o_up μ 9 10 i z) 8 10 1 (i + 1) 9 10 j = μ 9 10 j from by simp [o_up]; omega]
            exact this
          · subst q
            rw [hv, ← a3, show N - 1 - j = n by omega]
            exact hX
  refine o_aload_n (pc := 0) C dX1_layOut_0 rfl ?_
  refine cl_X1_32 (pc := 1) C (c_X3_empty (by decide)) (by omega) (by omega) (by omega) (Nat.le_of_ble_eq_true rfl) dX1_layOut_1 (fun σ2 hq => ?_)
  rw [hq]; clear hq
  refine o_iload_n (pc := 4) C dX1_layOut_4 rfl ?_
  refine sti_3 (pc := 5) C dX1_layOut_5 ?_
  refine o_aload_n (pc := 6) C dX1_layOut_6 rfl ?_
  refine gf_X1_19 (pc := 7) C dX1_layOut_7 ?_
  refine o_iload_n (pc := 10) C dX1_layOut_10 rfl ?_
  refine ia_12 (pc := 11) C (by omega) (by omega) dX1_layOut_11 ?_
  rw [show o_up σ 8 10 1 0 12 0 a.toNat = N from by rw [o_up_k (by decide), hN0]]
  refine sti_4 (pc := 12) C dX1_layOut_12 ?_
  exact L N 0 _ _ _ _ (by omega) rfl (by simp [o_sum]) ha0 (Int.le_refl a) hN1 (fun K k8 k9 => o_up_k k8) (fun q hq => ⟨o_up_row _ _ _ _ _ _ _ (fun z => hq z.2), by rw [o_up_k (by decide)]⟩) (by simp [o_up]) (fun j hj => absurd hj (Nat.not_lt_zero j))
set_option maxRecDepth 100000 in
set_option maxHeartbeats 4000000 in
theorem c_X1_tryFrom {l : Launch} {g : oG} {σ : oMem} (n : Nat) : ∀ {a m : Nat} {room s : Int}, m ≤ 12 → a ≤ m → (∀ j, j < m → 20 ≤ σ 11 0 j ∧ σ 11 0 j ≤ 1000) → 0 ≤ s → s ≤ n → s ≤ 100 → -100000 ≤ room → room ≤ 100000 → oMi l g yX1_tryFrom (.code yX1_tryFrom cX1_tryFrom 8 (some .int)) (n + 1) 0 [.ref (g.2.1 11 0), oi (m : Int), oi (a : Int), oi room, oi s] σ (fun z σ' => isT (σ 11 0) m a room s.toNat z ∧ σ' = σ) := by
  induction n with
  | zero =>
    intro a m room s a1 a2 a3 a4 a5 a6 a7 a8
    refine oMi_of (own := RX1) (by decide +kernel) rfl (by simp [oi, Value.category]) (by simp) (fun x C E => ?_)
    show oW l g x σ 0 [some (.ref (g.2.1 11 0)), some (oi (m : Int)), some (oi (a : Int)), some (oi room), some (oi s), none, none, none] [] 0
    refine o_iconst (pc := 0) C dX1_tryFrom_0 ?_
    refine sti_5 (pc := 1) C dX1_tryFrom_1 ?_
    refine o_iload (pc := 3) C dX1_tryFrom_3 rfl ?_
    refine o_if_gt (pc := 5) C (tgt := 11) dX1_tryFrom_5 (by decide) (by omega) (fun h5 => ?_) (fun h5 => ?_)
    · omega
    · refine o_iload (pc := 8) C dX1_tryFrom_8 rfl ?_
      exact E _ _ _ _ _ dX1_tryFrom_10 rfl ⟨⟨Int.le_refl 0, ⟨0, Nat.zero_le _, rfl⟩, Or.inl rfl, fun k t k1 t1 q => by rw [show k = 0 by omega] at q; simp only [oQ] at q; omega⟩, rfl⟩ (by omega)
  | succ n ih =>
    intro a m room s a1 a2 a3 a4 a5 a6 a7 a8
    refine oMi_of (own := RX1) (by decide +kernel) rfl (by simp [oi, Value.category]) (by simp) (fun x C E => ?_)
    show oW l g x σ 0 [some (.ref (g.2.1 11 0)), some (oi (m : Int)), some (oi (a : Int)), some (oi room), some (oi s), none, none, none] [] 0
    have L : ∀ (q t : Nat) (c i : Int) (r : Option Value), m < t + q → t ≤ m → a ≤ t → i = t → 0 < s → 0 ≤ c → (∃ k : Nat, k ≤ s.toNat ∧ oQ (σ 11 0) m a k c) → (c = 0 ∨ c ≤ room) → (∀ (i' k : Nat) (u : Int), a ≤ i' → i' < t → k + 1 ≤ s.toNat → u ≤ room → oQ (σ 11 0) m i' k (u - σ 11 0 i') → u ≤ c) → oW l g x σ 14 [some (.ref (g.2.1 11 0)), some (oi (m : Int)), some (oi (a : Int)), some (oi room), some (oi s), some (oi c), some (oi i), r] [] 0 := by
      intro q
      induction q with
      | zero => intro t c i r b1 b2; omega
      | succ q ih2 =>
        intro t c i r b1 b2 b3 b4 b5 b6 b7 b8 b9
        have ei : i.toNat = t := by omega
        subst b4
        refine o_iload (pc := 14) C dX1_tryFrom_14 rfl ?_
        refine o_iload_n (pc := 16) C dX1_tryFrom_16 rfl ?_
        refine o_icmp_ge (pc := 17) C (tgt := 67) dX1_tryFrom_17 (by decide) (by omega) (by omega) (fun h17 => ?_) (fun h17 => ?_)
        · refine o_iload (pc := 67) C dX1_tryFrom_67 rfl ?_
          refine E _ _ _ _ _ dX1_tryFrom_69 rfl ⟨⟨b6, b7, b8, fun k u k1 u1 hq => ?_⟩, rfl⟩ (by omega)
          cases k with
          | zero => simp only [oQ] at hq; omega
          | succ k =>
            obtain ⟨j, j1, j2, j3⟩ := hq
            exact b9 j k u j1 (by omega) k1 u1 j3
        · have hw := a3 t (by omega)
          rw [← ei] at hw
          refine o_aload_n (pc := 20) C dX1_tryFrom_20 rfl ?_
          refine o_iload (pc := 21) C dX1_tryFrom_21 rfl ?_
          refine ia_11 (pc := 23) C (by omega) (by omega) dX1_tryFrom_23 ?_
          refine o_iload_n (pc := 24) C dX1_tryFrom_24 rfl ?_
          refine o_icmp_gt (pc := 25) C (tgt := 61) dX1_tryFrom_25 (by decide) (by omega) (by omega) (fun h25 => ?_) (fun h25 => ?_)
          · refine inc_6 (pc := 61) C dX1_tryFrom_61 ?_
            refine o_goto (pc := 64) C (tgt := 14) dX1_tryFrom_64 (by decide) ?_
            first
            | (refine ih2 (t + 1) _ _ _ (by omega) (by omega) (by omega) (by omega) b5 b6 b7 b8 (fun i' k u i1 i2 k1 u1 hq => ?_)
               rcases Nat.lt_succ_iff_lt_or_eq.mp i2 with y | y
               · exact b9 i' k u i1 y k1 u1 hq
               · subst y
                 have := oQ_nn (fun j hj => by have := a3 j hj; omega) k _ _ hq
                 rw [ei] at *
                 omega)
            | (refine ih2 (t + 1) _ _ _ (by omega) (by omega) (by omega) (by omega) b5 (by split <;> omega) ?_ (by split <;> omega) (fun i' k u i1 i2 k1 u1 hq => ?_)
               · split
                 · exact ⟨k + 1, by omega, hQ⟩
                 · exact b7
               · rcases Nat.lt_succ_iff_lt_or_eq.mp i2 with y | y
                 · have := b9 i' k u i1 y k1 u1 hq
                   split <;> omega
                 · subst y
                   have := z2 k _ (by omega) (by omega) hq
                   split <;> omega)
          · refine o_aload_n (pc := 28) C dX1_tryFrom_28 rfl ?_
            refine o_iload (pc := 29) C dX1_tryFrom_29 rfl ?_
            refine ia_11 (pc := 31) C (by omega) (by omega) dX1_tryFrom_31 ?_
            refine o_aload_n (pc := 32) C dX1_tryFrom_32 rfl ?_
            refine o_iload_n (pc := 33) C dX1_tryFrom_33 rfl ?_
            refine o_iload (pc := 34) C dX1_tryFrom_34 rfl ?_
            refine o_iload_n (pc := 36) C dX1_tryFrom_36 rfl ?_
            refine o_aload_n (pc := 37) C dX1_tryFrom_37 rfl ?_
            refine o_iload (pc := 38) C dX1_tryFrom_38 rfl ?_
            refine ia_11 (pc := 40) C (by omega) (by omega) dX1_tryFrom_40 ?_
            refine o_isub (pc := 41) C dX1_tryFrom_41 ?_
            refine o_iload (pc := 42) C dX1_tryFrom_42 rfl ?_
            refine o_iconst (pc := 44) C dX1_tryFrom_44 ?_
            refine o_isub (pc := 45) C dX1_tryFrom_45 ?_
            refine cl_X1_44 (pc := 46) C (ih a1 (by omega) a3 (by omega) (by omega) (by omega) (by omega) (by omega)) (by omega) (by omega) (Nat.le_of_ble_eq_true rfl) dX1_tryFrom_46 (fun z σ2 hq => ?_)
            obtain ⟨⟨z0, ⟨k, k1, k2⟩, z1, z2⟩, hq⟩ := hq
            rw [hq]; clear hq
            rw [ei] at *
            rw [show (s - 1).toNat = s.toNat - 1 by omega] at k1 z2
            have hQ : oQ (σ 11 0) m a (k + 1) (σ 11 0 t + z) := ⟨t, b3, by omega, by rw [show σ 11 0 t + z - σ 11 0 t = z by omega]; exact k2⟩
            refine o_iadd (pc := 49) C dX1_tryFrom_49 ?_
            refine sti_7 (pc := 50) C dX1_tryFrom_50 ?_
            refine o_iload (pc := 52) C dX1_tryFrom_52 rfl ?_
            refine o_iload (pc := 54) C dX1_tryFrom_54 rfl ?_
            refine o_max (pc := 56) C kw_10_16 kw_8_10 kw_8_11 kw_8_12 (by omega) (by omega) (Nat.le_of_ble_eq_true rfl) (by omega) dX1_tryFrom_56 ?_
            refine sti_5 (pc := 59) C dX1_tryFrom_59 ?_
            refine inc_6 (pc := 61) C dX1_tryFrom_61 ?_
            refine o_goto (pc := 64) C (tgt := 14) dX1_tryFrom_64 (by decide) ?_
            first
            | (refine ih2 (t + 1) _ _ _ (by omega) (by omega) (by omega) (by omega) b5 b6 b7 b8 (fun i' k u i1 i2 k1 u1 hq => ?_)
               rcases Nat.lt_succ_iff_lt_or_eq.mp i2 with y | y
               · exact b9 i' k u i1 y k1 u1 hq
               · subst y
                 have := oQ_nn (fun j hj => by have := a3 j hj; omega) k _ _ hq
                 rw [ei] at *
                 omega)
            | (refine ih2 (t + 1) _ _ _ (by omega) (by omega) (by omega) (by omega) b5 (by split <;> omega) ?_ (by split <;> omega) (fun i' k u i1 i2 k1 u1 hq => ?_)
               · split
                 · exact ⟨k + 1, by omega, hQ⟩
                 · exact b7
               · rcases Nat.lt_succ_iff_lt_or_eq.mp i2 with y | y
                 · have := b9 i' k u i1 y k1 u1 hq
                   split <;> omega
                 · subst y
                   have := z2 k _ (by omega) (by omega) hq
                   split <;> omega)
    refine o_iconst (pc := 0) C dX1_tryFrom_0 ?_
    refine sti_5 (pc := 1) C dX1_tryFrom_1 ?_
    refine o_iload (pc := 3) C dX1_tryFrom_3 rfl ?_
    refine o_if_gt (pc := 5) C (tgt := 11) dX1_tryFrom_5 (by decide) (by omega) (fun h5 => ?_) (fun h5 => ?_)
    · refine o_iload_n (pc := 11) C dX1_tryFrom_11 rfl ?_
      refine sti_6 (pc := 12) C dX1_tryFrom_12 ?_
      exact L 13 a _ _ _ (by omega) a2 (Nat.le_refl a) rfl (by omega) (Int.le_refl 0) ⟨0, Nat.zero_le _, rfl⟩ (Or.inl rfl) (fun i' k u i1 i2 => by omega)
    · refine o_iload (pc := 8) C dX1_tryFrom_8 rfl ?_
      exact E _ _ _ _ _ dX1_tryFrom_10 rfl ⟨⟨Int.le_refl 0, ⟨0, Nat.zero_le _, rfl⟩, Or.inl rfl, fun k t k1 t1 q => by rw [show k = 0 by omega] at q; simp only [oQ] at q; omega⟩, rfl⟩ (by omega)
set_option maxRecDepth 100000 in
set_option maxHeartbeats 4000000 in
theorem c_X1_greatestTotalByTrying {l : Launch} {g : oG} {σ : oMem} {a b : Int} (hF : FW σ) (ha0 : -1000 ≤ a) (ha1 : a ≤ 2000) (hb0 : 0 ≤ b) (hb1 : b ≤ 7) : oMi l g yX1_greatestTotalByTrying (.code yX1_greatestTotalByTrying cX1_greatestTotalByTrying 3 (some .int)) 10 0 [.ref (g.2.1 10 0), oi a, oi b] σ (fun z σ' => isG (FM σ) (b + 1) a z ∧ σ' = σ) := by
  refine oMi_of (own := RX1) (by decide +kernel) rfl (by simp [oi, Value.category]) (by simp) (fun x C E => ?_)
  show oW l g x σ 0 [some (.ref (g.2.1 10 0)), some (oi a), some (oi b)] [] 0
  obtain ⟨m, hm0⟩ : ∃ m : Nat, (m : Int) = σ 10 0 1 := ⟨(σ 10 0 1).toNat, by have := hF.1; omega⟩
  have hm1 := hF.2.1
  have hok := FM_ok hF
  refine o_aload_n (pc := 0) C dX1_greatestTotalByTrying_0 rfl ?_
  refine gf_X1_9 (pc := 1) C dX1_greatestTotalByTrying_1 ?_
  refine o_aload_n (pc := 4) C dX1_greatestTotalByTrying_4 rfl ?_
  refine gf_X1_15 (pc := 5) C dX1_greatestTotalByTrying_5 ?_
  rw [← hm0]
  refine o_iconst (pc := 8) C dX1_greatestTotalByTrying_8 ?_
  refine o_iload_n (pc := 9) C dX1_greatestTotalByTrying_9 rfl ?_
  refine o_iload_n (pc := 10) C dX1_greatestTotalByTrying_10 rfl ?_
  refine cl_X1_44 (pc := 11) C (c_X1_tryFrom (a := 0) (m := m) 7 (by omega) (Nat.zero_le m) (fun j hj => hF.2.2.1 j (by omega)) (by omega) (by omega) (by omega) (by omega) (by omega)) (by omega) (by omega) (Nat.le_of_ble_eq_true rfl) dX1_greatestTotalByTrying_11 (fun z σ2 hq => ?_)
  obtain ⟨hT, hq⟩ := hq
  rw [hq]; clear hq
  have hG := isT_G (W := FM σ) (fun w => ⟨fun ⟨j, j1, j2⟩ => ⟨j, by omega, j2⟩, fun ⟨j, j1, j2⟩ => ⟨j, by omega, j2⟩⟩) (fun j hj => by have := hF.2.2.1 j (by omega); omega) hT
  rw [show ((b.toNat : Int) + 1) = b + 1 by omega] at hG
  exact E _ _ _ _ _ dX1_greatestTotalByTrying_14 rfl ⟨hG, rfl⟩ (by omega)
