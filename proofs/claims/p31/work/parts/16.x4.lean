set_option maxRecDepth 100000 in
set_option maxHeartbeats 4000000 in
theorem c_X4_holds {l : Launch} {g : oG} {σ : oMem} {s r : Nat} (hs : s < 128) (hr : r < 7) : oMi l g yX4_holds (.code yX4_holds cX4_holds 2 (some .boolean)) 1 0 [oi (s : Int), oi (r : Int)] σ (fun z σ' => z = (if hb s r = true then 1 else 0) ∧ σ' = σ) := by
  refine oMi_of (own := RX4) (by decide +kernel) rfl (by simp [oi, Value.category]) (by simp) (fun x C E => ?_)
  show oW l g x σ 0 [some (oi (s : Int)), some (oi (r : Int))] [] 0
  have h1 : s / 2 ^ r < 128 := Nat.lt_of_le_of_lt (Nat.div_le_self _ _) hs
  refine o_iload_n (pc := 0) C dX4_holds_0 rfl ?_
  refine o_iload_n (pc := 1) C dX4_holds_1 rfl ?_
  refine o_ishr (pc := 2) C dX4_holds_2 (b_shr s hs r hr) ?_
  refine o_iconst (pc := 3) C dX4_holds_3 ?_
  refine o_iand (pc := 4) C dX4_holds_4 (b_and1 _ h1) ?_
  refine o_iconst (pc := 5) C dX4_holds_5 ?_
  refine o_icmp_ne (pc := 6) C (tgt := 13) dX4_holds_6 (by decide) (by omega) (by omega) (fun h6 => ?_) (fun h6 => ?_)
  · refine o_iconst (pc := 13) C dX4_holds_13 ?_
    exact E _ _ _ _ _ dX4_holds_14 rfl ⟨by first | rw [if_pos (by unfold hb; rw [beq_iff_eq]; omega)] | rw [if_neg (by unfold hb; rw [beq_iff_eq]; omega)], rfl⟩ (by omega)
  · refine o_iconst (pc := 9) C dX4_holds_9 ?_
    refine o_goto (pc := 10) C (tgt := 14) dX4_holds_10 (by decide) ?_
    exact E _ _ _ _ _ dX4_holds_14 rfl ⟨by first | rw [if_pos (by unfold hb; rw [beq_iff_eq]; omega)] | rw [if_neg (by unfold hb; rw [beq_iff_eq]; omega)], rfl⟩ (by omega)
set_option maxRecDepth 100000 in
set_option maxHeartbeats 4000000 in
theorem c_X4_without {l : Launch} {g : oG} {σ : oMem} {s r : Nat} (hs : s < 128) (hr : r < 7) : oMi l g yX4_without (.code yX4_without cX4_without 2 (some .int)) 1 0 [oi (s : Int), oi (r : Int)] σ (fun z σ' => z = (wo s r : Nat) ∧ σ' = σ) := by
  refine oMi_of (own := RX4) (by decide +kernel) rfl (by simp [oi, Value.category]) (by simp) (fun x C E => ?_)
  show oW l g x σ 0 [some (oi (s : Int)), some (oi (r : Int))] [] 0
  refine o_iload_n (pc := 0) C dX4_without_0 rfl ?_
  refine o_iconst (pc := 1) C dX4_without_1 ?_
  refine o_iload_n (pc := 2) C dX4_without_2 rfl ?_
  refine o_ishl (pc := 3) C dX4_without_3 (b_shl r (by omega)) ?_
  refine o_iconst (pc := 4) C dX4_without_4 ?_
  refine o_ixor (pc := 5) C dX4_without_5 (b_xor r (by omega)) ?_
  refine o_iand (pc := 6) C dX4_without_6 (b_wo s hs r hr) ?_
  exact E _ _ _ _ _ dX4_without_7 rfl ⟨rfl, rfl⟩ (by omega)
/-- the tables of the search for the best order -/
def OM (σ : oMem) : Prop := (∀ b r : Nat, b < 8 → r < 7 → 0 ≤ σ 14 b r ∧ σ 14 b r ≤ 16) ∧ (∀ b s : Nat, b < 8 → s < 128 → 0 ≤ σ 15 b s ∧ σ 15 b s ≤ 128) ∧ ∀ b : Nat, b < 8 → σ 15 b 0 = 0
def oCst (σ : oMem) (b s r : Nat) : Int := σ 14 b r + σ 15 r (wo s r)
set_option maxRecDepth 100000 in
set_option maxHeartbeats 4000000 in
theorem c_X4_movesThrough {l : Launch} {g : oG} {σ : oMem} {b r s : Nat} (hb0 : b < 8) (hs : s < 128) (hr : r < 7) : oMi l g yX4_movesThrough (.code yX4_movesThrough cX4_movesThrough 4 (some .int)) 2 0 [.ref (g.2.1 13 0), oi (b : Int), oi (r : Int), oi (s : Int)] σ (fun z σ' => z = oCst σ b s r ∧ σ' = σ) := by
  refine oMi_of (own := RX4) (by decide +kernel) rfl (by simp [oi, Value.category]) (by simp) (fun x C E => ?_)
  show oW l g x σ 0 [some (.ref (g.2.1 13 0)), some (oi (b : Int)), some (oi (r : Int)), some (oi (s : Int))] [] 0
  have hw := wo_lt s hs r hr
  refine o_aload_n (pc := 0) C dX4_movesThrough_0 rfl ?_
  refine gf_X4_11 (pc := 1) C dX4_movesThrough_1 ?_
  refine o_iload_n (pc := 4) C dX4_movesThrough_4 rfl ?_
  refine aa_22 (pc := 5) C (by omega) (by omega) dX4_movesThrough_5 ?_
  rw [show ((b : Int)).toNat = b by omega]
  refine o_iload_n (pc := 6) C dX4_movesThrough_6 rfl ?_
  refine ia_14 (pc := 7) C (by omega) (by omega) (by omega) dX4_movesThrough_7 ?_
  refine o_aload_n (pc := 8) C dX4_movesThrough_8 rfl ?_
  refine gf_X4_16 (pc := 9) C dX4_movesThrough_9 ?_
  refine o_iload_n (pc := 12) C dX4_movesThrough_12 rfl ?_
  rw [show ((r : Int)).toNat = r by omega]
  refine aa_23 (pc := 13) C (by omega) (by omega) dX4_movesThrough_13 ?_
  refine o_iload_n (pc := 14) C dX4_movesThrough_14 rfl ?_
  refine o_iload_n (pc := 15) C dX4_movesThrough_15 rfl ?_
  refine cl_X4_40 (pc := 16) C (c_X4_without hs hr) (by omega) (by omega) (Nat.le_of_ble_eq_true rfl) dX4_movesThrough_16 (fun z σ2 hq => ?_)
  obtain ⟨rfl, hq⟩ := hq
  rw [hq]; clear hq
  refine ia_15 (pc := 19) C (by omega) (by omega) (by omega) dX4_movesThrough_19 ?_
  refine o_iadd (pc := 20) C dX4_movesThrough_20 ?_
  exact E _ _ _ _ _ dX4_movesThrough_21 rfl ⟨by rw [show (((wo s r : Nat) : Int)).toNat = wo s r by omega]; rfl, rfl⟩ (by omega)
set_option maxRecDepth 100000 in
set_option maxHeartbeats 4000000 in
theorem c_X4_fewestAfter {l : Launch} {g : oG} {σ : oMem} {b s n : Nat} (hM : OM σ) (hb0 : b < 8) (hs : s < 128) (hn : n ≤ 7) : oMi l g yX4_fewestAfter (.code yX4_fewestAfter cX4_fewestAfter 6 (some .int)) 3 0 [.ref (g.2.1 13 0), oi (b : Int), oi (s : Int), oi (n : Int)] σ (fun z σ' => z = o_fo (hb s) (oCst σ b s) 128 n ∧ σ' = σ) := by
  refine oMi_of (own := RX4) (by decide +kernel) rfl (by simp [oi, Value.category]) (by simp) (fun x C E => ?_)
  show oW l g x σ 0 [some (.ref (g.2.1 13 0)), some (oi (b : Int)), some (oi (s : Int)), some (oi (n : Int)), none, none] [] 0
  have L : ∀ (q t : Nat) (c i : Int), n < t + q → t ≤ n → c = o_fo (hb s) (oCst σ b s) 128 t → i = t → 0 ≤ c → c ≤ 128 → oW l g x σ 8 [some (.ref (g.2.1 13 0)), some (oi (b : Int)), some (oi (s : Int)), some (oi (n : Int)), some (oi c), some (oi i)] [] 0 := by
    intro q
    induction q with
    | zero => intro t c i a1 a2; omega
    | succ q ih =>
      intro t c i a1 a2 a3 a4 a5 a6
      subst a4
      refine o_iload (pc := 8) C dX4_fewestAfter_8 rfl ?_
      refine o_iload_n (pc := 10) C dX4_fewestAfter_10 rfl ?_
      refine o_icmp_ge (pc := 11) C (tgt := 44) dX4_fewestAfter_11 (by decide) (by omega) (by omega) (fun h11 => ?_) (fun h11 => ?_)
      · refine o_iload (pc := 44) C dX4_fewestAfter_44 rfl ?_
        exact E _ _ _ _ _ dX4_fewestAfter_46 rfl ⟨by rw [a3, show t = n by omega], rfl⟩ (by omega)
      · refine o_iload_n (pc := 14) C dX4_fewestAfter_14 rfl ?_
        refine o_iload (pc := 15) C dX4_fewestAfter_15 rfl ?_
        refine cl_X4_27 (pc := 17) C (c_X4_holds hs (by omega)) (by omega) (by omega) (Nat.le_of_ble_eq_true rfl) dX4_fewestAfter_17 (fun z σ2 hq => ?_)
        obtain ⟨rfl, hq⟩ := hq
        rw [hq]; clear hq
        refine o_if_eq (pc := 20) C (tgt := 38) dX4_fewestAfter_20 (by decide) (by split <;> omega) (fun h20 => ?_) (fun h20 => ?_)
        · refine inc_5 (pc := 38) C dX4_fewestAfter_38 ?_
          refine o_goto (pc := 41) C (tgt := 8) dX4_fewestAfter_41 (by decide) ?_
          first
          | exact ih (t + 1) _ _ (by omega) (by omega) (by rw [o_fo, if_neg (by revert h20; split <;> simp_all), a3]) (by omega) a5 a6
          | exact ih (t + 1) _ _ (by omega) (by omega) (by rw [o_fo, if_pos hbt, a3]) (by omega) (by split <;> omega) (by split <;> omega)
        · have hw := wo_lt s hs t (by omega)
          have hm1 := hM.1 b t hb0 (by omega)
          have hm2 := hM.2.1 t (wo s t) (by omega) (by omega)
          have hc1 : 0 ≤ oCst σ b s t ∧ oCst σ b s t ≤ 144 := by unfold oCst; omega
          have hbt : hb s t = true := by revert h20; split <;> simp_all
          refine o_iload (pc := 23) C dX4_fewestAfter_23 rfl ?_
          refine o_aload_n (pc := 25) C dX4_fewestAfter_25 rfl ?_
          refine o_iload_n (pc := 26) C dX4_fewestAfter_26 rfl ?_
          refine o_iload (pc := 27) C dX4_fewestAfter_27 rfl ?_
          refine o_iload_n (pc := 29) C dX4_fewestAfter_29 rfl ?_
          refine cl_X4_31 (pc := 30) C (c_X4_movesThrough hb0 hs (by omega)) (by omega) (by omega) (Nat.le_of_ble_eq_true rfl) dX4_fewestAfter_30 (fun z σ2 hq => ?_)
          obtain ⟨rfl, hq⟩ := hq
          rw [hq]; clear hq
          refine o_min (pc := 33) C kw_13_2 kw_9_21 kw_8_11 kw_9_22 (by omega) (by omega) (Nat.le_of_ble_eq_true rfl) (by omega) dX4_fewestAfter_33 ?_
          refine sti_4 (pc := 36) C dX4_fewestAfter_36 ?_
          refine inc_5 (pc := 38) C dX4_fewestAfter_38 ?_
          refine o_goto (pc := 41) C (tgt := 8) dX4_fewestAfter_41 (by decide) ?_
          first
          | exact ih (t + 1) _ _ (by omega) (by omega) (by rw [o_fo, if_neg (by revert h20; split <;> simp_all), a3]) (by omega) a5 a6
          | exact ih (t + 1) _ _ (by omega) (by omega) (by rw [o_fo, if_pos hbt, a3]) (by omega) (by split <;> omega) (by split <;> omega)
  refine o_sipush (pc := 0) C dX4_fewestAfter_0 rfl ?_
  refine sti_4 (pc := 3) C dX4_fewestAfter_3 ?_
  refine o_iconst (pc := 5) C dX4_fewestAfter_5 ?_
  refine sti_5 (pc := 6) C dX4_fewestAfter_6 ?_
  exact L 8 0 _ _ (by omega) (by omega) rfl rfl (by omega) (by omega)
theorem o_up_ij {σ : oMem} {K i j : Nat} {v : Int} {i' j' : Nat} (h : ¬ (i' = i ∧ j' = j)) : o_up σ K i j v K i' j' = σ K i' j' := if_neg (fun q => h q.2)
/-- the table is right for all sets below s, and for s itself for the runs below b -/
def FEok (mv : Nat → Nat → Int) (n : Nat) (μ : oMem) (s b : Nat) : Prop := ∀ b' s' : Nat, b' < 8 → s' < 2 ^ n → (s' < s ∨ (s' = s ∧ b' < b)) → μ 15 b' s' = oFC mv n b' s'
theorem FEok_step {mv : Nat → Nat → Int} {n : Nat} {μ : oMem} {s b : Nat} (hn : n < 8) (hs0 : s ≠ 0) (hs : s < 2 ^ n) (hb0 : b < 8) (hmv : ∀ b r, b < 8 → r < 7 → μ 14 b r = mv b r) (h : FEok mv n μ s b) : FEok mv n (o_up μ 15 b s (o_fo (hb s) (oCst μ b s) 128 n)) s (b + 1) := by
  have h128 := (p2_le n hn).2
  intro b' s' hb' hs' hc
  by_cases e : b' = b ∧ s' = s
  · obtain ⟨rfl, rfl⟩ := e
    rw [o_up_s, oFC_eq mv hn hs hs0]
    apply fo_cong
    intro r hr hk
    have hw := hb_cd s' (by omega) r (by omega) hk
    unfold oCst
    rw [hmv b' r hb' (by omega), h r (wo s' r) (by omega) (by omega) (Or.inl hw.2)]
  · rw [o_up_ij e]
    exact h b' s' hb' hs' (by omega)
theorem OM_up {μ : oMem} {b s : Nat} {v : Int} (hM : OM μ) (hs : s ≠ 0) (h0 : 0 ≤ v) (h1 : v ≤ 128) : OM (o_up μ 15 b s v) := by
  refine ⟨fun b' r h2 h3 => by rw [o_up_k (by decide)]; exact hM.1 b' r h2 h3, fun b' s' h2 h3 => ?_, fun b' h2 => ?_⟩
  · by_cases e : b' = b ∧ s' = s
    · rw [e.1, e.2, o_up_s]; exact ⟨h0, h1⟩
    · rw [o_up_ij e]; exact hM.2.1 b' s' h2 h3
  · rw [o_up_ij (fun e => hs e.2.symm)]; exact hM.2.2 b' h2
theorem fo_nn {ok : Nat → Bool} {c : Nat → Int} {B : Int} {n : Nat} (hB : 0 ≤ B) (h : ∀ r, r < n → 0 ≤ c r) : 0 ≤ o_fo ok c B n := by
  rcases (fo_le (ok := ok) (c := c) (B := B) n).2.2 with q | ⟨r, r1, -, r3⟩
  · omega
  · rw [r3]; exact h r r1
set_option maxRecDepth 100000 in
set_option maxHeartbeats 4000000 in
theorem c_X4_fewestBySets {l : Launch} {g : oG} {σ : oMem} {n : Nat} (hM : OM σ) (hn : n ≤ 7) : oMi l g yX4_fewestBySets (.code yX4_fewestBySets cX4_fewestBySets 5 (some .int)) 4 0 [.ref (g.2.1 13 0), oi (n : Int)] σ (fun z σ' => z = oFC (σ 14) n 7 (2 ^ n - 1) ∧ OM σ' ∧ (∀ K, K ≠ 15 → σ' K = σ K) ∧ ∀ b s : Nat, b < 8 → s < 2 ^ n → σ' 15 b s = oFC (σ 14) n b s) := by
  refine oMi_of (own := RX4) (by decide +kernel) rfl (by simp [oi, Value.category]) (by simp) (fun x C E => ?_)
  show oW l g x σ 0 [some (.ref (g.2.1 13 0)), some (oi (n : Int)), none, none, none] [] 0
  obtain ⟨h1, h128⟩ := p2_le n (by omega)
  have L2 : ∀ (s : Nat), s ≠ 0 → s < 2 ^ n → ∀ (q b : Nat) (μ : oMem) (i : Int), 8 < b + q → b ≤ 8 → i = b → OM μ → (∀ K, K ≠ 15 → μ K = σ K) → FEok (σ 14) n μ s b → (∀ (μ' : oMem) (r : Option Value), OM μ' → (∀ K, K ≠ 15 → μ' K = σ K) → FEok (σ 14) n μ' (s + 1) 0 → oW l g x μ' 8 [some (.ref (g.2.1 13 0)), some (oi (n : Int)), some (oi ((2 ^ n : Nat) - 1 : Int)), some (oi ((s : Int) + 1)), r] [] 0) → oW l g x μ 16 [some (.ref (g.2.1 13 0)), some (oi (n : Int)), some (oi ((2 ^ n : Nat) - 1 : Int)), some (oi (s : Int)), some (oi i)] [] 0 := by
    intro s hs0 hs q
    induction q with
    | zero => intro b μ i a1 a2; omega
    | succ q ih =>
      intro b μ i a1 a2 a3 a4 a5 a6 kk
      subst a3
      refine o_iload (pc := 16) C dX4_fewestBySets_16 rfl ?_
      refine o_bipush (pc := 18) C dX4_fewestBySets_18 rfl ?_
      refine o_icmp_gt (pc := 20) C (tgt := 46) dX4_fewestBySets_20 (by decide) (by omega) (by omega) (fun h20 => ?_) (fun h20 => ?_)
      · refine inc_3 (pc := 46) C dX4_fewestBySets_46 ?_
        refine o_goto (pc := 49) C (tgt := 8) dX4_fewestBySets_49 (by decide) ?_
        exact kk _ _ a4 a5 (fun b' s' c1 c2 c3 => a6 b' s' c1 c2 (by omega))
      · refine o_aload_n (pc := 23) C dX4_fewestBySets_23 rfl ?_
        refine gf_X4_16 (pc := 24) C dX4_fewestBySets_24 ?_
        refine o_iload (pc := 27) C dX4_fewestBySets_27 rfl ?_
        refine aa_23 (pc := 29) C (by omega) (by omega) dX4_fewestBySets_29 ?_
        rw [show ((b : Int)).toNat = b by omega]
        refine o_iload_n (pc := 30) C dX4_fewestBySets_30 rfl ?_
        refine o_aload_n (pc := 31) C dX4_fewestBySets_31 rfl ?_
        refine o_iload (pc := 32) C dX4_fewestBySets_32 rfl ?_
        refine o_iload_n (pc := 34) C dX4_fewestBySets_34 rfl ?_
        refine o_iload_n (pc := 35) C dX4_fewestBySets_35 rfl ?_
        refine cl_X4_23 (pc := 36) C (c_X4_fewestAfter a4 (by omega) (by omega) hn) (by omega) (by omega) (Nat.le_of_ble_eq_true rfl) dX4_fewestBySets_36 (fun z σ2 hq => ?_)
        obtain ⟨rfl, hq⟩ := hq
        rw [hq]; clear hq
        have hst := FEok_step (by omega) hs0 hs (by omega) (fun b r h2 h3 => by rw [a5 14 (by decide)]) a6
        have hv0 : 0 ≤ o_fo (hb s) (oCst μ b s) 128 n := fo_nn (by omega) (fun r hr => by
          have := a4.1 b r (by omega) (by omega)
          have := a4.2.1 r (wo s r) (by omega) (by have := wo_lt s (by omega) r (by omega); omega)
          unfold oCst; omega)
        have hv1 := (fo_le (ok := hb s) (c := oCst μ b s) (B := 128) n).1
        generalize o_fo (hb s) (oCst μ b s) 128 n = v at hst hv0 hv1 ⊢
        refine is_15 (pc := 39) C (by omega) (by omega) (by omega) dX4_fewestBySets_39 ?_
        refine inc_4 (pc := 40) C dX4_fewestBySets_40 ?_
        refine o_goto (pc := 43) C (tgt := 16) dX4_fewestBySets_43 (by decide) ?_
        rw [show ((s : Int)).toNat = s by omega]
        exact ih (b + 1) _ _ (by omega) (by omega) (by omega) (OM_up a4 hs0 hv0 hv1) (fun K hK => by rw [o_up_k hK, a5 K hK]) hst kk
  have L1 : ∀ (q s : Nat) (μ : oMem) (i : Int) (r : Option Value), 2 ^ n < s + q → s ≤ 2 ^ n → s ≠ 0 → i = s → OM μ → (∀ K, K ≠ 15 → μ K = σ K) → FEok (σ 14) n μ s 0 → oW l g x μ 8 [some (.ref (g.2.1 13 0)), some (oi (n : Int)), some (oi ((2 ^ n : Nat) - 1 : Int)), some (oi i), r] [] 0 := by
    intro q
    induction q with
    | zero => intro s μ i r a1 a2; omega
    | succ q ih =>
      intro s μ i r a1 a2 a3 a4 a5 a6 a7
      subst a4
      refine o_iload_n (pc := 8) C dX4_fewestBySets_8 rfl ?_
      refine o_iload_n (pc := 9) C dX4_fewestBySets_9 rfl ?_
      refine o_icmp_gt (pc := 10) C (tgt := 52) dX4_fewestBySets_10 (by decide) (by omega) (by omega) (fun h10 => ?_) (fun h10 => ?_)
      · refine o_aload_n (pc := 52) C dX4_fewestBySets_52 rfl ?_
        refine gf_X4_16 (pc := 53) C dX4_fewestBySets_53 ?_
        refine o_bipush (pc := 56) C dX4_fewestBySets_56 rfl ?_
        refine aa_23 (pc := 58) C (by omega) (by omega) dX4_fewestBySets_58 ?_
        refine o_iload_n (pc := 59) C dX4_fewestBySets_59 rfl ?_
        refine ia_15 (pc := 60) C (by omega) (by omega) (by omega) dX4_fewestBySets_60 ?_
        have hok : ∀ b s : Nat, b < 8 → s < 2 ^ n → μ 15 b s = oFC (σ 14) n b s := fun b s' c1 c2 => a7 b s' c1 c2 (by omega)
        exact E _ _ _ _ _ dX4_fewestBySets_61 rfl ⟨by rw [show (((2 ^ n : Nat) : Int) - 1).toNat = 2 ^ n - 1 by omega]; exact hok 7 _ (by omega) (by omega), a5, a6, hok⟩ (by omega)
      · refine o_iconst (pc := 13) C dX4_fewestBySets_13 ?_
        refine sti_4 (pc := 14) C dX4_fewestBySets_14 ?_
        exact L2 s a3 (by omega) 9 0 μ _ (by omega) (by omega) rfl a5 a6 a7 (fun μ' r' c1 c2 c3 => ih (s + 1) μ' _ r' (by omega) (by omega) (by omega) (by omega) c1 c2 c3)
  refine o_iconst (pc := 0) C dX4_fewestBySets_0 ?_
  refine o_iload_n (pc := 1) C dX4_fewestBySets_1 rfl ?_
  refine o_ishl (pc := 2) C dX4_fewestBySets_2 (b_shl n (by omega)) ?_
  refine o_iconst (pc := 3) C dX4_fewestBySets_3 ?_
  refine o_isub (pc := 4) C dX4_fewestBySets_4 ?_
  refine sti_2 (pc := 5) C dX4_fewestBySets_5 ?_
  refine o_iconst (pc := 6) C dX4_fewestBySets_6 ?_
  refine sti_3 (pc := 7) C dX4_fewestBySets_7 ?_
  exact L1 (2 ^ n) 1 σ _ _ (by omega) (by omega) (by omega) rfl hM (fun _ _ => rfl) (fun b s c1 c2 c3 => by rw [show s = 0 by omega, hM.2.2 b c1]; rfl)
