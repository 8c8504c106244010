theorem TB_cong {σ μ : oMem} (h : μ 12 = σ 12) : TB μ = TB σ := by unfold TB; rw [h]
theorem isF_n {W : Int → Prop} {z : Int} {n m : Nat} {d : Nat → Int} (h : isF W z n d) (e : n = m) : isF W z m d := e ▸ h
set_option maxRecDepth 100000 in
set_option maxHeartbeats 4000000 in
theorem c_X5_fill {l : Launch} {g : oG} {σ : oMem} {a : Int} (hfl : l.stackTraces = false) (hx : XI σ) (h1 : InR a) : oXi l g yX5_fill (.code yX5_fill cX5_fill 3 (some .int)) 5 1 [.ref (g.2.1 0 0), oi a] σ (fun z σ' => okC σ a ∧ isG (oWt σ (σ 1 a.toNat 3)) (σ 0 0 9) (σ 1 a.toNat 0 - 2 * σ 0 0 7) z ∧ (∃ n : Nat, n ≤ 15 ∧ σ' 8 10 1 = n ∧ isF (oWt σ (σ 1 a.toNat 3)) z n (σ' 9 10)) ∧ TB σ' ∧ (∀ K, K ≠ 8 → K ≠ 9 → K ≠ 10 → K ≠ 11 → K ≠ 12 → σ' K = σ K) ∧ ∀ q, q ≠ 10 → σ' 8 q = σ 8 q ∧ σ' 9 q = σ 9 q) (fun y => y = xIOB ∧ ¬ okC σ a) := by
  refine oXi_of (own := RX5) hfl (by decide +kernel) rfl (by simp [oi, Value.category]) (by simp) (fun x C T E => ?_)
  show oW l g x σ 0 [some (.ref (g.2.1 0 0)), some (oi a), none] [] 0
  obtain ⟨x1, x3, x5, ⟨x7, x8, x9⟩, x10, x14, xC, xO, xP, xD, xW, xT, xM⟩ := id hx
  refine o_aload_n (pc := 0) C dX5_fill_0 rfl ?_
  refine o_iload_n (pc := 1) C dX5_fill_1 rfl ?_
  refine cl_X5_98 (pc := 2) T C (c_X5_requireCoil hfl h1 (by omega)) (fun y h => h) (by omega) (by omega) (Nat.le_of_ble_eq_true rfl) dX5_fill_2 (fun σ2 hq => ?_)
  obtain ⟨hq, rc⟩ := hq
  rw [hq]; clear hq
  have hcc := (xC a.toNat (by omega)).1
  have hcw := hcc.1
  have hch := hcc.2.2.2.1
  refine o_aload_n (pc := 5) C dX5_fill_5 rfl ?_
  refine o_aload_n (pc := 6) C dX5_fill_6 rfl ?_
  refine gf_X5_11 (pc := 7) C dX5_fill_7 ?_
  refine o_iload_n (pc := 10) C dX5_fill_10 rfl ?_
  refine aa_19 (pc := 11) C (by omega) (by omega) dX5_fill_11 ?_
  refine cl_X5_166 (pc := 12) C (c_X5_offerWidthsFor (by omega) (by omega) x3 xO) (by omega) (by omega) (Nat.le_of_ble_eq_true rfl) dX5_fill_12 (fun σ2 hq => ?_)
  obtain ⟨w1, w2, w3⟩ := hq
  have k0 : σ2 0 = σ 0 := w3 0 (by decide) (by decide)
  have k1 : σ2 1 = σ 1 := w3 1 (by decide) (by decide)
  have k12 : σ2 12 = σ 12 := w3 12 (by decide) (by decide)
  have hT1 : TB σ2 := by rw [TB_cong k12]; exact xT
  obtain ⟨μ, hμ⟩ : ∃ μ, μ = σ2 := ⟨_, rfl⟩
  rw [← hμ] at w1 w2 w3 k0 k1 k12 hT1 ⊢
  clear hμ
  refine o_aload_n (pc := 15) C dX5_fill_15 rfl ?_
  refine gf_X5_70 (pc := 16) C dX5_fill_16 ?_
  refine o_aload_n (pc := 19) C dX5_fill_19 rfl ?_
  refine o_aload_n (pc := 20) C dX5_fill_20 rfl ?_
  refine gf_X5_11 (pc := 21) C dX5_fill_21 ?_
  refine o_iload_n (pc := 24) C dX5_fill_24 rfl ?_
  refine aa_19 (pc := 25) C (by omega) (by omega) dX5_fill_25 ?_
  refine cl_X5_170 (pc := 26) C (c_X5_roomOf (by omega)) (by omega) (by omega) (Nat.le_of_ble_eq_true rfl) dX5_fill_26 (fun z σ2 hq => ?_)
  obtain ⟨rfl, hq⟩ := hq
  rw [hq, k0, k1]; clear hq
  refine o_aload_n (pc := 29) C dX5_fill_29 rfl ?_
  refine gf_X5_48 (pc := 30) C dX5_fill_30 ?_
  rw [k0]
  refine o_iconst (pc := 33) C dX5_fill_33 ?_
  refine o_isub (pc := 34) C dX5_fill_34 ?_
  refine cl_X5_174 (pc := 35) C (c_X1_greatestTotal w1 hT1 (by omega) (by omega) (by omega) (by omega)) (by omega) (by omega) (Nat.le_of_ble_eq_true rfl) dX5_fill_35 (fun z σ2 hq => ?_)
  obtain ⟨g1, g2, g3, g4⟩ := hq
  have hM2 : FM σ2 = FM μ := FM_cong (g4 10 (by decide)) (g4 11 (by decide))
  have hF2 : FW σ2 := by rw [FW_cong (g4 10 (by decide)) (g4 11 (by decide))]; exact w1
  rw [show σ 0 0 9 - 1 + 1 = σ 0 0 9 by omega] at g1
  have hz : 0 ≤ z ∧ z ≤ 2000 ∧ (z ≤ σ 1 a.toNat 0 - 2 * σ 0 0 7 ∨ z = 0) := by
    rcases g1.1 with q | ⟨q, q', -⟩
    · omega
    · omega
  have hD2 : ∀ u : Int, 0 ≤ u → u ≤ z → isD (FM σ2) 16 u (σ2 12 0 u.toNat) := fun u u0 u1 => by rw [hM2]; exact g2 u u0 (by omega)
  have hn2 : σ2 12 0 z.toNat ≤ 15 := by
    have hd := g2 z hz.1 (by omega)
    rcases g1.1 with q | ⟨q, q', q2⟩
    · rw [q, show Int.toNat 0 = 0 from rfl, g3.1]; omega
    · have := (isD_lt (k := σ 0 0 9) hd (by omega)).mpr q2; omega
  obtain ⟨ν, hν⟩ : ∃ ν, ν = σ2 := ⟨_, rfl⟩
  rw [← hν] at g2 g3 g4 hM2 hF2 hD2 hn2 ⊢
  clear hν
  refine sti_2 (pc := 38) C dX5_fill_38 ?_
  refine o_aload_n (pc := 39) C dX5_fill_39 rfl ?_
  refine gf_X5_70 (pc := 40) C dX5_fill_40 ?_
  refine o_iload_n (pc := 43) C dX5_fill_43 rfl ?_
  refine o_aload_n (pc := 44) C dX5_fill_44 rfl ?_
  refine gf_X5_38 (pc := 45) C dX5_fill_45 ?_
  refine cl_X5_178 (pc := 48) C (c_X1_layOut hF2 g3 hz.1 hz.2.1 hD2 hn2) (by omega) (by omega) (Nat.le_of_ble_eq_true rfl) dX5_fill_48 (fun σ2 hq => ?_)
  obtain ⟨l1, l2, l3, l4⟩ := hq
  refine o_iload_n (pc := 51) C dX5_fill_51 rfl ?_
  have hW : ∀ w, FM ν w ↔ oWt σ (σ 1 a.toNat 3) w := fun w => by rw [hM2]; exact w2 w
  have hv0 := (g3.2 z.toNat (by omega)).1
  exact E _ _ _ _ _ dX5_fill_52 rfl ⟨rc, isG_cong w2 g1, ⟨(ν 12 0 z.toNat).toNat, by omega, by rw [l3]; omega, isF_cong hW l4⟩, by rw [TB_cong (l1 12 (by decide) (by decide))]; exact g3, fun K a8 a9 a10 a11 a12 => by rw [l1 K a8 a9, g4 K a12, w3 K a10 a11], fun q hq => by rw [(l2 q hq).1, (l2 q hq).2, g4 8 (by decide), g4 9 (by decide), w3 8 (by decide) (by decide), w3 9 (by decide) (by decide)]; exact ⟨rfl, rfl⟩⟩ (by omega)
set_option maxRecDepth 100000 in
set_option maxHeartbeats 4000000 in
theorem c_X5_fullestByTrying {l : Launch} {g : oG} {σ : oMem} {a : Int} (hfl : l.stackTraces = false) (hx : XI σ) (h1 : InR a) : oXi l g yX5_fullestByTrying (.code yX5_fullestByTrying cX5_fullestByTrying 2 (some .int)) 12 2 [.ref (g.2.1 0 0), oi a] σ (fun z σ' => okC σ a ∧ σ 0 0 9 ≤ 8 ∧ isG (oWt σ (σ 1 a.toNat 3)) (σ 0 0 9) (σ 1 a.toNat 0 - 2 * σ 0 0 7) z ∧ (∀ K, K ≠ 10 → K ≠ 11 → σ' K = σ K)) (fun y => (y = xIOB ∧ ¬ okC σ a) ∨ (y = xISE ∧ okC σ a ∧ ¬ σ 0 0 9 ≤ 8)) := by
  refine oXi_of (own := RX5) hfl (by decide +kernel) rfl (by simp [oi, Value.category]) (by simp) (fun x C T E => ?_)
  show oW l g x σ 0 [some (.ref (g.2.1 0 0)), some (oi a)] [] 0
  obtain ⟨x1, x3, x5, ⟨x7, x8, x9⟩, x10, x14, xC, xO, xP, xD, xW, xT, xM⟩ := id hx
  refine o_aload_n (pc := 0) C dX5_fullestByTrying_0 rfl ?_
  refine o_iload_n (pc := 1) C dX5_fullestByTrying_1 rfl ?_
  refine cl_X5_98 (pc := 2) T C (c_X5_requireCoil hfl h1 (by omega)) (fun y h => Or.inl h) (by omega) (by omega) (Nat.le_of_ble_eq_true rfl) dX5_fullestByTrying_2 (fun σ2 hq => ?_)
  obtain ⟨hq, rc⟩ := hq
  rw [hq]; clear hq
  have hcc := (xC a.toNat (by omega)).1
  have hcw := hcc.1
  have hch := hcc.2.2.2.1
  refine o_aload_n (pc := 5) C dX5_fullestByTrying_5 rfl ?_
  refine gf_X5_48 (pc := 6) C dX5_fullestByTrying_6 ?_
  refine o_bipush (pc := 9) C dX5_fullestByTrying_9 rfl ?_
  refine o_icmp_le (pc := 11) C (tgt := 24) dX5_fullestByTrying_11 (by decide) (by omega) (by omega) (fun h11 => ?_) (fun h11 => ?_)
  · refine o_aload_n (pc := 24) C dX5_fullestByTrying_24 rfl ?_
    refine o_aload_n (pc := 25) C dX5_fullestByTrying_25 rfl ?_
    refine gf_X5_11 (pc := 26) C dX5_fullestByTrying_26 ?_
    refine o_iload_n (pc := 29) C dX5_fullestByTrying_29 rfl ?_
    refine aa_19 (pc := 30) C (by omega) (by omega) dX5_fullestByTrying_30 ?_
    refine cl_X5_166 (pc := 31) C (c_X5_offerWidthsFor (by omega) (by omega) x3 xO) (by omega) (by omega) (Nat.le_of_ble_eq_true rfl) dX5_fullestByTrying_31 (fun σ2 hq => ?_)
    obtain ⟨w1, w2, w3⟩ := hq
    have k0 : σ2 0 = σ 0 := w3 0 (by decide) (by decide)
    have k1 : σ2 1 = σ 1 := w3 1 (by decide) (by decide)
    have k12 : σ2 12 = σ 12 := w3 12 (by decide) (by decide)
    have hT1 : TB σ2 := by rw [TB_cong k12]; exact xT
    obtain ⟨μ, hμ⟩ : ∃ μ, μ = σ2 := ⟨_, rfl⟩
    rw [← hμ] at w1 w2 w3 k0 k1 k12 hT1 ⊢
    clear hμ
    refine o_aload_n (pc := 34) C dX5_fullestByTrying_34 rfl ?_
    refine gf_X5_70 (pc := 35) C dX5_fullestByTrying_35 ?_
    refine o_aload_n (pc := 38) C dX5_fullestByTrying_38 rfl ?_
    refine o_aload_n (pc := 39) C dX5_fullestByTrying_39 rfl ?_
    refine gf_X5_11 (pc := 40) C dX5_fullestByTrying_40 ?_
    refine o_iload_n (pc := 43) C dX5_fullestByTrying_43 rfl ?_
    refine aa_19 (pc := 44) C (by omega) (by omega) dX5_fullestByTrying_44 ?_
    refine cl_X5_170 (pc := 45) C (c_X5_roomOf (by omega)) (by omega) (by omega) (Nat.le_of_ble_eq_true rfl) dX5_fullestByTrying_45 (fun z σ2 hq => ?_)
    obtain ⟨rfl, hq⟩ := hq
    rw [hq, k0, k1]; clear hq
    refine o_aload_n (pc := 48) C dX5_fullestByTrying_48 rfl ?_
    refine gf_X5_48 (pc := 49) C dX5_fullestByTrying_49 ?_
    rw [k0]
    refine o_iconst (pc := 52) C dX5_fullestByTrying_52 ?_
    refine o_isub (pc := 53) C dX5_fullestByTrying_53 ?_
    refine cl_X5_184 (pc := 54) C (c_X1_greatestTotalByTrying w1 (by omega) (by omega) (by omega) (by omega)) (by omega) (by omega) (Nat.le_of_ble_eq_true rfl) dX5_fullestByTrying_54 (fun z σ2 hq => ?_)
    obtain ⟨g1, hq⟩ := hq
    rw [hq]; clear hq
    rw [show σ 0 0 9 - 1 + 1 = σ 0 0 9 by omega] at g1
    exact E _ _ _ _ _ dX5_fullestByTrying_57 rfl ⟨rc, by omega, isG_cong w2 g1, w3⟩ (by omega)
  · exact th_87 (pc := 14) T (List.mem_of_getElem? (i := 5) rfl) dX5_fullestByTrying_14 dX5_fullestByTrying_17 dX5_fullestByTrying_18 dX5_fullestByTrying_20 dX5_fullestByTrying_23 (by omega) (Or.inr ⟨rfl, rc, by omega⟩)
set_option maxRecDepth 100000 in
set_option maxHeartbeats 4000000 in
theorem c_X5_run {l : Launch} {g : oG} {σ : oMem} {a b : Int} (hfl : l.stackTraces = false) (hx : XI σ) (h1 : InR a) (h2 : InR b) : oXi l g yX5_run (.code yX5_run cX5_run 3 (some .int)) 6 3 [.ref (g.2.1 0 0), oi a, oi b] σ (fun z σ' => (okC σ a ∧ okP σ b) ∧ (σ 1 a.toNat 10 = -1 ∧ o_fit σ b.toNat a.toNat) ∧ z = (o_run σ a.toNat b.toNat).2 ∧ σ' = (o_run σ a.toNat b.toNat).1) (fun y => (y = xIOB ∧ ¬ (okC σ a ∧ okP σ b)) ∨ (y = xISE ∧ (okC σ a ∧ okP σ b) ∧ ¬ (σ 1 a.toNat 10 = -1 ∧ o_fit σ b.toNat a.toNat))) := by
  refine oXi_of (own := RX5) hfl (by decide +kernel) rfl (by simp [oi, Value.category]) (by simp) (fun x C T E => ?_)
  show oW l g x σ 0 [some (.ref (g.2.1 0 0)), some (oi a), some (oi b)] [] 0
  obtain ⟨x1, x3, x5, ⟨x7, x8, x9⟩, x10, x14, xC, xO, xP, xD, xW, xT, xM⟩ := id hx
  have hcan : ∀ a, okC σ a → InR (σ 1 a.toNat 10) ∧ 0 ≤ σ 1 a.toNat 0 ∧ σ 1 a.toNat 0 ≤ 2000 := fun a q => by
    have h := xC a.toNat (by omega)
    have h2 := h.1.1
    have h3 := h.2.1
    omega
  refine o_aload_n (pc := 0) C dX5_run_0 rfl ?_
  refine o_iload_n (pc := 1) C dX5_run_1 rfl ?_
  refine cl_X5_98 (pc := 2) T C (c_X5_requireCoil hfl h1 (by omega)) (fun y h => Or.inl ⟨h.1, fun q => h.2 q.1⟩) (by omega) (by omega) (Nat.le_of_ble_eq_true rfl) dX5_run_2 (fun σ2 hq => ?_)
  obtain ⟨hq, rc⟩ := hq
  rw [hq]; clear hq
  refine o_aload_n (pc := 5) C dX5_run_5 rfl ?_
  refine o_iload_n (pc := 6) C dX5_run_6 rfl ?_
  refine cl_X5_159 (pc := 7) T C (c_X5_requirePattern hfl h2 (by omega)) (fun y h => Or.inl ⟨h.1, fun q => h.2 q.2⟩) (by omega) (by omega) (Nat.le_of_ble_eq_true rfl) dX5_run_7 (fun σ2 hq => ?_)
  obtain ⟨hq, rp⟩ := hq
  rw [hq]; clear hq
  refine o_aload_n (pc := 10) C dX5_run_10 rfl ?_
  refine o_iload_n (pc := 11) C dX5_run_11 rfl ?_
  refine o_iload_n (pc := 12) C dX5_run_12 rfl ?_
  refine cl_X5_187 (pc := 13) C (c_X5_canBeRun (by omega) (by omega) x1 x5 (hcan _) (fun q => xP _ (by omega)) x7 (by omega)) (by omega) (by omega) (Nat.le_of_ble_eq_true rfl) dX5_run_13 (fun z σ2 hq => ?_)
  obtain ⟨rfl, hq⟩ := hq
  rw [hq]; clear hq
  refine o_if_ne (pc := 16) C (tgt := 29) dX5_run_16 (by decide) (by split <;> omega) (fun h16 => ?_) (fun h16 => ?_)
  · obtain ⟨rcc, rpp, hs, hf⟩ := o_t h16
    obtain ⟨c, rfl⟩ : ∃ c : Nat, a = (c : Int) := ⟨a.toNat, by omega⟩
    obtain ⟨p, rfl⟩ : ∃ p : Nat, b = (p : Int) := ⟨b.toNat, by omega⟩
    have hcc := (xC c (by omega)).1
    refine o_aload_n (pc := 29) C dX5_run_29 rfl ?_
    refine o_iload_n (pc := 30) C dX5_run_30 rfl ?_
    refine o_iload_n (pc := 31) C dX5_run_31 rfl ?_
    refine cl_X5_193 (pc := 32) C (c_X5_slitCoil (by omega) (by omega) (by omega) (by omega) (by omega) hcc xP x8 (by omega) (by have := hf.1; simp only [Int.toNat_natCast] at this; omega) x3 xO) (by omega) (by omega) (Nat.le_of_ble_eq_true rfl) dX5_run_32 (fun z σ2 hq => ?_)
    obtain ⟨rfl, hq⟩ := hq
    rw [hq]; clear hq
    exact E _ _ _ _ _ dX5_run_35 rfl ⟨⟨rc, rp⟩, ⟨hs, hf⟩, rfl, rfl⟩ (by omega)
  · exact th_87 (pc := 19) T (List.mem_of_getElem? (i := 6) rfl) dX5_run_19 dX5_run_22 dX5_run_23 dX5_run_25 dX5_run_28 (by omega) (Or.inr ⟨rfl, ⟨rc, rp⟩, fun q => o_f h16 ⟨rc, rp, q⟩⟩)
set_option maxRecDepth 100000 in
set_option maxHeartbeats 4000000 in
theorem c_X5_moves {l : Launch} {g : oG} {σ : oMem} {a : Int} (hfl : l.stackTraces = false) (hx : XI σ) (h1 : InR a) : oXi l g yX5_moves (.code yX5_moves cX5_moves 2 (some .int)) 5 1 [.ref (g.2.1 0 0), oi a] σ (fun z σ' => z = oMb σ (σ 0 0 10) a ∧ okP σ a ∧ σ' = σ) (fun y => y = xIOB ∧ ¬ okP σ a) := by
  refine oXi_of (own := RX5) hfl (by decide +kernel) rfl (by simp [oi, Value.category]) (by simp) (fun x C T E => ?_)
  show oW l g x σ 0 [some (.ref (g.2.1 0 0)), some (oi a)] [] 0
  obtain ⟨x1, x3, x5, ⟨x7, x8, x9⟩, x10, x14, xC, xO, xP, xD, xW, xT, xM⟩ := id hx
  refine o_aload_n (pc := 0) C dX5_moves_0 rfl ?_
  refine o_iload_n (pc := 1) C dX5_moves_1 rfl ?_
  refine cl_X5_159 (pc := 2) T C (c_X5_requirePattern hfl h1 (by omega)) (fun y h => h) (by omega) (by omega) (Nat.le_of_ble_eq_true rfl) dX5_moves_2 (fun σ2 hq => ?_)
  obtain ⟨hq, rp⟩ := hq
  rw [hq]; clear hq
  refine o_aload_n (pc := 5) C dX5_moves_5 rfl ?_
  refine o_aload_n (pc := 6) C dX5_moves_6 rfl ?_
  refine gf_X5_51 (pc := 7) C dX5_moves_7 ?_
  refine o_iload_n (pc := 10) C dX5_moves_10 rfl ?_
  refine cl_X5_196 (pc := 11) C (c_X5_movesBetween (by omega) h1 x5 xP) (by omega) (by omega) (Nat.le_of_ble_eq_true rfl) dX5_moves_11 (fun z σ2 hq => ?_)
  obtain ⟨rfl, hq⟩ := hq
  rw [hq]; clear hq
  exact E _ _ _ _ _ dX5_moves_14 rfl ⟨rfl, rp, rfl⟩ (by omega)
set_option maxRecDepth 100000 in
set_option maxHeartbeats 4000000 in
theorem c_X5_moved {l : Launch} {g : oG} {σ : oMem}   : oMi l g yX5_moved (.code yX5_moved cX5_moved 1 (some .int)) 5 0 [.ref (g.2.1 0 0)] σ (fun z σ' => z = σ 0 0 11 ∧ σ' = σ) := by
  refine oMi_of (own := RX5) (by decide +kernel) rfl (by simp [oi, Value.category]) (by simp) (fun x C E => ?_)
  show oW l g x σ 0 [some (.ref (g.2.1 0 0))] [] 0
  refine o_aload_n (pc := 0) C dX5_moved_0 rfl ?_
  refine gf_X5_54 (pc := 1) C dX5_moved_1 ?_
  exact E _ _ _ _ _ dX5_moved_4 rfl ⟨rfl, rfl⟩ (by omega)
set_option maxRecDepth 100000 in
set_option maxHeartbeats 4000000 in
theorem c_X5_waiting {l : Launch} {g : oG} {σ : oMem}   : oMi l g yX5_waiting (.code yX5_waiting cX5_waiting 1 (some .int)) 5 0 [.ref (g.2.1 0 0)] σ (fun z σ' => z = σ 0 0 14 ∧ σ' = σ) := by
  refine oMi_of (own := RX5) (by decide +kernel) rfl (by simp [oi, Value.category]) (by simp) (fun x C E => ?_)
  show oW l g x σ 0 [some (.ref (g.2.1 0 0))] [] 0
  refine o_aload_n (pc := 0) C dX5_waiting_0 rfl ?_
  refine gf_X5_64 (pc := 1) C dX5_waiting_1 ?_
  exact E _ _ _ _ _ dX5_waiting_4 rfl ⟨rfl, rfl⟩ (by omega)
set_option maxRecDepth 100000 in
set_option maxHeartbeats 4000000 in
theorem c_X5_plan {l : Launch} {g : oG} {σ : oMem} {a b : Int} (hfl : l.stackTraces = false) (hx : XI σ) (h1 : InR a) (h2 : InR b) : oXi l g yX5_plan (.code yX5_plan cX5_plan 3 (some .int)) 6 3 [.ref (g.2.1 0 0), oi a, oi b] σ (fun z σ' => (okC σ a ∧ okP σ b) ∧ (σ 1 a.toNat 10 = -1 ∧ o_fit σ b.toNat a.toNat ∧ (∀ i : Nat, (i : Int) < σ 0 0 14 → σ 17 0 i ≠ a) ∧ σ 0 0 14 < 7) ∧ z = σ 0 0 14 ∧ σ' = o_up (o_up (o_up σ 17 0 (σ 0 0 14).toNat a) 18 0 (σ 0 0 14).toNat b) 0 0 14 (σ 0 0 14 + 1)) (fun y => (y = xIOB ∧ ¬ (okC σ a ∧ okP σ b)) ∨ (y = xISE ∧ (okC σ a ∧ okP σ b) ∧ ¬ (σ 1 a.toNat 10 = -1 ∧ o_fit σ b.toNat a.toNat ∧ (∀ i : Nat, (i : Int) < σ 0 0 14 → σ 17 0 i ≠ a) ∧ σ 0 0 14 < 7))) := by
  refine oXi_of (own := RX5) hfl (by decide +kernel) rfl (by simp [oi, Value.category]) (by simp) (fun x C T E => ?_)
  show oW l g x σ 0 [some (.ref (g.2.1 0 0)), some (oi a), some (oi b)] [] 0
  obtain ⟨x1, x3, x5, ⟨x7, x8, x9⟩, x10, x14, xC, xO, xP, xD, xW, xT, xM⟩ := id hx
  have hcan : ∀ a, okC σ a → InR (σ 1 a.toNat 10) ∧ 0 ≤ σ 1 a.toNat 0 ∧ σ 1 a.toNat 0 ≤ 2000 := fun a q => by
    have h := xC a.toNat (by omega)
    have h2 := h.1.1
    have h3 := h.2.1
    omega
  refine o_aload_n (pc := 0) C dX5_plan_0 rfl ?_
  refine o_iload_n (pc := 1) C dX5_plan_1 rfl ?_
  refine cl_X5_98 (pc := 2) T C (c_X5_requireCoil hfl h1 (by omega)) (fun y h => Or.inl ⟨h.1, fun q => h.2 q.1⟩) (by omega) (by omega) (Nat.le_of_ble_eq_true rfl) dX5_plan_2 (fun σ2 hq => ?_)
  obtain ⟨hq, rc⟩ := hq
  rw [hq]; clear hq
  refine o_aload_n (pc := 5) C dX5_plan_5 rfl ?_
  refine o_iload_n (pc := 6) C dX5_plan_6 rfl ?_
  refine cl_X5_159 (pc := 7) T C (c_X5_requirePattern hfl h2 (by omega)) (fun y h => Or.inl ⟨h.1, fun q => h.2 q.2⟩) (by omega) (by omega) (Nat.le_of_ble_eq_true rfl) dX5_plan_7 (fun σ2 hq => ?_)
  obtain ⟨hq, rp⟩ := hq
  rw [hq]; clear hq
  refine o_aload_n (pc := 10) C dX5_plan_10 rfl ?_
  refine o_iload_n (pc := 11) C dX5_plan_11 rfl ?_
  refine o_iload_n (pc := 12) C dX5_plan_12 rfl ?_
  refine cl_X5_187 (pc := 13) C (c_X5_canBeRun (by omega) (by omega) x1 x5 (hcan _) (fun q => xP _ (by omega)) x7 (by omega)) (by omega) (by omega) (Nat.le_of_ble_eq_true rfl) dX5_plan_13 (fun z σ2 hq => ?_)
  obtain ⟨rfl, hq⟩ := hq
  rw [hq]; clear hq
  refine o_if_eq (pc := 16) C (tgt := 36) dX5_plan_16 (by decide) (by split <;> omega) (fun h16 => ?_) (fun h16 => ?_)
  · exact th_87 (pc := 36) T (List.mem_of_getElem? (i := 7) rfl) dX5_plan_36 dX5_plan_39 dX5_plan_40 dX5_plan_42 dX5_plan_45 (by omega) (by
      refine Or.inr ⟨rfl, ⟨rc, rp⟩, fun q => ?_⟩
      first
      | omega
      | exact o_f h16 ⟨rc, rp, q.1, q.2.1⟩
      | (rcases hq with y | y
         · exact h24 y.1.1
         · obtain ⟨i, i1, i2⟩ := y.1.2; exact q.2.2.1 i i1 i2))
  · obtain ⟨-, -, hs, hf⟩ := o_t h16
    refine o_aload_n (pc := 19) C dX5_plan_19 rfl ?_
    refine o_iload_n (pc := 20) C dX5_plan_20 rfl ?_
    refine cl_X5_199 (pc := 21) C (c_X5_coilWaits h1 x14 (fun i hi => by have := xW i hi; omega)) (by omega) (by omega) (Nat.le_of_ble_eq_true rfl) dX5_plan_21 (fun z σ2 hq => ?_)
    have hq2 : σ2 = σ := by rcases hq with q | q <;> exact q.2
    have hz : z = 0 ∨ z = 1 := by rcases hq with q | q <;> simp [q.1.1]
    rw [hq2]
    refine o_if_ne (pc := 24) C (tgt := 36) dX5_plan_24 (by decide) (by omega) (fun h24 => ?_) (fun h24 => ?_)
    · exact th_87 (pc := 36) T (List.mem_of_getElem? (i := 7) rfl) dX5_plan_36 dX5_plan_39 dX5_plan_40 dX5_plan_42 dX5_plan_45 (by omega) (by
        refine Or.inr ⟨rfl, ⟨rc, rp⟩, fun q => ?_⟩
        first
        | omega
        | exact o_f h16 ⟨rc, rp, q.1, q.2.1⟩
        | (rcases hq with y | y
           · exact h24 y.1.1
           · obtain ⟨i, i1, i2⟩ := y.1.2; exact q.2.2.1 i i1 i2))
    · refine o_aload_n (pc := 27) C dX5_plan_27 rfl ?_
      refine gf_X5_64 (pc := 28) C dX5_plan_28 ?_
      try simp (disch := decide) only [o_up_s, o_up_k, o_up_j, o_bl_k, o_rw_k]
      refine o_bipush (pc := 31) C dX5_plan_31 rfl ?_
      refine o_icmp_lt (pc := 33) C (tgt := 46) dX5_plan_33 (by decide) (by omega) (by omega) (fun h33 => ?_) (fun h33 => ?_)
      · refine o_aload_n (pc := 46) C dX5_plan_46 rfl ?_
        refine gf_X5_57 (pc := 47) C dX5_plan_47 ?_
        refine o_aload_n (pc := 50) C dX5_plan_50 rfl ?_
        refine gf_X5_64 (pc := 51) C dX5_plan_51 ?_
        try simp (disch := decide) only [o_up_s, o_up_k, o_up_j, o_bl_k, o_rw_k]
        refine o_iload_n (pc := 54) C dX5_plan_54 rfl ?_
        refine is_17 (pc := 55) C (by omega) (by omega) dX5_plan_55 ?_
        refine o_aload_n (pc := 56) C dX5_plan_56 rfl ?_
        refine gf_X5_61 (pc := 57) C dX5_plan_57 ?_
        refine o_aload_n (pc := 60) C dX5_plan_60 rfl ?_
        refine gf_X5_64 (pc := 61) C dX5_plan_61 ?_
        try simp (disch := decide) only [o_up_s, o_up_k, o_up_j, o_bl_k, o_rw_k]
        refine o_iload_n (pc := 64) C dX5_plan_64 rfl ?_
        refine is_18 (pc := 65) C (by omega) (by omega) dX5_plan_65 ?_
        refine o_aload_n (pc := 66) C dX5_plan_66 rfl ?_
        refine o_dup (pc := 67) C dX5_plan_67 rfl ?_
        refine gf_X5_64 (pc := 68) C dX5_plan_68 ?_
        try simp (disch := decide) only [o_up_s, o_up_k, o_up_j, o_bl_k, o_rw_k]
        refine o_iconst (pc := 71) C dX5_plan_71 ?_
        refine o_iadd (pc := 72) C dX5_plan_72 ?_
        refine pf_X5_64 (pc := 73) C dX5_plan_73 ?_
        refine o_aload_n (pc := 76) C dX5_plan_76 rfl ?_
        refine gf_X5_64 (pc := 77) C dX5_plan_77 ?_
        try simp (disch := decide) only [o_up_s, o_up_k, o_up_j, o_bl_k, o_rw_k]
        refine o_iconst (pc := 80) C dX5_plan_80 ?_
        refine o_isub (pc := 81) C dX5_plan_81 ?_
        have hnw : ∀ i : Nat, (i : Int) < σ 0 0 14 → σ 17 0 i ≠ a := by
          rcases hq with y | y
          · exact y.1.2
          · exact absurd (h24.symm.trans y.1.1) (by decide)
        exact E _ _ _ _ _ dX5_plan_82 rfl ⟨⟨rc, rp⟩, ⟨hs, hf, hnw, by omega⟩, by omega, rfl⟩ (by omega)
      · exact th_87 (pc := 36) T (List.mem_of_getElem? (i := 7) rfl) dX5_plan_36 dX5_plan_39 dX5_plan_40 dX5_plan_42 dX5_plan_45 (by omega) (by
          refine Or.inr ⟨rfl, ⟨rc, rp⟩, fun q => ?_⟩
          first
          | omega
          | exact o_f h16 ⟨rc, rp, q.1, q.2.1⟩
          | (rcases hq with y | y
             · exact h24 y.1.1
             · obtain ⟨i, i1, i2⟩ := y.1.2; exact q.2.2.1 i i1 i2))
set_option maxRecDepth 100000 in
set_option maxHeartbeats 4000000 in
theorem c_X5_fewestMoves {l : Launch} {g : oG} {σ : oMem}  (hx : XI σ) : oMi l g yX5_fewestMoves (.code yX5_fewestMoves cX5_fewestMoves 1 (some .int)) 6 0 [.ref (g.2.1 0 0)] σ (fun z σ' => z = oFC (mvX σ) (σ 0 0 14).toNat 7 (2 ^ (σ 0 0 14).toNat - 1) ∧ OM σ' ∧ ∀ K, K ≠ 14 → K ≠ 15 → σ' K = σ K) := by
  refine oMi_of (own := RX5) (by decide +kernel) rfl (by simp [oi, Value.category]) (by simp) (fun x C E => ?_)
  show oW l g x σ 0 [some (.ref (g.2.1 0 0))] [] 0
  obtain ⟨x1, x3, x5, ⟨x7, x8, x9⟩, x10, x14, xC, xO, xP, xD, xW, xT, xM⟩ := id hx
  obtain ⟨n, hn⟩ : ∃ n : Nat, (n : Int) = σ 0 0 14 := ⟨(σ 0 0 14).toNat, by omega⟩
  have hn2 : (σ 0 0 14).toNat = n := by omega
  refine o_aload_n (pc := 0) C dX5_fewestMoves_0 rfl ?_
  refine cl_X5_204 (pc := 1) C (c_X5_readMoves x14 x5 xP (by omega) (fun i hi => by have := xW i hi; omega) xM.1) (by omega) (by omega) (Nat.le_of_ble_eq_true rfl) dX5_fewestMoves_1 (fun σ2 hq => ?_)
  obtain ⟨m1, m2, m3, m4⟩ := hq
  have hM1 : OM σ2 := ⟨m2, by rw [m1 15 (by decide)]; exact xM.2.1, by rw [m1 15 (by decide)]; exact xM.2.2⟩
  have k0 : σ2 0 = σ 0 := m1 0 (by decide)
  have hmv : ∀ b r : Nat, b < n ∨ b = 7 → r < n → σ2 14 b r = mvX σ b r := fun b r hb hr => by
    unfold mvX
    by_cases e : b = 7
    · rw [if_pos e, e]; exact m3 r (by omega)
    · rw [if_neg e]; exact m4 b r (by omega) (by omega)
  obtain ⟨μ, hμ⟩ : ∃ μ, μ = σ2 := ⟨_, rfl⟩
  rw [← hμ] at m1 m2 m3 m4 hM1 k0 hmv ⊢
  clear hμ
  refine o_aload_n (pc := 4) C dX5_fewestMoves_4 rfl ?_
  refine gf_X5_77 (pc := 5) C dX5_fewestMoves_5 ?_
  refine o_aload_n (pc := 8) C dX5_fewestMoves_8 rfl ?_
  refine gf_X5_64 (pc := 9) C dX5_fewestMoves_9 ?_
  rw [k0, ← hn]
  refine cl_X5_207 (pc := 12) C (c_X4_fewestBySets hM1 (by omega)) (by omega) (by omega) (Nat.le_of_ble_eq_true rfl) dX5_fewestMoves_12 (fun z σ2 hq => ?_)
  obtain ⟨f1, f2, f3, f4⟩ := hq
  have hfc := oFC_cong (n := n) (by omega) (fun b r hb hr => hmv b r (Or.inl hb) hr) (cd (2 ^ n - 1)) 7 (2 ^ n - 1) (fun r hr => hmv 7 r (Or.inr rfl) hr) (by have := p2_le n (by omega); omega) rfl
  exact E _ _ _ _ _ dX5_fewestMoves_15 rfl ⟨by rw [hn2, f1]; exact hfc, f2, fun K a b => by rw [f3 K b, m1 K a]⟩ (by omega)
set_option maxRecDepth 100000 in
set_option maxHeartbeats 4000000 in
theorem c_X5_nextAt {l : Launch} {g : oG} {σ : oMem} {a : Int} (hfl : l.stackTraces = false) (hx : XI σ) (h1 : InR a) : oXi l g yX5_nextAt (.code yX5_nextAt cX5_nextAt 2 (some .int)) 7 1 [.ref (g.2.1 0 0), oi a] σ (fun z σ' => (0 ≤ a ∧ a < σ 0 0 14) ∧ (∃ q : Nat → Nat, isBest (mvX σ) (σ 0 0 14).toNat q ∧ z = q a.toNat) ∧ OM σ' ∧ ∀ K, K ≠ 14 → K ≠ 15 → K ≠ 16 → σ' K = σ K) (fun y => y = xIOB ∧ ¬ (0 ≤ a ∧ a < σ 0 0 14)) := by
  refine oXi_of (own := RX5) hfl (by decide +kernel) rfl (by simp [oi, Value.category]) (by simp) (fun x C T E => ?_)
  show oW l g x σ 0 [some (.ref (g.2.1 0 0)), some (oi a)] [] 0
  obtain ⟨x1, x3, x5, ⟨x7, x8, x9⟩, x10, x14, xC, xO, xP, xD, xW, xT, xM⟩ := id hx
  obtain ⟨n, hn⟩ : ∃ n : Nat, (n : Int) = σ 0 0 14 := ⟨(σ 0 0 14).toNat, by omega⟩
  have hn2 : (σ 0 0 14).toNat = n := by omega
  refine o_iload_n (pc := 0) C dX5_nextAt_0 rfl ?_
  refine o_if_lt (pc := 1) C (tgt := 12) dX5_nextAt_1 (by decide) (by omega) (fun h1 => ?_) (fun h1 => ?_)
  · exact th_145 (pc := 12) T (List.mem_of_getElem? (i := 8) rfl) dX5_nextAt_12 dX5_nextAt_15 dX5_nextAt_16 dX5_nextAt_18 dX5_nextAt_21 (by omega) ⟨rfl, by omega⟩
  · refine o_iload_n (pc := 4) C dX5_nextAt_4 rfl ?_
    refine o_aload_n (pc := 5) C dX5_nextAt_5 rfl ?_
    refine gf_X5_64 (pc := 6) C dX5_nextAt_6 ?_
    refine o_icmp_lt (pc := 9) C (tgt := 22) dX5_nextAt_9 (by decide) (by omega) (by omega) (fun h9 => ?_) (fun h9 => ?_)
    · refine o_aload_n (pc := 22) C dX5_nextAt_22 rfl ?_
      refine cl_X5_204 (pc := 23) C (c_X5_readMoves x14 x5 xP (by omega) (fun i hi => by have := xW i hi; omega) xM.1) (by omega) (by omega) (Nat.le_of_ble_eq_true rfl) dX5_nextAt_23 (fun σ2 hq => ?_)
      obtain ⟨m1, m2, m3, m4⟩ := hq
      have hM1 : OM σ2 := ⟨m2, by rw [m1 15 (by decide)]; exact xM.2.1, by rw [m1 15 (by decide)]; exact xM.2.2⟩
      have k0 : σ2 0 = σ 0 := m1 0 (by decide)
      have hmv : ∀ b r : Nat, b < n ∨ b = 7 → r < n → σ2 14 b r = mvX σ b r := fun b r hb hr => by
        unfold mvX
        by_cases e : b = 7
        · rw [if_pos e, e]; exact m3 r (by omega)
        · rw [if_neg e]; exact m4 b r (by omega) (by omega)
      obtain ⟨μ, hμ⟩ : ∃ μ, μ = σ2 := ⟨_, rfl⟩
      rw [← hμ] at m1 m2 m3 m4 hM1 k0 hmv ⊢
      clear hμ
      refine o_aload_n (pc := 26) C dX5_nextAt_26 rfl ?_
      refine gf_X5_77 (pc := 27) C dX5_nextAt_27 ?_
      refine o_aload_n (pc := 30) C dX5_nextAt_30 rfl ?_
      refine gf_X5_64 (pc := 31) C dX5_nextAt_31 ?_
      rw [k0, ← hn]
      refine cl_X5_216 (pc := 34) C (c_X4_findBest hM1 (by omega)) (by omega) (by omega) (Nat.le_of_ble_eq_true rfl) dX5_nextAt_34 (fun σ2 hq => ?_)
      obtain ⟨f2, f3, q, f4, f5⟩ := hq
      refine o_aload_n (pc := 37) C dX5_nextAt_37 rfl ?_
      refine gf_X5_77 (pc := 38) C dX5_nextAt_38 ?_
      refine gf_X5_219 (pc := 41) C dX5_nextAt_41 ?_
      refine o_iload_n (pc := 44) C dX5_nextAt_44 rfl ?_
      refine ia_16 (pc := 45) C (by omega) (by omega) dX5_nextAt_45 ?_
      exact E _ _ _ _ _ dX5_nextAt_46 rfl ⟨⟨by omega, by omega⟩, ⟨q, by rw [hn2]; exact isBest_cong (by omega) hmv f5, f4 _ (by omega)⟩, f2, fun K a b c => by rw [f3 K b c, m1 K a]⟩ (by omega)
    · exact th_145 (pc := 12) T (List.mem_of_getElem? (i := 8) rfl) dX5_nextAt_12 dX5_nextAt_15 dX5_nextAt_16 dX5_nextAt_18 dX5_nextAt_21 (by omega) ⟨rfl, by omega⟩
set_option maxRecDepth 100000 in
set_option maxHeartbeats 4000000 in
theorem c_X5_slits {l : Launch} {g : oG} {σ : oMem} {a : Int} (hfl : l.stackTraces = false) (hx : XI σ) (h1 : InR a) : oXi l g yX5_slits (.code yX5_slits cX5_slits 2 (some .int)) 5 1 [.ref (g.2.1 0 0), oi a] σ (fun z σ' => z = σ 1 a.toNat 10 ∧ okC σ a ∧ σ' = σ) (fun y => y = xIOB ∧ ¬ okC σ a) := by
  refine oXi_of (own := RX5) hfl (by decide +kernel) rfl (by simp [oi, Value.category]) (by simp) (fun x C T E => ?_)
  show oW l g x σ 0 [some (.ref (g.2.1 0 0)), some (oi a)] [] 0
  obtain ⟨x1, x3, x5, ⟨x7, x8, x9⟩, x10, x14, xC, xO, xP, xD, xW, xT, xM⟩ := id hx
  refine o_aload_n (pc := 0) C dX5_slits_0 rfl ?_
  refine o_iload_n (pc := 1) C dX5_slits_1 rfl ?_
  refine cl_X5_98 (pc := 2) T C (c_X5_requireCoil hfl h1 (by omega)) (fun y h => h) (by omega) (by omega) (Nat.le_of_ble_eq_true rfl) dX5_slits_2 (fun σ2 hq => ?_)
  obtain ⟨hq, rc⟩ := hq
  rw [hq]; clear hq
  refine o_aload_n (pc := 5) C dX5_slits_5 rfl ?_
  refine gf_X5_11 (pc := 6) C dX5_slits_6 ?_
  refine o_iload_n (pc := 9) C dX5_slits_9 rfl ?_
  refine aa_19 (pc := 10) C (by omega) (by omega) dX5_slits_10 ?_
  refine gf_X5_222 (pc := 11) C (by omega) dX5_slits_11 ?_
  exact E _ _ _ _ _ dX5_slits_14 rfl ⟨rfl, rc, rfl⟩ (by omega)
set_option maxRecDepth 100000 in
set_option maxHeartbeats 4000000 in
theorem c_X5_slitWeight {l : Launch} {g : oG} {σ : oMem} {a b : Int} (hfl : l.stackTraces = false) (hx : XI σ) (h1 : InR a) (h2 : InR b) : oXi l g yX5_slitWeight (.code yX5_slitWeight cX5_slitWeight 3 (some .int)) 5 2 [.ref (g.2.1 0 0), oi a, oi b] σ (fun z σ' => z = σ 5 a.toNat b.toNat ∧ (okC σ a ∧ 0 ≤ b ∧ b < σ 1 a.toNat 10) ∧ σ' = σ) (fun y => y = xIOB ∧ ¬ (okC σ a ∧ 0 ≤ b ∧ b < σ 1 a.toNat 10)) := by
  refine oXi_of (own := RX5) hfl (by decide +kernel) rfl (by simp [oi, Value.category]) (by simp) (fun x C T E => ?_)
  show oW l g x σ 0 [some (.ref (g.2.1 0 0)), some (oi a), some (oi b)] [] 0
  obtain ⟨x1, x3, x5, ⟨x7, x8, x9⟩, x10, x14, xC, xO, xP, xD, xW, xT, xM⟩ := id hx
  refine o_aload_n (pc := 0) C dX5_slitWeight_0 rfl ?_
  refine o_iload_n (pc := 1) C dX5_slitWeight_1 rfl ?_
  refine o_iload_n (pc := 2) C dX5_slitWeight_2 rfl ?_
  refine cl_X5_225 (pc := 3) T C (c_X5_requireSlit hfl h1 h2 (by omega) (by omega) (fun q => by have := (xC a.toNat (by omega)).2.1; omega)) (fun y h => h) (by omega) (by omega) (Nat.le_of_ble_eq_true rfl) dX5_slitWeight_3 (fun σ2 hq => ?_)
  obtain ⟨hq, rs⟩ := hq
  rw [hq]; clear hq
  have hs := (xC a.toNat (by omega)).2.1
  refine o_aload_n (pc := 6) C dX5_slitWeight_6 rfl ?_
  refine gf_X5_11 (pc := 7) C dX5_slitWeight_7 ?_
  refine o_iload_n (pc := 10) C dX5_slitWeight_10 rfl ?_
  refine aa_19 (pc := 11) C (by omega) (by omega) dX5_slitWeight_11 ?_
  refine gf_X5_228 (pc := 12) C (by omega) dX5_slitWeight_12 ?_
  refine o_iload_n (pc := 15) C dX5_slitWeight_15 rfl ?_
  refine ia_5 (pc := 16) C (by omega) (by omega) (by omega) dX5_slitWeight_16 ?_
  exact E _ _ _ _ _ dX5_slitWeight_17 rfl ⟨rfl, rs, rfl⟩ (by omega)
set_option maxRecDepth 100000 in
set_option maxHeartbeats 4000000 in
theorem c_X5_slitOrder {l : Launch} {g : oG} {σ : oMem} {a b : Int} (hfl : l.stackTraces = false) (hx : XI σ) (h1 : InR a) (h2 : InR b) : oXi l g yX5_slitOrder (.code yX5_slitOrder cX5_slitOrder 3 (some .int)) 5 2 [.ref (g.2.1 0 0), oi a, oi b] σ (fun z σ' => z = σ 6 a.toNat b.toNat ∧ (okC σ a ∧ 0 ≤ b ∧ b < σ 1 a.toNat 10) ∧ σ' = σ) (fun y => y = xIOB ∧ ¬ (okC σ a ∧ 0 ≤ b ∧ b < σ 1 a.toNat 10)) := by
  refine oXi_of (own := RX5) hfl (by decide +kernel) rfl (by simp [oi, Value.category]) (by simp) (fun x C T E => ?_)
  show oW l g x σ 0 [some (.ref (g.2.1 0 0)), some (oi a), some (oi b)] [] 0
  obtain ⟨x1, x3, x5, ⟨x7, x8, x9⟩, x10, x14, xC, xO, xP, xD, xW, xT, xM⟩ := id hx
  refine o_aload_n (pc := 0) C dX5_slitOrder_0 rfl ?_
  refine o_iload_n (pc := 1) C dX5_slitOrder_1 rfl ?_
  refine o_iload_n (pc := 2) C dX5_slitOrder_2 rfl ?_
  refine cl_X5_225 (pc := 3) T C (c_X5_requireSlit hfl h1 h2 (by omega) (by omega) (fun q => by have := (xC a.toNat (by omega)).2.1; omega)) (fun y h => h) (by omega) (by omega) (Nat.le_of_ble_eq_true rfl) dX5_slitOrder_3 (fun σ2 hq => ?_)
  obtain ⟨hq, rs⟩ := hq
  rw [hq]; clear hq
  have hs := (xC a.toNat (by omega)).2.1
  refine o_aload_n (pc := 6) C dX5_slitOrder_6 rfl ?_
  refine gf_X5_11 (pc := 7) C dX5_slitOrder_7 ?_
  refine o_iload_n (pc := 10) C dX5_slitOrder_10 rfl ?_
  refine aa_19 (pc := 11) C (by omega) (by omega) dX5_slitOrder_11 ?_
  refine gf_X5_231 (pc := 12) C (by omega) dX5_slitOrder_12 ?_
  refine o_iload_n (pc := 15) C dX5_slitOrder_15 rfl ?_
  refine ia_6 (pc := 16) C (by omega) (by omega) (by omega) dX5_slitOrder_16 ?_
  exact E _ _ _ _ _ dX5_slitOrder_17 rfl ⟨rfl, rs, rfl⟩ (by omega)
set_option maxRecDepth 100000 in
set_option maxHeartbeats 4000000 in
theorem c_X5_lost {l : Launch} {g : oG} {σ : oMem} {a b : Int} (hfl : l.stackTraces = false) (hx : XI σ) (h1 : InR a) (h2 : InR b) : oXi l g yX5_lost (.code yX5_lost cX5_lost 3 (some .int)) 5 2 [.ref (g.2.1 0 0), oi a, oi b] σ (fun z σ' => z = σ 1 a.toNat (11 + b.toNat) ∧ (okC σ a ∧ (0 ≤ b ∧ b ≤ 2)) ∧ σ' = σ) (fun y => (y = xIOB ∧ ¬ okC σ a) ∨ (y = xIAE ∧ okC σ a ∧ ¬ (0 ≤ b ∧ b ≤ 2))) := by
  refine oXi_of (own := RX5) hfl (by decide +kernel) rfl (by simp [oi, Value.category]) (by simp) (fun x C T E => ?_)
  show oW l g x σ 0 [some (.ref (g.2.1 0 0)), some (oi a), some (oi b)] [] 0
  obtain ⟨x1, x3, x5, ⟨x7, x8, x9⟩, x10, x14, xC, xO, xP, xD, xW, xT, xM⟩ := id hx
  refine o_aload_n (pc := 0) C dX5_lost_0 rfl ?_
  refine o_iload_n (pc := 1) C dX5_lost_1 rfl ?_
  refine cl_X5_98 (pc := 2) T C (c_X5_requireCoil hfl h1 (by omega)) (fun y h => Or.inl h) (by omega) (by omega) (Nat.le_of_ble_eq_true rfl) dX5_lost_2 (fun σ2 hq => ?_)
  obtain ⟨hq, rc⟩ := hq
  rw [hq]; clear hq
  refine o_iload_n (pc := 5) C dX5_lost_5 rfl ?_
  refine o_iconst (pc := 6) C dX5_lost_6 ?_
  refine o_iconst (pc := 7) C dX5_lost_7 ?_
  refine cl_X5_83 (pc := 8) T C (c_X5_requireRange hfl (by omega) (by omega) (by omega)) (fun y h => Or.inr ⟨h.1, rc, h.2⟩) (by omega) (by omega) (Nat.le_of_ble_eq_true rfl) dX5_lost_8 (fun σ2 hq => ?_)
  obtain ⟨hq, r1⟩ := hq
  rw [hq]; clear hq
  refine o_iload_n (pc := 11) C dX5_lost_11 rfl ?_
  refine o_if_ne (pc := 12) C (tgt := 25) dX5_lost_12 (by decide) (by omega) (fun h12 => ?_) (fun h12 => ?_)
  · refine o_iload_n (pc := 25) C dX5_lost_25 rfl ?_
    refine o_iconst (pc := 26) C dX5_lost_26 ?_
    refine o_icmp_ne (pc := 27) C (tgt := 42) dX5_lost_27 (by decide) (by omega) (by omega) (fun h27 => ?_) (fun h27 => ?_)
    · refine o_aload_n (pc := 42) C dX5_lost_42 rfl ?_
      refine gf_X5_11 (pc := 43) C dX5_lost_43 ?_
      refine o_iload_n (pc := 46) C dX5_lost_46 rfl ?_
      refine aa_19 (pc := 47) C (by omega) (by omega) dX5_lost_47 ?_
      refine gf_X5_240 (pc := 48) C (by omega) dX5_lost_48 ?_
      exact E _ _ _ _ _ dX5_lost_51 rfl ⟨by first | (rw [show b.toNat = 0 by omega]) | (rw [show b.toNat = 1 by omega]) | (rw [show b.toNat = 2 by omega]), ⟨rc, r1⟩, rfl⟩ (by omega)
    · refine o_aload_n (pc := 30) C dX5_lost_30 rfl ?_
      refine gf_X5_11 (pc := 31) C dX5_lost_31 ?_
      refine o_iload_n (pc := 34) C dX5_lost_34 rfl ?_
      refine aa_19 (pc := 35) C (by omega) (by omega) dX5_lost_35 ?_
      refine gf_X5_237 (pc := 36) C (by omega) dX5_lost_36 ?_
      refine o_goto (pc := 39) C (tgt := 51) dX5_lost_39 (by decide) ?_
      exact E _ _ _ _ _ dX5_lost_51 rfl ⟨by first | (rw [show b.toNat = 0 by omega]) | (rw [show b.toNat = 1 by omega]) | (rw [show b.toNat = 2 by omega]), ⟨rc, r1⟩, rfl⟩ (by omega)
  · refine o_aload_n (pc := 15) C dX5_lost_15 rfl ?_
    refine gf_X5_11 (pc := 16) C dX5_lost_16 ?_
    refine o_iload_n (pc := 19) C dX5_lost_19 rfl ?_
    refine aa_19 (pc := 20) C (by omega) (by omega) dX5_lost_20 ?_
    refine gf_X5_234 (pc := 21) C (by omega) dX5_lost_21 ?_
    exact E _ _ _ _ _ dX5_lost_24 rfl ⟨by first | (rw [show b.toNat = 0 by omega]) | (rw [show b.toNat = 1 by omega]) | (rw [show b.toNat = 2 by omega]), ⟨rc, r1⟩, rfl⟩ (by omega)
set_option maxRecDepth 100000 in
set_option maxHeartbeats 4000000 in
theorem c_X5_delivered {l : Launch} {g : oG} {σ : oMem} {a : Int} (hfl : l.stackTraces = false) (hx : XI σ) (h1 : InR a) : oXi l g yX5_delivered (.code yX5_delivered cX5_delivered 2 (some .int)) 5 1 [.ref (g.2.1 0 0), oi a] σ (fun z σ' => z = σ 7 a.toNat 2 ∧ okO σ a ∧ σ' = σ) (fun y => y = xIOB ∧ ¬ okO σ a) := by
  refine oXi_of (own := RX5) hfl (by decide +kernel) rfl (by simp [oi, Value.category]) (by simp) (fun x C T E => ?_)
  show oW l g x σ 0 [some (.ref (g.2.1 0 0)), some (oi a)] [] 0
  obtain ⟨x1, x3, x5, ⟨x7, x8, x9⟩, x10, x14, xC, xO, xP, xD, xW, xT, xM⟩ := id hx
  refine o_aload_n (pc := 0) C dX5_delivered_0 rfl ?_
  refine o_iload_n (pc := 1) C dX5_delivered_1 rfl ?_
  refine cl_X5_243 (pc := 2) T C (c_X5_requireOrder hfl h1 (by omega)) (fun y h => h) (by omega) (by omega) (Nat.le_of_ble_eq_true rfl) dX5_delivered_2 (fun σ2 hq => ?_)
  obtain ⟨hq, rp⟩ := hq
  rw [hq]; clear hq
  refine o_aload_n (pc := 5) C dX5_delivered_5 rfl ?_
  refine gf_X5_21 (pc := 6) C dX5_delivered_6 ?_
  refine o_iload_n (pc := 9) C dX5_delivered_9 rfl ?_
  refine aa_20 (pc := 10) C (by omega) (by omega) dX5_delivered_10 ?_
  refine gf_X5_246 (pc := 11) C (by omega) dX5_delivered_11 ?_
  exact E _ _ _ _ _ dX5_delivered_14 rfl ⟨rfl, rp, rfl⟩ (by omega)
set_option maxRecDepth 100000 in
set_option maxHeartbeats 4000000 in
theorem c_X5_heatOf {l : Launch} {g : oG} {σ : oMem} {a : Int} (hfl : l.stackTraces = false) (hx : XI σ) (h1 : InR a) : oXi l g yX5_heatOf (.code yX5_heatOf cX5_heatOf 2 (some .int)) 5 1 [.ref (g.2.1 0 0), oi a] σ (fun z σ' => z = σ 7 a.toNat 3 ∧ okO σ a ∧ σ' = σ) (fun y => y = xIOB ∧ ¬ okO σ a) := by
  refine oXi_of (own := RX5) hfl (by decide +kernel) rfl (by simp [oi, Value.category]) (by simp) (fun x C T E => ?_)
  show oW l g x σ 0 [some (.ref (g.2.1 0 0)), some (oi a)] [] 0
  obtain ⟨x1, x3, x5, ⟨x7, x8, x9⟩, x10, x14, xC, xO, xP, xD, xW, xT, xM⟩ := id hx
  refine o_aload_n (pc := 0) C dX5_heatOf_0 rfl ?_
  refine o_iload_n (pc := 1) C dX5_heatOf_1 rfl ?_
  refine cl_X5_243 (pc := 2) T C (c_X5_requireOrder hfl h1 (by omega)) (fun y h => h) (by omega) (by omega) (Nat.le_of_ble_eq_true rfl) dX5_heatOf_2 (fun σ2 hq => ?_)
  obtain ⟨hq, rp⟩ := hq
  rw [hq]; clear hq
  refine o_aload_n (pc := 5) C dX5_heatOf_5 rfl ?_
  refine gf_X5_21 (pc := 6) C dX5_heatOf_6 ?_
  refine o_iload_n (pc := 9) C dX5_heatOf_9 rfl ?_
  refine aa_20 (pc := 10) C (by omega) (by omega) dX5_heatOf_10 ?_
  refine gf_X5_249 (pc := 11) C (by omega) dX5_heatOf_11 ?_
  exact E _ _ _ _ _ dX5_heatOf_14 rfl ⟨rfl, rp, rfl⟩ (by omega)
def o_st (σ : oMem) (w : Int) (c : Nat) : Int := o_sum (fun j => if σ 4 c j = w ∧ σ 6 c j = -1 then σ 5 c j else 0) (σ 1 c 10).toNat
set_option maxRecDepth 100000 in
set_option maxHeartbeats 4000000 in
theorem c_X5_stock {l : Launch} {g : oG} {σ : oMem} {a : Int} (hx : XI σ) (h1 : InR a) : oMi l g yX5_stock (.code yX5_stock cX5_stock 4 (some .int)) 5 0 [.ref (g.2.1 0 0), oi a] σ (fun z σ' => z = o_sum (o_st σ a) (σ 0 0 1).toNat ∧ σ' = σ) := by
  refine oMi_of (own := RX5) (by decide +kernel) rfl (by simp [oi, Value.category]) (by simp) (fun x C E => ?_)
  show oW l g x σ 0 [some (.ref (g.2.1 0 0)), some (oi a), none, none] [] 0
  obtain ⟨x1, x3, x5, ⟨x7, x8, x9⟩, x10, x14, xC, xO, xP, xD, xW, xT, xM⟩ := id hx
  have L : ∀ (n t : Nat) (s i : Int), σ 0 0 1 < t + n → (t : Int) ≤ σ 0 0 1 → i = t → s = o_sum (o_st σ a) t → oW l g x σ 4 [some (.ref (g.2.1 0 0)), some (oi a), some (oi s), some (oi i)] [] 0 := by
    intro n
    induction n with
    | zero => intro t s i a1 a2; omega
    | succ n ih =>
      intro t s i a1 a2 a3 a4
      subst a3
      refine o_iload_n (pc := 4) C dX5_stock_4 rfl ?_
      refine o_aload_n (pc := 5) C dX5_stock_5 rfl ?_
      refine gf_X5_15 (pc := 6) C dX5_stock_6 ?_
      refine o_icmp_ge (pc := 9) C (tgt := 31) dX5_stock_9 (by decide) (by omega) (by omega) (fun h9 => ?_) (fun h9 => ?_)
      · refine o_iload_n (pc := 31) C dX5_stock_31 rfl ?_
        exact E _ _ _ _ _ dX5_stock_32 rfl ⟨by rw [a4, show (σ 0 0 1).toNat = t by omega], rfl⟩ (by omega)
      · have hs := (xC t (by omega)).2
        refine o_iload_n (pc := 12) C dX5_stock_12 rfl ?_
        refine o_aload_n (pc := 13) C dX5_stock_13 rfl ?_
        refine gf_X5_11 (pc := 14) C dX5_stock_14 ?_
        refine o_iload_n (pc := 17) C dX5_stock_17 rfl ?_
        refine aa_19 (pc := 18) C (by omega) (by omega) dX5_stock_18 ?_
        rw [show ((t : Int)).toNat = t by omega]
        refine o_iload_n (pc := 19) C dX5_stock_19 rfl ?_
        refine cl_X5_252 (pc := 20) C (c_X0_stockOf (by omega) hs.1.1 hs.1.2 (fun j hj => ⟨(hs.2 j hj).1, (hs.2 j hj).2.2⟩) h1) (by omega) (by omega) (by omega) (Nat.le_of_ble_eq_true rfl) dX5_stock_20 (fun z σ2 hq => ?_)
        obtain ⟨rfl, hq⟩ := hq
        rw [hq]; clear hq
        refine o_iadd (pc := 23) C dX5_stock_23 ?_
        refine sti_2 (pc := 24) C dX5_stock_24 ?_
        refine inc_3 (pc := 25) C dX5_stock_25 ?_
        refine o_goto (pc := 28) C (tgt := 4) dX5_stock_28 (by decide) ?_
        exact ih (t + 1) _ _ (by omega) (by omega) (by omega) (by rw [o_sum, a4]; rfl)
  refine o_iconst (pc := 0) C dX5_stock_0 ?_
  refine sti_2 (pc := 1) C dX5_stock_1 ?_
  refine o_iconst (pc := 2) C dX5_stock_2 ?_
  refine sti_3 (pc := 3) C dX5_stock_3 ?_
  exact L 21 0 _ _ (by omega) (by omega) rfl rfl
theorem XI_ord {σ μ : oMem} (h : XI σ) (k : ∀ K, K ≠ 14 → K ≠ 15 → K ≠ 16 → μ K = σ K) (hM : OM μ) : XI μ := by
  obtain ⟨x1, x3, x5, x7, x10, x14, xC, xO, xP, xD, xW, xT, xM⟩ := h
  unfold XI
  have e : ∀ c, CB μ c = CB σ c := CB_cong (k 1 (by decide) (by decide) (by decide)) (k 2 (by decide) (by decide) (by decide)) (k 3 (by decide) (by decide) (by decide))
  have eO : ∀ r, OO μ r = OO σ r := OO_cong (k 7 (by decide) (by decide) (by decide))
  have eP : ∀ r, PB μ r = PB σ r := PB_cong (k 8 (by decide) (by decide) (by decide)) (k 9 (by decide) (by decide) (by decide))
  have eS : ∀ c, SB μ c = SB σ c := fun c => by unfold SB; rw [k 1 (by decide) (by decide) (by decide), k 4 (by decide) (by decide) (by decide), k 5 (by decide) (by decide) (by decide), k 6 (by decide) (by decide) (by decide)]
  rw [k 0 (by decide) (by decide) (by decide), k 17 (by decide) (by decide) (by decide), k 18 (by decide) (by decide) (by decide), TB_cong (k 12 (by decide) (by decide) (by decide))]
  exact ⟨x1, x3, x5, x7, x10, x14, fun c hc => by rw [e, eS]; exact xC c hc, fun r hr => by rw [eO]; exact xO r hr, fun p hp => by rw [eP]; exact xP p hp, by rw [eP]; exact xD, xW, xT, hM⟩
set_option maxRecDepth 100000 in
set_option maxHeartbeats 4000000 in
theorem c_X5_runAll {l : Launch} {g : oG} {σ : oMem}  (hx : XI σ) : oMi l g yX5_runAll (.code yX5_runAll cX5_runAll 4 (some .int)) 7 0 [.ref (g.2.1 0 0)] σ (fun z σ' => ∃ (q : Nat → Nat) (μ : oMem), isBest (mvX σ) (σ 0 0 14).toNat q ∧ (∀ K, K ≠ 14 → K ≠ 15 → K ≠ 16 → μ K = σ K) ∧ OM μ ∧ z = (o_ra μ q (σ 0 0 14).toNat).2 ∧ σ' = o_up (o_ra μ q (σ 0 0 14).toNat).1 0 0 14 0) := by
  refine oMi_of (own := RX5) (by decide +kernel) rfl (by simp [oi, Value.category]) (by simp) (fun x C E => ?_)
  show oW l g x σ 0 [some (.ref (g.2.1 0 0)), none, none, none] [] 0
  obtain ⟨x1, x3, x5, ⟨x7, x8, x9⟩, x10, x14, xC, xO, xP, xD, xW, xT, xM⟩ := id hx
  obtain ⟨n, hn⟩ : ∃ n : Nat, (n : Int) = σ 0 0 14 := ⟨(σ 0 0 14).toNat, by omega⟩
  have hn2 : (σ 0 0 14).toNat = n := by omega
  have L : ∀ (μ : oMem) (q : Nat → Nat), XI μ → (∀ i, i < n → q i < n) → (∀ i, i < n → μ 16 0 i = q i) → μ 0 0 14 = n → isBest (mvX σ) n q → (∀ K, K ≠ 14 → K ≠ 15 → K ≠ 16 → μ K = σ K) → ∀ (k t : Nat) (m i : Int) (r : Option Value), n < t + k → t ≤ n → i = t → m = (o_ra μ q t).2 → oW l g x (o_ra μ q t).1 19 [some (.ref (g.2.1 0 0)), some (oi m), some (oi i), r] [] 0 := by
    intro μ q hX hq1 hq2 hq3 hq4 hq5 k
    induction k with
    | zero => intro t m i r a1 a2; omega
    | succ k ih =>
      intro t m i r a1 a2 a3 a4
      subst a3
      have hXt := XI_ra hX hq3.symm hq1 t a2
      have k14 : (o_ra μ q t).1 0 0 14 = n := by rw [ra_0 (by decide) (by decide), hq3]
      have k16 : t < n → (o_ra μ q t).1 16 0 t = q t := fun h => by rw [ra_k (by decide) (by decide) (by decide) (by decide) (by decide) (by decide)]; exact hq2 t h
      have k17 : (o_ra μ q t).1 17 = μ 17 := ra_k (by decide) (by decide) (by decide) (by decide) (by decide) (by decide) t
      have k18 : (o_ra μ q t).1 18 = μ 18 := ra_k (by decide) (by decide) (by decide) (by decide) (by decide) (by decide) t
      have ih2 := ih (t + 1)
      simp only [o_ra] at ih2
      obtain ⟨ν, hν⟩ : ∃ ν, ν = (o_ra μ q t).1 := ⟨_, rfl⟩
      rw [← hν] at hXt k14 k16 k17 k18 ih2 ⊢
      obtain ⟨y1, y3, y5, ⟨y7, y8, y9⟩, y10, y14, yC, yO, yP, yD, yW, yT, yM⟩ := id hXt
      have hcan : ∀ a, okC ν a → InR (ν 1 a.toNat 10) ∧ 0 ≤ ν 1 a.toNat 0 ∧ ν 1 a.toNat 0 ≤ 2000 := fun a z => by
        have h := yC a.toNat (by omega)
        have h2 := h.1.1
        have h3 := h.2.1
        omega
      refine o_iload_n (pc := 19) C dX5_runAll_19 rfl ?_
      refine o_aload_n (pc := 20) C dX5_runAll_20 rfl ?_
      refine gf_X5_64 (pc := 21) C dX5_runAll_21 ?_
      rw [k14]
      refine o_icmp_ge (pc := 24) C (tgt := 82) dX5_runAll_24 (by decide) (by omega) (by omega) (fun h24 => ?_) (fun h24 => ?_)
      · refine o_aload_n (pc := 82) C dX5_runAll_82 rfl ?_
        refine o_iconst (pc := 83) C dX5_runAll_83 ?_
        refine pf_X5_64 (pc := 84) C dX5_runAll_84 ?_
        refine o_iload_n (pc := 87) C dX5_runAll_87 rfl ?_
        rw [hν]
        refine E _ _ _ _ _ dX5_runAll_88 rfl ⟨q, μ, by rw [hn2]; exact hq4, hq5, hX.2.2.2.2.2.2.2.2.2.2.2.2, by rw [hn2, show n = t by omega]; exact a4, by rw [hn2, show n = t by omega]⟩ (by omega)
      · refine o_aload_n (pc := 27) C dX5_runAll_27 rfl ?_
        refine gf_X5_77 (pc := 28) C dX5_runAll_28 ?_
        refine gf_X5_219 (pc := 31) C dX5_runAll_31 ?_
        refine o_iload_n (pc := 34) C dX5_runAll_34 rfl ?_
        refine ia_16 (pc := 35) C (by omega) (by omega) dX5_runAll_35 ?_
        rw [show ((t : Int)).toNat = t by omega, k16 (by omega)]
        refine sti_3 (pc := 36) C dX5_runAll_36 ?_
        have hqt := hq1 t (by omega)
        have hwt := yW (q t) (by omega)
        rw [k17, k18] at hwt
        obtain ⟨c, hc⟩ : ∃ c : Nat, μ 17 0 (q t) = (c : Int) := ⟨(μ 17 0 (q t)).toNat, by omega⟩
        obtain ⟨p, hp⟩ : ∃ p : Nat, μ 18 0 (q t) = (p : Int) := ⟨(μ 18 0 (q t)).toNat, by omega⟩
        rw [hc, hp] at hwt
        refine o_aload_n (pc := 37) C dX5_runAll_37 rfl ?_
        refine o_aload_n (pc := 38) C dX5_runAll_38 rfl ?_
        refine gf_X5_57 (pc := 39) C dX5_runAll_39 ?_
        refine o_iload_n (pc := 42) C dX5_runAll_42 rfl ?_
        refine ia_17 (pc := 43) C (by omega) (by omega) dX5_runAll_43 ?_
        rw [show ((q t : Int)).toNat = q t by omega, k17, hc]
        refine o_aload_n (pc := 44) C dX5_runAll_44 rfl ?_
        refine gf_X5_61 (pc := 45) C dX5_runAll_45 ?_
        refine o_iload_n (pc := 48) C dX5_runAll_48 rfl ?_
        refine ia_18 (pc := 49) C (by omega) (by omega) dX5_runAll_49 ?_
        rw [show ((q t : Int)).toNat = q t by omega, k18, hp]
        refine cl_X5_187 (pc := 50) C (c_X5_canBeRun (by omega) (by omega) y1 y5 (hcan _) (fun z => yP _ (by omega)) y7 (by omega)) (by omega) (by omega) (Nat.le_of_ble_eq_true rfl) dX5_runAll_50 (fun z σ2 hq => ?_)
        obtain ⟨rfl, hq⟩ := hq
        rw [hq]; clear hq
        refine o_if_eq (pc := 53) C (tgt := 76) dX5_runAll_53 (by decide) (by split <;> omega) (fun h53 => ?_) (fun h53 => ?_)
        · refine inc_2 (pc := 76) C dX5_runAll_76 ?_
          refine o_goto (pc := 79) C (tgt := 19) dX5_runAll_79 (by decide) ?_
          rw [hc, hp] at ih2
          first
          | (have y := hf
             rw [show o_raS ν ((c : Int)).toNat ((p : Int)).toNat = ((o_run ν c p).1, 1) from if_pos ⟨hs, hf⟩] at ih2
             exact ih2 (m + 1) ((t : Int) + 1) (some (oi (q t : Int))) (by omega) (by omega) (by omega) (by simp only [a4]))
          | (have hno : ¬ (ν 1 ((c : Int)).toNat 10 = -1 ∧ o_fit ν ((p : Int)).toNat ((c : Int)).toNat) := fun y => o_f h53 ⟨⟨by omega, by omega⟩, ⟨by omega, by omega⟩, y.1, y.2⟩
             rw [show o_raS ν ((c : Int)).toNat ((p : Int)).toNat = (ν, 0) from if_neg hno] at ih2
             exact ih2 m ((t : Int) + 1) (some (oi (q t : Int))) (by omega) (by omega) (by omega) (by simp only [a4]; omega))
        · obtain ⟨-, -, hs, hf⟩ := o_t h53
          refine o_aload_n (pc := 56) C dX5_runAll_56 rfl ?_
          refine o_aload_n (pc := 57) C dX5_runAll_57 rfl ?_
          refine gf_X5_57 (pc := 58) C dX5_runAll_58 ?_
          refine o_iload_n (pc := 61) C dX5_runAll_61 rfl ?_
          refine ia_17 (pc := 62) C (by omega) (by omega) dX5_runAll_62 ?_
          rw [show ((q t : Int)).toNat = q t by omega, k17, hc]
          refine o_aload_n (pc := 63) C dX5_runAll_63 rfl ?_
          refine gf_X5_61 (pc := 64) C dX5_runAll_64 ?_
          refine o_iload_n (pc := 67) C dX5_runAll_67 rfl ?_
          refine ia_18 (pc := 68) C (by omega) (by omega) dX5_runAll_68 ?_
          rw [show ((q t : Int)).toNat = q t by omega, k18, hp]
          refine cl_X5_193 (pc := 69) C (c_X5_slitCoil (c := c) (p := p) (by omega) (by omega) (by omega) (by omega) (by omega) (yC c (by omega)).1 yP y8 (by omega) (by have := hf.1; simp only [Int.toNat_natCast] at this; omega) y3 yO) (by omega) (by omega) (Nat.le_of_ble_eq_true rfl) dX5_runAll_69 (fun z σ2 hq => ?_)
          obtain ⟨rfl, hz⟩ := hq
          rw [hz]; clear hz
          refine o_pop (pc := 72) C dX5_runAll_72 rfl ?_
          refine inc_1 (pc := 73) C dX5_runAll_73 ?_
          refine inc_2 (pc := 76) C dX5_runAll_76 ?_
          refine o_goto (pc := 79) C (tgt := 19) dX5_runAll_79 (by decide) ?_
          rw [hc, hp] at ih2
          first
          | (have y := hf
             rw [show o_raS ν ((c : Int)).toNat ((p : Int)).toNat = ((o_run ν c p).1, 1) from if_pos ⟨hs, hf⟩] at ih2
             exact ih2 (m + 1) ((t : Int) + 1) (some (oi (q t : Int))) (by omega) (by omega) (by omega) (by simp only [a4]))
          | (have hno : ¬ (ν 1 ((c : Int)).toNat 10 = -1 ∧ o_fit ν ((p : Int)).toNat ((c : Int)).toNat) := fun y => o_f h53 ⟨⟨by omega, by omega⟩, ⟨by omega, by omega⟩, y.1, y.2⟩
             rw [show o_raS ν ((c : Int)).toNat ((p : Int)).toNat = (ν, 0) from if_neg hno] at ih2
             exact ih2 m ((t : Int) + 1) (some (oi (q t : Int))) (by omega) (by omega) (by omega) (by simp only [a4]; omega))
  refine o_aload_n (pc := 0) C dX5_runAll_0 rfl ?_
  refine cl_X5_204 (pc := 1) C (c_X5_readMoves x14 x5 xP (by omega) (fun i hi => by have := xW i hi; omega) xM.1) (by omega) (by omega) (Nat.le_of_ble_eq_true rfl) dX5_runAll_1 (fun σ2 hq => ?_)
  obtain ⟨m1, m2, m3, m4⟩ := hq
  have hM1 : OM σ2 := ⟨m2, by rw [m1 15 (by decide)]; exact xM.2.1, by rw [m1 15 (by decide)]; exact xM.2.2⟩
  have k0 : σ2 0 = σ 0 := m1 0 (by decide)
  have hmv : ∀ b r : Nat, b < n ∨ b = 7 → r < n → σ2 14 b r = mvX σ b r := fun b r hb hr => by
    unfold mvX
    by_cases e : b = 7
    · rw [if_pos e, e]; exact m3 r (by omega)
    · rw [if_neg e]; exact m4 b r (by omega) (by omega)
  obtain ⟨μ, hμ⟩ : ∃ μ, μ = σ2 := ⟨_, rfl⟩
  rw [← hμ] at m1 m2 m3 m4 hM1 k0 hmv ⊢
  clear hμ
  refine o_aload_n (pc := 4) C dX5_runAll_4 rfl ?_
  refine gf_X5_77 (pc := 5) C dX5_runAll_5 ?_
  refine o_aload_n (pc := 8) C dX5_runAll_8 rfl ?_
  refine gf_X5_64 (pc := 9) C dX5_runAll_9 ?_
  rw [k0, ← hn]
  refine cl_X5_216 (pc := 12) C (c_X4_findBest hM1 (by omega)) (by omega) (by omega) (Nat.le_of_ble_eq_true rfl) dX5_runAll_12 (fun σ2 hq => ?_)
  obtain ⟨f2, f3, q, f4, f5⟩ := hq
  refine o_iconst (pc := 15) C dX5_runAll_15 ?_
  refine sti_1 (pc := 16) C dX5_runAll_16 ?_
  refine o_iconst (pc := 17) C dX5_runAll_17 ?_
  refine sti_2 (pc := 18) C dX5_runAll_18 ?_
  have hb := isBest_cong (by omega) hmv f5
  have kk : ∀ K, K ≠ 14 → K ≠ 15 → K ≠ 16 → σ2 K = σ K := fun K a b c => by rw [f3 K b c, m1 K a]
  exact L σ2 q (XI_ord hx kk f2) (isBest_lt hb) f4 (by rw [kk 0 (by decide) (by decide) (by decide)]; omega) hb kk (n + 1) 0 _ _ _ (by omega) (by omega) rfl rfl
