def P5_coil (σ : oMem) (a b d e : Int) : Int → oMem → Prop := (fun z σ' => z = σ 0 0 1 ∧ ((100 ≤ a ∧ a ≤ 2000) ∧ (1 ≤ b ∧ b ≤ 30000) ∧ (10 ≤ d ∧ d ≤ 5000) ∧ (1 ≤ e ∧ e ≤ 99)) ∧ σ 0 0 1 < 20 ∧ σ' = o_up (o_up (o_up (o_up (o_up σ 1 (σ 0 0 1).toNat 0 a) 1 (σ 0 0 1).toNat 1 b) 1 (σ 0 0 1).toNat 2 d) 1 (σ 0 0 1).toNat 3 e) 0 0 1 (σ 0 0 1 + 1))
def E5_coil (σ : oMem) (a b d e : Int) : String → Prop := (fun y => (y = xIAE ∧ ¬ ((100 ≤ a ∧ a ≤ 2000) ∧ (1 ≤ b ∧ b ≤ 30000) ∧ (10 ≤ d ∧ d ≤ 5000) ∧ (1 ≤ e ∧ e ≤ 99))) ∨ (y = xISE ∧ ((100 ≤ a ∧ a ≤ 2000) ∧ (1 ≤ b ∧ b ≤ 30000) ∧ (10 ≤ d ∧ d ≤ 5000) ∧ (1 ≤ e ∧ e ≤ 99)) ∧ ¬ σ 0 0 1 < 20))
def P5_defect (σ : oMem) (a b d : Int) : Int → oMem → Prop := (fun z σ' => okC σ a ∧ ((0 ≤ b ∧ b ≤ σ 1 a.toNat 2 - 1) ∧ (b + 1 ≤ d ∧ d ≤ σ 1 a.toNat 2)) ∧ (σ 1 a.toNat 10 = -1 ∧ σ 1 a.toNat 6 < 8) ∧ z = o_cutl σ' a.toNat ∧ ∃ pl : Nat, (pl : Int) ≤ σ 1 a.toNat 6 ∧ (0 < pl → σ 2 a.toNat (pl - 1) ≤ b) ∧ (∀ j : Nat, pl ≤ j → (j : Int) < σ 1 a.toNat 6 → b < σ 2 a.toNat j) ∧ σ' = o_up (o_rw (o_rw σ 2 a.toNat (o_ins (σ 2 a.toNat) (σ 1 a.toNat 6).toNat pl b)) 3 a.toNat (o_ins (σ 3 a.toNat) (σ 1 a.toNat 6).toNat pl d)) 1 a.toNat 6 (σ 1 a.toNat 6 + 1))
def E5_defect (σ : oMem) (a b d : Int) : String → Prop := (fun y => (y = xIOB ∧ ¬ okC σ a) ∨ (y = xIAE ∧ okC σ a ∧ ¬ ((0 ≤ b ∧ b ≤ σ 1 a.toNat 2 - 1) ∧ (b + 1 ≤ d ∧ d ≤ σ 1 a.toNat 2))) ∨ (y = xISE ∧ okC σ a ∧ ((0 ≤ b ∧ b ≤ σ 1 a.toNat 2 - 1) ∧ (b + 1 ≤ d ∧ d ≤ σ 1 a.toNat 2)) ∧ ¬ (σ 1 a.toNat 10 = -1 ∧ σ 1 a.toNat 6 < 8)))
def P5_setRules (σ : oMem) (a b d : Int) : Int → oMem → Prop := (fun z σ' => z = σ 0 0 7 ∧ ((0 ≤ a ∧ a ≤ 100) ∧ (0 ≤ b ∧ b ≤ 500) ∧ (2 ≤ d ∧ d ≤ 16)) ∧ σ' = o_up (o_up (o_up σ 0 0 7 a) 0 0 8 b) 0 0 9 d)
def E5_setRules (σ : oMem) (a b d : Int) : String → Prop := (fun y => y = xIAE ∧ ¬ ((0 ≤ a ∧ a ≤ 100) ∧ (0 ≤ b ∧ b ≤ 500) ∧ (2 ≤ d ∧ d ≤ 16)))
def P5_order (σ : oMem) (a b : Int) : Int → oMem → Prop := (fun z σ' => z = σ 0 0 3 ∧ ((20 ≤ a ∧ a ≤ 1000) ∧ (1 ≤ b ∧ b ≤ 50000)) ∧ σ 0 0 3 < 12 ∧ σ' = o_up (o_up (o_up σ 7 (σ 0 0 3).toNat 0 a) 7 (σ 0 0 3).toNat 1 b) 0 0 3 (σ 0 0 3 + 1))
def E5_order (σ : oMem) (a b : Int) : String → Prop := (fun y => (y = xIAE ∧ ¬ ((20 ≤ a ∧ a ≤ 1000) ∧ (1 ≤ b ∧ b ≤ 50000))) ∨ (y = xISE ∧ ((20 ≤ a ∧ a ≤ 1000) ∧ (1 ≤ b ∧ b ≤ 50000)) ∧ ¬ σ 0 0 3 < 12))
def P5_addSlit (σ : oMem) (a : Int) : Int → oMem → Prop := (fun z σ' => z = σ 8 10 1 + 1 ∧ (20 ≤ a ∧ a ≤ 1000) ∧ σ 8 10 1 < 15 ∧ σ' = o_up (o_up σ 9 10 (σ 8 10 1).toNat a) 8 10 1 (σ 8 10 1 + 1))
def E5_addSlit (σ : oMem) (a : Int) : String → Prop := (fun y => (y = xIAE ∧ ¬ (20 ≤ a ∧ a ≤ 1000)) ∨ (y = xISE ∧ (20 ≤ a ∧ a ≤ 1000) ∧ ¬ σ 8 10 1 < 15))
def P5_draftWidth (σ : oMem) (a : Int) : Int → oMem → Prop := (fun z σ' => z = σ 9 10 a.toNat ∧ (0 ≤ a ∧ a < σ 8 10 1) ∧ σ' = σ)
def E5_draftWidth (σ : oMem) (a : Int) : String → Prop := (fun y => y = xIOB ∧ ¬ (0 ≤ a ∧ a < σ 8 10 1))
def P5_keep (σ : oMem) : Int → oMem → Prop := (fun z σ' => z = σ 0 0 5 ∧ (0 < σ 8 10 1 ∧ σ 0 0 5 < 10) ∧ σ' = o_up (o_up (o_up (o_bl σ 9 (σ 0 0 5).toNat (σ 8 10 1).toNat (σ 9 10)) 8 (σ 0 0 5).toNat 1 (σ 8 10 1)) 8 10 1 0) 0 0 5 (σ 0 0 5 + 1))
def E5_keep (σ : oMem) : String → Prop := (fun y => y = xISE ∧ ¬ (0 < σ 8 10 1 ∧ σ 0 0 5 < 10))
def P5_fits (σ : oMem) (a b : Int) : Int → oMem → Prop := (fun z σ' => (z = (if o_fit σ a.toNat b.toNat then 1 else 0) ∧ (okP σ a ∧ okC σ b)) ∧ σ' = σ)
def E5_fits (σ : oMem) (a b : Int) : String → Prop := (fun y => y = xIOB ∧ ¬ (okP σ a ∧ okC σ b))
def P5_fill (σ : oMem) (a : Int) : Int → oMem → Prop := (fun z σ' => okC σ a ∧ isG (oWt σ (σ 1 a.toNat 3)) (σ 0 0 9) (σ 1 a.toNat 0 - 2 * σ 0 0 7) z ∧ (∃ n : Nat, n ≤ 15 ∧ σ' 8 10 1 = n ∧ isF (oWt σ (σ 1 a.toNat 3)) z n (σ' 9 10)) ∧ TB σ' ∧ (∀ K, K ≠ 8 → K ≠ 9 → K ≠ 10 → K ≠ 11 → K ≠ 12 → σ' K = σ K) ∧ ∀ q, q ≠ 10 → σ' 8 q = σ 8 q ∧ σ' 9 q = σ 9 q)
def E5_fill (σ : oMem) (a : Int) : String → Prop := (fun y => y = xIOB ∧ ¬ okC σ a)
def P5_fullestByTrying (σ : oMem) (a : Int) : Int → oMem → Prop := (fun z σ' => okC σ a ∧ σ 0 0 9 ≤ 8 ∧ isG (oWt σ (σ 1 a.toNat 3)) (σ 0 0 9) (σ 1 a.toNat 0 - 2 * σ 0 0 7) z ∧ (∀ K, K ≠ 10 → K ≠ 11 → σ' K = σ K))
def E5_fullestByTrying (σ : oMem) (a : Int) : String → Prop := (fun y => (y = xIOB ∧ ¬ okC σ a) ∨ (y = xISE ∧ okC σ a ∧ ¬ σ 0 0 9 ≤ 8))
def P5_run (σ : oMem) (a b : Int) : Int → oMem → Prop := (fun z σ' => (okC σ a ∧ okP σ b) ∧ (σ 1 a.toNat 10 = -1 ∧ o_fit σ b.toNat a.toNat) ∧ z = (o_run σ a.toNat b.toNat).2 ∧ σ' = (o_run σ a.toNat b.toNat).1)
def E5_run (σ : oMem) (a b : Int) : String → Prop := (fun y => (y = xIOB ∧ ¬ (okC σ a ∧ okP σ b)) ∨ (y = xISE ∧ (okC σ a ∧ okP σ b) ∧ ¬ (σ 1 a.toNat 10 = -1 ∧ o_fit σ b.toNat a.toNat)))
def P5_moves (σ : oMem) (a : Int) : Int → oMem → Prop := (fun z σ' => z = oMb σ (σ 0 0 10) a ∧ okP σ a ∧ σ' = σ)
def E5_moves (σ : oMem) (a : Int) : String → Prop := (fun y => y = xIOB ∧ ¬ okP σ a)
def P5_plan (σ : oMem) (a b : Int) : Int → oMem → Prop := (fun z σ' => (okC σ a ∧ okP σ b) ∧ (σ 1 a.toNat 10 = -1 ∧ o_fit σ b.toNat a.toNat ∧ (∀ i : Nat, (i : Int) < σ 0 0 14 → σ 17 0 i ≠ a) ∧ σ 0 0 14 < 7) ∧ z = σ 0 0 14 ∧ σ' = o_up (o_up (o_up σ 17 0 (σ 0 0 14).toNat a) 18 0 (σ 0 0 14).toNat b) 0 0 14 (σ 0 0 14 + 1))
def E5_plan (σ : oMem) (a b : Int) : String → Prop := (fun y => (y = xIOB ∧ ¬ (okC σ a ∧ okP σ b)) ∨ (y = xISE ∧ (okC σ a ∧ okP σ b) ∧ ¬ (σ 1 a.toNat 10 = -1 ∧ o_fit σ b.toNat a.toNat ∧ (∀ i : Nat, (i : Int) < σ 0 0 14 → σ 17 0 i ≠ a) ∧ σ 0 0 14 < 7)))
def P5_nextAt (σ : oMem) (a : Int) : Int → oMem → Prop := (fun z σ' => (0 ≤ a ∧ a < σ 0 0 14) ∧ (∃ q : Nat → Nat, isBest (mvX σ) (σ 0 0 14).toNat q ∧ z = q a.toNat) ∧ OM σ' ∧ ∀ K, K ≠ 14 → K ≠ 15 → K ≠ 16 → σ' K = σ K)
def E5_nextAt (σ : oMem) (a : Int) : String → Prop := (fun y => y = xIOB ∧ ¬ (0 ≤ a ∧ a < σ 0 0 14))
def P5_slits (σ : oMem) (a : Int) : Int → oMem → Prop := (fun z σ' => z = σ 1 a.toNat 10 ∧ okC σ a ∧ σ' = σ)
def E5_slits (σ : oMem) (a : Int) : String → Prop := (fun y => y = xIOB ∧ ¬ okC σ a)
def P5_slitWeight (σ : oMem) (a b : Int) : Int → oMem → Prop := (fun z σ' => z = σ 5 a.toNat b.toNat ∧ (okC σ a ∧ 0 ≤ b ∧ b < σ 1 a.toNat 10) ∧ σ' = σ)
def E5_slitWeight (σ : oMem) (a b : Int) : String → Prop := (fun y => y = xIOB ∧ ¬ (okC σ a ∧ 0 ≤ b ∧ b < σ 1 a.toNat 10))
def P5_slitOrder (σ : oMem) (a b : Int) : Int → oMem → Prop := (fun z σ' => z = σ 6 a.toNat b.toNat ∧ (okC σ a ∧ 0 ≤ b ∧ b < σ 1 a.toNat 10) ∧ σ' = σ)
def E5_slitOrder (σ : oMem) (a b : Int) : String → Prop := (fun y => y = xIOB ∧ ¬ (okC σ a ∧ 0 ≤ b ∧ b < σ 1 a.toNat 10))
def P5_lost (σ : oMem) (a b : Int) : Int → oMem → Prop := (fun z σ' => z = σ 1 a.toNat (11 + b.toNat) ∧ (okC σ a ∧ (0 ≤ b ∧ b ≤ 2)) ∧ σ' = σ)
def E5_lost (σ : oMem) (a b : Int) : String → Prop := (fun y => (y = xIOB ∧ ¬ okC σ a) ∨ (y = xIAE ∧ okC σ a ∧ ¬ (0 ≤ b ∧ b ≤ 2)))
def P5_delivered (σ : oMem) (a : Int) : Int → oMem → Prop := (fun z σ' => z = σ 7 a.toNat 2 ∧ okO σ a ∧ σ' = σ)
def E5_delivered (σ : oMem) (a : Int) : String → Prop := (fun y => y = xIOB ∧ ¬ okO σ a)
def P5_heatOf (σ : oMem) (a : Int) : Int → oMem → Prop := (fun z σ' => z = σ 7 a.toNat 3 ∧ okO σ a ∧ σ' = σ)
def E5_heatOf (σ : oMem) (a : Int) : String → Prop := (fun y => y = xIOB ∧ ¬ okO σ a)
theorem rw_coil_0 : oRow [(0, 14, 17, 13), (0, 14, 21, 15)] 9 xIAE 17 := ⟨[], ⟨0, 14, 17, 13⟩, [⟨0, 14, 21, 15⟩], rfl, fun _ h => absurd h List.not_mem_nil, rfl, by decide, kw_6_2, by decide, rfl⟩
theorem rw_coil_1 : oRow [(0, 14, 17, 13), (0, 14, 21, 15)] 9 xISE 21 := ⟨[⟨0, 14, 17, 13⟩], ⟨0, 14, 21, 15⟩, [], rfl, List.forall_mem_cons.mpr ⟨Or.inr ⟨by decide, xIAE, kw_6_2, List.mem_of_getElem? (i := 0) rfl⟩, fun _ h => absurd h List.not_mem_nil⟩, rfl, by decide, kw_6_3, by decide, rfl⟩
def L5_coil (σ : oMem) (a b d e : Int) : Int → oMem → Prop := (fun k σ1 => (k = 0 ∧ ∃ (z : Int) (σ0 : oMem), P5_coil σ a b d e z σ0 ∧ σ1 = o_up σ0 47 0 0 z) ∨ (k = 1 ∧ σ1 = σ ∧ E5_coil σ a b d e xIAE) ∨ (k = 2 ∧ σ1 = σ ∧ E5_coil σ a b d e xISE))
set_option maxRecDepth 100000 in
set_option maxHeartbeats 1000000 in
theorem c_L_coil {l : Launch} {g : oG} {σ : oMem} {a b d e : Int} (hfl : l.stackTraces = false) (hx : XI σ) (h1 : InR a) (h2 : InR b) (h3 : InR d) (h4 : InR e) : oHi l g yL_coil (.codeWith yL_coil cL_coil 7 (some .int) [(0, 14, 17, 13), (0, 14, 21, 15)]) 7 5 [.ref (g.2.1 0 0), oi a, oi b, oi d, oi e, .ref (g.2.1 47 0)] σ (L5_coil σ a b d e) := by
  refine oHi_of (own := RL) (by decide +kernel) rfl (by simp [oi, Value.category]) (by simp) (fun x C hN hT E => ?_)
  show oW l g x σ 0 [some (.ref (g.2.1 0 0)), some (oi a), some (oi b), some (oi d), some (oi e), some (.ref (g.2.1 47 0)), none] [] 0
  refine o_aload (pc := 0) C dL_coil_0 rfl ?_
  refine o_iconst (pc := 2) C dL_coil_2 ?_
  refine o_aload_n (pc := 3) C dL_coil_3 rfl ?_
  refine o_iload_n (pc := 4) C dL_coil_4 rfl ?_
  refine o_iload_n (pc := 5) C dL_coil_5 rfl ?_
  refine o_iload_n (pc := 6) C dL_coil_6 rfl ?_
  refine o_iload (pc := 7) C dL_coil_7 rfl ?_
  refine o_callVxh (n := 4) (As := [oi a, oi b, oi d, oi e]) (K := 0) (i := 0) (rest := [oi 0, .ref (g.2.1 47 0)]) hN hT C (c_X5_coil hfl hx h1 h2 h3 h4) kw_6_4 kw_6_5 kw_6_6 kw_1_2 kw_6_7 (by decide) ⟨_, _, _, rfl, rfl, rfl⟩ (by decide +kernel) (by decide) (by omega) (by omega) rfl (Nat.le_of_ble_eq_true rfl) dL_coil_9 (fun X hX => ?_) (fun z σ2 hq => ?_)
  · have hX0 : E5_coil σ a b d e X := hX
    rcases hX with ⟨rfl, hX⟩ | ⟨rfl, hX⟩
    · refine ⟨17, rw_coil_0, fun q => ?_⟩
      refine sta_6 (pc := 17) C dL_coil_17 ?_
      refine o_iconst (pc := 19) C dL_coil_19 ?_
      exact E _ _ _ _ _ dL_coil_20 rfl (Or.inr (Or.inl ⟨rfl, rfl, hX0⟩)) (by omega)
    · refine ⟨21, rw_coil_1, fun q => ?_⟩
      refine sta_6 (pc := 21) C dL_coil_21 ?_
      refine o_iconst (pc := 23) C dL_coil_23 ?_
      exact E _ _ _ _ _ dL_coil_24 rfl (Or.inr (Or.inr (⟨rfl, rfl, hX0⟩))) (by omega)
  have hq0 : P5_coil σ a b d e z σ2 := hq
  refine o_i2l (pc := 12) C dL_coil_12 ?_
  refine o_last (pc := 13) C dL_coil_13 ?_
  refine o_goto (pc := 14) C (tgt := 25) dL_coil_14 (by decide) ?_
  refine o_iconst (pc := 25) C dL_coil_25 ?_
  exact E _ _ _ _ _ dL_coil_26 rfl (Or.inl ⟨rfl, _, _, hq0, rfl⟩) (by omega)
theorem rw_defect_0 : oRow [(0, 12, 15, 21), (0, 12, 19, 13), (0, 12, 23, 15)] 7 xIOB 15 := ⟨[], ⟨0, 12, 15, 21⟩, [⟨0, 12, 19, 13⟩, ⟨0, 12, 23, 15⟩], rfl, fun _ h => absurd h List.not_mem_nil, rfl, by decide, kw_7_14, by decide, rfl⟩
theorem rw_defect_1 : oRow [(0, 12, 15, 21), (0, 12, 19, 13), (0, 12, 23, 15)] 7 xIAE 19 := ⟨[⟨0, 12, 15, 21⟩], ⟨0, 12, 19, 13⟩, [⟨0, 12, 23, 15⟩], rfl, List.forall_mem_cons.mpr ⟨Or.inr ⟨by decide, xIOB, kw_7_14, List.mem_of_getElem? (i := 1) rfl⟩, fun _ h => absurd h List.not_mem_nil⟩, rfl, by decide, kw_6_2, by decide, rfl⟩
theorem rw_defect_2 : oRow [(0, 12, 15, 21), (0, 12, 19, 13), (0, 12, 23, 15)] 7 xISE 23 := ⟨[⟨0, 12, 15, 21⟩, ⟨0, 12, 19, 13⟩], ⟨0, 12, 23, 15⟩, [], rfl, List.forall_mem_cons.mpr ⟨Or.inr ⟨by decide, xIOB, kw_7_14, List.mem_of_getElem? (i := 2) rfl⟩, List.forall_mem_cons.mpr ⟨Or.inr ⟨by decide, xIAE, kw_6_2, List.mem_of_getElem? (i := 0) rfl⟩, fun _ h => absurd h List.not_mem_nil⟩⟩, rfl, by decide, kw_6_3, by decide, rfl⟩
def L5_defect (σ : oMem) (a b d : Int) : Int → oMem → Prop := (fun k σ1 => (k = 0 ∧ ∃ (z : Int) (σ0 : oMem), P5_defect σ a b d z σ0 ∧ σ1 = o_up σ0 47 0 0 z) ∨ (k = 1 ∧ σ1 = σ ∧ E5_defect σ a b d xIOB) ∨ (k = 2 ∧ σ1 = σ ∧ E5_defect σ a b d xIAE) ∨ (k = 3 ∧ σ1 = σ ∧ E5_defect σ a b d xISE))
set_option maxRecDepth 100000 in
set_option maxHeartbeats 1000000 in
theorem c_L_defect {l : Launch} {g : oG} {σ : oMem} {a b d : Int} (hfl : l.stackTraces = false) (hx : XI σ) (h1 : InR a) (h2 : InR b) (h3 : InR d) : oHi l g yL_defect (.codeWith yL_defect cL_defect 6 (some .int) [(0, 12, 15, 21), (0, 12, 19, 13), (0, 12, 23, 15)]) 7 4 [.ref (g.2.1 0 0), oi a, oi b, oi d, .ref (g.2.1 47 0)] σ (L5_defect σ a b d) := by
  refine oHi_of (own := RL) (by decide +kernel) rfl (by simp [oi, Value.category]) (by simp) (fun x C hN hT E => ?_)
  show oW l g x σ 0 [some (.ref (g.2.1 0 0)), some (oi a), some (oi b), some (oi d), some (.ref (g.2.1 47 0)), none] [] 0
  refine o_aload (pc := 0) C dL_defect_0 rfl ?_
  refine o_iconst (pc := 2) C dL_defect_2 ?_
  refine o_aload_n (pc := 3) C dL_defect_3 rfl ?_
  refine o_iload_n (pc := 4) C dL_defect_4 rfl ?_
  refine o_iload_n (pc := 5) C dL_defect_5 rfl ?_
  refine o_iload_n (pc := 6) C dL_defect_6 rfl ?_
  refine o_callVxh (n := 3) (As := [oi a, oi b, oi d]) (K := 0) (i := 0) (rest := [oi 0, .ref (g.2.1 47 0)]) hN hT C (c_X5_defect hfl hx h1 h2 h3) kw_7_15 kw_7_16 kw_7_17 kw_1_2 kw_7_18 (by decide) ⟨_, _, _, rfl, rfl, rfl⟩ (by decide +kernel) (by decide) (by omega) (by omega) rfl (Nat.le_of_ble_eq_true rfl) dL_defect_7 (fun X hX => ?_) (fun z σ2 hq => ?_)
  · have hX0 : E5_defect σ a b d X := hX
    rcases hX with ⟨rfl, hX⟩ | ⟨rfl, hX⟩ | ⟨rfl, hX⟩
    · refine ⟨15, rw_defect_0, fun q => ?_⟩
      refine sta_5 (pc := 15) C dL_defect_15 ?_
      refine o_iconst (pc := 17) C dL_defect_17 ?_
      exact E _ _ _ _ _ dL_defect_18 rfl (Or.inr (Or.inl ⟨rfl, rfl, hX0⟩)) (by omega)
    · refine ⟨19, rw_defect_1, fun q => ?_⟩
      refine sta_5 (pc := 19) C dL_defect_19 ?_
      refine o_iconst (pc := 21) C dL_defect_21 ?_
      exact E _ _ _ _ _ dL_defect_22 rfl (Or.inr (Or.inr (Or.inl ⟨rfl, rfl, hX0⟩))) (by omega)
    · refine ⟨23, rw_defect_2, fun q => ?_⟩
      refine sta_5 (pc := 23) C dL_defect_23 ?_
      refine o_iconst (pc := 25) C dL_defect_25 ?_
      exact E _ _ _ _ _ dL_defect_26 rfl (Or.inr (Or.inr (Or.inr (⟨rfl, rfl, hX0⟩)))) (by omega)
  have hq0 : P5_defect σ a b d z σ2 := hq
  refine o_i2l (pc := 10) C dL_defect_10 ?_
  refine o_last (pc := 11) C dL_defect_11 ?_
  refine o_goto (pc := 12) C (tgt := 27) dL_defect_12 (by decide) ?_
  refine o_iconst (pc := 27) C dL_defect_27 ?_
  exact E _ _ _ _ _ dL_defect_28 rfl (Or.inl ⟨rfl, _, _, hq0, rfl⟩) (by omega)
theorem rw_setRules_0 : oRow [(0, 12, 15, 13)] 7 xIAE 15 := ⟨[], ⟨0, 12, 15, 13⟩, [], rfl, fun _ h => absurd h List.not_mem_nil, rfl, by decide, kw_6_2, by decide, rfl⟩
def L5_setRules (σ : oMem) (a b d : Int) : Int → oMem → Prop := (fun k σ1 => (k = 0 ∧ ∃ (z : Int) (σ0 : oMem), P5_setRules σ a b d z σ0 ∧ σ1 = o_up σ0 47 0 0 z) ∨ (k = 1 ∧ σ1 = σ ∧ E5_setRules σ a b d xIAE))
set_option maxRecDepth 100000 in
set_option maxHeartbeats 1000000 in
theorem c_L_setRules {l : Launch} {g : oG} {σ : oMem} {a b d : Int} (hfl : l.stackTraces = false) (hx : XI σ) (h1 : InR a) (h2 : InR b) (h3 : InR d) : oHi l g yL_setRules (.codeWith yL_setRules cL_setRules 6 (some .int) [(0, 12, 15, 13)]) 7 3 [.ref (g.2.1 0 0), oi a, oi b, oi d, .ref (g.2.1 47 0)] σ (L5_setRules σ a b d) := by
  refine oHi_of (own := RL) (by decide +kernel) rfl (by simp [oi, Value.category]) (by simp) (fun x C hN hT E => ?_)
  show oW l g x σ 0 [some (.ref (g.2.1 0 0)), some (oi a), some (oi b), some (oi d), some (.ref (g.2.1 47 0)), none] [] 0
  refine o_aload (pc := 0) C dL_setRules_0 rfl ?_
  refine o_iconst (pc := 2) C dL_setRules_2 ?_
  refine o_aload_n (pc := 3) C dL_setRules_3 rfl ?_
  refine o_iload_n (pc := 4) C dL_setRules_4 rfl ?_
  refine o_iload_n (pc := 5) C dL_setRules_5 rfl ?_
  refine o_iload_n (pc := 6) C dL_setRules_6 rfl ?_
  refine o_callVxh (n := 3) (As := [oi a, oi b, oi d]) (K := 0) (i := 0) (rest := [oi 0, .ref (g.2.1 47 0)]) hN hT C (c_X5_setRules hfl hx h1 h2 h3) kw_9_17 kw_9_18 kw_9_19 kw_1_2 kw_9_20 (by decide) ⟨_, _, _, rfl, rfl, rfl⟩ (by decide +kernel) (by decide) (by omega) (by omega) rfl (Nat.le_of_ble_eq_true rfl) dL_setRules_7 (fun X hX => ?_) (fun z σ2 hq => ?_)
  · have hX0 : E5_setRules σ a b d X := hX
    obtain ⟨rfl, hX⟩ := hX
    refine ⟨15, rw_setRules_0, fun q => ?_⟩
    refine sta_5 (pc := 15) C dL_setRules_15 ?_
    refine o_iconst (pc := 17) C dL_setRules_17 ?_
    exact E _ _ _ _ _ dL_setRules_18 rfl (Or.inr ⟨rfl, rfl, hX0⟩) (by omega)
  have hq0 : P5_setRules σ a b d z σ2 := hq
  refine o_i2l (pc := 10) C dL_setRules_10 ?_
  refine o_last (pc := 11) C dL_setRules_11 ?_
  refine o_goto (pc := 12) C (tgt := 19) dL_setRules_12 (by decide) ?_
  refine o_iconst (pc := 19) C dL_setRules_19 ?_
  exact E _ _ _ _ _ dL_setRules_20 rfl (Or.inl ⟨rfl, _, _, hq0, rfl⟩) (by omega)
theorem rw_order_0 : oRow [(0, 10, 13, 13), (0, 10, 17, 15)] 5 xIAE 13 := ⟨[], ⟨0, 10, 13, 13⟩, [⟨0, 10, 17, 15⟩], rfl, fun _ h => absurd h List.not_mem_nil, rfl, by decide, kw_6_2, by decide, rfl⟩
theorem rw_order_1 : oRow [(0, 10, 13, 13), (0, 10, 17, 15)] 5 xISE 17 := ⟨[⟨0, 10, 13, 13⟩], ⟨0, 10, 17, 15⟩, [], rfl, List.forall_mem_cons.mpr ⟨Or.inr ⟨by decide, xIAE, kw_6_2, List.mem_of_getElem? (i := 0) rfl⟩, fun _ h => absurd h List.not_mem_nil⟩, rfl, by decide, kw_6_3, by decide, rfl⟩
def L5_order (σ : oMem) (a b : Int) : Int → oMem → Prop := (fun k σ1 => (k = 0 ∧ ∃ (z : Int) (σ0 : oMem), P5_order σ a b z σ0 ∧ σ1 = o_up σ0 47 0 0 z) ∨ (k = 1 ∧ σ1 = σ ∧ E5_order σ a b xIAE) ∨ (k = 2 ∧ σ1 = σ ∧ E5_order σ a b xISE))
set_option maxRecDepth 100000 in
set_option maxHeartbeats 1000000 in
theorem c_L_order {l : Launch} {g : oG} {σ : oMem} {a b : Int} (hfl : l.stackTraces = false) (hx : XI σ) (h1 : InR a) (h2 : InR b) : oHi l g yL_order (.codeWith yL_order cL_order 5 (some .int) [(0, 10, 13, 13), (0, 10, 17, 15)]) 7 3 [.ref (g.2.1 0 0), oi a, oi b, .ref (g.2.1 47 0)] σ (L5_order σ a b) := by
  refine oHi_of (own := RL) (by decide +kernel) rfl (by simp [oi, Value.category]) (by simp) (fun x C hN hT E => ?_)
  show oW l g x σ 0 [some (.ref (g.2.1 0 0)), some (oi a), some (oi b), some (.ref (g.2.1 47 0)), none] [] 0
  refine o_aload_n (pc := 0) C dL_order_0 rfl ?_
  refine o_iconst (pc := 1) C dL_order_1 ?_
  refine o_aload_n (pc := 2) C dL_order_2 rfl ?_
  refine o_iload_n (pc := 3) C dL_order_3 rfl ?_
  refine o_iload_n (pc := 4) C dL_order_4 rfl ?_
  refine o_callVxh (n := 2) (As := [oi a, oi b]) (K := 0) (i := 0) (rest := [oi 0, .ref (g.2.1 47 0)]) hN hT C (c_X5_order hfl hx h1 h2) kw_10_8 kw_10_9 kw_10_10 kw_1_2 kw_10_11 (by decide) ⟨_, _, _, rfl, rfl, rfl⟩ (by decide +kernel) (by decide) (by omega) (by omega) rfl (Nat.le_of_ble_eq_true rfl) dL_order_5 (fun X hX => ?_) (fun z σ2 hq => ?_)
  · have hX0 : E5_order σ a b X := hX
    rcases hX with ⟨rfl, hX⟩ | ⟨rfl, hX⟩
    · refine ⟨13, rw_order_0, fun q => ?_⟩
      refine sta_4 (pc := 13) C dL_order_13 ?_
      refine o_iconst (pc := 15) C dL_order_15 ?_
      exact E _ _ _ _ _ dL_order_16 rfl (Or.inr (Or.inl ⟨rfl, rfl, hX0⟩)) (by omega)
    · refine ⟨17, rw_order_1, fun q => ?_⟩
      refine sta_4 (pc := 17) C dL_order_17 ?_
      refine o_iconst (pc := 19) C dL_order_19 ?_
      exact E _ _ _ _ _ dL_order_20 rfl (Or.inr (Or.inr (⟨rfl, rfl, hX0⟩))) (by omega)
  have hq0 : P5_order σ a b z σ2 := hq
  refine o_i2l (pc := 8) C dL_order_8 ?_
  refine o_last (pc := 9) C dL_order_9 ?_
  refine o_goto (pc := 10) C (tgt := 21) dL_order_10 (by decide) ?_
  refine o_iconst (pc := 21) C dL_order_21 ?_
  exact E _ _ _ _ _ dL_order_22 rfl (Or.inl ⟨rfl, _, _, hq0, rfl⟩) (by omega)
theorem rw_addSlit_0 : oRow [(0, 9, 12, 13), (0, 9, 15, 15)] 4 xIAE 12 := ⟨[], ⟨0, 9, 12, 13⟩, [⟨0, 9, 15, 15⟩], rfl, fun _ h => absurd h List.not_mem_nil, rfl, by decide, kw_6_2, by decide, rfl⟩
theorem rw_addSlit_1 : oRow [(0, 9, 12, 13), (0, 9, 15, 15)] 4 xISE 15 := ⟨[⟨0, 9, 12, 13⟩], ⟨0, 9, 15, 15⟩, [], rfl, List.forall_mem_cons.mpr ⟨Or.inr ⟨by decide, xIAE, kw_6_2, List.mem_of_getElem? (i := 0) rfl⟩, fun _ h => absurd h List.not_mem_nil⟩, rfl, by decide, kw_6_3, by decide, rfl⟩
def L5_addSlit (σ : oMem) (a : Int) : Int → oMem → Prop := (fun k σ1 => (k = 0 ∧ ∃ (z : Int) (σ0 : oMem), P5_addSlit σ a z σ0 ∧ σ1 = o_up σ0 47 0 0 z) ∨ (k = 1 ∧ σ1 = σ ∧ E5_addSlit σ a xIAE) ∨ (k = 2 ∧ σ1 = σ ∧ E5_addSlit σ a xISE))
set_option maxRecDepth 100000 in
set_option maxHeartbeats 1000000 in
theorem c_L_addSlit {l : Launch} {g : oG} {σ : oMem} {a : Int} (hfl : l.stackTraces = false) (hx : XI σ) (h1 : InR a) : oHi l g yL_addSlit (.codeWith yL_addSlit cL_addSlit 4 (some .int) [(0, 9, 12, 13), (0, 9, 15, 15)]) 7 2 [.ref (g.2.1 0 0), oi a, .ref (g.2.1 47 0)] σ (L5_addSlit σ a) := by
  refine oHi_of (own := RL) (by decide +kernel) rfl (by simp [oi, Value.category]) (by simp) (fun x C hN hT E => ?_)
  show oW l g x σ 0 [some (.ref (g.2.1 0 0)), some (oi a), some (.ref (g.2.1 47 0)), none] [] 0
  refine o_aload_n (pc := 0) C dL_addSlit_0 rfl ?_
  refine o_iconst (pc := 1) C dL_addSlit_1 ?_
  refine o_aload_n (pc := 2) C dL_addSlit_2 rfl ?_
  refine o_iload_n (pc := 3) C dL_addSlit_3 rfl ?_
  refine o_callVxh (n := 1) (As := [oi a]) (K := 0) (i := 0) (rest := [oi 0, .ref (g.2.1 47 0)]) hN hT C (c_X5_addSlit hfl hx h1) kw_11_1 kw_11_2 kw_11_3 kw_1_2 kw_11_4 (by decide) ⟨_, _, _, rfl, rfl, rfl⟩ (by decide +kernel) (by decide) (by omega) (by omega) rfl (Nat.le_of_ble_eq_true rfl) dL_addSlit_4 (fun X hX => ?_) (fun z σ2 hq => ?_)
  · have hX0 : E5_addSlit σ a X := hX
    rcases hX with ⟨rfl, hX⟩ | ⟨rfl, hX⟩
    · refine ⟨12, rw_addSlit_0, fun q => ?_⟩
      refine sta_3 (pc := 12) C dL_addSlit_12 ?_
      refine o_iconst (pc := 13) C dL_addSlit_13 ?_
      exact E _ _ _ _ _ dL_addSlit_14 rfl (Or.inr (Or.inl ⟨rfl, rfl, hX0⟩)) (by omega)
    · refine ⟨15, rw_addSlit_1, fun q => ?_⟩
      refine sta_3 (pc := 15) C dL_addSlit_15 ?_
      refine o_iconst (pc := 16) C dL_addSlit_16 ?_
      exact E _ _ _ _ _ dL_addSlit_17 rfl (Or.inr (Or.inr (⟨rfl, rfl, hX0⟩))) (by omega)
  have hq0 : P5_addSlit σ a z σ2 := hq
  refine o_i2l (pc := 7) C dL_addSlit_7 ?_
  refine o_last (pc := 8) C dL_addSlit_8 ?_
  refine o_goto (pc := 9) C (tgt := 18) dL_addSlit_9 (by decide) ?_
  refine o_iconst (pc := 18) C dL_addSlit_18 ?_
  exact E _ _ _ _ _ dL_addSlit_19 rfl (Or.inl ⟨rfl, _, _, hq0, rfl⟩) (by omega)
theorem rw_draftWidth_0 : oRow [(0, 9, 12, 21)] 4 xIOB 12 := ⟨[], ⟨0, 9, 12, 21⟩, [], rfl, fun _ h => absurd h List.not_mem_nil, rfl, by decide, kw_7_14, by decide, rfl⟩
def L5_draftWidth (σ : oMem) (a : Int) : Int → oMem → Prop := (fun k σ1 => (k = 0 ∧ ∃ (z : Int) (σ0 : oMem), P5_draftWidth σ a z σ0 ∧ σ1 = o_up σ0 47 0 0 z) ∨ (k = 1 ∧ σ1 = σ ∧ E5_draftWidth σ a xIOB))
set_option maxRecDepth 100000 in
set_option maxHeartbeats 1000000 in
theorem c_L_draftWidth {l : Launch} {g : oG} {σ : oMem} {a : Int} (hfl : l.stackTraces = false) (hx : XI σ) (h1 : InR a) : oHi l g yL_draftWidth (.codeWith yL_draftWidth cL_draftWidth 4 (some .int) [(0, 9, 12, 21)]) 7 1 [.ref (g.2.1 0 0), oi a, .ref (g.2.1 47 0)] σ (L5_draftWidth σ a) := by
  refine oHi_of (own := RL) (by decide +kernel) rfl (by simp [oi, Value.category]) (by simp) (fun x C hN hT E => ?_)
  show oW l g x σ 0 [some (.ref (g.2.1 0 0)), some (oi a), some (.ref (g.2.1 47 0)), none] [] 0
  refine o_aload_n (pc := 0) C dL_draftWidth_0 rfl ?_
  refine o_iconst (pc := 1) C dL_draftWidth_1 ?_
  refine o_aload_n (pc := 2) C dL_draftWidth_2 rfl ?_
  refine o_iload_n (pc := 3) C dL_draftWidth_3 rfl ?_
  refine o_callVxh (n := 1) (As := [oi a]) (K := 0) (i := 0) (rest := [oi 0, .ref (g.2.1 47 0)]) hN hT C (c_X5_draftWidth hfl hx h1) kw_12_22 kw_12_23 kw_13_0 kw_1_2 kw_13_1 (by decide) ⟨_, _, _, rfl, rfl, rfl⟩ (by decide +kernel) (by decide) (by omega) (by omega) rfl (Nat.le_of_ble_eq_true rfl) dL_draftWidth_4 (fun X hX => ?_) (fun z σ2 hq => ?_)
  · have hX0 : E5_draftWidth σ a X := hX
    obtain ⟨rfl, hX⟩ := hX
    refine ⟨12, rw_draftWidth_0, fun q => ?_⟩
    refine sta_3 (pc := 12) C dL_draftWidth_12 ?_
    refine o_iconst (pc := 13) C dL_draftWidth_13 ?_
    exact E _ _ _ _ _ dL_draftWidth_14 rfl (Or.inr ⟨rfl, rfl, hX0⟩) (by omega)
  have hq0 : P5_draftWidth σ a z σ2 := hq
  refine o_i2l (pc := 7) C dL_draftWidth_7 ?_
  refine o_last (pc := 8) C dL_draftWidth_8 ?_
  refine o_goto (pc := 9) C (tgt := 15) dL_draftWidth_9 (by decide) ?_
  refine o_iconst (pc := 15) C dL_draftWidth_15 ?_
  exact E _ _ _ _ _ dL_draftWidth_16 rfl (Or.inl ⟨rfl, _, _, hq0, rfl⟩) (by omega)
theorem rw_keep_0 : oRow [(0, 8, 11, 15)] 3 xISE 11 := ⟨[], ⟨0, 8, 11, 15⟩, [], rfl, fun _ h => absurd h List.not_mem_nil, rfl, by decide, kw_6_3, by decide, rfl⟩
def L5_keep (σ : oMem) : Int → oMem → Prop := (fun k σ1 => (k = 0 ∧ ∃ (z : Int) (σ0 : oMem), P5_keep σ z σ0 ∧ σ1 = o_up σ0 47 0 0 z) ∨ (k = 1 ∧ σ1 = σ ∧ E5_keep σ xISE))
set_option maxRecDepth 100000 in
set_option maxHeartbeats 1000000 in
theorem c_L_keep {l : Launch} {g : oG} {σ : oMem} (hfl : l.stackTraces = false) (hx : XI σ)  : oHi l g yL_keep (.codeWith yL_keep cL_keep 3 (some .int) [(0, 8, 11, 15)]) 7 1 [.ref (g.2.1 0 0), .ref (g.2.1 47 0)] σ (L5_keep σ) := by
  refine oHi_of (own := RL) (by decide +kernel) rfl (by simp [oi, Value.category]) (by simp) (fun x C hN hT E => ?_)
  show oW l g x σ 0 [some (.ref (g.2.1 0 0)), some (.ref (g.2.1 47 0)), none] [] 0
  refine o_aload_n (pc := 0) C dL_keep_0 rfl ?_
  refine o_iconst (pc := 1) C dL_keep_1 ?_
  refine o_aload_n (pc := 2) C dL_keep_2 rfl ?_
  refine o_callVxh (n := 0) (As := []) (K := 0) (i := 0) (rest := [oi 0, .ref (g.2.1 47 0)]) hN hT C (c_X5_keep hfl hx) kw_13_12 kw_13_13 kw_13_14 kw_1_2 kw_13_15 (by decide) ⟨_, _, _, rfl, rfl, rfl⟩ (by decide +kernel) (by decide) (by omega) (by omega) rfl (Nat.le_of_ble_eq_true rfl) dL_keep_3 (fun X hX => ?_) (fun z σ2 hq => ?_)
  · have hX0 : E5_keep σ X := hX
    obtain ⟨rfl, hX⟩ := hX
    refine ⟨11, rw_keep_0, fun q => ?_⟩
    refine sta_2 (pc := 11) C dL_keep_11 ?_
    refine o_iconst (pc := 12) C dL_keep_12 ?_
    exact E _ _ _ _ _ dL_keep_13 rfl (Or.inr ⟨rfl, rfl, hX0⟩) (by omega)
  have hq0 : P5_keep σ z σ2 := hq
  refine o_i2l (pc := 6) C dL_keep_6 ?_
  refine o_last (pc := 7) C dL_keep_7 ?_
  refine o_goto (pc := 8) C (tgt := 14) dL_keep_8 (by decide) ?_
  refine o_iconst (pc := 14) C dL_keep_14 ?_
  exact E _ _ _ _ _ dL_keep_15 rfl (Or.inl ⟨rfl, _, _, hq0, rfl⟩) (by omega)
theorem rw_fits_0 : oRow [(0, 17, 20, 21)] 5 xIOB 20 := ⟨[], ⟨0, 17, 20, 21⟩, [], rfl, fun _ h => absurd h List.not_mem_nil, rfl, by decide, kw_7_14, by decide, rfl⟩
def L5_fits (σ : oMem) (a b : Int) : Int → oMem → Prop := (fun k σ1 => (k = 0 ∧ ∃ (z : Int) (σ0 : oMem), P5_fits σ a b z σ0 ∧ σ1 = o_up σ0 47 0 0 z) ∨ (k = 1 ∧ σ1 = σ ∧ E5_fits σ a b xIOB))
set_option maxRecDepth 100000 in
set_option maxHeartbeats 1000000 in
theorem c_L_fits {l : Launch} {g : oG} {σ : oMem} {a b : Int} (hfl : l.stackTraces = false) (hx : XI σ) (h1 : InR a) (h2 : InR b) : oHi l g yL_fits (.codeWith yL_fits cL_fits 5 (some .int) [(0, 17, 20, 21)]) 7 2 [.ref (g.2.1 0 0), oi a, oi b, .ref (g.2.1 47 0)] σ (L5_fits σ a b) := by
  refine oHi_of (own := RL) (by decide +kernel) rfl (by simp [oi, Value.category]) (by simp) (fun x C hN hT E => ?_)
  show oW l g x σ 0 [some (.ref (g.2.1 0 0)), some (oi a), some (oi b), some (.ref (g.2.1 47 0)), none] [] 0
  refine o_aload_n (pc := 0) C dL_fits_0 rfl ?_
  refine o_iconst (pc := 1) C dL_fits_1 ?_
  refine o_aload_n (pc := 2) C dL_fits_2 rfl ?_
  refine o_iload_n (pc := 3) C dL_fits_3 rfl ?_
  refine o_iload_n (pc := 4) C dL_fits_4 rfl ?_
  refine o_callVxh (n := 2) (As := [oi a, oi b]) (K := 0) (i := 0) (rest := [oi 0, .ref (g.2.1 47 0)]) hN hT C (c_X5_fits hfl hx h1 h2) kw_14_5 kw_14_6 kw_14_7 kw_1_2 kw_14_8 (by decide) ⟨_, _, _, rfl, rfl, rfl⟩ (by decide +kernel) (by decide) (by omega) (by omega) rfl (Nat.le_of_ble_eq_true rfl) dL_fits_5 (fun X hX => ?_) (fun z σ2 hq => ?_)
  · have hX0 : E5_fits σ a b X := hX
    obtain ⟨rfl, hX⟩ := hX
    refine ⟨20, rw_fits_0, fun q => ?_⟩
    refine sta_4 (pc := 20) C dL_fits_20 ?_
    refine o_iconst (pc := 22) C dL_fits_22 ?_
    exact E _ _ _ _ _ dL_fits_23 rfl (Or.inr ⟨rfl, rfl, hX0⟩) (by omega)
  have hq0 : P5_fits σ a b z σ2 := hq
  have bz : (z = 0 ∧ True) ∨ (z = 1 ∧ True) := by rw [hq.1.1]; exact (if h : o_fit σ a.toNat b.toNat then Or.inr ⟨if_pos h, trivial⟩ else Or.inl ⟨if_neg h, trivial⟩)
  rcases bz with ⟨rfl, bz⟩ | ⟨rfl, bz⟩
  · refine o_if_eq (pc := 8) C (tgt := 15) dL_fits_8 (by decide) (by decide) (fun _ => ?_) (fun q => absurd rfl q)
    refine o_lconst (pc := 15) C dL_fits_15 (z := 0) rfl ?_
    refine o_last (pc := 16) C dL_fits_16 ?_
    refine o_goto (pc := 17) C (tgt := 24) dL_fits_17 (by decide) ?_
    refine o_iconst (pc := 24) C dL_fits_24 ?_
    exact E _ _ _ _ _ dL_fits_25 rfl (Or.inl ⟨rfl, _, _, hq0, rfl⟩) (by omega)
  · refine o_if_eq (pc := 8) C (tgt := 15) dL_fits_8 (by decide) (by decide) (fun q => absurd q (by decide)) (fun _ => ?_)
    refine o_lconst (pc := 11) C dL_fits_11 (z := 1) rfl ?_
    refine o_goto (pc := 12) C (tgt := 16) dL_fits_12 (by decide) ?_
    refine o_last (pc := 16) C dL_fits_16 ?_
    refine o_goto (pc := 17) C (tgt := 24) dL_fits_17 (by decide) ?_
    refine o_iconst (pc := 24) C dL_fits_24 ?_
    exact E _ _ _ _ _ dL_fits_25 rfl (Or.inl ⟨rfl, _, _, hq0, rfl⟩) (by omega)
theorem rw_fill_0 : oRow [(0, 9, 12, 21)] 4 xIOB 12 := ⟨[], ⟨0, 9, 12, 21⟩, [], rfl, fun _ h => absurd h List.not_mem_nil, rfl, by decide, kw_7_14, by decide, rfl⟩
def L5_fill (σ : oMem) (a : Int) : Int → oMem → Prop := (fun k σ1 => (k = 0 ∧ ∃ (z : Int) (σ0 : oMem), P5_fill σ a z σ0 ∧ σ1 = o_up σ0 47 0 0 z) ∨ (k = 1 ∧ σ1 = σ ∧ E5_fill σ a xIOB))
set_option maxRecDepth 100000 in
set_option maxHeartbeats 1000000 in
theorem c_L_fill {l : Launch} {g : oG} {σ : oMem} {a : Int} (hfl : l.stackTraces = false) (hx : XI σ) (h1 : InR a) : oHi l g yL_fill (.codeWith yL_fill cL_fill 4 (some .int) [(0, 9, 12, 21)]) 7 1 [.ref (g.2.1 0 0), oi a, .ref (g.2.1 47 0)] σ (L5_fill σ a) := by
  refine oHi_of (own := RL) (by decide +kernel) rfl (by simp [oi, Value.category]) (by simp) (fun x C hN hT E => ?_)
  show oW l g x σ 0 [some (.ref (g.2.1 0 0)), some (oi a), some (.ref (g.2.1 47 0)), none] [] 0
  refine o_aload_n (pc := 0) C dL_fill_0 rfl ?_
  refine o_iconst (pc := 1) C dL_fill_1 ?_
  refine o_aload_n (pc := 2) C dL_fill_2 rfl ?_
  refine o_iload_n (pc := 3) C dL_fill_3 rfl ?_
  refine o_callVxh (n := 1) (As := [oi a]) (K := 0) (i := 0) (rest := [oi 0, .ref (g.2.1 47 0)]) hN hT C (c_X5_fill hfl hx h1) kw_15_22 kw_15_23 kw_16_0 kw_1_2 kw_16_1 (by decide) ⟨_, _, _, rfl, rfl, rfl⟩ (by decide +kernel) (by decide) (by omega) (by omega) rfl (Nat.le_of_ble_eq_true rfl) dL_fill_4 (fun X hX => ?_) (fun z σ2 hq => ?_)
  · have hX0 : E5_fill σ a X := hX
    obtain ⟨rfl, hX⟩ := hX
    refine ⟨12, rw_fill_0, fun q => ?_⟩
    refine sta_3 (pc := 12) C dL_fill_12 ?_
    refine o_iconst (pc := 13) C dL_fill_13 ?_
    exact E _ _ _ _ _ dL_fill_14 rfl (Or.inr ⟨rfl, rfl, hX0⟩) (by omega)
  have hq0 : P5_fill σ a z σ2 := hq
  refine o_i2l (pc := 7) C dL_fill_7 ?_
  refine o_last (pc := 8) C dL_fill_8 ?_
  refine o_goto (pc := 9) C (tgt := 15) dL_fill_9 (by decide) ?_
  refine o_iconst (pc := 15) C dL_fill_15 ?_
  exact E _ _ _ _ _ dL_fill_16 rfl (Or.inl ⟨rfl, _, _, hq0, rfl⟩) (by omega)
theorem rw_fullestByTrying_0 : oRow [(0, 9, 12, 21), (0, 9, 15, 15)] 4 xIOB 12 := ⟨[], ⟨0, 9, 12, 21⟩, [⟨0, 9, 15, 15⟩], rfl, fun _ h => absurd h List.not_mem_nil, rfl, by decide, kw_7_14, by decide, rfl⟩
theorem rw_fullestByTrying_1 : oRow [(0, 9, 12, 21), (0, 9, 15, 15)] 4 xISE 15 := ⟨[⟨0, 9, 12, 21⟩], ⟨0, 9, 15, 15⟩, [], rfl, List.forall_mem_cons.mpr ⟨Or.inr ⟨by decide, xIOB, kw_7_14, List.mem_of_getElem? (i := 2) rfl⟩, fun _ h => absurd h List.not_mem_nil⟩, rfl, by decide, kw_6_3, by decide, rfl⟩
def L5_fullestByTrying (σ : oMem) (a : Int) : Int → oMem → Prop := (fun k σ1 => (k = 0 ∧ ∃ (z : Int) (σ0 : oMem), P5_fullestByTrying σ a z σ0 ∧ σ1 = o_up σ0 47 0 0 z) ∨ (k = 1 ∧ σ1 = σ ∧ E5_fullestByTrying σ a xIOB) ∨ (k = 2 ∧ σ1 = σ ∧ E5_fullestByTrying σ a xISE))
set_option maxRecDepth 100000 in
set_option maxHeartbeats 1000000 in
theorem c_L_fullestByTrying {l : Launch} {g : oG} {σ : oMem} {a : Int} (hfl : l.stackTraces = false) (hx : XI σ) (h1 : InR a) : oHi l g yL_fullestByTrying (.codeWith yL_fullestByTrying cL_fullestByTrying 4 (some .int) [(0, 9, 12, 21), (0, 9, 15, 15)]) 14 2 [.ref (g.2.1 0 0), oi a, .ref (g.2.1 47 0)] σ (L5_fullestByTrying σ a) := by
  refine oHi_of (own := RL) (by decide +kernel) rfl (by simp [oi, Value.category]) (by simp) (fun x C hN hT E => ?_)
  show oW l g x σ 0 [some (.ref (g.2.1 0 0)), some (oi a), some (.ref (g.2.1 47 0)), none] [] 0
  refine o_aload_n (pc := 0) C dL_fullestByTrying_0 rfl ?_
  refine o_iconst (pc := 1) C dL_fullestByTrying_1 ?_
  refine o_aload_n (pc := 2) C dL_fullestByTrying_2 rfl ?_
  refine o_iload_n (pc := 3) C dL_fullestByTrying_3 rfl ?_
  refine o_callVxh (n := 1) (As := [oi a]) (K := 0) (i := 0) (rest := [oi 0, .ref (g.2.1 47 0)]) hN hT C (c_X5_fullestByTrying hfl hx h1) kw_17_23 kw_18_0 kw_18_1 kw_1_2 kw_18_2 (by decide) ⟨_, _, _, rfl, rfl, rfl⟩ (by decide +kernel) (by decide) (by omega) (by omega) rfl (Nat.le_of_ble_eq_true rfl) dL_fullestByTrying_4 (fun X hX => ?_) (fun z σ2 hq => ?_)
  · have hX0 : E5_fullestByTrying σ a X := hX
    rcases hX with ⟨rfl, hX⟩ | ⟨rfl, hX⟩
    · refine ⟨12, rw_fullestByTrying_0, fun q => ?_⟩
      refine sta_3 (pc := 12) C dL_fullestByTrying_12 ?_
      refine o_iconst (pc := 13) C dL_fullestByTrying_13 ?_
      exact E _ _ _ _ _ dL_fullestByTrying_14 rfl (Or.inr (Or.inl ⟨rfl, rfl, hX0⟩)) (by omega)
    · refine ⟨15, rw_fullestByTrying_1, fun q => ?_⟩
      refine sta_3 (pc := 15) C dL_fullestByTrying_15 ?_
      refine o_iconst (pc := 16) C dL_fullestByTrying_16 ?_
      exact E _ _ _ _ _ dL_fullestByTrying_17 rfl (Or.inr (Or.inr (⟨rfl, rfl, hX0⟩))) (by omega)
  have hq0 : P5_fullestByTrying σ a z σ2 := hq
  refine o_i2l (pc := 7) C dL_fullestByTrying_7 ?_
  refine o_last (pc := 8) C dL_fullestByTrying_8 ?_
  refine o_goto (pc := 9) C (tgt := 18) dL_fullestByTrying_9 (by decide) ?_
  refine o_iconst (pc := 18) C dL_fullestByTrying_18 ?_
  exact E _ _ _ _ _ dL_fullestByTrying_19 rfl (Or.inl ⟨rfl, _, _, hq0, rfl⟩) (by omega)
theorem rw_run_0 : oRow [(0, 10, 13, 21), (0, 10, 17, 15)] 5 xIOB 13 := ⟨[], ⟨0, 10, 13, 21⟩, [⟨0, 10, 17, 15⟩], rfl, fun _ h => absurd h List.not_mem_nil, rfl, by decide, kw_7_14, by decide, rfl⟩
theorem rw_run_1 : oRow [(0, 10, 13, 21), (0, 10, 17, 15)] 5 xISE 17 := ⟨[⟨0, 10, 13, 21⟩], ⟨0, 10, 17, 15⟩, [], rfl, List.forall_mem_cons.mpr ⟨Or.inr ⟨by decide, xIOB, kw_7_14, List.mem_of_getElem? (i := 2) rfl⟩, fun _ h => absurd h List.not_mem_nil⟩, rfl, by decide, kw_6_3, by decide, rfl⟩
def L5_run (σ : oMem) (a b : Int) : Int → oMem → Prop := (fun k σ1 => (k = 0 ∧ ∃ (z : Int) (σ0 : oMem), P5_run σ a b z σ0 ∧ σ1 = o_up σ0 47 0 0 z) ∨ (k = 1 ∧ σ1 = σ ∧ E5_run σ a b xIOB) ∨ (k = 2 ∧ σ1 = σ ∧ E5_run σ a b xISE))
set_option maxRecDepth 100000 in
set_option maxHeartbeats 1000000 in
theorem c_L_run {l : Launch} {g : oG} {σ : oMem} {a b : Int} (hfl : l.stackTraces = false) (hx : XI σ) (h1 : InR a) (h2 : InR b) : oHi l g yL_run (.codeWith yL_run cL_run 5 (some .int) [(0, 10, 13, 21), (0, 10, 17, 15)]) 8 3 [.ref (g.2.1 0 0), oi a, oi b, .ref (g.2.1 47 0)] σ (L5_run σ a b) := by
  refine oHi_of (own := RL) (by decide +kernel) rfl (by simp [oi, Value.category]) (by simp) (fun x C hN hT E => ?_)
  show oW l g x σ 0 [some (.ref (g.2.1 0 0)), some (oi a), some (oi b), some (.ref (g.2.1 47 0)), none] [] 0
  refine o_aload_n (pc := 0) C dL_run_0 rfl ?_
  refine o_iconst (pc := 1) C dL_run_1 ?_
  refine o_aload_n (pc := 2) C dL_run_2 rfl ?_
  refine o_iload_n (pc := 3) C dL_run_3 rfl ?_
  refine o_iload_n (pc := 4) C dL_run_4 rfl ?_
  refine o_callVxh (n := 2) (As := [oi a, oi b]) (K := 0) (i := 0) (rest := [oi 0, .ref (g.2.1 47 0)]) hN hT C (c_X5_run hfl hx h1 h2) kw_18_17 kw_18_18 kw_18_19 kw_1_2 kw_18_20 (by decide) ⟨_, _, _, rfl, rfl, rfl⟩ (by decide +kernel) (by decide) (by omega) (by omega) rfl (Nat.le_of_ble_eq_true rfl) dL_run_5 (fun X hX => ?_) (fun z σ2 hq => ?_)
  · have hX0 : E5_run σ a b X := hX
    rcases hX with ⟨rfl, hX⟩ | ⟨rfl, hX⟩
    · refine ⟨13, rw_run_0, fun q => ?_⟩
      refine sta_4 (pc := 13) C dL_run_13 ?_
      refine o_iconst (pc := 15) C dL_run_15 ?_
      exact E _ _ _ _ _ dL_run_16 rfl (Or.inr (Or.inl ⟨rfl, rfl, hX0⟩)) (by omega)
    · refine ⟨17, rw_run_1, fun q => ?_⟩
      refine sta_4 (pc := 17) C dL_run_17 ?_
      refine o_iconst (pc := 19) C dL_run_19 ?_
      exact E _ _ _ _ _ dL_run_20 rfl (Or.inr (Or.inr (⟨rfl, rfl, hX0⟩))) (by omega)
  have hq0 : P5_run σ a b z σ2 := hq
  refine o_i2l (pc := 8) C dL_run_8 ?_
  refine o_last (pc := 9) C dL_run_9 ?_
  refine o_goto (pc := 10) C (tgt := 21) dL_run_10 (by decide) ?_
  refine o_iconst (pc := 21) C dL_run_21 ?_
  exact E _ _ _ _ _ dL_run_22 rfl (Or.inl ⟨rfl, _, _, hq0, rfl⟩) (by omega)
theorem rw_moves_0 : oRow [(0, 9, 12, 21)] 4 xIOB 12 := ⟨[], ⟨0, 9, 12, 21⟩, [], rfl, fun _ h => absurd h List.not_mem_nil, rfl, by decide, kw_7_14, by decide, rfl⟩
def L5_moves (σ : oMem) (a : Int) : Int → oMem → Prop := (fun k σ1 => (k = 0 ∧ ∃ (z : Int) (σ0 : oMem), P5_moves σ a z σ0 ∧ σ1 = o_up σ0 47 0 0 z) ∨ (k = 1 ∧ σ1 = σ ∧ E5_moves σ a xIOB))
set_option maxRecDepth 100000 in
set_option maxHeartbeats 1000000 in
theorem c_L_moves {l : Launch} {g : oG} {σ : oMem} {a : Int} (hfl : l.stackTraces = false) (hx : XI σ) (h1 : InR a) : oHi l g yL_moves (.codeWith yL_moves cL_moves 4 (some .int) [(0, 9, 12, 21)]) 7 1 [.ref (g.2.1 0 0), oi a, .ref (g.2.1 47 0)] σ (L5_moves σ a) := by
  refine oHi_of (own := RL) (by decide +kernel) rfl (by simp [oi, Value.category]) (by simp) (fun x C hN hT E => ?_)
  show oW l g x σ 0 [some (.ref (g.2.1 0 0)), some (oi a), some (.ref (g.2.1 47 0)), none] [] 0
  refine o_aload_n (pc := 0) C dL_moves_0 rfl ?_
  refine o_iconst (pc := 1) C dL_moves_1 ?_
  refine o_aload_n (pc := 2) C dL_moves_2 rfl ?_
  refine o_iload_n (pc := 3) C dL_moves_3 rfl ?_
  refine o_callVxh (n := 1) (As := [oi a]) (K := 0) (i := 0) (rest := [oi 0, .ref (g.2.1 47 0)]) hN hT C (c_X5_moves hfl hx h1) kw_21_7 kw_21_8 kw_21_9 kw_1_2 kw_21_10 (by decide) ⟨_, _, _, rfl, rfl, rfl⟩ (by decide +kernel) (by decide) (by omega) (by omega) rfl (Nat.le_of_ble_eq_true rfl) dL_moves_4 (fun X hX => ?_) (fun z σ2 hq => ?_)
  · have hX0 : E5_moves σ a X := hX
    obtain ⟨rfl, hX⟩ := hX
    refine ⟨12, rw_moves_0, fun q => ?_⟩
    refine sta_3 (pc := 12) C dL_moves_12 ?_
    refine o_iconst (pc := 13) C dL_moves_13 ?_
    exact E _ _ _ _ _ dL_moves_14 rfl (Or.inr ⟨rfl, rfl, hX0⟩) (by omega)
  have hq0 : P5_moves σ a z σ2 := hq
  refine o_i2l (pc := 7) C dL_moves_7 ?_
  refine o_last (pc := 8) C dL_moves_8 ?_
  refine o_goto (pc := 9) C (tgt := 15) dL_moves_9 (by decide) ?_
  refine o_iconst (pc := 15) C dL_moves_15 ?_
  exact E _ _ _ _ _ dL_moves_16 rfl (Or.inl ⟨rfl, _, _, hq0, rfl⟩) (by omega)
theorem rw_plan_0 : oRow [(0, 10, 13, 21), (0, 10, 17, 15)] 5 xIOB 13 := ⟨[], ⟨0, 10, 13, 21⟩, [⟨0, 10, 17, 15⟩], rfl, fun _ h => absurd h List.not_mem_nil, rfl, by decide, kw_7_14, by decide, rfl⟩
theorem rw_plan_1 : oRow [(0, 10, 13, 21), (0, 10, 17, 15)] 5 xISE 17 := ⟨[⟨0, 10, 13, 21⟩], ⟨0, 10, 17, 15⟩, [], rfl, List.forall_mem_cons.mpr ⟨Or.inr ⟨by decide, xIOB, kw_7_14, List.mem_of_getElem? (i := 2) rfl⟩, fun _ h => absurd h List.not_mem_nil⟩, rfl, by decide, kw_6_3, by decide, rfl⟩
def L5_plan (σ : oMem) (a b : Int) : Int → oMem → Prop := (fun k σ1 => (k = 0 ∧ ∃ (z : Int) (σ0 : oMem), P5_plan σ a b z σ0 ∧ σ1 = o_up σ0 47 0 0 z) ∨ (k = 1 ∧ σ1 = σ ∧ E5_plan σ a b xIOB) ∨ (k = 2 ∧ σ1 = σ ∧ E5_plan σ a b xISE))
set_option maxRecDepth 100000 in
set_option maxHeartbeats 1000000 in
theorem c_L_plan {l : Launch} {g : oG} {σ : oMem} {a b : Int} (hfl : l.stackTraces = false) (hx : XI σ) (h1 : InR a) (h2 : InR b) : oHi l g yL_plan (.codeWith yL_plan cL_plan 5 (some .int) [(0, 10, 13, 21), (0, 10, 17, 15)]) 8 3 [.ref (g.2.1 0 0), oi a, oi b, .ref (g.2.1 47 0)] σ (L5_plan σ a b) := by
  refine oHi_of (own := RL) (by decide +kernel) rfl (by simp [oi, Value.category]) (by simp) (fun x C hN hT E => ?_)
  show oW l g x σ 0 [some (.ref (g.2.1 0 0)), some (oi a), some (oi b), some (.ref (g.2.1 47 0)), none] [] 0
  refine o_aload_n (pc := 0) C dL_plan_0 rfl ?_
  refine o_iconst (pc := 1) C dL_plan_1 ?_
  refine o_aload_n (pc := 2) C dL_plan_2 rfl ?_
  refine o_iload_n (pc := 3) C dL_plan_3 rfl ?_
  refine o_iload_n (pc := 4) C dL_plan_4 rfl ?_
  refine o_callVxh (n := 2) (As := [oi a, oi b]) (K := 0) (i := 0) (rest := [oi 0, .ref (g.2.1 47 0)]) hN hT C (c_X5_plan hfl hx h1 h2) kw_22_2 kw_22_3 kw_22_4 kw_1_2 kw_22_5 (by decide) ⟨_, _, _, rfl, rfl, rfl⟩ (by decide +kernel) (by decide) (by omega) (by omega) rfl (Nat.le_of_ble_eq_true rfl) dL_plan_5 (fun X hX => ?_) (fun z σ2 hq => ?_)
  · have hX0 : E5_plan σ a b X := hX
    rcases hX with ⟨rfl, hX⟩ | ⟨rfl, hX⟩
    · refine ⟨13, rw_plan_0, fun q => ?_⟩
      refine sta_4 (pc := 13) C dL_plan_13 ?_
      refine o_iconst (pc := 15) C dL_plan_15 ?_
      exact E _ _ _ _ _ dL_plan_16 rfl (Or.inr (Or.inl ⟨rfl, rfl, hX0⟩)) (by omega)
    · refine ⟨17, rw_plan_1, fun q => ?_⟩
      refine sta_4 (pc := 17) C dL_plan_17 ?_
      refine o_iconst (pc := 19) C dL_plan_19 ?_
      exact E _ _ _ _ _ dL_plan_20 rfl (Or.inr (Or.inr (⟨rfl, rfl, hX0⟩))) (by omega)
  have hq0 : P5_plan σ a b z σ2 := hq
  refine o_i2l (pc := 8) C dL_plan_8 ?_
  refine o_last (pc := 9) C dL_plan_9 ?_
  refine o_goto (pc := 10) C (tgt := 21) dL_plan_10 (by decide) ?_
  refine o_iconst (pc := 21) C dL_plan_21 ?_
  exact E _ _ _ _ _ dL_plan_22 rfl (Or.inl ⟨rfl, _, _, hq0, rfl⟩) (by omega)
theorem rw_nextAt_0 : oRow [(0, 9, 12, 21)] 4 xIOB 12 := ⟨[], ⟨0, 9, 12, 21⟩, [], rfl, fun _ h => absurd h List.not_mem_nil, rfl, by decide, kw_7_14, by decide, rfl⟩
def L5_nextAt (σ : oMem) (a : Int) : Int → oMem → Prop := (fun k σ1 => (k = 0 ∧ ∃ (z : Int) (σ0 : oMem), P5_nextAt σ a z σ0 ∧ σ1 = o_up σ0 47 0 0 z) ∨ (k = 1 ∧ σ1 = σ ∧ E5_nextAt σ a xIOB))
set_option maxRecDepth 100000 in
set_option maxHeartbeats 1000000 in
theorem c_L_nextAt {l : Launch} {g : oG} {σ : oMem} {a : Int} (hfl : l.stackTraces = false) (hx : XI σ) (h1 : InR a) : oHi l g yL_nextAt (.codeWith yL_nextAt cL_nextAt 4 (some .int) [(0, 9, 12, 21)]) 9 1 [.ref (g.2.1 0 0), oi a, .ref (g.2.1 47 0)] σ (L5_nextAt σ a) := by
  refine oHi_of (own := RL) (by decide +kernel) rfl (by simp [oi, Value.category]) (by simp) (fun x C hN hT E => ?_)
  show oW l g x σ 0 [some (.ref (g.2.1 0 0)), some (oi a), some (.ref (g.2.1 47 0)), none] [] 0
  refine o_aload_n (pc := 0) C dL_nextAt_0 rfl ?_
  refine o_iconst (pc := 1) C dL_nextAt_1 ?_
  refine o_aload_n (pc := 2) C dL_nextAt_2 rfl ?_
  refine o_iload_n (pc := 3) C dL_nextAt_3 rfl ?_
  refine o_callVxh (n := 1) (As := [oi a]) (K := 0) (i := 0) (rest := [oi 0, .ref (g.2.1 47 0)]) hN hT C (c_X5_nextAt hfl hx h1) kw_25_6 kw_25_7 kw_25_8 kw_1_2 kw_25_9 (by decide) ⟨_, _, _, rfl, rfl, rfl⟩ (by decide +kernel) (by decide) (by omega) (by omega) rfl (Nat.le_of_ble_eq_true rfl) dL_nextAt_4 (fun X hX => ?_) (fun z σ2 hq => ?_)
  · have hX0 : E5_nextAt σ a X := hX
    obtain ⟨rfl, hX⟩ := hX
    refine ⟨12, rw_nextAt_0, fun q => ?_⟩
    refine sta_3 (pc := 12) C dL_nextAt_12 ?_
    refine o_iconst (pc := 13) C dL_nextAt_13 ?_
    exact E _ _ _ _ _ dL_nextAt_14 rfl (Or.inr ⟨rfl, rfl, hX0⟩) (by omega)
  have hq0 : P5_nextAt σ a z σ2 := hq
  refine o_i2l (pc := 7) C dL_nextAt_7 ?_
  refine o_last (pc := 8) C dL_nextAt_8 ?_
  refine o_goto (pc := 9) C (tgt := 15) dL_nextAt_9 (by decide) ?_
  refine o_iconst (pc := 15) C dL_nextAt_15 ?_
  exact E _ _ _ _ _ dL_nextAt_16 rfl (Or.inl ⟨rfl, _, _, hq0, rfl⟩) (by omega)
theorem rw_slits_0 : oRow [(0, 9, 12, 21)] 4 xIOB 12 := ⟨[], ⟨0, 9, 12, 21⟩, [], rfl, fun _ h => absurd h List.not_mem_nil, rfl, by decide, kw_7_14, by decide, rfl⟩
def L5_slits (σ : oMem) (a : Int) : Int → oMem → Prop := (fun k σ1 => (k = 0 ∧ ∃ (z : Int) (σ0 : oMem), P5_slits σ a z σ0 ∧ σ1 = o_up σ0 47 0 0 z) ∨ (k = 1 ∧ σ1 = σ ∧ E5_slits σ a xIOB))
set_option maxRecDepth 100000 in
set_option maxHeartbeats 1000000 in
theorem c_L_slits {l : Launch} {g : oG} {σ : oMem} {a : Int} (hfl : l.stackTraces = false) (hx : XI σ) (h1 : InR a) : oHi l g yL_slits (.codeWith yL_slits cL_slits 4 (some .int) [(0, 9, 12, 21)]) 7 1 [.ref (g.2.1 0 0), oi a, .ref (g.2.1 47 0)] σ (L5_slits σ a) := by
  refine oHi_of (own := RL) (by decide +kernel) rfl (by simp [oi, Value.category]) (by simp) (fun x C hN hT E => ?_)
  show oW l g x σ 0 [some (.ref (g.2.1 0 0)), some (oi a), some (.ref (g.2.1 47 0)), none] [] 0
  refine o_aload_n (pc := 0) C dL_slits_0 rfl ?_
  refine o_iconst (pc := 1) C dL_slits_1 ?_
  refine o_aload_n (pc := 2) C dL_slits_2 rfl ?_
  refine o_iload_n (pc := 3) C dL_slits_3 rfl ?_
  refine o_callVxh (n := 1) (As := [oi a]) (K := 0) (i := 0) (rest := [oi 0, .ref (g.2.1 47 0)]) hN hT C (c_X5_slits hfl hx h1) kw_26_9 kw_26_10 kw_26_11 kw_1_2 kw_26_12 (by decide) ⟨_, _, _, rfl, rfl, rfl⟩ (by decide +kernel) (by decide) (by omega) (by omega) rfl (Nat.le_of_ble_eq_true rfl) dL_slits_4 (fun X hX => ?_) (fun z σ2 hq => ?_)
  · have hX0 : E5_slits σ a X := hX
    obtain ⟨rfl, hX⟩ := hX
    refine ⟨12, rw_slits_0, fun q => ?_⟩
    refine sta_3 (pc := 12) C dL_slits_12 ?_
    refine o_iconst (pc := 13) C dL_slits_13 ?_
    exact E _ _ _ _ _ dL_slits_14 rfl (Or.inr ⟨rfl, rfl, hX0⟩) (by omega)
  have hq0 : P5_slits σ a z σ2 := hq
  refine o_i2l (pc := 7) C dL_slits_7 ?_
  refine o_last (pc := 8) C dL_slits_8 ?_
  refine o_goto (pc := 9) C (tgt := 15) dL_slits_9 (by decide) ?_
  refine o_iconst (pc := 15) C dL_slits_15 ?_
  exact E _ _ _ _ _ dL_slits_16 rfl (Or.inl ⟨rfl, _, _, hq0, rfl⟩) (by omega)
theorem rw_slitWeight_0 : oRow [(0, 10, 13, 21)] 5 xIOB 13 := ⟨[], ⟨0, 10, 13, 21⟩, [], rfl, fun _ h => absurd h List.not_mem_nil, rfl, by decide, kw_7_14, by decide, rfl⟩
def L5_slitWeight (σ : oMem) (a b : Int) : Int → oMem → Prop := (fun k σ1 => (k = 0 ∧ ∃ (z : Int) (σ0 : oMem), P5_slitWeight σ a b z σ0 ∧ σ1 = o_up σ0 47 0 0 z) ∨ (k = 1 ∧ σ1 = σ ∧ E5_slitWeight σ a b xIOB))
set_option maxRecDepth 100000 in
set_option maxHeartbeats 1000000 in
theorem c_L_slitWeight {l : Launch} {g : oG} {σ : oMem} {a b : Int} (hfl : l.stackTraces = false) (hx : XI σ) (h1 : InR a) (h2 : InR b) : oHi l g yL_slitWeight (.codeWith yL_slitWeight cL_slitWeight 5 (some .int) [(0, 10, 13, 21)]) 7 2 [.ref (g.2.1 0 0), oi a, oi b, .ref (g.2.1 47 0)] σ (L5_slitWeight σ a b) := by
  refine oHi_of (own := RL) (by decide +kernel) rfl (by simp [oi, Value.category]) (by simp) (fun x C hN hT E => ?_)
  show oW l g x σ 0 [some (.ref (g.2.1 0 0)), some (oi a), some (oi b), some (.ref (g.2.1 47 0)), none] [] 0
  refine o_aload_n (pc := 0) C dL_slitWeight_0 rfl ?_
  refine o_iconst (pc := 1) C dL_slitWeight_1 ?_
  refine o_aload_n (pc := 2) C dL_slitWeight_2 rfl ?_
  refine o_iload_n (pc := 3) C dL_slitWeight_3 rfl ?_
  refine o_iload_n (pc := 4) C dL_slitWeight_4 rfl ?_
  refine o_callVxh (n := 2) (As := [oi a, oi b]) (K := 0) (i := 0) (rest := [oi 0, .ref (g.2.1 47 0)]) hN hT C (c_X5_slitWeight hfl hx h1 h2) kw_26_20 kw_26_21 kw_26_22 kw_1_2 kw_26_23 (by decide) ⟨_, _, _, rfl, rfl, rfl⟩ (by decide +kernel) (by decide) (by omega) (by omega) rfl (Nat.le_of_ble_eq_true rfl) dL_slitWeight_5 (fun X hX => ?_) (fun z σ2 hq => ?_)
  · have hX0 : E5_slitWeight σ a b X := hX
    obtain ⟨rfl, hX⟩ := hX
    refine ⟨13, rw_slitWeight_0, fun q => ?_⟩
    refine sta_4 (pc := 13) C dL_slitWeight_13 ?_
    refine o_iconst (pc := 15) C dL_slitWeight_15 ?_
    exact E _ _ _ _ _ dL_slitWeight_16 rfl (Or.inr ⟨rfl, rfl, hX0⟩) (by omega)
  have hq0 : P5_slitWeight σ a b z σ2 := hq
  refine o_i2l (pc := 8) C dL_slitWeight_8 ?_
  refine o_last (pc := 9) C dL_slitWeight_9 ?_
  refine o_goto (pc := 10) C (tgt := 17) dL_slitWeight_10 (by decide) ?_
  refine o_iconst (pc := 17) C dL_slitWeight_17 ?_
  exact E _ _ _ _ _ dL_slitWeight_18 rfl (Or.inl ⟨rfl, _, _, hq0, rfl⟩) (by omega)
theorem rw_slitOrder_0 : oRow [(0, 10, 13, 21)] 5 xIOB 13 := ⟨[], ⟨0, 10, 13, 21⟩, [], rfl, fun _ h => absurd h List.not_mem_nil, rfl, by decide, kw_7_14, by decide, rfl⟩
def L5_slitOrder (σ : oMem) (a b : Int) : Int → oMem → Prop := (fun k σ1 => (k = 0 ∧ ∃ (z : Int) (σ0 : oMem), P5_slitOrder σ a b z σ0 ∧ σ1 = o_up σ0 47 0 0 z) ∨ (k = 1 ∧ σ1 = σ ∧ E5_slitOrder σ a b xIOB))
set_option maxRecDepth 100000 in
set_option maxHeartbeats 1000000 in
theorem c_L_slitOrder {l : Launch} {g : oG} {σ : oMem} {a b : Int} (hfl : l.stackTraces = false) (hx : XI σ) (h1 : InR a) (h2 : InR b) : oHi l g yL_slitOrder (.codeWith yL_slitOrder cL_slitOrder 5 (some .int) [(0, 10, 13, 21)]) 7 2 [.ref (g.2.1 0 0), oi a, oi b, .ref (g.2.1 47 0)] σ (L5_slitOrder σ a b) := by
  refine oHi_of (own := RL) (by decide +kernel) rfl (by simp [oi, Value.category]) (by simp) (fun x C hN hT E => ?_)
  show oW l g x σ 0 [some (.ref (g.2.1 0 0)), some (oi a), some (oi b), some (.ref (g.2.1 47 0)), none] [] 0
  refine o_aload_n (pc := 0) C dL_slitOrder_0 rfl ?_
  refine o_iconst (pc := 1) C dL_slitOrder_1 ?_
  refine o_aload_n (pc := 2) C dL_slitOrder_2 rfl ?_
  refine o_iload_n (pc := 3) C dL_slitOrder_3 rfl ?_
  refine o_iload_n (pc := 4) C dL_slitOrder_4 rfl ?_
  refine o_callVxh (n := 2) (As := [oi a, oi b]) (K := 0) (i := 0) (rest := [oi 0, .ref (g.2.1 47 0)]) hN hT C (c_X5_slitOrder hfl hx h1 h2) kw_27_18 kw_27_19 kw_27_20 kw_1_2 kw_27_21 (by decide) ⟨_, _, _, rfl, rfl, rfl⟩ (by decide +kernel) (by decide) (by omega) (by omega) rfl (Nat.le_of_ble_eq_true rfl) dL_slitOrder_5 (fun X hX => ?_) (fun z σ2 hq => ?_)
  · have hX0 : E5_slitOrder σ a b X := hX
    obtain ⟨rfl, hX⟩ := hX
    refine ⟨13, rw_slitOrder_0, fun q => ?_⟩
    refine sta_4 (pc := 13) C dL_slitOrder_13 ?_
    refine o_iconst (pc := 15) C dL_slitOrder_15 ?_
    exact E _ _ _ _ _ dL_slitOrder_16 rfl (Or.inr ⟨rfl, rfl, hX0⟩) (by omega)
  have hq0 : P5_slitOrder σ a b z σ2 := hq
  refine o_i2l (pc := 8) C dL_slitOrder_8 ?_
  refine o_last (pc := 9) C dL_slitOrder_9 ?_
  refine o_goto (pc := 10) C (tgt := 17) dL_slitOrder_10 (by decide) ?_
  refine o_iconst (pc := 17) C dL_slitOrder_17 ?_
  exact E _ _ _ _ _ dL_slitOrder_18 rfl (Or.inl ⟨rfl, _, _, hq0, rfl⟩) (by omega)
theorem rw_lost_0 : oRow [(0, 10, 13, 21), (0, 10, 17, 13)] 5 xIOB 13 := ⟨[], ⟨0, 10, 13, 21⟩, [⟨0, 10, 17, 13⟩], rfl, fun _ h => absurd h List.not_mem_nil, rfl, by decide, kw_7_14, by decide, rfl⟩
theorem rw_lost_1 : oRow [(0, 10, 13, 21), (0, 10, 17, 13)] 5 xIAE 17 := ⟨[⟨0, 10, 13, 21⟩], ⟨0, 10, 17, 13⟩, [], rfl, List.forall_mem_cons.mpr ⟨Or.inr ⟨by decide, xIOB, kw_7_14, List.mem_of_getElem? (i := 1) rfl⟩, fun _ h => absurd h List.not_mem_nil⟩, rfl, by decide, kw_6_2, by decide, rfl⟩
def L5_lost (σ : oMem) (a b : Int) : Int → oMem → Prop := (fun k σ1 => (k = 0 ∧ ∃ (z : Int) (σ0 : oMem), P5_lost σ a b z σ0 ∧ σ1 = o_up σ0 47 0 0 z) ∨ (k = 1 ∧ σ1 = σ ∧ E5_lost σ a b xIOB) ∨ (k = 2 ∧ σ1 = σ ∧ E5_lost σ a b xIAE))
set_option maxRecDepth 100000 in
set_option maxHeartbeats 1000000 in
theorem c_L_lost {l : Launch} {g : oG} {σ : oMem} {a b : Int} (hfl : l.stackTraces = false) (hx : XI σ) (h1 : InR a) (h2 : InR b) : oHi l g yL_lost (.codeWith yL_lost cL_lost 5 (some .int) [(0, 10, 13, 21), (0, 10, 17, 13)]) 7 2 [.ref (g.2.1 0 0), oi a, oi b, .ref (g.2.1 47 0)] σ (L5_lost σ a b) := by
  refine oHi_of (own := RL) (by decide +kernel) rfl (by simp [oi, Value.category]) (by simp) (fun x C hN hT E => ?_)
  show oW l g x σ 0 [some (.ref (g.2.1 0 0)), some (oi a), some (oi b), some (.ref (g.2.1 47 0)), none] [] 0
  refine o_aload_n (pc := 0) C dL_lost_0 rfl ?_
  refine o_iconst (pc := 1) C dL_lost_1 ?_
  refine o_aload_n (pc := 2) C dL_lost_2 rfl ?_
  refine o_iload_n (pc := 3) C dL_lost_3 rfl ?_
  refine o_iload_n (pc := 4) C dL_lost_4 rfl ?_
  refine o_callVxh (n := 2) (As := [oi a, oi b]) (K := 0) (i := 0) (rest := [oi 0, .ref (g.2.1 47 0)]) hN hT C (c_X5_lost hfl hx h1 h2) kw_28_5 kw_28_6 kw_28_7 kw_1_2 kw_28_8 (by decide) ⟨_, _, _, rfl, rfl, rfl⟩ (by decide +kernel) (by decide) (by omega) (by omega) rfl (Nat.le_of_ble_eq_true rfl) dL_lost_5 (fun X hX => ?_) (fun z σ2 hq => ?_)
  · have hX0 : E5_lost σ a b X := hX
    rcases hX with ⟨rfl, hX⟩ | ⟨rfl, hX⟩
    · refine ⟨13, rw_lost_0, fun q => ?_⟩
      refine sta_4 (pc := 13) C dL_lost_13 ?_
      refine o_iconst (pc := 15) C dL_lost_15 ?_
      exact E _ _ _ _ _ dL_lost_16 rfl (Or.inr (Or.inl ⟨rfl, rfl, hX0⟩)) (by omega)
    · refine ⟨17, rw_lost_1, fun q => ?_⟩
      refine sta_4 (pc := 17) C dL_lost_17 ?_
      refine o_iconst (pc := 19) C dL_lost_19 ?_
      exact E _ _ _ _ _ dL_lost_20 rfl (Or.inr (Or.inr (⟨rfl, rfl, hX0⟩))) (by omega)
  have hq0 : P5_lost σ a b z σ2 := hq
  refine o_i2l (pc := 8) C dL_lost_8 ?_
  refine o_last (pc := 9) C dL_lost_9 ?_
  refine o_goto (pc := 10) C (tgt := 21) dL_lost_10 (by decide) ?_
  refine o_iconst (pc := 21) C dL_lost_21 ?_
  exact E _ _ _ _ _ dL_lost_22 rfl (Or.inl ⟨rfl, _, _, hq0, rfl⟩) (by omega)
theorem rw_delivered_0 : oRow [(0, 9, 12, 21)] 4 xIOB 12 := ⟨[], ⟨0, 9, 12, 21⟩, [], rfl, fun _ h => absurd h List.not_mem_nil, rfl, by decide, kw_7_14, by decide, rfl⟩
def L5_delivered (σ : oMem) (a : Int) : Int → oMem → Prop := (fun k σ1 => (k = 0 ∧ ∃ (z : Int) (σ0 : oMem), P5_delivered σ a z σ0 ∧ σ1 = o_up σ0 47 0 0 z) ∨ (k = 1 ∧ σ1 = σ ∧ E5_delivered σ a xIOB))
set_option maxRecDepth 100000 in
set_option maxHeartbeats 1000000 in
theorem c_L_delivered {l : Launch} {g : oG} {σ : oMem} {a : Int} (hfl : l.stackTraces = false) (hx : XI σ) (h1 : InR a) : oHi l g yL_delivered (.codeWith yL_delivered cL_delivered 4 (some .int) [(0, 9, 12, 21)]) 7 1 [.ref (g.2.1 0 0), oi a, .ref (g.2.1 47 0)] σ (L5_delivered σ a) := by
  refine oHi_of (own := RL) (by decide +kernel) rfl (by simp [oi, Value.category]) (by simp) (fun x C hN hT E => ?_)
  show oW l g x σ 0 [some (.ref (g.2.1 0 0)), some (oi a), some (.ref (g.2.1 47 0)), none] [] 0
  refine o_aload_n (pc := 0) C dL_delivered_0 rfl ?_
  refine o_iconst (pc := 1) C dL_delivered_1 ?_
  refine o_aload_n (pc := 2) C dL_delivered_2 rfl ?_
  refine o_iload_n (pc := 3) C dL_delivered_3 rfl ?_
  refine o_callVxh (n := 1) (As := [oi a]) (K := 0) (i := 0) (rest := [oi 0, .ref (g.2.1 47 0)]) hN hT C (c_X5_delivered hfl hx h1) kw_28_16 kw_28_17 kw_28_18 kw_1_2 kw_28_19 (by decide) ⟨_, _, _, rfl, rfl, rfl⟩ (by decide +kernel) (by decide) (by omega) (by omega) rfl (Nat.le_of_ble_eq_true rfl) dL_delivered_4 (fun X hX => ?_) (fun z σ2 hq => ?_)
  · have hX0 : E5_delivered σ a X := hX
    obtain ⟨rfl, hX⟩ := hX
    refine ⟨12, rw_delivered_0, fun q => ?_⟩
    refine sta_3 (pc := 12) C dL_delivered_12 ?_
    refine o_iconst (pc := 13) C dL_delivered_13 ?_
    exact E _ _ _ _ _ dL_delivered_14 rfl (Or.inr ⟨rfl, rfl, hX0⟩) (by omega)
  have hq0 : P5_delivered σ a z σ2 := hq
  refine o_i2l (pc := 7) C dL_delivered_7 ?_
  refine o_last (pc := 8) C dL_delivered_8 ?_
  refine o_goto (pc := 9) C (tgt := 15) dL_delivered_9 (by decide) ?_
  refine o_iconst (pc := 15) C dL_delivered_15 ?_
  exact E _ _ _ _ _ dL_delivered_16 rfl (Or.inl ⟨rfl, _, _, hq0, rfl⟩) (by omega)
theorem rw_heatOf_0 : oRow [(0, 9, 12, 21)] 4 xIOB 12 := ⟨[], ⟨0, 9, 12, 21⟩, [], rfl, fun _ h => absurd h List.not_mem_nil, rfl, by decide, kw_7_14, by decide, rfl⟩
def L5_heatOf (σ : oMem) (a : Int) : Int → oMem → Prop := (fun k σ1 => (k = 0 ∧ ∃ (z : Int) (σ0 : oMem), P5_heatOf σ a z σ0 ∧ σ1 = o_up σ0 47 0 0 z) ∨ (k = 1 ∧ σ1 = σ ∧ E5_heatOf σ a xIOB))
set_option maxRecDepth 100000 in
set_option maxHeartbeats 1000000 in
theorem c_L_heatOf {l : Launch} {g : oG} {σ : oMem} {a : Int} (hfl : l.stackTraces = false) (hx : XI σ) (h1 : InR a) : oHi l g yL_heatOf (.codeWith yL_heatOf cL_heatOf 4 (some .int) [(0, 9, 12, 21)]) 7 1 [.ref (g.2.1 0 0), oi a, .ref (g.2.1 47 0)] σ (L5_heatOf σ a) := by
  refine oHi_of (own := RL) (by decide +kernel) rfl (by simp [oi, Value.category]) (by simp) (fun x C hN hT E => ?_)
  show oW l g x σ 0 [some (.ref (g.2.1 0 0)), some (oi a), some (.ref (g.2.1 47 0)), none] [] 0
  refine o_aload_n (pc := 0) C dL_heatOf_0 rfl ?_
  refine o_iconst (pc := 1) C dL_heatOf_1 ?_
  refine o_aload_n (pc := 2) C dL_heatOf_2 rfl ?_
  refine o_iload_n (pc := 3) C dL_heatOf_3 rfl ?_
  refine o_callVxh (n := 1) (As := [oi a]) (K := 0) (i := 0) (rest := [oi 0, .ref (g.2.1 47 0)]) hN hT C (c_X5_heatOf hfl hx h1) kw_29_11 kw_29_12 kw_29_13 kw_1_2 kw_29_14 (by decide) ⟨_, _, _, rfl, rfl, rfl⟩ (by decide +kernel) (by decide) (by omega) (by omega) rfl (Nat.le_of_ble_eq_true rfl) dL_heatOf_4 (fun X hX => ?_) (fun z σ2 hq => ?_)
  · have hX0 : E5_heatOf σ a X := hX
    obtain ⟨rfl, hX⟩ := hX
    refine ⟨12, rw_heatOf_0, fun q => ?_⟩
    refine sta_3 (pc := 12) C dL_heatOf_12 ?_
    refine o_iconst (pc := 13) C dL_heatOf_13 ?_
    exact E _ _ _ _ _ dL_heatOf_14 rfl (Or.inr ⟨rfl, rfl, hX0⟩) (by omega)
  have hq0 : P5_heatOf σ a z σ2 := hq
  refine o_i2l (pc := 7) C dL_heatOf_7 ?_
  refine o_last (pc := 8) C dL_heatOf_8 ?_
  refine o_goto (pc := 9) C (tgt := 15) dL_heatOf_9 (by decide) ?_
  refine o_iconst (pc := 15) C dL_heatOf_15 ?_
  exact E _ _ _ _ _ dL_heatOf_16 rfl (Or.inl ⟨rfl, _, _, hq0, rfl⟩) (by omega)
