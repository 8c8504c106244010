theorem rw_coil_0 : oRow [(0, 9, 10, 14), (0, 9, 15, 16)] 6 xIAE 10 := ⟨[], ⟨0, 9, 10, 14⟩, [⟨0, 9, 15, 16⟩], rfl, fun _ h => absurd h List.not_mem_nil, rfl, by decide, kw_4_16, by decide, rfl⟩
theorem rw_coil_1 : oRow [(0, 9, 10, 14), (0, 9, 15, 16)] 6 xISE 15 := ⟨[⟨0, 9, 10, 14⟩], ⟨0, 9, 15, 16⟩, [], rfl, List.forall_mem_cons.mpr ⟨Or.inr ⟨by decide, xIAE, kw_4_16, List.mem_of_getElem? (i := 0) rfl⟩, fun _ h => absurd h List.not_mem_nil⟩, rfl, by decide, kw_4_17, by decide, rfl⟩
set_option maxRecDepth 100000 in
set_option maxHeartbeats 1000000 in
theorem c_L_coil {l : Launch} {g : oG} {σ : oMem} {a b d e : Int} (hfl : l.stackTraces = false) (hx : XI σ) (h1 : InR a) (h2 : InR b) (h3 : InR d) (h4 : InR e) : oHi l g yL_coil (.codeWith yL_coil cL_coil 6 (some .int) [(0, 9, 10, 14), (0, 9, 15, 16)]) 7 5 [.ref (g.2.1 0 0), oi a, oi b, oi d, oi e] σ (L5_coil σ a b d e) := by
  refine oHi_of (own := RL) (by decide +kernel) rfl (by simp [oi, Value.category]) (by simp) (fun x C hN hT E => ?_)
  show oW l g x σ 0 [some (.ref (g.2.1 0 0)), some (oi a), some (oi b), some (oi d), some (oi e), none] [] 0
  refine o_aload_n (pc := 0) C dL_coil_0 rfl ?_
  refine o_iload_n (pc := 1) C dL_coil_1 rfl ?_
  refine o_iload_n (pc := 2) C dL_coil_2 rfl ?_
  refine o_iload_n (pc := 3) C dL_coil_3 rfl ?_
  refine o_iload (pc := 4) C dL_coil_4 rfl ?_
  refine o_callVxh (n := 4) (As := [oi a, oi b, oi d, oi e]) (K := 0) (i := 0) (rest := []) hN hT C (c_X5_coil hfl hx h1 h2 h3 h4) kw_6_19 kw_6_20 kw_6_21 kw_1_2 kw_6_22 (by decide) ⟨_, _, _, rfl, rfl, rfl⟩ (by decide +kernel) (by decide) (by omega) (by omega) rfl (Nat.le_of_ble_eq_true rfl) dL_coil_6 (fun X hX => ?_) (fun z σ2 hq => ?_)
  · have hX0 : E5_coil σ a b d e X := hX
    rcases hX with ⟨rfl, hX⟩ | ⟨rfl, hX⟩
    · refine ⟨10, rw_coil_0, fun q => ?_⟩
      refine sta_5 (pc := 10) C dL_coil_10 ?_
      refine o_bipush (pc := 12) C dL_coil_12 rfl ?_
      exact E _ _ _ _ _ dL_coil_14 rfl (Or.inr ⟨EN_coil hX0, rfl, rfl⟩) (by omega)
    · refine ⟨15, rw_coil_1, fun q => ?_⟩
      refine sta_5 (pc := 15) C dL_coil_15 ?_
      refine o_bipush (pc := 17) C dL_coil_17 rfl ?_
      exact E _ _ _ _ _ dL_coil_19 rfl (Or.inr ⟨EN_coil hX0, rfl, rfl⟩) (by omega)
  have hq0 : P5_coil σ a b d e z σ2 := hq
  exact E _ _ _ _ _ dL_coil_9 rfl (Or.inl ⟨PN_coil hq0, hq0⟩) (by omega)
theorem rw_defect_0 : oRow [(0, 7, 8, 22), (0, 7, 13, 14), (0, 7, 18, 16)] 4 xIOB 8 := ⟨[], ⟨0, 7, 8, 22⟩, [⟨0, 7, 13, 14⟩, ⟨0, 7, 18, 16⟩], rfl, fun _ h => absurd h List.not_mem_nil, rfl, by decide, kw_7_5, by decide, rfl⟩
theorem rw_defect_1 : oRow [(0, 7, 8, 22), (0, 7, 13, 14), (0, 7, 18, 16)] 4 xIAE 13 := ⟨[⟨0, 7, 8, 22⟩], ⟨0, 7, 13, 14⟩, [⟨0, 7, 18, 16⟩], rfl, List.forall_mem_cons.mpr ⟨Or.inr ⟨by decide, xIOB, kw_7_5, List.mem_of_getElem? (i := 1) rfl⟩, fun _ h => absurd h List.not_mem_nil⟩, rfl, by decide, kw_4_16, by decide, rfl⟩
theorem rw_defect_2 : oRow [(0, 7, 8, 22), (0, 7, 13, 14), (0, 7, 18, 16)] 4 xISE 18 := ⟨[⟨0, 7, 8, 22⟩, ⟨0, 7, 13, 14⟩], ⟨0, 7, 18, 16⟩, [], rfl, List.forall_mem_cons.mpr ⟨Or.inr ⟨by decide, xIOB, kw_7_5, List.mem_of_getElem? (i := 2) rfl⟩, List.forall_mem_cons.mpr ⟨Or.inr ⟨by decide, xIAE, kw_4_16, List.mem_of_getElem? (i := 0) rfl⟩, fun _ h => absurd h List.not_mem_nil⟩⟩, rfl, by decide, kw_4_17, by decide, rfl⟩
set_option maxRecDepth 100000 in
set_option maxHeartbeats 1000000 in
theorem c_L_defect {l : Launch} {g : oG} {σ : oMem} {a b d : Int} (hfl : l.stackTraces = false) (hx : XI σ) (h1 : InR a) (h2 : InR b) (h3 : InR d) : oHi l g yL_defect (.codeWith yL_defect cL_defect 5 (some .int) [(0, 7, 8, 22), (0, 7, 13, 14), (0, 7, 18, 16)]) 7 4 [.ref (g.2.1 0 0), oi a, oi b, oi d] σ (L5_defect σ a b d) := by
  refine oHi_of (own := RL) (by decide +kernel) rfl (by simp [oi, Value.category]) (by simp) (fun x C hN hT E => ?_)
  show oW l g x σ 0 [some (.ref (g.2.1 0 0)), some (oi a), some (oi b), some (oi d), none] [] 0
  refine o_aload_n (pc := 0) C dL_defect_0 rfl ?_
  refine o_iload_n (pc := 1) C dL_defect_1 rfl ?_
  refine o_iload_n (pc := 2) C dL_defect_2 rfl ?_
  refine o_iload_n (pc := 3) C dL_defect_3 rfl ?_
  refine o_callVxh (n := 3) (As := [oi a, oi b, oi d]) (K := 0) (i := 0) (rest := []) hN hT C (c_X5_defect hfl hx h1 h2 h3) kw_7_6 kw_7_7 kw_7_8 kw_1_2 kw_7_9 (by decide) ⟨_, _, _, rfl, rfl, rfl⟩ (by decide +kernel) (by decide) (by omega) (by omega) rfl (Nat.le_of_ble_eq_true rfl) dL_defect_4 (fun X hX => ?_) (fun z σ2 hq => ?_)
  · have hX0 : E5_defect σ a b d X := hX
    rcases hX with ⟨rfl, hX⟩ | ⟨rfl, hX⟩ | ⟨rfl, hX⟩
    · refine ⟨8, rw_defect_0, fun q => ?_⟩
      refine sta_4 (pc := 8) C dL_defect_8 ?_
      refine o_bipush (pc := 10) C dL_defect_10 rfl ?_
      exact E _ _ _ _ _ dL_defect_12 rfl (Or.inr ⟨EN_defect hX0, rfl, rfl⟩) (by omega)
    · refine ⟨13, rw_defect_1, fun q => ?_⟩
      refine sta_4 (pc := 13) C dL_defect_13 ?_
      refine o_bipush (pc := 15) C dL_defect_15 rfl ?_
      exact E _ _ _ _ _ dL_defect_17 rfl (Or.inr ⟨EN_defect hX0, rfl, rfl⟩) (by omega)
    · refine ⟨18, rw_defect_2, fun q => ?_⟩
      refine sta_4 (pc := 18) C dL_defect_18 ?_
      refine o_bipush (pc := 20) C dL_defect_20 rfl ?_
      exact E _ _ _ _ _ dL_defect_22 rfl (Or.inr ⟨EN_defect hX0, rfl, rfl⟩) (by omega)
  have hq0 : P5_defect σ a b d z σ2 := hq
  exact E _ _ _ _ _ dL_defect_7 rfl (Or.inl ⟨PN_defect hq0, hq0⟩) (by omega)
theorem rw_sets_0_0 : oRow [(0, 46, 47, 14), (0, 46, 52, 16)] 6 xIAE 47 := ⟨[], ⟨0, 46, 47, 14⟩, [⟨0, 46, 52, 16⟩], rfl, fun _ h => absurd h List.not_mem_nil, rfl, by decide, kw_4_16, by decide, rfl⟩
theorem rw_sets_0_1 : oRow [(0, 46, 47, 14), (0, 46, 52, 16)] 6 xISE 52 := ⟨[⟨0, 46, 47, 14⟩], ⟨0, 46, 52, 16⟩, [], rfl, List.forall_mem_cons.mpr ⟨Or.inr ⟨by decide, xIAE, kw_4_16, List.mem_of_getElem? (i := 0) rfl⟩, fun _ h => absurd h List.not_mem_nil⟩, rfl, by decide, kw_4_17, by decide, rfl⟩
set_option maxRecDepth 100000 in
set_option maxHeartbeats 1000000 in
theorem c_L_sets_0 {l : Launch} {g : oG} {σ : oMem} {a u v : Int} (hfl : l.stackTraces = false) (hx : XI σ) (h1 : InR a) : oHi l g yL_sets (.codeWith yL_sets cL_sets 6 (some .int) [(0, 46, 47, 14), (0, 46, 52, 16)]) 7 2 [.ref (g.2.1 0 0), oi 0, oi a, oi u, oi v] σ (L5_addSlit σ a) := by
  refine oHi_of (own := RL) (by decide +kernel) rfl (by simp [oi, Value.category]) (by simp) (fun x C hN hT E => ?_)
  show oW l g x σ 0 [some (.ref (g.2.1 0 0)), some (oi 0), some (oi a), some (oi u), some (oi v), none] [] 0
  refine o_iload_n (pc := 0) C dL_sets_0 rfl ?_
  refine o_if_ne (pc := 1) C (tgt := 12) dL_sets_1 (by decide) (by decide) (fun q => absurd rfl q) (fun _ => ?_)
  refine o_aload_n (pc := 4) C dL_sets_4 rfl ?_
  refine o_iload_n (pc := 5) C dL_sets_5 rfl ?_
  refine o_callVxh (n := 1) (As := [oi a]) (K := 0) (i := 0) (rest := []) hN hT C (c_X5_addSlit hfl hx h1) kw_4_18 kw_4_19 kw_4_20 kw_1_2 kw_4_21 (by decide) ⟨_, _, _, rfl, rfl, rfl⟩ (by decide +kernel) (by decide) (by omega) (by omega) rfl (Nat.le_of_ble_eq_true rfl) dL_sets_6 (fun X hX => ?_) (fun z σ2 hq => ?_)
  · have hX0 : E5_addSlit σ a X := hX
    rcases hX with ⟨rfl, hX⟩ | ⟨rfl, hX⟩
    · refine ⟨47, rw_sets_0_0, fun q => ?_⟩
      refine sta_5 (pc := 47) C dL_sets_47 ?_
      refine o_bipush (pc := 49) C dL_sets_49 rfl ?_
      exact E _ _ _ _ _ dL_sets_51 rfl (Or.inr ⟨EN_addSlit hX0, rfl, rfl⟩) (by omega)
    · refine ⟨52, rw_sets_0_1, fun q => ?_⟩
      refine sta_5 (pc := 52) C dL_sets_52 ?_
      refine o_bipush (pc := 54) C dL_sets_54 rfl ?_
      exact E _ _ _ _ _ dL_sets_56 rfl (Or.inr ⟨EN_addSlit hX0, rfl, rfl⟩) (by omega)
  have hq0 : P5_addSlit σ a z σ2 := hq
  refine o_goto (pc := 9) C (tgt := 46) dL_sets_9 (by decide) ?_
  exact E _ _ _ _ _ dL_sets_46 rfl (Or.inl ⟨PN_addSlit hq0, hq0⟩) (by omega)
theorem rw_sets_1_0 : oRow [(0, 46, 47, 14), (0, 46, 52, 16)] 20 xIAE 47 := ⟨[], ⟨0, 46, 47, 14⟩, [⟨0, 46, 52, 16⟩], rfl, fun _ h => absurd h List.not_mem_nil, rfl, by decide, kw_4_16, by decide, rfl⟩
theorem rw_sets_1_1 : oRow [(0, 46, 47, 14), (0, 46, 52, 16)] 20 xISE 52 := ⟨[⟨0, 46, 47, 14⟩], ⟨0, 46, 52, 16⟩, [], rfl, List.forall_mem_cons.mpr ⟨Or.inr ⟨by decide, xIAE, kw_4_16, List.mem_of_getElem? (i := 0) rfl⟩, fun _ h => absurd h List.not_mem_nil⟩, rfl, by decide, kw_4_17, by decide, rfl⟩
set_option maxRecDepth 100000 in
set_option maxHeartbeats 1000000 in
theorem c_L_sets_1 {l : Launch} {g : oG} {σ : oMem} {a b v : Int} (hfl : l.stackTraces = false) (hx : XI σ) (h1 : InR a) (h2 : InR b) : oHi l g yL_sets (.codeWith yL_sets cL_sets 6 (some .int) [(0, 46, 47, 14), (0, 46, 52, 16)]) 7 3 [.ref (g.2.1 0 0), oi 1, oi a, oi b, oi v] σ (L5_order σ a b) := by
  refine oHi_of (own := RL) (by decide +kernel) rfl (by simp [oi, Value.category]) (by simp) (fun x C hN hT E => ?_)
  show oW l g x σ 0 [some (.ref (g.2.1 0 0)), some (oi 1), some (oi a), some (oi b), some (oi v), none] [] 0
  refine o_iload_n (pc := 0) C dL_sets_0 rfl ?_
  refine o_if_ne (pc := 1) C (tgt := 12) dL_sets_1 (by decide) (by decide) (fun _ => ?_) (fun q => absurd q (by decide))
  refine o_iload_n (pc := 12) C dL_sets_12 rfl ?_
  refine o_iconst (pc := 13) C dL_sets_13 ?_
  refine o_icmp_ne (pc := 14) C (tgt := 26) dL_sets_14 (by decide) (by decide) (by decide) (fun q => absurd rfl q) (fun _ => ?_)
  refine o_aload_n (pc := 17) C dL_sets_17 rfl ?_
  refine o_iload_n (pc := 18) C dL_sets_18 rfl ?_
  refine o_iload_n (pc := 19) C dL_sets_19 rfl ?_
  refine o_callVxh (n := 2) (As := [oi a, oi b]) (K := 0) (i := 0) (rest := []) hN hT C (c_X5_order hfl hx h1 h2) kw_5_12 kw_5_13 kw_5_14 kw_1_2 kw_5_15 (by decide) ⟨_, _, _, rfl, rfl, rfl⟩ (by decide +kernel) (by decide) (by omega) (by omega) rfl (Nat.le_of_ble_eq_true rfl) dL_sets_20 (fun X hX => ?_) (fun z σ2 hq => ?_)
  · have hX0 : E5_order σ a b X := hX
    rcases hX with ⟨rfl, hX⟩ | ⟨rfl, hX⟩
    · refine ⟨47, rw_sets_1_0, fun q => ?_⟩
      refine sta_5 (pc := 47) C dL_sets_47 ?_
      refine o_bipush (pc := 49) C dL_sets_49 rfl ?_
      exact E _ _ _ _ _ dL_sets_51 rfl (Or.inr ⟨EN_order hX0, rfl, rfl⟩) (by omega)
    · refine ⟨52, rw_sets_1_1, fun q => ?_⟩
      refine sta_5 (pc := 52) C dL_sets_52 ?_
      refine o_bipush (pc := 54) C dL_sets_54 rfl ?_
      exact E _ _ _ _ _ dL_sets_56 rfl (Or.inr ⟨EN_order hX0, rfl, rfl⟩) (by omega)
  have hq0 : P5_order σ a b z σ2 := hq
  refine o_goto (pc := 23) C (tgt := 46) dL_sets_23 (by decide) ?_
  exact E _ _ _ _ _ dL_sets_46 rfl (Or.inl ⟨PN_order hq0, hq0⟩) (by omega)
theorem rw_sets_2_0 : oRow [(0, 46, 47, 14), (0, 46, 52, 16)] 36 xIAE 47 := ⟨[], ⟨0, 46, 47, 14⟩, [⟨0, 46, 52, 16⟩], rfl, fun _ h => absurd h List.not_mem_nil, rfl, by decide, kw_4_16, by decide, rfl⟩
set_option maxRecDepth 100000 in
set_option maxHeartbeats 1000000 in
theorem c_L_sets_2 {l : Launch} {g : oG} {σ : oMem} {a b d : Int} (hfl : l.stackTraces = false) (hx : XI σ) (h1 : InR a) (h2 : InR b) (h3 : InR d) : oHi l g yL_sets (.codeWith yL_sets cL_sets 6 (some .int) [(0, 46, 47, 14), (0, 46, 52, 16)]) 7 3 [.ref (g.2.1 0 0), oi 2, oi a, oi b, oi d] σ (L5_setRules σ a b d) := by
  refine oHi_of (own := RL) (by decide +kernel) rfl (by simp [oi, Value.category]) (by simp) (fun x C hN hT E => ?_)
  show oW l g x σ 0 [some (.ref (g.2.1 0 0)), some (oi 2), some (oi a), some (oi b), some (oi d), none] [] 0
  refine o_iload_n (pc := 0) C dL_sets_0 rfl ?_
  refine o_if_ne (pc := 1) C (tgt := 12) dL_sets_1 (by decide) (by decide) (fun _ => ?_) (fun q => absurd q (by decide))
  refine o_iload_n (pc := 12) C dL_sets_12 rfl ?_
  refine o_iconst (pc := 13) C dL_sets_13 ?_
  refine o_icmp_ne (pc := 14) C (tgt := 26) dL_sets_14 (by decide) (by decide) (by decide) (fun _ => ?_) (fun q => absurd q (by decide))
  refine o_iload_n (pc := 26) C dL_sets_26 rfl ?_
  refine o_iconst (pc := 27) C dL_sets_27 ?_
  refine o_icmp_ne (pc := 28) C (tgt := 42) dL_sets_28 (by decide) (by decide) (by decide) (fun q => absurd rfl q) (fun _ => ?_)
  refine o_aload_n (pc := 31) C dL_sets_31 rfl ?_
  refine o_iload_n (pc := 32) C dL_sets_32 rfl ?_
  refine o_iload_n (pc := 33) C dL_sets_33 rfl ?_
  refine o_iload (pc := 34) C dL_sets_34 rfl ?_
  refine o_callVxh (n := 3) (As := [oi a, oi b, oi d]) (K := 0) (i := 0) (rest := []) hN hT C (c_X5_setRules hfl hx h1 h2 h3) kw_5_20 kw_5_21 kw_5_22 kw_1_2 kw_5_23 (by decide) ⟨_, _, _, rfl, rfl, rfl⟩ (by decide +kernel) (by decide) (by omega) (by omega) rfl (Nat.le_of_ble_eq_true rfl) dL_sets_36 (fun X hX => ?_) (fun z σ2 hq => ?_)
  · have hX0 : E5_setRules σ a b d X := hX
    obtain ⟨rfl, hX⟩ := hX
    refine ⟨47, rw_sets_2_0, fun q => ?_⟩
    refine sta_5 (pc := 47) C dL_sets_47 ?_
    refine o_bipush (pc := 49) C dL_sets_49 rfl ?_
    exact E _ _ _ _ _ dL_sets_51 rfl (Or.inr ⟨EN_setRules hX0, rfl, rfl⟩) (by omega)
  have hq0 : P5_setRules σ a b d z σ2 := hq
  refine o_goto (pc := 39) C (tgt := 46) dL_sets_39 (by decide) ?_
  exact E _ _ _ _ _ dL_sets_46 rfl (Or.inl ⟨PN_setRules hq0, hq0⟩) (by omega)
theorem rw_sets_3_1 : oRow [(0, 46, 47, 14), (0, 46, 52, 16)] 43 xISE 52 := ⟨[⟨0, 46, 47, 14⟩], ⟨0, 46, 52, 16⟩, [], rfl, List.forall_mem_cons.mpr ⟨Or.inr ⟨by decide, xIAE, kw_4_16, List.mem_of_getElem? (i := 0) rfl⟩, fun _ h => absurd h List.not_mem_nil⟩, rfl, by decide, kw_4_17, by decide, rfl⟩
set_option maxRecDepth 100000 in
set_option maxHeartbeats 1000000 in
theorem c_L_sets_3 {l : Launch} {g : oG} {σ : oMem} {u v w : Int} (hfl : l.stackTraces = false) (hx : XI σ)  : oHi l g yL_sets (.codeWith yL_sets cL_sets 6 (some .int) [(0, 46, 47, 14), (0, 46, 52, 16)]) 7 1 [.ref (g.2.1 0 0), oi 3, oi u, oi v, oi w] σ (L5_keep σ) := by
  refine oHi_of (own := RL) (by decide +kernel) rfl (by simp [oi, Value.category]) (by simp) (fun x C hN hT E => ?_)
  show oW l g x σ 0 [some (.ref (g.2.1 0 0)), some (oi 3), some (oi u), some (oi v), some (oi w), none] [] 0
  refine o_iload_n (pc := 0) C dL_sets_0 rfl ?_
  refine o_if_ne (pc := 1) C (tgt := 12) dL_sets_1 (by decide) (by decide) (fun _ => ?_) (fun q => absurd q (by decide))
  refine o_iload_n (pc := 12) C dL_sets_12 rfl ?_
  refine o_iconst (pc := 13) C dL_sets_13 ?_
  refine o_icmp_ne (pc := 14) C (tgt := 26) dL_sets_14 (by decide) (by decide) (by decide) (fun _ => ?_) (fun q => absurd q (by decide))
  refine o_iload_n (pc := 26) C dL_sets_26 rfl ?_
  refine o_iconst (pc := 27) C dL_sets_27 ?_
  refine o_icmp_ne (pc := 28) C (tgt := 42) dL_sets_28 (by decide) (by decide) (by decide) (fun _ => ?_) (fun q => absurd q (by decide))
  refine o_aload_n (pc := 42) C dL_sets_42 rfl ?_
  refine o_callVxh (n := 0) (As := []) (K := 0) (i := 0) (rest := []) hN hT C (c_X5_keep hfl hx) kw_6_0 kw_6_1 kw_6_2 kw_1_2 kw_6_3 (by decide) ⟨_, _, _, rfl, rfl, rfl⟩ (by decide +kernel) (by decide) (by omega) (by omega) rfl (Nat.le_of_ble_eq_true rfl) dL_sets_43 (fun X hX => ?_) (fun z σ2 hq => ?_)
  · have hX0 : E5_keep σ X := hX
    obtain ⟨rfl, hX⟩ := hX
    refine ⟨52, rw_sets_3_1, fun q => ?_⟩
    refine sta_5 (pc := 52) C dL_sets_52 ?_
    refine o_bipush (pc := 54) C dL_sets_54 rfl ?_
    exact E _ _ _ _ _ dL_sets_56 rfl (Or.inr ⟨EN_keep hX0, rfl, rfl⟩) (by omega)
  have hq0 : P5_keep σ z σ2 := hq
  exact E _ _ _ _ _ dL_sets_46 rfl (Or.inl ⟨PN_keep hq0, hq0⟩) (by omega)
theorem rw_with_0_0 : oRow [(0, 41, 42, 22), (0, 41, 47, 16)] 7 xIOB 42 := ⟨[], ⟨0, 41, 42, 22⟩, [⟨0, 41, 47, 16⟩], rfl, fun _ h => absurd h List.not_mem_nil, rfl, by decide, kw_7_5, by decide, rfl⟩
theorem rw_with_0_1 : oRow [(0, 41, 42, 22), (0, 41, 47, 16)] 7 xISE 47 := ⟨[⟨0, 41, 42, 22⟩], ⟨0, 41, 47, 16⟩, [], rfl, List.forall_mem_cons.mpr ⟨Or.inr ⟨by decide, xIOB, kw_7_5, List.mem_of_getElem? (i := 2) rfl⟩, fun _ h => absurd h List.not_mem_nil⟩, rfl, by decide, kw_4_17, by decide, rfl⟩
set_option maxRecDepth 100000 in
set_option maxHeartbeats 1000000 in
theorem c_L_with_0 {l : Launch} {g : oG} {σ : oMem} {a b : Int} (hfl : l.stackTraces = false) (hx : XI σ) (h1 : InR a) (h2 : InR b) : oHi l g yL_with (.codeWith yL_with cL_with 5 (some .int) [(0, 41, 42, 22), (0, 41, 47, 16)]) 8 3 [.ref (g.2.1 0 0), oi 0, oi a, oi b] σ (L5_run σ a b) := by
  refine oHi_of (own := RL) (by decide +kernel) rfl (by simp [oi, Value.category]) (by simp) (fun x C hN hT E => ?_)
  show oW l g x σ 0 [some (.ref (g.2.1 0 0)), some (oi 0), some (oi a), some (oi b), none] [] 0
  refine o_iload_n (pc := 0) C dL_with_0 rfl ?_
  refine o_if_ne (pc := 1) C (tgt := 13) dL_with_1 (by decide) (by decide) (fun q => absurd rfl q) (fun _ => ?_)
  refine o_aload_n (pc := 4) C dL_with_4 rfl ?_
  refine o_iload_n (pc := 5) C dL_with_5 rfl ?_
  refine o_iload_n (pc := 6) C dL_with_6 rfl ?_
  refine o_callVxh (n := 2) (As := [oi a, oi b]) (K := 0) (i := 0) (rest := []) hN hT C (c_X5_run hfl hx h1 h2) kw_14_7 kw_14_8 kw_14_9 kw_1_2 kw_14_10 (by decide) ⟨_, _, _, rfl, rfl, rfl⟩ (by decide +kernel) (by decide) (by omega) (by omega) rfl (Nat.le_of_ble_eq_true rfl) dL_with_7 (fun X hX => ?_) (fun z σ2 hq => ?_)
  · have hX0 : E5_run σ a b X := hX
    rcases hX with ⟨rfl, hX⟩ | ⟨rfl, hX⟩
    · refine ⟨42, rw_with_0_0, fun q => ?_⟩
      refine sta_4 (pc := 42) C dL_with_42 ?_
      refine o_bipush (pc := 44) C dL_with_44 rfl ?_
      exact E _ _ _ _ _ dL_with_46 rfl (Or.inr ⟨EN_run hX0, rfl, rfl⟩) (by omega)
    · refine ⟨47, rw_with_0_1, fun q => ?_⟩
      refine sta_4 (pc := 47) C dL_with_47 ?_
      refine o_bipush (pc := 49) C dL_with_49 rfl ?_
      exact E _ _ _ _ _ dL_with_51 rfl (Or.inr ⟨EN_run hX0, rfl, rfl⟩) (by omega)
  have hq0 : P5_run σ a b z σ2 := hq
  refine o_goto (pc := 10) C (tgt := 41) dL_with_10 (by decide) ?_
  exact E _ _ _ _ _ dL_with_41 rfl (Or.inl ⟨PN_run hq0, hq0⟩) (by omega)
theorem rw_with_1_0 : oRow [(0, 41, 42, 22), (0, 41, 47, 16)] 21 xIOB 42 := ⟨[], ⟨0, 41, 42, 22⟩, [⟨0, 41, 47, 16⟩], rfl, fun _ h => absurd h List.not_mem_nil, rfl, by decide, kw_7_5, by decide, rfl⟩
theorem rw_with_1_1 : oRow [(0, 41, 42, 22), (0, 41, 47, 16)] 21 xISE 47 := ⟨[⟨0, 41, 42, 22⟩], ⟨0, 41, 47, 16⟩, [], rfl, List.forall_mem_cons.mpr ⟨Or.inr ⟨by decide, xIOB, kw_7_5, List.mem_of_getElem? (i := 2) rfl⟩, fun _ h => absurd h List.not_mem_nil⟩, rfl, by decide, kw_4_17, by decide, rfl⟩
set_option maxRecDepth 100000 in
set_option maxHeartbeats 1000000 in
theorem c_L_with_1 {l : Launch} {g : oG} {σ : oMem} {a b : Int} (hfl : l.stackTraces = false) (hx : XI σ) (h1 : InR a) (h2 : InR b) : oHi l g yL_with (.codeWith yL_with cL_with 5 (some .int) [(0, 41, 42, 22), (0, 41, 47, 16)]) 8 3 [.ref (g.2.1 0 0), oi 1, oi a, oi b] σ (L5_plan σ a b) := by
  refine oHi_of (own := RL) (by decide +kernel) rfl (by simp [oi, Value.category]) (by simp) (fun x C hN hT E => ?_)
  show oW l g x σ 0 [some (.ref (g.2.1 0 0)), some (oi 1), some (oi a), some (oi b), none] [] 0
  refine o_iload_n (pc := 0) C dL_with_0 rfl ?_
  refine o_if_ne (pc := 1) C (tgt := 13) dL_with_1 (by decide) (by decide) (fun _ => ?_) (fun q => absurd q (by decide))
  refine o_iload_n (pc := 13) C dL_with_13 rfl ?_
  refine o_iconst (pc := 14) C dL_with_14 ?_
  refine o_icmp_ne (pc := 15) C (tgt := 27) dL_with_15 (by decide) (by decide) (by decide) (fun q => absurd rfl q) (fun _ => ?_)
  refine o_aload_n (pc := 18) C dL_with_18 rfl ?_
  refine o_iload_n (pc := 19) C dL_with_19 rfl ?_
  refine o_iload_n (pc := 20) C dL_with_20 rfl ?_
  refine o_callVxh (n := 2) (As := [oi a, oi b]) (K := 0) (i := 0) (rest := []) hN hT C (c_X5_plan hfl hx h1 h2) kw_15_21 kw_15_22 kw_15_23 kw_1_2 kw_16_0 (by decide) ⟨_, _, _, rfl, rfl, rfl⟩ (by decide +kernel) (by decide) (by omega) (by omega) rfl (Nat.le_of_ble_eq_true rfl) dL_with_21 (fun X hX => ?_) (fun z σ2 hq => ?_)
  · have hX0 : E5_plan σ a b X := hX
    rcases hX with ⟨rfl, hX⟩ | ⟨rfl, hX⟩
    · refine ⟨42, rw_with_1_0, fun q => ?_⟩
      refine sta_4 (pc := 42) C dL_with_42 ?_
      refine o_bipush (pc := 44) C dL_with_44 rfl ?_
      exact E _ _ _ _ _ dL_with_46 rfl (Or.inr ⟨EN_plan hX0, rfl, rfl⟩) (by omega)
    · refine ⟨47, rw_with_1_1, fun q => ?_⟩
      refine sta_4 (pc := 47) C dL_with_47 ?_
      refine o_bipush (pc := 49) C dL_with_49 rfl ?_
      exact E _ _ _ _ _ dL_with_51 rfl (Or.inr ⟨EN_plan hX0, rfl, rfl⟩) (by omega)
  have hq0 : P5_plan σ a b z σ2 := hq
  refine o_goto (pc := 24) C (tgt := 41) dL_with_24 (by decide) ?_
  exact E _ _ _ _ _ dL_with_41 rfl (Or.inl ⟨PN_plan hq0, hq0⟩) (by omega)
theorem rw_of_0_0 : oRow [(0, 96, 97, 22), (0, 96, 101, 16)] 6 xIOB 97 := ⟨[], ⟨0, 96, 97, 22⟩, [⟨0, 96, 101, 16⟩], rfl, fun _ h => absurd h List.not_mem_nil, rfl, by decide, kw_7_5, by decide, rfl⟩
set_option maxRecDepth 100000 in
set_option maxHeartbeats 1000000 in
theorem c_L_of_0 {l : Launch} {g : oG} {σ : oMem} {a : Int} (hfl : l.stackTraces = false) (hx : XI σ) (h1 : InR a) : oHi l g yL_of (.codeWith yL_of cL_of 4 (some .int) [(0, 96, 97, 22), (0, 96, 101, 16)]) 7 1 [.ref (g.2.1 0 0), oi 0, oi a] σ (L5_fill σ a) := by
  refine oHi_of (own := RL) (by decide +kernel) rfl (by simp [oi, Value.category]) (by simp) (fun x C hN hT E => ?_)
  show oW l g x σ 0 [some (.ref (g.2.1 0 0)), some (oi 0), some (oi a), none] [] 0
  refine o_iload_n (pc := 0) C dL_of_0 rfl ?_
  refine o_if_ne (pc := 1) C (tgt := 12) dL_of_1 (by decide) (by decide) (fun q => absurd rfl q) (fun _ => ?_)
  refine o_aload_n (pc := 4) C dL_of_4 rfl ?_
  refine o_iload_n (pc := 5) C dL_of_5 rfl ?_
  refine o_callVxh (n := 1) (As := [oi a]) (K := 0) (i := 0) (rest := []) hN hT C (c_X5_fill hfl hx h1) kw_8_16 kw_8_17 kw_8_18 kw_1_2 kw_8_19 (by decide) ⟨_, _, _, rfl, rfl, rfl⟩ (by decide +kernel) (by decide) (by omega) (by omega) rfl (Nat.le_of_ble_eq_true rfl) dL_of_6 (fun X hX => ?_) (fun z σ2 hq => ?_)
  · have hX0 : E5_fill σ a X := hX
    obtain ⟨rfl, hX⟩ := hX
    refine ⟨97, rw_of_0_0, fun q => ?_⟩
    refine sta_3 (pc := 97) C dL_of_97 ?_
    refine o_bipush (pc := 98) C dL_of_98 rfl ?_
    exact E _ _ _ _ _ dL_of_100 rfl (Or.inr ⟨EN_fill hX0, rfl, rfl⟩) (by omega)
  have hq0 : P5_fill σ a z σ2 := hq
  refine o_goto (pc := 9) C (tgt := 96) dL_of_9 (by decide) ?_
  exact E _ _ _ _ _ dL_of_96 rfl (Or.inl ⟨PN_fill hq0, hq0⟩) (by omega)
theorem rw_of_1_0 : oRow [(0, 96, 97, 22), (0, 96, 101, 16)] 19 xIOB 97 := ⟨[], ⟨0, 96, 97, 22⟩, [⟨0, 96, 101, 16⟩], rfl, fun _ h => absurd h List.not_mem_nil, rfl, by decide, kw_7_5, by decide, rfl⟩
theorem rw_of_1_1 : oRow [(0, 96, 97, 22), (0, 96, 101, 16)] 19 xISE 101 := ⟨[⟨0, 96, 97, 22⟩], ⟨0, 96, 101, 16⟩, [], rfl, List.forall_mem_cons.mpr ⟨Or.inr ⟨by decide, xIOB, kw_7_5, List.mem_of_getElem? (i := 2) rfl⟩, fun _ h => absurd h List.not_mem_nil⟩, rfl, by decide, kw_4_17, by decide, rfl⟩
set_option maxRecDepth 100000 in
set_option maxHeartbeats 1000000 in
theorem c_L_of_1 {l : Launch} {g : oG} {σ : oMem} {a : Int} (hfl : l.stackTraces = false) (hx : XI σ) (h1 : InR a) : oHi l g yL_of (.codeWith yL_of cL_of 4 (some .int) [(0, 96, 97, 22), (0, 96, 101, 16)]) 14 2 [.ref (g.2.1 0 0), oi 1, oi a] σ (L5_fullestByTrying σ a) := by
  refine oHi_of (own := RL) (by decide +kernel) rfl (by simp [oi, Value.category]) (by simp) (fun x C hN hT E => ?_)
  show oW l g x σ 0 [some (.ref (g.2.1 0 0)), some (oi 1), some (oi a), none] [] 0
  refine o_iload_n (pc := 0) C dL_of_0 rfl ?_
  refine o_if_ne (pc := 1) C (tgt := 12) dL_of_1 (by decide) (by decide) (fun _ => ?_) (fun q => absurd q (by decide))
  refine o_iload_n (pc := 12) C dL_of_12 rfl ?_
  refine o_iconst (pc := 13) C dL_of_13 ?_
  refine o_icmp_ne (pc := 14) C (tgt := 25) dL_of_14 (by decide) (by decide) (by decide) (fun q => absurd rfl q) (fun _ => ?_)
  refine o_aload_n (pc := 17) C dL_of_17 rfl ?_
  refine o_iload_n (pc := 18) C dL_of_18 rfl ?_
  refine o_callVxh (n := 1) (As := [oi a]) (K := 0) (i := 0) (rest := []) hN hT C (c_X5_fullestByTrying hfl hx h1) kw_10_6 kw_10_7 kw_10_8 kw_1_2 kw_10_9 (by decide) ⟨_, _, _, rfl, rfl, rfl⟩ (by decide +kernel) (by decide) (by omega) (by omega) rfl (Nat.le_of_ble_eq_true rfl) dL_of_19 (fun X hX => ?_) (fun z σ2 hq => ?_)
  · have hX0 : E5_fullestByTrying σ a X := hX
    rcases hX with ⟨rfl, hX⟩ | ⟨rfl, hX⟩
    · refine ⟨97, rw_of_1_0, fun q => ?_⟩
      refine sta_3 (pc := 97) C dL_of_97 ?_
      refine o_bipush (pc := 98) C dL_of_98 rfl ?_
      exact E _ _ _ _ _ dL_of_100 rfl (Or.inr ⟨EN_fullestByTrying hX0, rfl, rfl⟩) (by omega)
    · refine ⟨101, rw_of_1_1, fun q => ?_⟩
      refine sta_3 (pc := 101) C dL_of_101 ?_
      refine o_bipush (pc := 102) C dL_of_102 rfl ?_
      exact E _ _ _ _ _ dL_of_104 rfl (Or.inr ⟨EN_fullestByTrying hX0, rfl, rfl⟩) (by omega)
  have hq0 : P5_fullestByTrying σ a z σ2 := hq
  refine o_goto (pc := 22) C (tgt := 96) dL_of_22 (by decide) ?_
  exact E _ _ _ _ _ dL_of_96 rfl (Or.inl ⟨PN_fullestByTrying hq0, hq0⟩) (by omega)
theorem rw_of_2_0 : oRow [(0, 96, 97, 22), (0, 96, 101, 16)] 32 xIOB 97 := ⟨[], ⟨0, 96, 97, 22⟩, [⟨0, 96, 101, 16⟩], rfl, fun _ h => absurd h List.not_mem_nil, rfl, by decide, kw_7_5, by decide, rfl⟩
set_option maxRecDepth 100000 in
set_option maxHeartbeats 1000000 in
theorem c_L_of_2 {l : Launch} {g : oG} {σ : oMem} {a : Int} (hfl : l.stackTraces = false) (hx : XI σ) (h1 : InR a) : oHi l g yL_of (.codeWith yL_of cL_of 4 (some .int) [(0, 96, 97, 22), (0, 96, 101, 16)]) 7 1 [.ref (g.2.1 0 0), oi 2, oi a] σ (L5_slits σ a) := by
  refine oHi_of (own := RL) (by decide +kernel) rfl (by simp [oi, Value.category]) (by simp) (fun x C hN hT E => ?_)
  show oW l g x σ 0 [some (.ref (g.2.1 0 0)), some (oi 2), some (oi a), none] [] 0
  refine o_iload_n (pc := 0) C dL_of_0 rfl ?_
  refine o_if_ne (pc := 1) C (tgt := 12) dL_of_1 (by decide) (by decide) (fun _ => ?_) (fun q => absurd q (by decide))
  refine o_iload_n (pc := 12) C dL_of_12 rfl ?_
  refine o_iconst (pc := 13) C dL_of_13 ?_
  refine o_icmp_ne (pc := 14) C (tgt := 25) dL_of_14 (by decide) (by decide) (by decide) (fun _ => ?_) (fun q => absurd q (by decide))
  refine o_iload_n (pc := 25) C dL_of_25 rfl ?_
  refine o_iconst (pc := 26) C dL_of_26 ?_
  refine o_icmp_ne (pc := 27) C (tgt := 38) dL_of_27 (by decide) (by decide) (by decide) (fun q => absurd rfl q) (fun _ => ?_)
  refine o_aload_n (pc := 30) C dL_of_30 rfl ?_
  refine o_iload_n (pc := 31) C dL_of_31 rfl ?_
  refine o_callVxh (n := 1) (As := [oi a]) (K := 0) (i := 0) (rest := []) hN hT C (c_X5_slits hfl hx h1) kw_10_17 kw_10_18 kw_10_19 kw_1_2 kw_10_20 (by decide) ⟨_, _, _, rfl, rfl, rfl⟩ (by decide +kernel) (by decide) (by omega) (by omega) rfl (Nat.le_of_ble_eq_true rfl) dL_of_32 (fun X hX => ?_) (fun z σ2 hq => ?_)
  · have hX0 : E5_slits σ a X := hX
    obtain ⟨rfl, hX⟩ := hX
    refine ⟨97, rw_of_2_0, fun q => ?_⟩
    refine sta_3 (pc := 97) C dL_of_97 ?_
    refine o_bipush (pc := 98) C dL_of_98 rfl ?_
    exact E _ _ _ _ _ dL_of_100 rfl (Or.inr ⟨EN_slits hX0, rfl, rfl⟩) (by omega)
  have hq0 : P5_slits σ a z σ2 := hq
  refine o_goto (pc := 35) C (tgt := 96) dL_of_35 (by decide) ?_
  exact E _ _ _ _ _ dL_of_96 rfl (Or.inl ⟨PN_slits hq0, hq0⟩) (by omega)
theorem rw_of_3_0 : oRow [(0, 96, 97, 22), (0, 96, 101, 16)] 45 xIOB 97 := ⟨[], ⟨0, 96, 97, 22⟩, [⟨0, 96, 101, 16⟩], rfl, fun _ h => absurd h List.not_mem_nil, rfl, by decide, kw_7_5, by decide, rfl⟩
set_option maxRecDepth 100000 in
set_option maxHeartbeats 1000000 in
theorem c_L_of_3 {l : Launch} {g : oG} {σ : oMem} {a : Int} (hfl : l.stackTraces = false) (hx : XI σ) (h1 : InR a) : oHi l g yL_of (.codeWith yL_of cL_of 4 (some .int) [(0, 96, 97, 22), (0, 96, 101, 16)]) 7 1 [.ref (g.2.1 0 0), oi 3, oi a] σ (L5_moves σ a) := by
  refine oHi_of (own := RL) (by decide +kernel) rfl (by simp [oi, Value.category]) (by simp) (fun x C hN hT E => ?_)
  show oW l g x σ 0 [some (.ref (g.2.1 0 0)), some (oi 3), some (oi a), none] [] 0
  refine o_iload_n (pc := 0) C dL_of_0 rfl ?_
  refine o_if_ne (pc := 1) C (tgt := 12) dL_of_1 (by decide) (by decide) (fun _ => ?_) (fun q => absurd q (by decide))
  refine o_iload_n (pc := 12) C dL_of_12 rfl ?_
  refine o_iconst (pc := 13) C dL_of_13 ?_
  refine o_icmp_ne (pc := 14) C (tgt := 25) dL_of_14 (by decide) (by decide) (by decide) (fun _ => ?_) (fun q => absurd q (by decide))
  refine o_iload_n (pc := 25) C dL_of_25 rfl ?_
  refine o_iconst (pc := 26) C dL_of_26 ?_
  refine o_icmp_ne (pc := 27) C (tgt := 38) dL_of_27 (by decide) (by decide) (by decide) (fun _ => ?_) (fun q => absurd q (by decide))
  refine o_iload_n (pc := 38) C dL_of_38 rfl ?_
  refine o_iconst (pc := 39) C dL_of_39 ?_
  refine o_icmp_ne (pc := 40) C (tgt := 51) dL_of_40 (by decide) (by decide) (by decide) (fun q => absurd rfl q) (fun _ => ?_)
  refine o_aload_n (pc := 43) C dL_of_43 rfl ?_
  refine o_iload_n (pc := 44) C dL_of_44 rfl ?_
  refine o_callVxh (n := 1) (As := [oi a]) (K := 0) (i := 0) (rest := []) hN hT C (c_X5_moves hfl hx h1) kw_10_21 kw_10_22 kw_10_23 kw_1_2 kw_11_0 (by decide) ⟨_, _, _, rfl, rfl, rfl⟩ (by decide +kernel) (by decide) (by omega) (by omega) rfl (Nat.le_of_ble_eq_true rfl) dL_of_45 (fun X hX => ?_) (fun z σ2 hq => ?_)
  · have hX0 : E5_moves σ a X := hX
    obtain ⟨rfl, hX⟩ := hX
    refine ⟨97, rw_of_3_0, fun q => ?_⟩
    refine sta_3 (pc := 97) C dL_of_97 ?_
    refine o_bipush (pc := 98) C dL_of_98 rfl ?_
    exact E _ _ _ _ _ dL_of_100 rfl (Or.inr ⟨EN_moves hX0, rfl, rfl⟩) (by omega)
  have hq0 : P5_moves σ a z σ2 := hq
  refine o_goto (pc := 48) C (tgt := 96) dL_of_48 (by decide) ?_
  exact E _ _ _ _ _ dL_of_96 rfl (Or.inl ⟨PN_moves hq0, hq0⟩) (by omega)
theorem rw_of_4_0 : oRow [(0, 96, 97, 22), (0, 96, 101, 16)] 58 xIOB 97 := ⟨[], ⟨0, 96, 97, 22⟩, [⟨0, 96, 101, 16⟩], rfl, fun _ h => absurd h List.not_mem_nil, rfl, by decide, kw_7_5, by decide, rfl⟩
set_option maxRecDepth 100000 in
set_option maxHeartbeats 1000000 in
theorem c_L_of_4 {l : Launch} {g : oG} {σ : oMem} {a : Int} (hfl : l.stackTraces = false) (hx : XI σ) (h1 : InR a) : oHi l g yL_of (.codeWith yL_of cL_of 4 (some .int) [(0, 96, 97, 22), (0, 96, 101, 16)]) 7 1 [.ref (g.2.1 0 0), oi 4, oi a] σ (L5_delivered σ a) := by
  refine oHi_of (own := RL) (by decide +kernel) rfl (by simp [oi, Value.category]) (by simp) (fun x C hN hT E => ?_)
  show oW l g x σ 0 [some (.ref (g.2.1 0 0)), some (oi 4), some (oi a), none] [] 0
  refine o_iload_n (pc := 0) C dL_of_0 rfl ?_
  refine o_if_ne (pc := 1) C (tgt := 12) dL_of_1 (by decide) (by decide) (fun _ => ?_) (fun q => absurd q (by decide))
  refine o_iload_n (pc := 12) C dL_of_12 rfl ?_
  refine o_iconst (pc := 13) C dL_of_13 ?_
  refine o_icmp_ne (pc := 14) C (tgt := 25) dL_of_14 (by decide) (by decide) (by decide) (fun _ => ?_) (fun q => absurd q (by decide))
  refine o_iload_n (pc := 25) C dL_of_25 rfl ?_
  refine o_iconst (pc := 26) C dL_of_26 ?_
  refine o_icmp_ne (pc := 27) C (tgt := 38) dL_of_27 (by decide) (by decide) (by decide) (fun _ => ?_) (fun q => absurd q (by decide))
  refine o_iload_n (pc := 38) C dL_of_38 rfl ?_
  refine o_iconst (pc := 39) C dL_of_39 ?_
  refine o_icmp_ne (pc := 40) C (tgt := 51) dL_of_40 (by decide) (by decide) (by decide) (fun _ => ?_) (fun q => absurd q (by decide))
  refine o_iload_n (pc := 51) C dL_of_51 rfl ?_
  refine o_iconst (pc := 52) C dL_of_52 ?_
  refine o_icmp_ne (pc := 53) C (tgt := 64) dL_of_53 (by decide) (by decide) (by decide) (fun q => absurd rfl q) (fun _ => ?_)
  refine o_aload_n (pc := 56) C dL_of_56 rfl ?_
  refine o_iload_n (pc := 57) C dL_of_57 rfl ?_
  refine o_callVxh (n := 1) (As := [oi a]) (K := 0) (i := 0) (rest := []) hN hT C (c_X5_delivered hfl hx h1) kw_11_23 kw_12_0 kw_12_1 kw_1_2 kw_12_2 (by decide) ⟨_, _, _, rfl, rfl, rfl⟩ (by decide +kernel) (by decide) (by omega) (by omega) rfl (Nat.le_of_ble_eq_true rfl) dL_of_58 (fun X hX => ?_) (fun z σ2 hq => ?_)
  · have hX0 : E5_delivered σ a X := hX
    obtain ⟨rfl, hX⟩ := hX
    refine ⟨97, rw_of_4_0, fun q => ?_⟩
    refine sta_3 (pc := 97) C dL_of_97 ?_
    refine o_bipush (pc := 98) C dL_of_98 rfl ?_
    exact E _ _ _ _ _ dL_of_100 rfl (Or.inr ⟨EN_delivered hX0, rfl, rfl⟩) (by omega)
  have hq0 : P5_delivered σ a z σ2 := hq
  refine o_goto (pc := 61) C (tgt := 96) dL_of_61 (by decide) ?_
  exact E _ _ _ _ _ dL_of_96 rfl (Or.inl ⟨PN_delivered hq0, hq0⟩) (by omega)
theorem rw_of_5_0 : oRow [(0, 96, 97, 22), (0, 96, 101, 16)] 71 xIOB 97 := ⟨[], ⟨0, 96, 97, 22⟩, [⟨0, 96, 101, 16⟩], rfl, fun _ h => absurd h List.not_mem_nil, rfl, by decide, kw_7_5, by decide, rfl⟩
set_option maxRecDepth 100000 in
set_option maxHeartbeats 1000000 in
theorem c_L_of_5 {l : Launch} {g : oG} {σ : oMem} {a : Int} (hfl : l.stackTraces = false) (hx : XI σ) (h1 : InR a) : oHi l g yL_of (.codeWith yL_of cL_of 4 (some .int) [(0, 96, 97, 22), (0, 96, 101, 16)]) 9 1 [.ref (g.2.1 0 0), oi 5, oi a] σ (L5_nextAt σ a) := by
  refine oHi_of (own := RL) (by decide +kernel) rfl (by simp [oi, Value.category]) (by simp) (fun x C hN hT E => ?_)
  show oW l g x σ 0 [some (.ref (g.2.1 0 0)), some (oi 5), some (oi a), none] [] 0
  refine o_iload_n (pc := 0) C dL_of_0 rfl ?_
  refine o_if_ne (pc := 1) C (tgt := 12) dL_of_1 (by decide) (by decide) (fun _ => ?_) (fun q => absurd q (by decide))
  refine o_iload_n (pc := 12) C dL_of_12 rfl ?_
  refine o_iconst (pc := 13) C dL_of_13 ?_
  refine o_icmp_ne (pc := 14) C (tgt := 25) dL_of_14 (by decide) (by decide) (by decide) (fun _ => ?_) (fun q => absurd q (by decide))
  refine o_iload_n (pc := 25) C dL_of_25 rfl ?_
  refine o_iconst (pc := 26) C dL_of_26 ?_
  refine o_icmp_ne (pc := 27) C (tgt := 38) dL_of_27 (by decide) (by decide) (by decide) (fun _ => ?_) (fun q => absurd q (by decide))
  refine o_iload_n (pc := 38) C dL_of_38 rfl ?_
  refine o_iconst (pc := 39) C dL_of_39 ?_
  refine o_icmp_ne (pc := 40) C (tgt := 51) dL_of_40 (by decide) (by decide) (by decide) (fun _ => ?_) (fun q => absurd q (by decide))
  refine o_iload_n (pc := 51) C dL_of_51 rfl ?_
  refine o_iconst (pc := 52) C dL_of_52 ?_
  refine o_icmp_ne (pc := 53) C (tgt := 64) dL_of_53 (by decide) (by decide) (by decide) (fun _ => ?_) (fun q => absurd q (by decide))
  refine o_iload_n (pc := 64) C dL_of_64 rfl ?_
  refine o_iconst (pc := 65) C dL_of_65 ?_
  refine o_icmp_ne (pc := 66) C (tgt := 77) dL_of_66 (by decide) (by decide) (by decide) (fun q => absurd rfl q) (fun _ => ?_)
  refine o_aload_n (pc := 69) C dL_of_69 rfl ?_
  refine o_iload_n (pc := 70) C dL_of_70 rfl ?_
  refine o_callVxh (n := 1) (As := [oi a]) (K := 0) (i := 0) (rest := []) hN hT C (c_X5_nextAt hfl hx h1) kw_12_7 kw_12_8 kw_12_9 kw_1_2 kw_12_10 (by decide) ⟨_, _, _, rfl, rfl, rfl⟩ (by decide +kernel) (by decide) (by omega) (by omega) rfl (Nat.le_of_ble_eq_true rfl) dL_of_71 (fun X hX => ?_) (fun z σ2 hq => ?_)
  · have hX0 : E5_nextAt σ a X := hX
    obtain ⟨rfl, hX⟩ := hX
    refine ⟨97, rw_of_5_0, fun q => ?_⟩
    refine sta_3 (pc := 97) C dL_of_97 ?_
    refine o_bipush (pc := 98) C dL_of_98 rfl ?_
    exact E _ _ _ _ _ dL_of_100 rfl (Or.inr ⟨EN_nextAt hX0, rfl, rfl⟩) (by omega)
  have hq0 : P5_nextAt σ a z σ2 := hq
  refine o_goto (pc := 74) C (tgt := 96) dL_of_74 (by decide) ?_
  exact E _ _ _ _ _ dL_of_96 rfl (Or.inl ⟨PN_nextAt hq0, hq0⟩) (by omega)
theorem rw_of_6_0 : oRow [(0, 96, 97, 22), (0, 96, 101, 16)] 85 xIOB 97 := ⟨[], ⟨0, 96, 97, 22⟩, [⟨0, 96, 101, 16⟩], rfl, fun _ h => absurd h List.not_mem_nil, rfl, by decide, kw_7_5, by decide, rfl⟩
set_option maxRecDepth 100000 in
set_option maxHeartbeats 1000000 in
theorem c_L_of_6 {l : Launch} {g : oG} {σ : oMem} {a : Int} (hfl : l.stackTraces = false) (hx : XI σ) (h1 : InR a) : oHi l g yL_of (.codeWith yL_of cL_of 4 (some .int) [(0, 96, 97, 22), (0, 96, 101, 16)]) 7 1 [.ref (g.2.1 0 0), oi 6, oi a] σ (L5_draftWidth σ a) := by
  refine oHi_of (own := RL) (by decide +kernel) rfl (by simp [oi, Value.category]) (by simp) (fun x C hN hT E => ?_)
  show oW l g x σ 0 [some (.ref (g.2.1 0 0)), some (oi 6), some (oi a), none] [] 0
  refine o_iload_n (pc := 0) C dL_of_0 rfl ?_
  refine o_if_ne (pc := 1) C (tgt := 12) dL_of_1 (by decide) (by decide) (fun _ => ?_) (fun q => absurd q (by decide))
  refine o_iload_n (pc := 12) C dL_of_12 rfl ?_
  refine o_iconst (pc := 13) C dL_of_13 ?_
  refine o_icmp_ne (pc := 14) C (tgt := 25) dL_of_14 (by decide) (by decide) (by decide) (fun _ => ?_) (fun q => absurd q (by decide))
  refine o_iload_n (pc := 25) C dL_of_25 rfl ?_
  refine o_iconst (pc := 26) C dL_of_26 ?_
  refine o_icmp_ne (pc := 27) C (tgt := 38) dL_of_27 (by decide) (by decide) (by decide) (fun _ => ?_) (fun q => absurd q (by decide))
  refine o_iload_n (pc := 38) C dL_of_38 rfl ?_
  refine o_iconst (pc := 39) C dL_of_39 ?_
  refine o_icmp_ne (pc := 40) C (tgt := 51) dL_of_40 (by decide) (by decide) (by decide) (fun _ => ?_) (fun q => absurd q (by decide))
  refine o_iload_n (pc := 51) C dL_of_51 rfl ?_
  refine o_iconst (pc := 52) C dL_of_52 ?_
  refine o_icmp_ne (pc := 53) C (tgt := 64) dL_of_53 (by decide) (by decide) (by decide) (fun _ => ?_) (fun q => absurd q (by decide))
  refine o_iload_n (pc := 64) C dL_of_64 rfl ?_
  refine o_iconst (pc := 65) C dL_of_65 ?_
  refine o_icmp_ne (pc := 66) C (tgt := 77) dL_of_66 (by decide) (by decide) (by decide) (fun _ => ?_) (fun q => absurd q (by decide))
  refine o_iload_n (pc := 77) C dL_of_77 rfl ?_
  refine o_bipush (pc := 78) C dL_of_78 rfl ?_
  refine o_icmp_ne (pc := 80) C (tgt := 91) dL_of_80 (by decide) (by decide) (by decide) (fun q => absurd rfl q) (fun _ => ?_)
  refine o_aload_n (pc := 83) C dL_of_83 rfl ?_
  refine o_iload_n (pc := 84) C dL_of_84 rfl ?_
  refine o_callVxh (n := 1) (As := [oi a]) (K := 0) (i := 0) (rest := []) hN hT C (c_X5_draftWidth hfl hx h1) kw_13_17 kw_13_18 kw_13_19 kw_1_2 kw_13_20 (by decide) ⟨_, _, _, rfl, rfl, rfl⟩ (by decide +kernel) (by decide) (by omega) (by omega) rfl (Nat.le_of_ble_eq_true rfl) dL_of_85 (fun X hX => ?_) (fun z σ2 hq => ?_)
  · have hX0 : E5_draftWidth σ a X := hX
    obtain ⟨rfl, hX⟩ := hX
    refine ⟨97, rw_of_6_0, fun q => ?_⟩
    refine sta_3 (pc := 97) C dL_of_97 ?_
    refine o_bipush (pc := 98) C dL_of_98 rfl ?_
    exact E _ _ _ _ _ dL_of_100 rfl (Or.inr ⟨EN_draftWidth hX0, rfl, rfl⟩) (by omega)
  have hq0 : P5_draftWidth σ a z σ2 := hq
  refine o_goto (pc := 88) C (tgt := 96) dL_of_88 (by decide) ?_
  exact E _ _ _ _ _ dL_of_96 rfl (Or.inl ⟨PN_draftWidth hq0, hq0⟩) (by omega)
theorem rw_of_7_0 : oRow [(0, 96, 97, 22), (0, 96, 101, 16)] 93 xIOB 97 := ⟨[], ⟨0, 96, 97, 22⟩, [⟨0, 96, 101, 16⟩], rfl, fun _ h => absurd h List.not_mem_nil, rfl, by decide, kw_7_5, by decide, rfl⟩
set_option maxRecDepth 100000 in
set_option maxHeartbeats 1000000 in
theorem c_L_of_7 {l : Launch} {g : oG} {σ : oMem} {a : Int} (hfl : l.stackTraces = false) (hx : XI σ) (h1 : InR a) : oHi l g yL_of (.codeWith yL_of cL_of 4 (some .int) [(0, 96, 97, 22), (0, 96, 101, 16)]) 7 1 [.ref (g.2.1 0 0), oi 7, oi a] σ (L5_heatOf σ a) := by
  refine oHi_of (own := RL) (by decide +kernel) rfl (by simp [oi, Value.category]) (by simp) (fun x C hN hT E => ?_)
  show oW l g x σ 0 [some (.ref (g.2.1 0 0)), some (oi 7), some (oi a), none] [] 0
  refine o_iload_n (pc := 0) C dL_of_0 rfl ?_
  refine o_if_ne (pc := 1) C (tgt := 12) dL_of_1 (by decide) (by decide) (fun _ => ?_) (fun q => absurd q (by decide))
  refine o_iload_n (pc := 12) C dL_of_12 rfl ?_
  refine o_iconst (pc := 13) C dL_of_13 ?_
  refine o_icmp_ne (pc := 14) C (tgt := 25) dL_of_14 (by decide) (by decide) (by decide) (fun _ => ?_) (fun q => absurd q (by decide))
  refine o_iload_n (pc := 25) C dL_of_25 rfl ?_
  refine o_iconst (pc := 26) C dL_of_26 ?_
  refine o_icmp_ne (pc := 27) C (tgt := 38) dL_of_27 (by decide) (by decide) (by decide) (fun _ => ?_) (fun q => absurd q (by decide))
  refine o_iload_n (pc := 38) C dL_of_38 rfl ?_
  refine o_iconst (pc := 39) C dL_of_39 ?_
  refine o_icmp_ne (pc := 40) C (tgt := 51) dL_of_40 (by decide) (by decide) (by decide) (fun _ => ?_) (fun q => absurd q (by decide))
  refine o_iload_n (pc := 51) C dL_of_51 rfl ?_
  refine o_iconst (pc := 52) C dL_of_52 ?_
  refine o_icmp_ne (pc := 53) C (tgt := 64) dL_of_53 (by decide) (by decide) (by decide) (fun _ => ?_) (fun q => absurd q (by decide))
  refine o_iload_n (pc := 64) C dL_of_64 rfl ?_
  refine o_iconst (pc := 65) C dL_of_65 ?_
  refine o_icmp_ne (pc := 66) C (tgt := 77) dL_of_66 (by decide) (by decide) (by decide) (fun _ => ?_) (fun q => absurd q (by decide))
  refine o_iload_n (pc := 77) C dL_of_77 rfl ?_
  refine o_bipush (pc := 78) C dL_of_78 rfl ?_
  refine o_icmp_ne (pc := 80) C (tgt := 91) dL_of_80 (by decide) (by decide) (by decide) (fun _ => ?_) (fun q => absurd q (by decide))
  refine o_aload_n (pc := 91) C dL_of_91 rfl ?_
  refine o_iload_n (pc := 92) C dL_of_92 rfl ?_
  refine o_callVxh (n := 1) (As := [oi a]) (K := 0) (i := 0) (rest := []) hN hT C (c_X5_heatOf hfl hx h1) kw_14_0 kw_14_1 kw_14_2 kw_1_2 kw_14_3 (by decide) ⟨_, _, _, rfl, rfl, rfl⟩ (by decide +kernel) (by decide) (by omega) (by omega) rfl (Nat.le_of_ble_eq_true rfl) dL_of_93 (fun X hX => ?_) (fun z σ2 hq => ?_)
  · have hX0 : E5_heatOf σ a X := hX
    obtain ⟨rfl, hX⟩ := hX
    refine ⟨97, rw_of_7_0, fun q => ?_⟩
    refine sta_3 (pc := 97) C dL_of_97 ?_
    refine o_bipush (pc := 98) C dL_of_98 rfl ?_
    exact E _ _ _ _ _ dL_of_100 rfl (Or.inr ⟨EN_heatOf hX0, rfl, rfl⟩) (by omega)
  have hq0 : P5_heatOf σ a z σ2 := hq
  exact E _ _ _ _ _ dL_of_96 rfl (Or.inl ⟨PN_heatOf hq0, hq0⟩) (by omega)
theorem rw_at_0_0 : oRow [(0, 33, 34, 22), (0, 33, 39, 14)] 7 xIOB 34 := ⟨[], ⟨0, 33, 34, 22⟩, [⟨0, 33, 39, 14⟩], rfl, fun _ h => absurd h List.not_mem_nil, rfl, by decide, kw_7_5, by decide, rfl⟩
set_option maxRecDepth 100000 in
set_option maxHeartbeats 1000000 in
theorem c_L_at_0 {l : Launch} {g : oG} {σ : oMem} {a b : Int} (hfl : l.stackTraces = false) (hx : XI σ) (h1 : InR a) (h2 : InR b) : oHi l g yL_at (.codeWith yL_at cL_at 5 (some .int) [(0, 33, 34, 22), (0, 33, 39, 14)]) 7 2 [.ref (g.2.1 0 0), oi 0, oi a, oi b] σ (L5_slitWeight σ a b) := by
  refine oHi_of (own := RL) (by decide +kernel) rfl (by simp [oi, Value.category]) (by simp) (fun x C hN hT E => ?_)
  show oW l g x σ 0 [some (.ref (g.2.1 0 0)), some (oi 0), some (oi a), some (oi b), none] [] 0
  refine o_iload_n (pc := 0) C dL_at_0 rfl ?_
  refine o_if_ne (pc := 1) C (tgt := 13) dL_at_1 (by decide) (by decide) (fun q => absurd rfl q) (fun _ => ?_)
  refine o_aload_n (pc := 4) C dL_at_4 rfl ?_
  refine o_iload_n (pc := 5) C dL_at_5 rfl ?_
  refine o_iload_n (pc := 6) C dL_at_6 rfl ?_
  refine o_callVxh (n := 2) (As := [oi a, oi b]) (K := 0) (i := 0) (rest := []) hN hT C (c_X5_slitWeight hfl hx h1 h2) kw_17_18 kw_17_19 kw_17_20 kw_1_2 kw_17_21 (by decide) ⟨_, _, _, rfl, rfl, rfl⟩ (by decide +kernel) (by decide) (by omega) (by omega) rfl (Nat.le_of_ble_eq_true rfl) dL_at_7 (fun X hX => ?_) (fun z σ2 hq => ?_)
  · have hX0 : E5_slitWeight σ a b X := hX
    obtain ⟨rfl, hX⟩ := hX
    refine ⟨34, rw_at_0_0, fun q => ?_⟩
    refine sta_4 (pc := 34) C dL_at_34 ?_
    refine o_bipush (pc := 36) C dL_at_36 rfl ?_
    exact E _ _ _ _ _ dL_at_38 rfl (Or.inr ⟨EN_slitWeight hX0, rfl, rfl⟩) (by omega)
  have hq0 : P5_slitWeight σ a b z σ2 := hq
  refine o_goto (pc := 10) C (tgt := 33) dL_at_10 (by decide) ?_
  exact E _ _ _ _ _ dL_at_33 rfl (Or.inl ⟨PN_slitWeight hq0, hq0⟩) (by omega)
theorem rw_at_1_0 : oRow [(0, 33, 34, 22), (0, 33, 39, 14)] 21 xIOB 34 := ⟨[], ⟨0, 33, 34, 22⟩, [⟨0, 33, 39, 14⟩], rfl, fun _ h => absurd h List.not_mem_nil, rfl, by decide, kw_7_5, by decide, rfl⟩
set_option maxRecDepth 100000 in
set_option maxHeartbeats 1000000 in
theorem c_L_at_1 {l : Launch} {g : oG} {σ : oMem} {a b : Int} (hfl : l.stackTraces = false) (hx : XI σ) (h1 : InR a) (h2 : InR b) : oHi l g yL_at (.codeWith yL_at cL_at 5 (some .int) [(0, 33, 34, 22), (0, 33, 39, 14)]) 7 2 [.ref (g.2.1 0 0), oi 1, oi a, oi b] σ (L5_slitOrder σ a b) := by
  refine oHi_of (own := RL) (by decide +kernel) rfl (by simp [oi, Value.category]) (by simp) (fun x C hN hT E => ?_)
  show oW l g x σ 0 [some (.ref (g.2.1 0 0)), some (oi 1), some (oi a), some (oi b), none] [] 0
  refine o_iload_n (pc := 0) C dL_at_0 rfl ?_
  refine o_if_ne (pc := 1) C (tgt := 13) dL_at_1 (by decide) (by decide) (fun _ => ?_) (fun q => absurd q (by decide))
  refine o_iload_n (pc := 13) C dL_at_13 rfl ?_
  refine o_iconst (pc := 14) C dL_at_14 ?_
  refine o_icmp_ne (pc := 15) C (tgt := 27) dL_at_15 (by decide) (by decide) (by decide) (fun q => absurd rfl q) (fun _ => ?_)
  refine o_aload_n (pc := 18) C dL_at_18 rfl ?_
  refine o_iload_n (pc := 19) C dL_at_19 rfl ?_
  refine o_iload_n (pc := 20) C dL_at_20 rfl ?_
  refine o_callVxh (n := 2) (As := [oi a, oi b]) (K := 0) (i := 0) (rest := []) hN hT C (c_X5_slitOrder hfl hx h1 h2) kw_18_5 kw_18_6 kw_18_7 kw_1_2 kw_18_8 (by decide) ⟨_, _, _, rfl, rfl, rfl⟩ (by decide +kernel) (by decide) (by omega) (by omega) rfl (Nat.le_of_ble_eq_true rfl) dL_at_21 (fun X hX => ?_) (fun z σ2 hq => ?_)
  · have hX0 : E5_slitOrder σ a b X := hX
    obtain ⟨rfl, hX⟩ := hX
    refine ⟨34, rw_at_1_0, fun q => ?_⟩
    refine sta_4 (pc := 34) C dL_at_34 ?_
    refine o_bipush (pc := 36) C dL_at_36 rfl ?_
    exact E _ _ _ _ _ dL_at_38 rfl (Or.inr ⟨EN_slitOrder hX0, rfl, rfl⟩) (by omega)
  have hq0 : P5_slitOrder σ a b z σ2 := hq
  refine o_goto (pc := 24) C (tgt := 33) dL_at_24 (by decide) ?_
  exact E _ _ _ _ _ dL_at_33 rfl (Or.inl ⟨PN_slitOrder hq0, hq0⟩) (by omega)
theorem rw_at_2_0 : oRow [(0, 33, 34, 22), (0, 33, 39, 14)] 30 xIOB 34 := ⟨[], ⟨0, 33, 34, 22⟩, [⟨0, 33, 39, 14⟩], rfl, fun _ h => absurd h List.not_mem_nil, rfl, by decide, kw_7_5, by decide, rfl⟩
theorem rw_at_2_1 : oRow [(0, 33, 34, 22), (0, 33, 39, 14)] 30 xIAE 39 := ⟨[⟨0, 33, 34, 22⟩], ⟨0, 33, 39, 14⟩, [], rfl, List.forall_mem_cons.mpr ⟨Or.inr ⟨by decide, xIOB, kw_7_5, List.mem_of_getElem? (i := 1) rfl⟩, fun _ h => absurd h List.not_mem_nil⟩, rfl, by decide, kw_4_16, by decide, rfl⟩
set_option maxRecDepth 100000 in
set_option maxHeartbeats 1000000 in
theorem c_L_at_2 {l : Launch} {g : oG} {σ : oMem} {a b : Int} (hfl : l.stackTraces = false) (hx : XI σ) (h1 : InR a) (h2 : InR b) : oHi l g yL_at (.codeWith yL_at cL_at 5 (some .int) [(0, 33, 34, 22), (0, 33, 39, 14)]) 7 2 [.ref (g.2.1 0 0), oi 2, oi a, oi b] σ (L5_lost σ a b) := by
  refine oHi_of (own := RL) (by decide +kernel) rfl (by simp [oi, Value.category]) (by simp) (fun x C hN hT E => ?_)
  show oW l g x σ 0 [some (.ref (g.2.1 0 0)), some (oi 2), some (oi a), some (oi b), none] [] 0
  refine o_iload_n (pc := 0) C dL_at_0 rfl ?_
  refine o_if_ne (pc := 1) C (tgt := 13) dL_at_1 (by decide) (by decide) (fun _ => ?_) (fun q => absurd q (by decide))
  refine o_iload_n (pc := 13) C dL_at_13 rfl ?_
  refine o_iconst (pc := 14) C dL_at_14 ?_
  refine o_icmp_ne (pc := 15) C (tgt := 27) dL_at_15 (by decide) (by decide) (by decide) (fun _ => ?_) (fun q => absurd q (by decide))
  refine o_aload_n (pc := 27) C dL_at_27 rfl ?_
  refine o_iload_n (pc := 28) C dL_at_28 rfl ?_
  refine o_iload_n (pc := 29) C dL_at_29 rfl ?_
  refine o_callVxh (n := 2) (As := [oi a, oi b]) (K := 0) (i := 0) (rest := []) hN hT C (c_X5_lost hfl hx h1 h2) kw_18_9 kw_18_10 kw_18_11 kw_1_2 kw_18_12 (by decide) ⟨_, _, _, rfl, rfl, rfl⟩ (by decide +kernel) (by decide) (by omega) (by omega) rfl (Nat.le_of_ble_eq_true rfl) dL_at_30 (fun X hX => ?_) (fun z σ2 hq => ?_)
  · have hX0 : E5_lost σ a b X := hX
    rcases hX with ⟨rfl, hX⟩ | ⟨rfl, hX⟩
    · refine ⟨34, rw_at_2_0, fun q => ?_⟩
      refine sta_4 (pc := 34) C dL_at_34 ?_
      refine o_bipush (pc := 36) C dL_at_36 rfl ?_
      exact E _ _ _ _ _ dL_at_38 rfl (Or.inr ⟨EN_lost hX0, rfl, rfl⟩) (by omega)
    · refine ⟨39, rw_at_2_1, fun q => ?_⟩
      refine sta_4 (pc := 39) C dL_at_39 ?_
      refine o_bipush (pc := 41) C dL_at_41 rfl ?_
      exact E _ _ _ _ _ dL_at_43 rfl (Or.inr ⟨EN_lost hX0, rfl, rfl⟩) (by omega)
  have hq0 : P5_lost σ a b z σ2 := hq
  exact E _ _ _ _ _ dL_at_33 rfl (Or.inl ⟨PN_lost hq0, hq0⟩) (by omega)
