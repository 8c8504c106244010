set_option maxRecDepth 100000 in
set_option maxHeartbeats 4000000 in
theorem c_X5_coil {l : Launch} {g : oG} {σ : oMem} {a b d e : Int} (hfl : l.stackTraces = false) (hx : XI σ) (h1 : InR a) (h2 : InR b) (h3 : InR d) (h4 : InR e) : oXi l g yX5_coil (.code yX5_coil cX5_coil 5 (some .int)) 5 5 [.ref (g.2.1 0 0), oi a, oi b, oi d, oi e] σ (fun z σ' => z = σ 0 0 1 ∧ ((100 ≤ a ∧ a ≤ 2000) ∧ (1 ≤ b ∧ b ≤ 30000) ∧ (10 ≤ d ∧ d ≤ 5000) ∧ (1 ≤ e ∧ e ≤ 99)) ∧ σ 0 0 1 < 20 ∧ σ' = o_up (o_up (o_up (o_up (o_up σ 1 (σ 0 0 1).toNat 0 a) 1 (σ 0 0 1).toNat 1 b) 1 (σ 0 0 1).toNat 2 d) 1 (σ 0 0 1).toNat 3 e) 0 0 1 (σ 0 0 1 + 1)) (fun y => (y = xIAE ∧ ¬ ((100 ≤ a ∧ a ≤ 2000) ∧ (1 ≤ b ∧ b ≤ 30000) ∧ (10 ≤ d ∧ d ≤ 5000) ∧ (1 ≤ e ∧ e ≤ 99))) ∨ (y = xISE ∧ ((100 ≤ a ∧ a ≤ 2000) ∧ (1 ≤ b ∧ b ≤ 30000) ∧ (10 ≤ d ∧ d ≤ 5000) ∧ (1 ≤ e ∧ e ≤ 99)) ∧ ¬ σ 0 0 1 < 20)) := by
  refine oXi_of (own := RX5) hfl (by decide +kernel) rfl (by simp [oi, Value.category]) (by simp) (fun x C T E => ?_)
  show oW l g x σ 0 [some (.ref (g.2.1 0 0)), some (oi a), some (oi b), some (oi d), some (oi e)] [] 0
  obtain ⟨x1, x3, x5, ⟨x7, x8, x9⟩, x10, x14, xC, xO, xP, xD, xW, xT, xM⟩ := id hx
  refine o_iload_n (pc := 0) C dX5_coil_0 rfl ?_
  refine o_bipush (pc := 1) C dX5_coil_1 rfl ?_
  refine o_sipush (pc := 3) C dX5_coil_3 rfl ?_
  refine cl_X5_83 (pc := 6) T C (c_X5_requireRange hfl (by omega) (by omega) (by omega)) (fun y h => Or.inl ⟨h.1, fun q => h.2 (by omega)⟩) (by omega) (by omega) (Nat.le_of_ble_eq_true rfl) dX5_coil_6 (fun σ2 hq => ?_)
  obtain ⟨hq, r1⟩ := hq
  rw [hq]; clear hq
  refine o_iload_n (pc := 9) C dX5_coil_9 rfl ?_
  refine o_iconst (pc := 10) C dX5_coil_10 ?_
  refine o_sipush (pc := 11) C dX5_coil_11 rfl ?_
  refine cl_X5_83 (pc := 14) T C (c_X5_requireRange hfl (by omega) (by omega) (by omega)) (fun y h => Or.inl ⟨h.1, fun q => h.2 (by omega)⟩) (by omega) (by omega) (Nat.le_of_ble_eq_true rfl) dX5_coil_14 (fun σ2 hq => ?_)
  obtain ⟨hq, r2⟩ := hq
  rw [hq]; clear hq
  refine o_iload_n (pc := 17) C dX5_coil_17 rfl ?_
  refine o_bipush (pc := 18) C dX5_coil_18 rfl ?_
  refine o_sipush (pc := 20) C dX5_coil_20 rfl ?_
  refine cl_X5_83 (pc := 23) T C (c_X5_requireRange hfl (by omega) (by omega) (by omega)) (fun y h => Or.inl ⟨h.1, fun q => h.2 (by omega)⟩) (by omega) (by omega) (Nat.le_of_ble_eq_true rfl) dX5_coil_23 (fun σ2 hq => ?_)
  obtain ⟨hq, r3⟩ := hq
  rw [hq]; clear hq
  refine o_iload (pc := 26) C dX5_coil_26 rfl ?_
  refine o_iconst (pc := 28) C dX5_coil_28 ?_
  refine o_bipush (pc := 29) C dX5_coil_29 rfl ?_
  refine cl_X5_83 (pc := 31) T C (c_X5_requireRange hfl (by omega) (by omega) (by omega)) (fun y h => Or.inl ⟨h.1, fun q => h.2 (by omega)⟩) (by omega) (by omega) (Nat.le_of_ble_eq_true rfl) dX5_coil_31 (fun σ2 hq => ?_)
  obtain ⟨hq, r4⟩ := hq
  rw [hq]; clear hq
  refine o_aload_n (pc := 34) C dX5_coil_34 rfl ?_
  refine gf_X5_15 (pc := 35) C dX5_coil_35 ?_
  try simp (disch := decide) only [o_up_s, o_up_k, o_up_j, o_bl_k, o_rw_k]
  refine o_aload_n (pc := 38) C dX5_coil_38 rfl ?_
  refine gf_X5_11 (pc := 39) C dX5_coil_39 ?_
  refine al_19 (pc := 42) C dX5_coil_42 ?_
  refine o_icmp_lt (pc := 43) C (tgt := 56) dX5_coil_43 (by decide) (by omega) (by omega) (fun h43 => ?_) (fun h43 => ?_)
  · refine o_aload_n (pc := 56) C dX5_coil_56 rfl ?_
    refine gf_X5_11 (pc := 57) C dX5_coil_57 ?_
    refine o_aload_n (pc := 60) C dX5_coil_60 rfl ?_
    refine gf_X5_15 (pc := 61) C dX5_coil_61 ?_
    try simp (disch := decide) only [o_up_s, o_up_k, o_up_j, o_bl_k, o_rw_k]
    refine aa_19 (pc := 64) C (by omega) (by omega) dX5_coil_64 ?_
    refine o_iload_n (pc := 65) C dX5_coil_65 rfl ?_
    refine o_iload_n (pc := 66) C dX5_coil_66 rfl ?_
    refine o_iload_n (pc := 67) C dX5_coil_67 rfl ?_
    refine o_iload (pc := 68) C dX5_coil_68 rfl ?_
    refine cl_X5_94 (pc := 70) C (c_X0_describe (by omega)) (by omega) (by omega) (by omega) (Nat.le_of_ble_eq_true rfl) dX5_coil_70 (fun σ2 hq => ?_)
    rw [hq]; clear hq
    refine o_aload_n (pc := 73) C dX5_coil_73 rfl ?_
    refine o_dup (pc := 74) C dX5_coil_74 rfl ?_
    refine gf_X5_15 (pc := 75) C dX5_coil_75 ?_
    try simp (disch := decide) only [o_up_s, o_up_k, o_up_j, o_bl_k, o_rw_k]
    refine o_iconst (pc := 78) C dX5_coil_78 ?_
    refine o_iadd (pc := 79) C dX5_coil_79 ?_
    refine pf_X5_15 (pc := 80) C dX5_coil_80 ?_
    refine o_aload_n (pc := 83) C dX5_coil_83 rfl ?_
    refine gf_X5_15 (pc := 84) C dX5_coil_84 ?_
    try simp (disch := decide) only [o_up_s, o_up_k, o_up_j, o_bl_k, o_rw_k]
    refine o_iconst (pc := 87) C dX5_coil_87 ?_
    refine o_isub (pc := 88) C dX5_coil_88 ?_
    exact E _ _ _ _ _ dX5_coil_89 rfl ⟨by omega, ⟨r1, r2, r3, r4⟩, by omega, rfl⟩ (by omega)
  · exact th_87 (pc := 46) T (List.mem_of_getElem? (i := 14) rfl) dX5_coil_46 dX5_coil_49 dX5_coil_50 dX5_coil_52 dX5_coil_55 (by omega) (Or.inr ⟨rfl, ⟨r1, r2, r3, r4⟩, by omega⟩)
theorem DB_ins {σ : oMem} {c pl : Nat} {a b : Int} (h : DB σ c) (h8 : σ 1 c 6 < 8) (hp : (pl : Int) ≤ σ 1 c 6) (hab : 0 ≤ a ∧ a < b ∧ b ≤ 5000) : DB (o_up (o_rw (o_rw σ 2 c (o_ins (σ 2 c) (σ 1 c 6).toNat pl a)) 3 c (o_ins (σ 3 c) (σ 1 c 6).toNat pl b)) 1 c 6 (σ 1 c 6 + 1)) c := by
  obtain ⟨h0, h1, h2⟩ := h
  unfold DB
  rw [o_up_s]
  refine ⟨by omega, by omega, fun j hj => ?_⟩
  rw [o_up_k (by decide), o_up_k (by decide)]
  have e2 : o_rw (o_rw σ 2 c (o_ins (σ 2 c) (σ 1 c 6).toNat pl a)) 3 c (o_ins (σ 3 c) (σ 1 c 6).toNat pl b) 2 c j = o_ins (σ 2 c) (σ 1 c 6).toNat pl a j := by simp [o_rw]
  have e3 : o_rw (o_rw σ 2 c (o_ins (σ 2 c) (σ 1 c 6).toNat pl a)) 3 c (o_ins (σ 3 c) (σ 1 c 6).toNat pl b) 3 c j = o_ins (σ 3 c) (σ 1 c 6).toNat pl b j := by simp [o_rw]
  rw [e2, e3]
  unfold o_ins
  split
  · exact h2 j (by omega)
  · split
    · exact hab
    · rw [if_pos (by omega), if_pos (by omega)]; exact h2 (j - 1) (by omega)
set_option maxRecDepth 100000 in
set_option maxHeartbeats 4000000 in
theorem c_X5_defect {l : Launch} {g : oG} {σ : oMem} {a b d : Int} (hfl : l.stackTraces = false) (hx : XI σ) (h1 : InR a) (h2 : InR b) (h3 : InR d) : oXi l g yX5_defect (.code yX5_defect cX5_defect 5 (some .int)) 5 4 [.ref (g.2.1 0 0), oi a, oi b, oi d] σ (fun z σ' => okC σ a ∧ ((0 ≤ b ∧ b ≤ σ 1 a.toNat 2 - 1) ∧ (b + 1 ≤ d ∧ d ≤ σ 1 a.toNat 2)) ∧ (σ 1 a.toNat 10 = -1 ∧ σ 1 a.toNat 6 < 8) ∧ z = o_cutl σ' a.toNat ∧ ∃ pl : Nat, (pl : Int) ≤ σ 1 a.toNat 6 ∧ (0 < pl → σ 2 a.toNat (pl - 1) ≤ b) ∧ (∀ j : Nat, pl ≤ j → (j : Int) < σ 1 a.toNat 6 → b < σ 2 a.toNat j) ∧ σ' = o_up (o_rw (o_rw σ 2 a.toNat (o_ins (σ 2 a.toNat) (σ 1 a.toNat 6).toNat pl b)) 3 a.toNat (o_ins (σ 3 a.toNat) (σ 1 a.toNat 6).toNat pl d)) 1 a.toNat 6 (σ 1 a.toNat 6 + 1)) (fun y => (y = xIOB ∧ ¬ okC σ a) ∨ (y = xIAE ∧ okC σ a ∧ ¬ ((0 ≤ b ∧ b ≤ σ 1 a.toNat 2 - 1) ∧ (b + 1 ≤ d ∧ d ≤ σ 1 a.toNat 2))) ∨ (y = xISE ∧ okC σ a ∧ ((0 ≤ b ∧ b ≤ σ 1 a.toNat 2 - 1) ∧ (b + 1 ≤ d ∧ d ≤ σ 1 a.toNat 2)) ∧ ¬ (σ 1 a.toNat 10 = -1 ∧ σ 1 a.toNat 6 < 8))) := by
  refine oXi_of (own := RX5) hfl (by decide +kernel) rfl (by simp [oi, Value.category]) (by simp) (fun x C T E => ?_)
  show oW l g x σ 0 [some (.ref (g.2.1 0 0)), some (oi a), some (oi b), some (oi d), none] [] 0
  obtain ⟨x1, x3, x5, ⟨x7, x8, x9⟩, x10, x14, xC, xO, xP, xD, xW, xT, xM⟩ := id hx
  refine o_aload_n (pc := 0) C dX5_defect_0 rfl ?_
  refine o_iload_n (pc := 1) C dX5_defect_1 rfl ?_
  refine cl_X5_98 (pc := 2) T C (c_X5_requireCoil hfl h1 (by omega)) (fun y h => Or.inl ⟨h.1, h.2⟩) (by omega) (by omega) (Nat.le_of_ble_eq_true rfl) dX5_defect_2 (fun σ2 hq => ?_)
  obtain ⟨hq, r0⟩ := hq
  rw [hq]; clear hq
  have hcc := xC a.toNat (by omega)
  have hc2 := hcc.1.2.2.1
  have hcd := hcc.1.2.2.2.2.1
  have hcd0 := hcd.1
  have hcd1 := hcd.2.1
  have hs0 := hcc.2.1
  refine o_aload_n (pc := 5) C dX5_defect_5 rfl ?_
  refine gf_X5_11 (pc := 6) C dX5_defect_6 ?_
  refine o_iload_n (pc := 9) C dX5_defect_9 rfl ?_
  refine aa_19 (pc := 10) C (by omega) (by omega) dX5_defect_10 ?_
  refine sta_4 (pc := 11) C dX5_defect_11 ?_
  refine o_iload_n (pc := 13) C dX5_defect_13 rfl ?_
  refine o_iconst (pc := 14) C dX5_defect_14 ?_
  refine o_aload (pc := 15) C dX5_defect_15 rfl ?_
  refine gf_X5_102 (pc := 17) C (by omega) dX5_defect_17 ?_
  refine o_iconst (pc := 20) C dX5_defect_20 ?_
  refine o_isub (pc := 21) C dX5_defect_21 ?_
  refine cl_X5_83 (pc := 22) T C (c_X5_requireRange hfl (by omega) (by omega) (by omega)) (fun y h => Or.inr (Or.inl ⟨h.1, r0, fun q => h.2 q.1⟩)) (by omega) (by omega) (Nat.le_of_ble_eq_true rfl) dX5_defect_22 (fun σ2 hq => ?_)
  obtain ⟨hq, r1⟩ := hq
  rw [hq]; clear hq
  refine o_iload_n (pc := 25) C dX5_defect_25 rfl ?_
  refine o_iload_n (pc := 26) C dX5_defect_26 rfl ?_
  refine o_iconst (pc := 27) C dX5_defect_27 ?_
  refine o_iadd (pc := 28) C dX5_defect_28 ?_
  refine o_aload (pc := 29) C dX5_defect_29 rfl ?_
  refine gf_X5_102 (pc := 31) C (by omega) dX5_defect_31 ?_
  refine cl_X5_83 (pc := 34) T C (c_X5_requireRange hfl (by omega) (by omega) (by omega)) (fun y h => Or.inr (Or.inl ⟨h.1, r0, fun q => h.2 q.2⟩)) (by omega) (by omega) (Nat.le_of_ble_eq_true rfl) dX5_defect_34 (fun σ2 hq => ?_)
  obtain ⟨hq, r2⟩ := hq
  rw [hq]; clear hq
  refine o_aload (pc := 37) C dX5_defect_37 rfl ?_
  refine cl_X5_105 (pc := 39) C (c_X0_isSlit (by omega) (by omega)) (by omega) (by omega) (by omega) (Nat.le_of_ble_eq_true rfl) dX5_defect_39 (fun z σ2 hq => ?_)
  obtain ⟨rfl, hq⟩ := hq
  rw [hq]; clear hq
  refine o_if_ne (pc := 42) C (tgt := 53) dX5_defect_42 (by decide) (by split <;> omega) (fun h42 => ?_) (fun h42 => ?_)
  · exact th_87 (pc := 53) T (List.mem_of_getElem? (i := 0) rfl) dX5_defect_53 dX5_defect_56 dX5_defect_57 dX5_defect_59 dX5_defect_62 (by omega) (by
      first
      | exact Or.inr (Or.inr ⟨rfl, r0, ⟨r1, r2⟩, fun q => o_v h42 q.1⟩)
      | exact Or.inr (Or.inr ⟨rfl, r0, ⟨r1, r2⟩, fun q => by have := o_t h50; omega⟩))
  · refine o_aload (pc := 45) C dX5_defect_45 rfl ?_
    refine cl_X5_109 (pc := 47) C (c_X0_hasMostDefects (by omega) (by omega)) (by omega) (by omega) (by omega) (Nat.le_of_ble_eq_true rfl) dX5_defect_47 (fun z σ2 hq => ?_)
    obtain ⟨rfl, hq⟩ := hq
    rw [hq]; clear hq
    refine o_if_eq (pc := 50) C (tgt := 63) dX5_defect_50 (by decide) (by split <;> omega) (fun h50 => ?_) (fun h50 => ?_)
    · refine o_aload (pc := 63) C dX5_defect_63 rfl ?_
      refine o_iload_n (pc := 65) C dX5_defect_65 rfl ?_
      refine o_iload_n (pc := 66) C dX5_defect_66 rfl ?_
      refine cl_X5_114 (pc := 67) C (c_X0_addDefect (by omega) hcd (by have := o_f h50; omega) (by omega)) (by omega) (by omega) (by omega) (Nat.le_of_ble_eq_true rfl) dX5_defect_67 (fun σ2 hq => ?_)
      obtain ⟨pl, p1, p2, p3, hq⟩ := hq
      have hD2 : DB σ2 a.toNat := by rw [hq]; exact DB_ins hcd (by have := o_f h50; omega) p1 (by omega)
      refine o_aload (pc := 70) C dX5_defect_70 rfl ?_
      refine cl_X5_118 (pc := 72) C (c_X0_cutOutLength (by omega) hD2) (by omega) (by omega) (by omega) (Nat.le_of_ble_eq_true rfl) dX5_defect_72 (fun z σ2 hq => ?_)
      obtain ⟨rfl, hq2⟩ := hq
      rw [hq2]; clear hq2
      exact E _ _ _ _ _ dX5_defect_75 rfl ⟨r0, ⟨r1, r2⟩, ⟨o_u h42, by have := o_f h50; omega⟩, rfl, pl, p1, p2, p3, hq⟩ (by omega)
    · exact th_87 (pc := 53) T (List.mem_of_getElem? (i := 0) rfl) dX5_defect_53 dX5_defect_56 dX5_defect_57 dX5_defect_59 dX5_defect_62 (by omega) (by
        first
        | exact Or.inr (Or.inr ⟨rfl, r0, ⟨r1, r2⟩, fun q => o_v h42 q.1⟩)
        | exact Or.inr (Or.inr ⟨rfl, r0, ⟨r1, r2⟩, fun q => by have := o_t h50; omega⟩))
set_option maxRecDepth 100000 in
set_option maxHeartbeats 4000000 in
theorem c_X5_setRules {l : Launch} {g : oG} {σ : oMem} {a b d : Int} (hfl : l.stackTraces = false) (hx : XI σ) (h1 : InR a) (h2 : InR b) (h3 : InR d) : oXi l g yX5_setRules (.code yX5_setRules cX5_setRules 5 (some .int)) 5 3 [.ref (g.2.1 0 0), oi a, oi b, oi d] σ (fun z σ' => z = σ 0 0 7 ∧ ((0 ≤ a ∧ a ≤ 100) ∧ (0 ≤ b ∧ b ≤ 500) ∧ (2 ≤ d ∧ d ≤ 16)) ∧ σ' = o_up (o_up (o_up σ 0 0 7 a) 0 0 8 b) 0 0 9 d) (fun y => y = xIAE ∧ ¬ ((0 ≤ a ∧ a ≤ 100) ∧ (0 ≤ b ∧ b ≤ 500) ∧ (2 ≤ d ∧ d ≤ 16))) := by
  refine oXi_of (own := RX5) hfl (by decide +kernel) rfl (by simp [oi, Value.category]) (by simp) (fun x C T E => ?_)
  show oW l g x σ 0 [some (.ref (g.2.1 0 0)), some (oi a), some (oi b), some (oi d), none] [] 0
  obtain ⟨x1, x3, x5, ⟨x7, x8, x9⟩, x10, x14, xC, xO, xP, xD, xW, xT, xM⟩ := id hx
  refine o_iload_n (pc := 0) C dX5_setRules_0 rfl ?_
  refine o_iconst (pc := 1) C dX5_setRules_1 ?_
  refine o_bipush (pc := 2) C dX5_setRules_2 rfl ?_
  refine cl_X5_83 (pc := 4) T C (c_X5_requireRange hfl (by omega) (by omega) (by omega)) (fun y h => ⟨h.1, fun q => h.2 (by omega)⟩) (by omega) (by omega) (Nat.le_of_ble_eq_true rfl) dX5_setRules_4 (fun σ2 hq => ?_)
  obtain ⟨hq, r1⟩ := hq
  rw [hq]; clear hq
  refine o_iload_n (pc := 7) C dX5_setRules_7 rfl ?_
  refine o_iconst (pc := 8) C dX5_setRules_8 ?_
  refine o_sipush (pc := 9) C dX5_setRules_9 rfl ?_
  refine cl_X5_83 (pc := 12) T C (c_X5_requireRange hfl (by omega) (by omega) (by omega)) (fun y h => ⟨h.1, fun q => h.2 (by omega)⟩) (by omega) (by omega) (Nat.le_of_ble_eq_true rfl) dX5_setRules_12 (fun σ2 hq => ?_)
  obtain ⟨hq, r2⟩ := hq
  rw [hq]; clear hq
  refine o_iload_n (pc := 15) C dX5_setRules_15 rfl ?_
  refine o_iconst (pc := 16) C dX5_setRules_16 ?_
  refine o_bipush (pc := 17) C dX5_setRules_17 rfl ?_
  refine cl_X5_83 (pc := 19) T C (c_X5_requireRange hfl (by omega) (by omega) (by omega)) (fun y h => ⟨h.1, fun q => h.2 (by omega)⟩) (by omega) (by omega) (Nat.le_of_ble_eq_true rfl) dX5_setRules_19 (fun σ2 hq => ?_)
  obtain ⟨hq, r3⟩ := hq
  rw [hq]; clear hq
  refine o_aload_n (pc := 22) C dX5_setRules_22 rfl ?_
  refine gf_X5_42 (pc := 23) C dX5_setRules_23 ?_
  refine sti_4 (pc := 26) C dX5_setRules_26 ?_
  refine o_aload_n (pc := 28) C dX5_setRules_28 rfl ?_
  refine o_iload_n (pc := 29) C dX5_setRules_29 rfl ?_
  refine pf_X5_42 (pc := 30) C dX5_setRules_30 ?_
  refine o_aload_n (pc := 33) C dX5_setRules_33 rfl ?_
  refine o_iload_n (pc := 34) C dX5_setRules_34 rfl ?_
  refine pf_X5_45 (pc := 35) C dX5_setRules_35 ?_
  refine o_aload_n (pc := 38) C dX5_setRules_38 rfl ?_
  refine o_iload_n (pc := 39) C dX5_setRules_39 rfl ?_
  refine pf_X5_48 (pc := 40) C dX5_setRules_40 ?_
  refine o_iload (pc := 43) C dX5_setRules_43 rfl ?_
  exact E _ _ _ _ _ dX5_setRules_45 rfl ⟨rfl, ⟨r1, r2, r3⟩, rfl⟩ (by omega)
set_option maxRecDepth 100000 in
set_option maxHeartbeats 4000000 in
theorem c_X5_order {l : Launch} {g : oG} {σ : oMem} {a b : Int} (hfl : l.stackTraces = false) (hx : XI σ) (h1 : InR a) (h2 : InR b) : oXi l g yX5_order (.code yX5_order cX5_order 3 (some .int)) 5 3 [.ref (g.2.1 0 0), oi a, oi b] σ (fun z σ' => z = σ 0 0 3 ∧ ((20 ≤ a ∧ a ≤ 1000) ∧ (1 ≤ b ∧ b ≤ 50000)) ∧ σ 0 0 3 < 12 ∧ σ' = o_up (o_up (o_up σ 7 (σ 0 0 3).toNat 0 a) 7 (σ 0 0 3).toNat 1 b) 0 0 3 (σ 0 0 3 + 1)) (fun y => (y = xIAE ∧ ¬ ((20 ≤ a ∧ a ≤ 1000) ∧ (1 ≤ b ∧ b ≤ 50000))) ∨ (y = xISE ∧ ((20 ≤ a ∧ a ≤ 1000) ∧ (1 ≤ b ∧ b ≤ 50000)) ∧ ¬ σ 0 0 3 < 12)) := by
  refine oXi_of (own := RX5) hfl (by decide +kernel) rfl (by simp [oi, Value.category]) (by simp) (fun x C T E => ?_)
  show oW l g x σ 0 [some (.ref (g.2.1 0 0)), some (oi a), some (oi b)] [] 0
  obtain ⟨x1, x3, x5, ⟨x7, x8, x9⟩, x10, x14, xC, xO, xP, xD, xW, xT, xM⟩ := id hx
  refine o_iload_n (pc := 0) C dX5_order_0 rfl ?_
  refine o_bipush (pc := 1) C dX5_order_1 rfl ?_
  refine o_sipush (pc := 3) C dX5_order_3 rfl ?_
  refine cl_X5_83 (pc := 6) T C (c_X5_requireRange hfl (by omega) (by omega) (by omega)) (fun y h => Or.inl ⟨h.1, fun q => h.2 (by omega)⟩) (by omega) (by omega) (Nat.le_of_ble_eq_true rfl) dX5_order_6 (fun σ2 hq => ?_)
  obtain ⟨hq, r1⟩ := hq
  rw [hq]; clear hq
  refine o_iload_n (pc := 9) C dX5_order_9 rfl ?_
  refine o_iconst (pc := 10) C dX5_order_10 ?_
  refine o_ldcI (n := 50000) (pc := 11) C dX5_order_11 kw_5_16 ?_
  refine cl_X5_83 (pc := 13) T C (c_X5_requireRange hfl (by omega) (by omega) (by omega)) (fun y h => Or.inl ⟨h.1, fun q => h.2 (by omega)⟩) (by omega) (by omega) (Nat.le_of_ble_eq_true rfl) dX5_order_13 (fun σ2 hq => ?_)
  obtain ⟨hq, r2⟩ := hq
  rw [hq]; clear hq
  refine o_aload_n (pc := 16) C dX5_order_16 rfl ?_
  refine gf_X5_25 (pc := 17) C dX5_order_17 ?_
  try simp (disch := decide) only [o_up_s, o_up_k, o_up_j, o_bl_k, o_rw_k]
  refine o_aload_n (pc := 20) C dX5_order_20 rfl ?_
  refine gf_X5_21 (pc := 21) C dX5_order_21 ?_
  refine al_20 (pc := 24) C dX5_order_24 ?_
  refine o_icmp_lt (pc := 25) C (tgt := 38) dX5_order_25 (by decide) (by omega) (by omega) (fun h25 => ?_) (fun h25 => ?_)
  · refine o_aload_n (pc := 38) C dX5_order_38 rfl ?_
    refine gf_X5_21 (pc := 39) C dX5_order_39 ?_
    refine o_aload_n (pc := 42) C dX5_order_42 rfl ?_
    refine gf_X5_25 (pc := 43) C dX5_order_43 ?_
    try simp (disch := decide) only [o_up_s, o_up_k, o_up_j, o_bl_k, o_rw_k]
    refine aa_20 (pc := 46) C (by omega) (by omega) dX5_order_46 ?_
    refine o_iload_n (pc := 47) C dX5_order_47 rfl ?_
    refine o_iload_n (pc := 48) C dX5_order_48 rfl ?_
    refine cl_X5_125 (pc := 49) C (c_X2_describe (by omega)) (by omega) (by omega) (by omega) (Nat.le_of_ble_eq_true rfl) dX5_order_49 (fun σ2 hq => ?_)
    rw [hq]; clear hq
    refine o_aload_n (pc := 52) C dX5_order_52 rfl ?_
    refine o_dup (pc := 53) C dX5_order_53 rfl ?_
    refine gf_X5_25 (pc := 54) C dX5_order_54 ?_
    try simp (disch := decide) only [o_up_s, o_up_k, o_up_j, o_bl_k, o_rw_k]
    refine o_iconst (pc := 57) C dX5_order_57 ?_
    refine o_iadd (pc := 58) C dX5_order_58 ?_
    refine pf_X5_25 (pc := 59) C dX5_order_59 ?_
    refine o_aload_n (pc := 62) C dX5_order_62 rfl ?_
    refine gf_X5_25 (pc := 63) C dX5_order_63 ?_
    try simp (disch := decide) only [o_up_s, o_up_k, o_up_j, o_bl_k, o_rw_k]
    refine o_iconst (pc := 66) C dX5_order_66 ?_
    refine o_isub (pc := 67) C dX5_order_67 ?_
    exact E _ _ _ _ _ dX5_order_68 rfl ⟨by omega, ⟨r1, r2⟩, by omega, rfl⟩ (by omega)
  · exact th_87 (pc := 28) T (List.mem_of_getElem? (i := 1) rfl) dX5_order_28 dX5_order_31 dX5_order_32 dX5_order_34 dX5_order_37 (by omega) (Or.inr ⟨rfl, ⟨r1, r2⟩, by omega⟩)
set_option maxRecDepth 100000 in
set_option maxHeartbeats 4000000 in
theorem c_X5_addSlit {l : Launch} {g : oG} {σ : oMem} {a : Int} (hfl : l.stackTraces = false) (hx : XI σ) (h1 : InR a) : oXi l g yX5_addSlit (.code yX5_addSlit cX5_addSlit 2 (some .int)) 5 2 [.ref (g.2.1 0 0), oi a] σ (fun z σ' => z = σ 8 10 1 + 1 ∧ (20 ≤ a ∧ a ≤ 1000) ∧ σ 8 10 1 < 15 ∧ σ' = o_up (o_up σ 9 10 (σ 8 10 1).toNat a) 8 10 1 (σ 8 10 1 + 1)) (fun y => (y = xIAE ∧ ¬ (20 ≤ a ∧ a ≤ 1000)) ∨ (y = xISE ∧ (20 ≤ a ∧ a ≤ 1000) ∧ ¬ σ 8 10 1 < 15)) := by
  refine oXi_of (own := RX5) hfl (by decide +kernel) rfl (by simp [oi, Value.category]) (by simp) (fun x C T E => ?_)
  show oW l g x σ 0 [some (.ref (g.2.1 0 0)), some (oi a)] [] 0
  obtain ⟨x1, x3, x5, ⟨x7, x8, x9⟩, x10, x14, xC, xO, xP, xD, xW, xT, xM⟩ := id hx
  have xd0 := xD.1
  have xd1 := xD.2.1
  refine o_iload_n (pc := 0) C dX5_addSlit_0 rfl ?_
  refine o_bipush (pc := 1) C dX5_addSlit_1 rfl ?_
  refine o_sipush (pc := 3) C dX5_addSlit_3 rfl ?_
  refine cl_X5_83 (pc := 6) T C (c_X5_requireRange hfl (by omega) (by omega) (by omega)) (fun y h => Or.inl ⟨h.1, fun q => h.2 (by omega)⟩) (by omega) (by omega) (Nat.le_of_ble_eq_true rfl) dX5_addSlit_6 (fun σ2 hq => ?_)
  obtain ⟨hq, r1⟩ := hq
  rw [hq]; clear hq
  refine o_aload_n (pc := 9) C dX5_addSlit_9 rfl ?_
  refine gf_X5_38 (pc := 10) C dX5_addSlit_10 ?_
  refine cl_X5_127 (pc := 13) C (c_X3_isFull (by decide) (by omega)) (by omega) (by omega) (by omega) (Nat.le_of_ble_eq_true rfl) dX5_addSlit_13 (fun z σ2 hq => ?_)
  obtain ⟨rfl, hq⟩ := hq
  rw [hq]; clear hq
  refine o_if_eq (pc := 16) C (tgt := 29) dX5_addSlit_16 (by decide) (by split <;> omega) (fun h16 => ?_) (fun h16 => ?_)
  · refine o_aload_n (pc := 29) C dX5_addSlit_29 rfl ?_
    refine gf_X5_38 (pc := 30) C dX5_addSlit_30 ?_
    refine o_iload_n (pc := 33) C dX5_addSlit_33 rfl ?_
    refine cl_X5_132 (pc := 34) C (c_X3_append (by decide) (by omega) (by omega)) (by omega) (by omega) (by omega) (Nat.le_of_ble_eq_true rfl) dX5_addSlit_34 (fun σ2 hq => ?_)
    rw [if_pos (by have := o_f h16; omega)] at hq
    rw [hq]; clear hq
    refine o_aload_n (pc := 37) C dX5_addSlit_37 rfl ?_
    refine gf_X5_38 (pc := 38) C dX5_addSlit_38 ?_
    refine gf_X5_135 (pc := 41) C (by omega) dX5_addSlit_41 ?_
    try simp (disch := decide) only [o_up_s, o_up_k, o_up_j, o_bl_k, o_rw_k]
    exact E _ _ _ _ _ dX5_addSlit_44 rfl ⟨by first | rfl | simp [o_up], r1, by have := o_f h16; omega, rfl⟩ (by omega)
  · exact th_87 (pc := 19) T (List.mem_of_getElem? (i := 2) rfl) dX5_addSlit_19 dX5_addSlit_22 dX5_addSlit_23 dX5_addSlit_25 dX5_addSlit_28 (by omega) (Or.inr ⟨rfl, r1, by have := o_t h16; omega⟩)
set_option maxRecDepth 100000 in
set_option maxHeartbeats 4000000 in
theorem c_X5_draftSlits {l : Launch} {g : oG} {σ : oMem}  (hx : XI σ) : oMi l g yX5_draftSlits (.code yX5_draftSlits cX5_draftSlits 1 (some .int)) 5 0 [.ref (g.2.1 0 0)] σ (fun z σ' => z = σ 8 10 1 ∧ σ' = σ) := by
  refine oMi_of (own := RX5) (by decide +kernel) rfl (by simp [oi, Value.category]) (by simp) (fun x C E => ?_)
  show oW l g x σ 0 [some (.ref (g.2.1 0 0))] [] 0
  refine o_aload_n (pc := 0) C dX5_draftSlits_0 rfl ?_
  refine gf_X5_38 (pc := 1) C dX5_draftSlits_1 ?_
  refine gf_X5_135 (pc := 4) C (by omega) dX5_draftSlits_4 ?_
  exact E _ _ _ _ _ dX5_draftSlits_7 rfl ⟨rfl, rfl⟩ (by omega)
set_option maxRecDepth 100000 in
set_option maxHeartbeats 4000000 in
theorem c_X5_draftWidth {l : Launch} {g : oG} {σ : oMem} {a : Int} (hfl : l.stackTraces = false) (hx : XI σ) (h1 : InR a) : oXi l g yX5_draftWidth (.code yX5_draftWidth cX5_draftWidth 2 (some .int)) 5 1 [.ref (g.2.1 0 0), oi a] σ (fun z σ' => z = σ 9 10 a.toNat ∧ (0 ≤ a ∧ a < σ 8 10 1) ∧ σ' = σ) (fun y => y = xIOB ∧ ¬ (0 ≤ a ∧ a < σ 8 10 1)) := by
  refine oXi_of (own := RX5) hfl (by decide +kernel) rfl (by simp [oi, Value.category]) (by simp) (fun x C T E => ?_)
  show oW l g x σ 0 [some (.ref (g.2.1 0 0)), some (oi a)] [] 0
  obtain ⟨x1, x3, x5, ⟨x7, x8, x9⟩, x10, x14, xC, xO, xP, xD, xW, xT, xM⟩ := id hx
  have xd0 := xD.1
  have xd1 := xD.2.1
  refine o_aload_n (pc := 0) C dX5_draftWidth_0 rfl ?_
  refine gf_X5_38 (pc := 1) C dX5_draftWidth_1 ?_
  refine o_iload_n (pc := 4) C dX5_draftWidth_4 rfl ?_
  refine cl_X5_141 (pc := 5) C (c_X3_hasSlitAt (by decide) (by omega) h1) (by omega) (by omega) (by omega) (Nat.le_of_ble_eq_true rfl) dX5_draftWidth_5 (fun z σ2 hq => ?_)
  obtain ⟨rfl, hq⟩ := hq
  rw [hq]; clear hq
  refine o_if_ne (pc := 8) C (tgt := 21) dX5_draftWidth_8 (by decide) (by split <;> omega) (fun h8 => ?_) (fun h8 => ?_)
  · have h8 := o_t h8
    refine o_aload_n (pc := 21) C dX5_draftWidth_21 rfl ?_
    refine gf_X5_38 (pc := 22) C dX5_draftWidth_22 ?_
    refine gf_X5_150 (pc := 25) C (by omega) dX5_draftWidth_25 ?_
    refine o_iload_n (pc := 28) C dX5_draftWidth_28 rfl ?_
    refine ia_9 (pc := 29) C (by omega) (by omega) (by omega) dX5_draftWidth_29 ?_
    exact E _ _ _ _ _ dX5_draftWidth_30 rfl ⟨rfl, h8, rfl⟩ (by omega)
  · exact th_145 (pc := 11) T (List.mem_of_getElem? (i := 3) rfl) dX5_draftWidth_11 dX5_draftWidth_14 dX5_draftWidth_15 dX5_draftWidth_17 dX5_draftWidth_20 (by omega) ⟨rfl, o_f h8⟩
set_option maxRecDepth 100000 in
set_option maxHeartbeats 4000000 in
theorem c_X5_keep {l : Launch} {g : oG} {σ : oMem}  (hfl : l.stackTraces = false) (hx : XI σ) : oXi l g yX5_keep (.code yX5_keep cX5_keep 1 (some .int)) 5 1 [.ref (g.2.1 0 0)] σ (fun z σ' => z = σ 0 0 5 ∧ (0 < σ 8 10 1 ∧ σ 0 0 5 < 10) ∧ σ' = o_up (o_up (o_up (o_bl σ 9 (σ 0 0 5).toNat (σ 8 10 1).toNat (σ 9 10)) 8 (σ 0 0 5).toNat 1 (σ 8 10 1)) 8 10 1 0) 0 0 5 (σ 0 0 5 + 1)) (fun y => y = xISE ∧ ¬ (0 < σ 8 10 1 ∧ σ 0 0 5 < 10)) := by
  refine oXi_of (own := RX5) hfl (by decide +kernel) rfl (by simp [oi, Value.category]) (by simp) (fun x C T E => ?_)
  show oW l g x σ 0 [some (.ref (g.2.1 0 0))] [] 0
  obtain ⟨x1, x3, x5, ⟨x7, x8, x9⟩, x10, x14, xC, xO, xP, xD, xW, xT, xM⟩ := id hx
  have xd0 := xD.1
  have xd1 := xD.2.1
  refine o_aload_n (pc := 0) C dX5_keep_0 rfl ?_
  refine gf_X5_38 (pc := 1) C dX5_keep_1 ?_
  refine gf_X5_135 (pc := 4) C (by omega) dX5_keep_4 ?_
  try simp (disch := decide) only [o_up_s, o_up_k, o_up_j, o_bl_k, o_rw_k]
  refine o_if_eq (pc := 7) C (tgt := 22) dX5_keep_7 (by decide) (by omega) (fun h7 => ?_) (fun h7 => ?_)
  · exact th_87 (pc := 22) T (List.mem_of_getElem? (i := 4) rfl) dX5_keep_22 dX5_keep_25 dX5_keep_26 dX5_keep_28 dX5_keep_31 (by omega) ⟨rfl, by omega⟩
  · refine o_aload_n (pc := 10) C dX5_keep_10 rfl ?_
    refine gf_X5_34 (pc := 11) C dX5_keep_11 ?_
    try simp (disch := decide) only [o_up_s, o_up_k, o_up_j, o_bl_k, o_rw_k]
    refine o_aload_n (pc := 14) C dX5_keep_14 rfl ?_
    refine gf_X5_30 (pc := 15) C dX5_keep_15 ?_
    refine al_21 (pc := 18) C dX5_keep_18 ?_
    refine o_icmp_lt (pc := 19) C (tgt := 32) dX5_keep_19 (by decide) (by omega) (by omega) (fun h19 => ?_) (fun h19 => ?_)
    · refine o_aload_n (pc := 32) C dX5_keep_32 rfl ?_
      refine gf_X5_30 (pc := 33) C dX5_keep_33 ?_
      refine o_aload_n (pc := 36) C dX5_keep_36 rfl ?_
      refine gf_X5_34 (pc := 37) C dX5_keep_37 ?_
      try simp (disch := decide) only [o_up_s, o_up_k, o_up_j, o_bl_k, o_rw_k]
      refine aa_21 (pc := 40) C (by omega) (by omega) dX5_keep_40 ?_
      refine o_aload_n (pc := 41) C dX5_keep_41 rfl ?_
      refine gf_X5_38 (pc := 42) C dX5_keep_42 ?_
      refine cl_X5_155 (pc := 45) C (c_X3_becomeCopyOf (by omega) (by decide) (by omega) (by omega) (by omega)) (by omega) (by omega) (by omega) (Nat.le_of_ble_eq_true rfl) dX5_keep_45 (fun σ2 hq => ?_)
      rw [hq]; clear hq
      refine o_aload_n (pc := 48) C dX5_keep_48 rfl ?_
      refine gf_X5_38 (pc := 49) C dX5_keep_49 ?_
      refine cl_X5_138 (pc := 52) C (c_X3_empty (by decide)) (by omega) (by omega) (by omega) (Nat.le_of_ble_eq_true rfl) dX5_keep_52 (fun σ2 hq => ?_)
      rw [hq]; clear hq
      refine o_aload_n (pc := 55) C dX5_keep_55 rfl ?_
      refine o_dup (pc := 56) C dX5_keep_56 rfl ?_
      refine gf_X5_34 (pc := 57) C dX5_keep_57 ?_
      try simp (disch := decide) only [o_up_s, o_up_k, o_up_j, o_bl_k, o_rw_k]
      refine o_iconst (pc := 60) C dX5_keep_60 ?_
      refine o_iadd (pc := 61) C dX5_keep_61 ?_
      refine pf_X5_34 (pc := 62) C dX5_keep_62 ?_
      refine o_aload_n (pc := 65) C dX5_keep_65 rfl ?_
      refine gf_X5_34 (pc := 66) C dX5_keep_66 ?_
      try simp (disch := decide) only [o_up_s, o_up_k, o_up_j, o_bl_k, o_rw_k]
      refine o_iconst (pc := 69) C dX5_keep_69 ?_
      refine o_isub (pc := 70) C dX5_keep_70 ?_
      exact E _ _ _ _ _ dX5_keep_71 rfl ⟨by omega, ⟨by omega, by omega⟩, rfl⟩ (by omega)
    · exact th_87 (pc := 22) T (List.mem_of_getElem? (i := 4) rfl) dX5_keep_22 dX5_keep_25 dX5_keep_26 dX5_keep_28 dX5_keep_31 (by omega) ⟨rfl, by omega⟩
set_option maxRecDepth 100000 in
set_option maxHeartbeats 4000000 in
theorem c_X5_fits {l : Launch} {g : oG} {σ : oMem} {a b : Int} (hfl : l.stackTraces = false) (hx : XI σ) (h1 : InR a) (h2 : InR b) : oXi l g yX5_fits (.code yX5_fits cX5_fits 3 (some .boolean)) 5 2 [.ref (g.2.1 0 0), oi a, oi b] σ (fun z σ' => (z = (if o_fit σ a.toNat b.toNat then 1 else 0) ∧ (okP σ a ∧ okC σ b)) ∧ σ' = σ) (fun y => y = xIOB ∧ ¬ (okP σ a ∧ okC σ b)) := by
  refine oXi_of (own := RX5) hfl (by decide +kernel) rfl (by simp [oi, Value.category]) (by simp) (fun x C T E => ?_)
  show oW l g x σ 0 [some (.ref (g.2.1 0 0)), some (oi a), some (oi b)] [] 0
  obtain ⟨x1, x3, x5, ⟨x7, x8, x9⟩, x10, x14, xC, xO, xP, xD, xW, xT, xM⟩ := id hx
  refine o_aload_n (pc := 0) C dX5_fits_0 rfl ?_
  refine o_iload_n (pc := 1) C dX5_fits_1 rfl ?_
  refine cl_X5_159 (pc := 2) T C (c_X5_requirePattern hfl h1 (by omega)) (fun y h => ⟨h.1, fun q => h.2 q.1⟩) (by omega) (by omega) (Nat.le_of_ble_eq_true rfl) dX5_fits_2 (fun σ2 hq => ?_)
  obtain ⟨hq, rp⟩ := hq
  rw [hq]; clear hq
  refine o_aload_n (pc := 5) C dX5_fits_5 rfl ?_
  refine o_iload_n (pc := 6) C dX5_fits_6 rfl ?_
  refine cl_X5_98 (pc := 7) T C (c_X5_requireCoil hfl h2 (by omega)) (fun y h => ⟨h.1, fun q => h.2 q.2⟩) (by omega) (by omega) (Nat.le_of_ble_eq_true rfl) dX5_fits_7 (fun σ2 hq => ?_)
  obtain ⟨hq, rc⟩ := hq
  rw [hq]; clear hq
  have hcc := (xC b.toNat (by omega)).1.1
  refine o_aload_n (pc := 10) C dX5_fits_10 rfl ?_
  refine o_aload_n (pc := 11) C dX5_fits_11 rfl ?_
  refine gf_X5_30 (pc := 12) C dX5_fits_12 ?_
  refine o_iload_n (pc := 15) C dX5_fits_15 rfl ?_
  refine aa_21 (pc := 16) C (by omega) (by omega) dX5_fits_16 ?_
  refine o_aload_n (pc := 17) C dX5_fits_17 rfl ?_
  refine gf_X5_11 (pc := 18) C dX5_fits_18 ?_
  refine o_iload_n (pc := 21) C dX5_fits_21 rfl ?_
  refine aa_19 (pc := 22) C (by omega) (by omega) dX5_fits_22 ?_
  refine cl_X5_162 (pc := 23) C (c_X5_canBeCutFrom (by omega) (by omega) (xP _ (by omega)) (by omega) x7 (by omega)) (by omega) (by omega) (Nat.le_of_ble_eq_true rfl) dX5_fits_23 (fun z σ2 hq => ?_)
  obtain ⟨rfl, hq⟩ := hq
  rw [hq]; clear hq
  exact E _ _ _ _ _ dX5_fits_26 (by split <;> rfl) ⟨⟨rfl, rp, rc⟩, rfl⟩ (by omega)
