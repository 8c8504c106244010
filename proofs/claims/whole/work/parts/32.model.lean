set_option maxRecDepth 100000 in
set_option maxHeartbeats 1000000 in
theorem c_X6_setRules {l : Launch} {g : oG} {σ : oMem} {a b d : Int} (h1 : InR a) (h2 : InR b) (h3 : InR d) : oMi l g yX6_setRules (.code yX6_setRules cX6_setRules 5 (some .int)) 3 0 [.ref (g.2.1 24 0), oi a, oi b, oi d] σ (fun z σ' => if ((0 ≤ a ∧ a ≤ 100) ∧ (0 ≤ b ∧ b ≤ 500) ∧ (2 ≤ d ∧ d ≤ 16)) then z = σ 24 0 8 ∧ σ' = o_up (o_up (o_up (o_up σ 24 0 31 0) 24 0 8 a) 24 0 9 b) 24 0 10 d else σ' = o_up σ 24 0 31 1) := by
  refine oMi_of (own := RX6) (by decide +kernel) rfl (by simp [oi, Value.category]) (by simp) (fun x C E => ?_)
  show oW l g x σ 0 [some (.ref (g.2.1 24 0)), some (oi a), some (oi b), some (oi d), none] [] 0
  have K37 : ∀ (v : Int), v = b2i ((0 ≤ a ∧ a ≤ 100) ∧ (0 ≤ b ∧ b ≤ 500) ∧ (2 ≤ d ∧ d ≤ 16)) → oW l g x σ 37 [some (.ref (g.2.1 24 0)), some (oi a), some (oi b), some (oi d), none] [oi v, .ref (g.2.1 24 0)] 0 := by
    intro v hv
    subst hv
    refine cl_X6_117 (pc := 37) C (c_X6_asked (P := ((0 ≤ a ∧ a ≤ 100) ∧ (0 ≤ b ∧ b ≤ 500) ∧ (2 ≤ d ∧ d ≤ 16)))) (by omega) (by omega) (Nat.le_of_ble_eq_true rfl) dX6_setRules_37 (fun z σ2 hq => ?_)
    obtain ⟨rfl, hq⟩ := hq
    rw [hq]; clear hq
    refine o_if_ne (pc := 40) C (tgt := 45) dX6_setRules_40 (by decide) (by unfold b2i; split <;> omega) (fun h40 => ?_) (fun h40 => ?_)
    · have hq := o_t h40
      rw [if_pos hq]
      refine o_aload_n (pc := 45) C dX6_setRules_45 rfl ?_
      refine gf_X6_31 (pc := 46) C dX6_setRules_46 ?_
      try simp (disch := decide) only [o_up_s, o_up_k, o_up_j, o_bl_k, o_rw_k]
      refine sti_4 (pc := 49) C dX6_setRules_49 ?_
      refine o_aload_n (pc := 51) C dX6_setRules_51 rfl ?_
      refine o_iload_n (pc := 52) C dX6_setRules_52 rfl ?_
      refine pf_X6_31 (pc := 53) C dX6_setRules_53 ?_
      refine o_aload_n (pc := 56) C dX6_setRules_56 rfl ?_
      refine o_iload_n (pc := 57) C dX6_setRules_57 rfl ?_
      refine pf_X6_35 (pc := 58) C dX6_setRules_58 ?_
      refine o_aload_n (pc := 61) C dX6_setRules_61 rfl ?_
      refine o_iload_n (pc := 62) C dX6_setRules_62 rfl ?_
      refine pf_X6_38 (pc := 63) C dX6_setRules_63 ?_
      refine o_iload (pc := 66) C dX6_setRules_66 rfl ?_
      first
      | exact E _ _ _ _ _ dX6_setRules_68 rfl (by rw [if_neg hq]) (by omega)
      | exact E _ _ _ _ _ dX6_setRules_68 rfl (by rw [if_pos hq]; exact ⟨rfl, rfl⟩) (by omega)
    · have hq := o_f h40
      rw [if_neg hq]
      refine o_iconst (pc := 43) C dX6_setRules_43 ?_
      first
      | exact E _ _ _ _ _ dX6_setRules_44 rfl (by rw [if_neg hq]) (by omega)
      | exact E _ _ _ _ _ dX6_setRules_44 rfl (by rw [if_pos hq]; exact ⟨rfl, rfl⟩) (by omega)
  refine o_aload_n (pc := 0) C dX6_setRules_0 rfl ?_
  refine o_iload_n (pc := 1) C dX6_setRules_1 rfl ?_
  refine o_iconst (pc := 2) C dX6_setRules_2 ?_
  refine o_bipush (pc := 3) C dX6_setRules_3 rfl ?_
  refine cl_X6_95 (pc := 5) C (c_X6_in (by omega) (by omega) (by omega)) (by omega) (by omega) (Nat.le_of_ble_eq_true rfl) dX6_setRules_5 (fun z σ2 hq => ?_)
  obtain ⟨rfl, hq⟩ := hq
  rw [hq]; clear hq
  refine o_if_eq (pc := 8) C (tgt := 36) dX6_setRules_8 (by decide) (by unfold b2i; split <;> omega) (fun h8 => ?_) (fun h8 => ?_)
  · refine o_iconst (pc := 36) C dX6_setRules_36 ?_
    first
    | exact K37 _ (b2i_t ⟨o_t h8, o_t h19, o_t h29⟩)
    | exact K37 _ (b2i_f (fun q => o_f h8 q.1))
    | exact K37 _ (b2i_f (fun q => o_f h19 q.2.1))
    | exact K37 _ (b2i_f (fun q => o_f h29 q.2.2))
  · refine o_iload_n (pc := 11) C dX6_setRules_11 rfl ?_
    refine o_iconst (pc := 12) C dX6_setRules_12 ?_
    refine o_sipush (pc := 13) C dX6_setRules_13 rfl ?_
    refine cl_X6_95 (pc := 16) C (c_X6_in (by omega) (by omega) (by omega)) (by omega) (by omega) (Nat.le_of_ble_eq_true rfl) dX6_setRules_16 (fun z σ2 hq => ?_)
    obtain ⟨rfl, hq⟩ := hq
    rw [hq]; clear hq
    refine o_if_eq (pc := 19) C (tgt := 36) dX6_setRules_19 (by decide) (by unfold b2i; split <;> omega) (fun h19 => ?_) (fun h19 => ?_)
    · refine o_iconst (pc := 36) C dX6_setRules_36 ?_
      first
      | exact K37 _ (b2i_t ⟨o_t h8, o_t h19, o_t h29⟩)
      | exact K37 _ (b2i_f (fun q => o_f h8 q.1))
      | exact K37 _ (b2i_f (fun q => o_f h19 q.2.1))
      | exact K37 _ (b2i_f (fun q => o_f h29 q.2.2))
    · refine o_iload_n (pc := 22) C dX6_setRules_22 rfl ?_
      refine o_iconst (pc := 23) C dX6_setRules_23 ?_
      refine o_bipush (pc := 24) C dX6_setRules_24 rfl ?_
      refine cl_X6_95 (pc := 26) C (c_X6_in (by omega) (by omega) (by omega)) (by omega) (by omega) (Nat.le_of_ble_eq_true rfl) dX6_setRules_26 (fun z σ2 hq => ?_)
      obtain ⟨rfl, hq⟩ := hq
      rw [hq]; clear hq
      refine o_if_eq (pc := 29) C (tgt := 36) dX6_setRules_29 (by decide) (by unfold b2i; split <;> omega) (fun h29 => ?_) (fun h29 => ?_)
      · refine o_iconst (pc := 36) C dX6_setRules_36 ?_
        first
        | exact K37 _ (b2i_t ⟨o_t h8, o_t h19, o_t h29⟩)
        | exact K37 _ (b2i_f (fun q => o_f h8 q.1))
        | exact K37 _ (b2i_f (fun q => o_f h19 q.2.1))
        | exact K37 _ (b2i_f (fun q => o_f h29 q.2.2))
      · refine o_iconst (pc := 32) C dX6_setRules_32 ?_
        refine o_goto (pc := 33) C (tgt := 37) dX6_setRules_33 (by decide) ?_
        first
        | exact K37 _ (b2i_t ⟨o_t h8, o_t h19, o_t h29⟩)
        | exact K37 _ (b2i_f (fun q => o_f h8 q.1))
        | exact K37 _ (b2i_f (fun q => o_f h19 q.2.1))
        | exact K37 _ (b2i_f (fun q => o_f h29 q.2.2))
set_option maxRecDepth 100000 in
set_option maxHeartbeats 1000000 in
theorem c_X6_order {l : Launch} {g : oG} {σ : oMem} {a b : Int} (h0 : 0 ≤ σ 24 0 15 ∧ σ 24 0 15 ≤ 12) (h1 : InR a) (h2 : InR b) : oMi l g yX6_order (.code yX6_order cX6_order 3 (some .int)) 3 0 [.ref (g.2.1 24 0), oi a, oi b] σ (fun z σ' => if ((20 ≤ a ∧ a ≤ 1000) ∧ (1 ≤ b ∧ b ≤ 50000)) ∧ σ 24 0 15 < 12 then z = σ 24 0 15 ∧ σ' = o_up (o_up (o_up (o_up (o_up σ 24 0 31 0) 32 0 (σ 24 0 15).toNat a) 33 0 (σ 24 0 15).toNat b) 35 0 (σ 24 0 15).toNat (-1)) 24 0 15 (σ 24 0 15 + 1) else σ' = o_up σ 24 0 31 (if ((20 ≤ a ∧ a ≤ 1000) ∧ (1 ≤ b ∧ b ≤ 50000)) then (if σ 24 0 15 < 12 then 0 else 2) else 1)) := by
  refine oMi_of (own := RX6) (by decide +kernel) rfl (by simp [oi, Value.category]) (by simp) (fun x C E => ?_)
  show oW l g x σ 0 [some (.ref (g.2.1 24 0)), some (oi a), some (oi b)] [] 0
  have K42 : ∀ (v w : Int), v = b2i ((20 ≤ a ∧ a ≤ 1000) ∧ (1 ≤ b ∧ b ≤ 50000)) → w = b2i (σ 24 0 15 < 12) → oW l g x σ 42 [some (.ref (g.2.1 24 0)), some (oi a), some (oi b)] [oi w, oi v, .ref (g.2.1 24 0)] 0 := by
    intro v w hv hw
    subst hv hw
    refine cl_X6_102 (pc := 42) C (c_X6_asked_ (P := ((20 ≤ a ∧ a ≤ 1000) ∧ (1 ≤ b ∧ b ≤ 50000))) (Q := σ 24 0 15 < 12)) (by omega) (by omega) (Nat.le_of_ble_eq_true rfl) dX6_order_42 (fun z σ2 hq => ?_)
    obtain ⟨rfl, hq⟩ := hq
    rw [hq]; clear hq
    refine o_if_ne (pc := 45) C (tgt := 50) dX6_order_45 (by decide) (by unfold b2i; split <;> omega) (fun h45 => ?_) (fun h45 => ?_)
    · have hq := o_t h45
      rw [if_pos hq.1, if_pos hq.2]
      refine o_aload_n (pc := 50) C dX6_order_50 rfl ?_
      refine gf_X6_41 (pc := 51) C dX6_order_51 ?_
      refine o_aload_n (pc := 54) C dX6_order_54 rfl ?_
      refine gf_X6_121 (pc := 55) C dX6_order_55 ?_
      try simp (disch := decide) only [o_up_s, o_up_k, o_up_j, o_bl_k, o_rw_k]
      refine o_iload_n (pc := 58) C dX6_order_58 rfl ?_
      refine is_32 (pc := 59) C (by omega) (by omega) dX6_order_59 ?_
      refine o_aload_n (pc := 60) C dX6_order_60 rfl ?_
      refine gf_X6_44 (pc := 61) C dX6_order_61 ?_
      refine o_aload_n (pc := 64) C dX6_order_64 rfl ?_
      refine gf_X6_121 (pc := 65) C dX6_order_65 ?_
      try simp (disch := decide) only [o_up_s, o_up_k, o_up_j, o_bl_k, o_rw_k]
      refine o_iload_n (pc := 68) C dX6_order_68 rfl ?_
      refine is_33 (pc := 69) C (by omega) (by omega) dX6_order_69 ?_
      refine o_aload_n (pc := 70) C dX6_order_70 rfl ?_
      refine gf_X6_50 (pc := 71) C dX6_order_71 ?_
      refine o_aload_n (pc := 74) C dX6_order_74 rfl ?_
      refine gf_X6_121 (pc := 75) C dX6_order_75 ?_
      try simp (disch := decide) only [o_up_s, o_up_k, o_up_j, o_bl_k, o_rw_k]
      refine o_iconst (pc := 78) C dX6_order_78 ?_
      refine is_35 (pc := 79) C (by omega) (by omega) dX6_order_79 ?_
      refine o_aload_n (pc := 80) C dX6_order_80 rfl ?_
      refine o_dup (pc := 81) C dX6_order_81 rfl ?_
      refine gf_X6_121 (pc := 82) C dX6_order_82 ?_
      try simp (disch := decide) only [o_up_s, o_up_k, o_up_j, o_bl_k, o_rw_k]
      refine o_iconst (pc := 85) C dX6_order_85 ?_
      refine o_iadd (pc := 86) C dX6_order_86 ?_
      refine pf_X6_121 (pc := 87) C dX6_order_87 ?_
      refine o_aload_n (pc := 90) C dX6_order_90 rfl ?_
      refine gf_X6_121 (pc := 91) C dX6_order_91 ?_
      try simp (disch := decide) only [o_up_s, o_up_k, o_up_j, o_bl_k, o_rw_k]
      refine o_iconst (pc := 94) C dX6_order_94 ?_
      refine o_isub (pc := 95) C dX6_order_95 ?_
      first
      | (have y := hq; exact E _ _ _ _ _ dX6_order_96 rfl (by rw [if_pos hq]; exact ⟨by omega, rfl⟩) (by omega))
      | exact E _ _ _ _ _ dX6_order_96 rfl (by rw [if_neg (o_f h45)]) (by omega)
    · refine o_iconst (pc := 48) C dX6_order_48 ?_
      first
      | (have y := hq; exact E _ _ _ _ _ dX6_order_49 rfl (by rw [if_pos hq]; exact ⟨by omega, rfl⟩) (by omega))
      | exact E _ _ _ _ _ dX6_order_49 rfl (by rw [if_neg (o_f h45)]) (by omega)
  have K28 : ∀ (v : Int), v = b2i ((20 ≤ a ∧ a ≤ 1000) ∧ (1 ≤ b ∧ b ≤ 50000)) → oW l g x σ 28 [some (.ref (g.2.1 24 0)), some (oi a), some (oi b)] [oi v, .ref (g.2.1 24 0)] 0 := by
    intro v hv
    refine o_aload_n (pc := 28) C dX6_order_28 rfl ?_
    refine gf_X6_121 (pc := 29) C dX6_order_29 ?_
    refine o_bipush (pc := 32) C dX6_order_32 rfl ?_
    refine o_icmp_ge (pc := 34) C (tgt := 41) dX6_order_34 (by decide) (by omega) (by omega) (fun h34 => ?_) (fun h34 => ?_)
    · refine o_iconst (pc := 41) C dX6_order_41 ?_
      exact K42 _ _ hv (by first | exact b2i_t (by omega) | exact b2i_f (by omega))
    · refine o_iconst (pc := 37) C dX6_order_37 ?_
      refine o_goto (pc := 38) C (tgt := 42) dX6_order_38 (by decide) ?_
      exact K42 _ _ hv (by first | exact b2i_t (by omega) | exact b2i_f (by omega))
  refine o_aload_n (pc := 0) C dX6_order_0 rfl ?_
  refine o_iload_n (pc := 1) C dX6_order_1 rfl ?_
  refine o_bipush (pc := 2) C dX6_order_2 rfl ?_
  refine o_sipush (pc := 4) C dX6_order_4 rfl ?_
  refine cl_X6_95 (pc := 7) C (c_X6_in (by omega) (by omega) (by omega)) (by omega) (by omega) (Nat.le_of_ble_eq_true rfl) dX6_order_7 (fun z σ2 hq => ?_)
  obtain ⟨rfl, hq⟩ := hq
  rw [hq]; clear hq
  refine o_if_eq (pc := 10) C (tgt := 27) dX6_order_10 (by decide) (by unfold b2i; split <;> omega) (fun h10 => ?_) (fun h10 => ?_)
  · refine o_iconst (pc := 27) C dX6_order_27 ?_
    first
    | exact K28 _ (b2i_t ⟨o_t h10, o_t h20⟩)
    | exact K28 _ (b2i_f (fun q => o_f h10 q.1))
    | exact K28 _ (b2i_f (fun q => o_f h20 q.2))
  · refine o_iload_n (pc := 13) C dX6_order_13 rfl ?_
    refine o_iconst (pc := 14) C dX6_order_14 ?_
    refine o_ldcI (n := 50000) (pc := 15) C dX6_order_15 kw_10_20 ?_
    refine cl_X6_95 (pc := 17) C (c_X6_in (by omega) (by omega) (by omega)) (by omega) (by omega) (Nat.le_of_ble_eq_true rfl) dX6_order_17 (fun z σ2 hq => ?_)
    obtain ⟨rfl, hq⟩ := hq
    rw [hq]; clear hq
    refine o_if_eq (pc := 20) C (tgt := 27) dX6_order_20 (by decide) (by unfold b2i; split <;> omega) (fun h20 => ?_) (fun h20 => ?_)
    · refine o_iconst (pc := 27) C dX6_order_27 ?_
      first
      | exact K28 _ (b2i_t ⟨o_t h10, o_t h20⟩)
      | exact K28 _ (b2i_f (fun q => o_f h10 q.1))
      | exact K28 _ (b2i_f (fun q => o_f h20 q.2))
    · refine o_iconst (pc := 23) C dX6_order_23 ?_
      refine o_goto (pc := 24) C (tgt := 28) dX6_order_24 (by decide) ?_
      first
      | exact K28 _ (b2i_t ⟨o_t h10, o_t h20⟩)
      | exact K28 _ (b2i_f (fun q => o_f h10 q.1))
      | exact K28 _ (b2i_f (fun q => o_f h20 q.2))
set_option maxRecDepth 100000 in
set_option maxHeartbeats 1000000 in
theorem c_X6_drafts {l : Launch} {g : oG} {σ : oMem} {a : Int} (h0 : 0 ≤ σ 37 0 10 ∧ σ 37 0 10 < 15) : oMv l g yX6_drafts (.code yX6_drafts cX6_drafts 2 none) 1 0 [.ref (g.2.1 24 0), oi a] σ (fun σ' => σ' = o_up (o_up σ 36 0 (150 + (σ 37 0 10).toNat) a) 37 0 10 (σ 37 0 10 + 1)) := by
  refine oMv_of (own := RX6) (by decide +kernel) rfl (by simp [oi, Value.category]) (by simp) (fun x C E => ?_)
  show oW l g x σ 0 [some (.ref (g.2.1 24 0)), some (oi a)] [] 0
  refine o_aload_n (pc := 0) C dX6_drafts_0 rfl ?_
  refine gf_X6_53 (pc := 1) C dX6_drafts_1 ?_
  refine o_sipush (pc := 4) C dX6_drafts_4 rfl ?_
  refine o_aload_n (pc := 7) C dX6_drafts_7 rfl ?_
  refine gf_X6_56 (pc := 8) C dX6_drafts_8 ?_
  refine o_bipush (pc := 11) C dX6_drafts_11 rfl ?_
  refine ia_37 (pc := 13) C (by omega) (by omega) dX6_drafts_13 ?_
  try simp (disch := decide) only [o_up_s, o_up_k, o_up_j, o_bl_k, o_rw_k]
  refine o_iadd (pc := 14) C dX6_drafts_14 ?_
  refine o_iload_n (pc := 15) C dX6_drafts_15 rfl ?_
  refine is_36 (pc := 16) C (by show 0 ≤ 150 + σ 37 0 10; omega) (by show 150 + σ 37 0 10 < 165; omega) dX6_drafts_16 ?_
  refine o_aload_n (pc := 17) C dX6_drafts_17 rfl ?_
  refine gf_X6_56 (pc := 18) C dX6_drafts_18 ?_
  refine o_bipush (pc := 21) C dX6_drafts_21 rfl ?_
  refine o_dup2 (pc := 23) C dX6_drafts_23 rfl rfl ?_
  refine ia_37 (pc := 24) C (by omega) (by omega) dX6_drafts_24 ?_
  try simp (disch := decide) only [o_up_s, o_up_k, o_up_j, o_bl_k, o_rw_k]
  refine o_iconst (pc := 25) C dX6_drafts_25 ?_
  refine o_iadd (pc := 26) C dX6_drafts_26 ?_
  refine is_37 (pc := 27) C (by omega) (by omega) dX6_drafts_27 ?_
  exact E _ _ _ _ dX6_drafts_28 (by rw [show (150 + σ 37 0 (Int.toNat 10)).toNat = 150 + (σ 37 0 10).toNat by show (150 + σ 37 0 10).toNat = _; omega]; rfl) (by omega)
set_option maxRecDepth 100000 in
set_option maxHeartbeats 1000000 in
theorem c_X6_addSlit {l : Launch} {g : oG} {σ : oMem} {a : Int} (h0 : 0 ≤ σ 37 0 10 ∧ σ 37 0 10 ≤ 15) (h1 : InR a) : oMi l g yX6_addSlit (.code yX6_addSlit cX6_addSlit 2 (some .int)) 3 0 [.ref (g.2.1 24 0), oi a] σ (fun z σ' => if (20 ≤ a ∧ a ≤ 1000) ∧ σ 37 0 10 < 15 then z = σ 37 0 10 + 1 ∧ σ' = o_up (o_up (o_up σ 24 0 31 0) 36 0 (150 + (σ 37 0 10).toNat) a) 37 0 10 (σ 37 0 10 + 1) else σ' = o_up σ 24 0 31 (if (20 ≤ a ∧ a ≤ 1000) then (if σ 37 0 10 < 15 then 0 else 2) else 1)) := by
  refine oMi_of (own := RX6) (by decide +kernel) rfl (by simp [oi, Value.category]) (by simp) (fun x C E => ?_)
  show oW l g x σ 0 [some (.ref (g.2.1 24 0)), some (oi a)] [] 0
  have K27 : ∀ (v w : Int), v = b2i (20 ≤ a ∧ a ≤ 1000) → w = b2i (σ 37 0 10 < 15) → oW l g x σ 27 [some (.ref (g.2.1 24 0)), some (oi a)] [oi w, oi v, .ref (g.2.1 24 0)] 0 := by
    intro v w hv hw
    subst hv hw
    refine cl_X6_102 (pc := 27) C (c_X6_asked_ (P := (20 ≤ a ∧ a ≤ 1000)) (Q := σ 37 0 10 < 15)) (by omega) (by omega) (Nat.le_of_ble_eq_true rfl) dX6_addSlit_27 (fun z σ2 hq => ?_)
    obtain ⟨rfl, hq⟩ := hq
    rw [hq]; clear hq
    refine o_if_ne (pc := 30) C (tgt := 35) dX6_addSlit_30 (by decide) (by unfold b2i; split <;> omega) (fun h30 => ?_) (fun h30 => ?_)
    · have hq := o_t h30
      rw [if_pos hq.1, if_pos hq.2]
      have e37 : o_up σ 24 0 31 0 37 0 10 = σ 37 0 10 := by rw [o_up_k (by decide)]
      refine o_aload_n (pc := 35) C dX6_addSlit_35 rfl ?_
      refine o_iload_n (pc := 36) C dX6_addSlit_36 rfl ?_
      refine cl_X6_124 (pc := 37) C (c_X6_drafts (by rw [o_up_k (by decide)]; omega)) (by omega) (by omega) (Nat.le_of_ble_eq_true rfl) dX6_addSlit_37 (fun σ2 hq => ?_)
      rw [hq]; clear hq
      rw [e37]
      refine o_aload_n (pc := 40) C dX6_addSlit_40 rfl ?_
      refine gf_X6_56 (pc := 41) C dX6_addSlit_41 ?_
      refine o_bipush (pc := 44) C dX6_addSlit_44 rfl ?_
      refine ia_37 (pc := 46) C (by omega) (by omega) dX6_addSlit_46 ?_
      try simp (disch := decide) only [o_up_s, o_up_k, o_up_j, o_bl_k, o_rw_k]
      first
      | (have y := e37; exact E _ _ _ _ _ dX6_addSlit_47 rfl (by rw [if_pos (o_t h30)]; exact ⟨by simp [o_up], rfl⟩) (by omega))
      | exact E _ _ _ _ _ dX6_addSlit_47 rfl (by rw [if_neg (o_f h30)]) (by omega)
    · refine o_iconst (pc := 33) C dX6_addSlit_33 ?_
      first
      | (have y := e37; exact E _ _ _ _ _ dX6_addSlit_34 rfl (by rw [if_pos (o_t h30)]; exact ⟨by simp [o_up], rfl⟩) (by omega))
      | exact E _ _ _ _ _ dX6_addSlit_34 rfl (by rw [if_neg (o_f h30)]) (by omega)
  refine o_aload_n (pc := 0) C dX6_addSlit_0 rfl ?_
  refine o_iload_n (pc := 1) C dX6_addSlit_1 rfl ?_
  refine o_bipush (pc := 2) C dX6_addSlit_2 rfl ?_
  refine o_sipush (pc := 4) C dX6_addSlit_4 rfl ?_
  refine cl_X6_95 (pc := 7) C (c_X6_in (by omega) (by omega) (by omega)) (by omega) (by omega) (Nat.le_of_ble_eq_true rfl) dX6_addSlit_7 (fun z σ2 hq => ?_)
  obtain ⟨rfl, hq⟩ := hq
  rw [hq]; clear hq
  refine o_aload_n (pc := 10) C dX6_addSlit_10 rfl ?_
  refine gf_X6_56 (pc := 11) C dX6_addSlit_11 ?_
  refine o_bipush (pc := 14) C dX6_addSlit_14 rfl ?_
  refine ia_37 (pc := 16) C (by omega) (by omega) dX6_addSlit_16 ?_
  rw [show σ 37 0 (Int.toNat 10) = σ 37 0 10 from rfl]
  refine o_bipush (pc := 17) C dX6_addSlit_17 rfl ?_
  refine o_icmp_ge (pc := 19) C (tgt := 26) dX6_addSlit_19 (by decide) (by omega) (by omega) (fun h19 => ?_) (fun h19 => ?_)
  · refine o_iconst (pc := 26) C dX6_addSlit_26 ?_
    exact K27 _ _ rfl (by first | exact b2i_t (by omega) | exact b2i_f (by omega))
  · refine o_iconst (pc := 22) C dX6_addSlit_22 ?_
    refine o_goto (pc := 23) C (tgt := 27) dX6_addSlit_23 (by decide) ?_
    exact K27 _ _ rfl (by first | exact b2i_t (by omega) | exact b2i_f (by omega))
set_option maxRecDepth 100000 in
set_option maxHeartbeats 1000000 in
theorem c_X6_clearDraft {l : Launch} {g : oG} {σ : oMem}   : oMi l g yX6_clearDraft (.code yX6_clearDraft cX6_clearDraft 2 (some .int)) 2 0 [.ref (g.2.1 24 0)] σ (fun z σ' => z = σ 37 0 10 ∧ σ' = o_up (o_up σ 37 0 10 0) 24 0 31 0) := by
  refine oMi_of (own := RX6) (by decide +kernel) rfl (by simp [oi, Value.category]) (by simp) (fun x C E => ?_)
  show oW l g x σ 0 [some (.ref (g.2.1 24 0)), none] [] 0
  refine o_aload_n (pc := 0) C dX6_clearDraft_0 rfl ?_
  refine gf_X6_56 (pc := 1) C dX6_clearDraft_1 ?_
  refine o_bipush (pc := 4) C dX6_clearDraft_4 rfl ?_
  refine ia_37 (pc := 6) C (by omega) (by omega) dX6_clearDraft_6 ?_
  refine sti_1 (pc := 7) C dX6_clearDraft_7 ?_
  refine o_aload_n (pc := 8) C dX6_clearDraft_8 rfl ?_
  refine gf_X6_56 (pc := 9) C dX6_clearDraft_9 ?_
  refine o_bipush (pc := 12) C dX6_clearDraft_12 rfl ?_
  refine o_iconst (pc := 14) C dX6_clearDraft_14 ?_
  refine is_37 (pc := 15) C (by omega) (by omega) dX6_clearDraft_15 ?_
  refine o_aload_n (pc := 16) C dX6_clearDraft_16 rfl ?_
  refine o_iload_n (pc := 17) C dX6_clearDraft_17 rfl ?_
  refine cl_X6_128 (pc := 18) C (c_X6_told) (by omega) (by omega) (Nat.le_of_ble_eq_true rfl) dX6_clearDraft_18 (fun z σ2 hq => ?_)
  obtain ⟨rfl, hq⟩ := hq
  rw [hq]; clear hq
  exact E _ _ _ _ _ dX6_clearDraft_21 rfl ⟨rfl, rfl⟩ (by omega)
set_option maxRecDepth 100000 in
set_option maxHeartbeats 1000000 in
theorem c_X6_draftSlits {l : Launch} {g : oG} {σ : oMem}   : oMi l g yX6_draftSlits (.code yX6_draftSlits cX6_draftSlits 1 (some .int)) 2 0 [.ref (g.2.1 24 0)] σ (fun z σ' => z = σ 37 0 10 ∧ σ' = o_up σ 24 0 31 0) := by
  refine oMi_of (own := RX6) (by decide +kernel) rfl (by simp [oi, Value.category]) (by simp) (fun x C E => ?_)
  show oW l g x σ 0 [some (.ref (g.2.1 24 0))] [] 0
  refine o_aload_n (pc := 0) C dX6_draftSlits_0 rfl ?_
  refine o_aload_n (pc := 1) C dX6_draftSlits_1 rfl ?_
  refine gf_X6_56 (pc := 2) C dX6_draftSlits_2 ?_
  refine o_bipush (pc := 5) C dX6_draftSlits_5 rfl ?_
  refine ia_37 (pc := 7) C (by omega) (by omega) dX6_draftSlits_7 ?_
  refine cl_X6_128 (pc := 8) C (c_X6_told) (by omega) (by omega) (Nat.le_of_ble_eq_true rfl) dX6_draftSlits_8 (fun z σ2 hq => ?_)
  obtain ⟨rfl, hq⟩ := hq
  rw [hq]; clear hq
  exact E _ _ _ _ _ dX6_draftSlits_11 rfl ⟨rfl, rfl⟩ (by omega)
set_option maxRecDepth 100000 in
set_option maxHeartbeats 1000000 in
theorem c_X6_draftWidth {l : Launch} {g : oG} {σ : oMem} {a : Int} (h0 : 0 ≤ σ 37 0 10 ∧ σ 37 0 10 ≤ 15) (h1 : InR a) : oMi l g yX6_draftWidth (.code yX6_draftWidth cX6_draftWidth 2 (some .int)) 2 0 [.ref (g.2.1 24 0), oi a] σ (fun z σ' => ((0 ≤ a ∧ a ≤ σ 37 0 10 - 1) → z = σ 36 0 (150 + a.toNat)) ∧ σ' = o_up σ 24 0 31 (if (0 ≤ a ∧ a ≤ σ 37 0 10 - 1) then 0 else 1)) := by
  refine oMi_of (own := RX6) (by decide +kernel) rfl (by simp [oi, Value.category]) (by simp) (fun x C E => ?_)
  show oW l g x σ 0 [some (.ref (g.2.1 24 0)), some (oi a)] [] 0
  refine o_aload_n (pc := 0) C dX6_draftWidth_0 rfl ?_
  refine o_iload_n (pc := 1) C dX6_draftWidth_1 rfl ?_
  refine o_iconst (pc := 2) C dX6_draftWidth_2 ?_
  refine o_aload_n (pc := 3) C dX6_draftWidth_3 rfl ?_
  refine gf_X6_56 (pc := 4) C dX6_draftWidth_4 ?_
  refine o_bipush (pc := 7) C dX6_draftWidth_7 rfl ?_
  refine ia_37 (pc := 9) C (by omega) (by omega) dX6_draftWidth_9 ?_
  try simp (disch := decide) only [o_up_s, o_up_k, o_up_j, o_bl_k, o_rw_k]
  rw [show σ 37 0 (Int.toNat 10) = σ 37 0 10 from rfl]
  refine o_iconst (pc := 10) C dX6_draftWidth_10 ?_
  refine o_isub (pc := 11) C dX6_draftWidth_11 ?_
  refine cl_X6_95 (pc := 12) C (c_X6_in (by omega) (by omega) (by omega)) (by omega) (by omega) (Nat.le_of_ble_eq_true rfl) dX6_draftWidth_12 (fun z σ2 hq => ?_)
  obtain ⟨rfl, hq⟩ := hq
  rw [hq]; clear hq
  refine cl_X6_117 (pc := 15) C (c_X6_asked (P := (0 ≤ a ∧ a ≤ σ 37 0 10 - 1))) (by omega) (by omega) (Nat.le_of_ble_eq_true rfl) dX6_draftWidth_15 (fun z σ2 hq => ?_)
  obtain ⟨rfl, hq⟩ := hq
  rw [hq]; clear hq
  refine o_if_eq (pc := 18) C (tgt := 34) dX6_draftWidth_18 (by decide) (by unfold b2i; split <;> omega) (fun h18 => ?_) (fun h18 => ?_)
  · refine o_iconst (pc := 34) C dX6_draftWidth_34 ?_
    first
    | (have y := hq; exact E _ _ _ _ _ dX6_draftWidth_35 rfl ⟨fun _ => by rw [show (150 + a).toNat = 150 + a.toNat by omega], rfl⟩ (by omega))
    | exact E _ _ _ _ _ dX6_draftWidth_35 rfl ⟨fun q => absurd q (o_f h18), rfl⟩ (by omega)
  · have hq := o_t h18
    refine o_aload_n (pc := 21) C dX6_draftWidth_21 rfl ?_
    refine gf_X6_53 (pc := 22) C dX6_draftWidth_22 ?_
    refine o_sipush (pc := 25) C dX6_draftWidth_25 rfl ?_
    refine o_iload_n (pc := 28) C dX6_draftWidth_28 rfl ?_
    refine o_iadd (pc := 29) C dX6_draftWidth_29 ?_
    refine ia_36 (pc := 30) C (by omega) (by omega) dX6_draftWidth_30 ?_
    try simp (disch := decide) only [o_up_s, o_up_k, o_up_j, o_bl_k, o_rw_k]
    refine o_goto (pc := 31) C (tgt := 35) dX6_draftWidth_31 (by decide) ?_
    first
    | (have y := hq; exact E _ _ _ _ _ dX6_draftWidth_35 rfl ⟨fun _ => by rw [show (150 + a).toNat = 150 + a.toNat by omega], rfl⟩ (by omega))
    | exact E _ _ _ _ _ dX6_draftWidth_35 rfl ⟨fun q => absurd q (o_f h18), rfl⟩ (by omega)
/-- n places from b on -/
def o_bs (σ : oMem) (K i b n : Nat) (f : Nat → Int) : oMem := fun K' i' j' => if K' = K ∧ i' = i ∧ b ≤ j' ∧ j' < b + n then f (j' - b) else σ K' i' j'
theorem o_bs_k {σ : oMem} {K i b n : Nat} {f : Nat → Int} {K' : Nat} (h : K' ≠ K) : o_bs σ K i b n f K' = σ K' := by funext i' j'; simp [o_bs, h]
theorem o_bs_0 {σ : oMem} {K i b : Nat} {f : Nat → Int} : o_bs σ K i b 0 f = σ := by
  funext K' i' j'
  unfold o_bs
  rw [if_neg (by omega)]
theorem o_bs_s {σ : oMem} {K i b n : Nat} {f : Nat → Int} : o_up (o_bs σ K i b n f) K i (b + n) (f n) = o_bs σ K i b (n + 1) f := by
  funext K' i' j'
  unfold o_up o_bs
  grind
set_option maxRecDepth 100000 in
set_option maxHeartbeats 1000000 in
theorem c_X6_keep {l : Launch} {g : oG} {σ : oMem}  (h0 : 0 ≤ σ 37 0 10 ∧ σ 37 0 10 ≤ 15) (h1 : 0 ≤ σ 24 0 18 ∧ σ 24 0 18 ≤ 10) : oMi l g yX6_keep (.code yX6_keep cX6_keep 2 (some .int)) 3 0 [.ref (g.2.1 24 0)] σ (fun z σ' => if (0 < σ 37 0 10 ∧ σ 24 0 18 < 10) then z = σ 24 0 18 ∧ σ' = o_up (o_up (o_bs (o_up (o_up σ 24 0 31 0) 37 0 (σ 24 0 18).toNat (σ 37 0 10)) 36 0 (15 * (σ 24 0 18).toNat) (σ 37 0 10).toNat (fun j => σ 36 0 (150 + j))) 37 0 10 0) 24 0 18 (σ 24 0 18 + 1) else σ' = o_up σ 24 0 31 1) := by
  refine oMi_of (own := RX6) (by decide +kernel) rfl (by simp [oi, Value.category]) (by simp) (fun x C E => ?_)
  show oW l g x σ 0 [some (.ref (g.2.1 24 0)), none] [] 0
  have L : σ 24 0 18 < 10 → 0 < σ 37 0 10 → ∀ (n t : Nat) (i : Int), σ 37 0 10 < t + n → (t : Int) ≤ σ 37 0 10 → i = t → oW l g x (o_bs (o_up (o_up σ 24 0 31 0) 37 0 (σ 24 0 18).toNat (σ 37 0 10)) 36 0 (15 * (σ 24 0 18).toNat) t (fun j => σ 36 0 (150 + j))) 51 [some (.ref (g.2.1 24 0)), some (oi i)] [] 0 := by
    intro hp hm n
    induction n with
    | zero => intro t i a1 a2; omega
    | succ n ih =>
      intro t i a1 a2 a3
      subst a3
      have e10 : (o_bs (o_up (o_up σ 24 0 31 0) 37 0 (σ 24 0 18).toNat (σ 37 0 10)) 36 0 (15 * (σ 24 0 18).toNat) t (fun j => σ 36 0 (150 + j))) 37 0 10 = σ 37 0 10 := by rw [o_bs_k (by decide), o_up_at, if_neg (by omega), o_up_k (by decide)]
      have e18 : (o_bs (o_up (o_up σ 24 0 31 0) 37 0 (σ 24 0 18).toNat (σ 37 0 10)) 36 0 (15 * (σ 24 0 18).toNat) t (fun j => σ 36 0 (150 + j))) 24 0 18 = σ 24 0 18 := by rw [o_bs_k (by decide), o_up_k (by decide)]; simp [o_up]
      have e36 : (o_bs (o_up (o_up σ 24 0 31 0) 37 0 (σ 24 0 18).toNat (σ 37 0 10)) 36 0 (15 * (σ 24 0 18).toNat) t (fun j => σ 36 0 (150 + j))) 36 0 (150 + t) = σ 36 0 (150 + t) := by
        unfold o_bs
        rw [if_neg (by omega), o_up_k (by decide), o_up_k (by decide)]
      refine o_iload_n (pc := 51) C dX6_keep_51 rfl ?_
      refine o_aload_n (pc := 52) C dX6_keep_52 rfl ?_
      refine gf_X6_56 (pc := 53) C dX6_keep_53 ?_
      refine o_bipush (pc := 56) C dX6_keep_56 rfl ?_
      refine ia_37 (pc := 58) C (by omega) (by omega) dX6_keep_58 ?_
      try simp (disch := decide) only [o_up_s, o_up_k, o_up_j, o_bl_k, o_rw_k]
      rw [show (o_bs (o_up (o_up σ 24 0 31 0) 37 0 (σ 24 0 18).toNat (σ 37 0 10)) 36 0 (15 * (σ 24 0 18).toNat) t (fun j => σ 36 0 (150 + j))) 37 0 (Int.toNat 10) = σ 37 0 10 from e10]
      refine o_icmp_ge (pc := 59) C (tgt := 92) dX6_keep_59 (by decide) (by omega) (by omega) (fun h59 => ?_) (fun h59 => ?_)
      · refine o_aload_n (pc := 92) C dX6_keep_92 rfl ?_
        refine gf_X6_56 (pc := 93) C dX6_keep_93 ?_
        refine o_bipush (pc := 96) C dX6_keep_96 rfl ?_
        refine o_iconst (pc := 98) C dX6_keep_98 ?_
        refine is_37 (pc := 99) C (by omega) (by omega) dX6_keep_99 ?_
        refine o_aload_n (pc := 100) C dX6_keep_100 rfl ?_
        refine o_dup (pc := 101) C dX6_keep_101 rfl ?_
        refine gf_X6_99 (pc := 102) C dX6_keep_102 ?_
        try simp (disch := decide) only [o_up_s, o_up_k, o_up_j, o_bl_k, o_rw_k]
        rw [e18]
        refine o_iconst (pc := 105) C dX6_keep_105 ?_
        refine o_iadd (pc := 106) C dX6_keep_106 ?_
        refine pf_X6_99 (pc := 107) C dX6_keep_107 ?_
        refine o_aload_n (pc := 110) C dX6_keep_110 rfl ?_
        refine gf_X6_99 (pc := 111) C dX6_keep_111 ?_
        try simp (disch := decide) only [o_up_s, o_up_k, o_up_j, o_bl_k, o_rw_k]
        refine o_iconst (pc := 114) C dX6_keep_114 ?_
        refine o_isub (pc := 115) C dX6_keep_115 ?_
        rw [show t = (σ 37 0 10).toNat by omega]
        exact E _ _ _ _ _ dX6_keep_116 rfl (by rw [if_pos ⟨hm, hp⟩]; exact ⟨by omega, rfl⟩) (by omega)
      · refine o_aload_n (pc := 62) C dX6_keep_62 rfl ?_
        refine gf_X6_53 (pc := 63) C dX6_keep_63 ?_
        refine o_bipush (pc := 66) C dX6_keep_66 rfl ?_
        refine o_aload_n (pc := 68) C dX6_keep_68 rfl ?_
        refine gf_X6_99 (pc := 69) C dX6_keep_69 ?_
        try simp (disch := decide) only [o_up_s, o_up_k, o_up_j, o_bl_k, o_rw_k]
        rw [e18]
        refine o_imul (pc := 72) C dX6_keep_72 ?_
        refine o_iload_n (pc := 73) C dX6_keep_73 rfl ?_
        refine o_iadd (pc := 74) C dX6_keep_74 ?_
        refine o_aload_n (pc := 75) C dX6_keep_75 rfl ?_
        refine gf_X6_53 (pc := 76) C dX6_keep_76 ?_
        refine o_sipush (pc := 79) C dX6_keep_79 rfl ?_
        refine o_iload_n (pc := 82) C dX6_keep_82 rfl ?_
        refine o_iadd (pc := 83) C dX6_keep_83 ?_
        refine ia_36 (pc := 84) C (by omega) (by omega) dX6_keep_84 ?_
        try simp (disch := decide) only [o_up_s, o_up_k, o_up_j, o_bl_k, o_rw_k]
        rw [show (150 + (t : Int)).toNat = 150 + t by omega, e36]
        refine is_36 (pc := 85) C (by omega) (by omega) dX6_keep_85 ?_
        refine inc_1 (pc := 86) C dX6_keep_86 ?_
        refine o_goto (pc := 89) C (tgt := 51) dX6_keep_89 (by decide) ?_
        rw [show (15 * σ 24 0 18 + (t : Int)).toNat = 15 * (σ 24 0 18).toNat + t by omega, show o_up (o_bs (o_up (o_up σ 24 0 31 0) 37 0 (σ 24 0 18).toNat (σ 37 0 10)) 36 0 (15 * (σ 24 0 18).toNat) t (fun j => σ 36 0 (150 + j))) 36 0 (15 * (σ 24 0 18).toNat + t) (σ 36 0 (150 + t)) = (o_bs (o_up (o_up σ 24 0 31 0) 37 0 (σ 24 0 18).toNat (σ 37 0 10)) 36 0 (15 * (σ 24 0 18).toNat) (t + 1) (fun j => σ 36 0 (150 + j))) from o_bs_s (f := fun j => σ 36 0 (150 + j))]
        exact ih (t + 1) _ (by omega) (by omega) (by omega)
  have K25 : ∀ (v : Int), v = b2i (0 < σ 37 0 10 ∧ σ 24 0 18 < 10) → oW l g x σ 25 [some (.ref (g.2.1 24 0)), none] [oi v, .ref (g.2.1 24 0)] 0 := by
    intro v hv
    subst hv
    refine cl_X6_117 (pc := 25) C (c_X6_asked (P := (0 < σ 37 0 10 ∧ σ 24 0 18 < 10))) (by omega) (by omega) (Nat.le_of_ble_eq_true rfl) dX6_keep_25 (fun z σ2 hq => ?_)
    obtain ⟨rfl, hq⟩ := hq
    rw [hq]; clear hq
    refine o_if_ne (pc := 28) C (tgt := 33) dX6_keep_28 (by decide) (by unfold b2i; split <;> omega) (fun h28 => ?_) (fun h28 => ?_)
    · have hq := o_t h28
      rw [if_pos hq]
      refine o_aload_n (pc := 33) C dX6_keep_33 rfl ?_
      refine gf_X6_56 (pc := 34) C dX6_keep_34 ?_
      refine o_aload_n (pc := 37) C dX6_keep_37 rfl ?_
      refine gf_X6_99 (pc := 38) C dX6_keep_38 ?_
      try simp (disch := decide) only [o_up_s, o_up_k, o_up_j, o_bl_k, o_rw_k]
      refine o_aload_n (pc := 41) C dX6_keep_41 rfl ?_
      refine gf_X6_56 (pc := 42) C dX6_keep_42 ?_
      refine o_bipush (pc := 45) C dX6_keep_45 rfl ?_
      refine ia_37 (pc := 47) C (by omega) (by omega) dX6_keep_47 ?_
      try simp (disch := decide) only [o_up_s, o_up_k, o_up_j, o_bl_k, o_rw_k]
      skip
      refine is_37 (pc := 48) C (by omega) (by omega) dX6_keep_48 ?_
      refine o_iconst (pc := 49) C dX6_keep_49 ?_
      refine sti_1 (pc := 50) C dX6_keep_50 ?_
      have e := L hq.2 hq.1 16 0 0 (by omega) (by omega) rfl
      rw [o_bs_0] at e
      exact e
    · have hq := o_f h28
      rw [if_neg hq]
      refine o_iconst (pc := 31) C dX6_keep_31 ?_
      exact E _ _ _ _ _ dX6_keep_32 rfl (by rw [if_neg hq]) (by omega)
  refine o_aload_n (pc := 0) C dX6_keep_0 rfl ?_
  refine o_aload_n (pc := 1) C dX6_keep_1 rfl ?_
  refine gf_X6_56 (pc := 2) C dX6_keep_2 ?_
  refine o_bipush (pc := 5) C dX6_keep_5 rfl ?_
  refine ia_37 (pc := 7) C (by omega) (by omega) dX6_keep_7 ?_
  rw [show σ 37 0 (Int.toNat 10) = σ 37 0 10 from rfl]
  refine o_if_le (pc := 8) C (tgt := 24) dX6_keep_8 (by decide) (by omega) (fun h8 => ?_) (fun h8 => ?_)
  · refine o_iconst (pc := 24) C dX6_keep_24 ?_
    exact K25 _ (by first | exact b2i_t (by omega) | exact b2i_f (by omega))
  · refine o_aload_n (pc := 11) C dX6_keep_11 rfl ?_
    refine gf_X6_99 (pc := 12) C dX6_keep_12 ?_
    refine o_bipush (pc := 15) C dX6_keep_15 rfl ?_
    refine o_icmp_ge (pc := 17) C (tgt := 24) dX6_keep_17 (by decide) (by omega) (by omega) (fun h17 => ?_) (fun h17 => ?_)
    · refine o_iconst (pc := 24) C dX6_keep_24 ?_
      exact K25 _ (by first | exact b2i_t (by omega) | exact b2i_f (by omega))
    · refine o_iconst (pc := 20) C dX6_keep_20 ?_
      refine o_goto (pc := 21) C (tgt := 25) dX6_keep_21 (by decide) ?_
      exact K25 _ (by first | exact b2i_t (by omega) | exact b2i_f (by omega))
/-- a pattern of the model -/
def mW (σ : oMem) (p : Nat) : Nat → Int := fun j => σ 36 0 (15 * p + j)
def mP (σ : oMem) (p : Nat) : Prop := 0 ≤ σ 37 0 p ∧ σ 37 0 p ≤ 15 ∧ ∀ j : Nat, (j : Int) < σ 37 0 p → 20 ≤ mW σ p j ∧ mW σ p j ≤ 1000
theorem mP.sum {σ : oMem} {p : Nat} (h : mP σ p) (t : Nat) (ht : (t : Int) ≤ σ 37 0 p) : 20 * (t : Int) ≤ o_sum (mW σ p) t ∧ o_sum (mW σ p) t ≤ 1000 * t := by
  induction t with
  | zero => simp [o_sum]
  | succ t ih =>
    have h1 := ih (by omega)
    have h2 := h.2.2 t (by omega)
    rw [o_sum]
    omega
abbrev mFit (σ : oMem) (p c : Nat) : Prop := 2 * σ 24 0 8 + o_sum (mW σ p) (σ 37 0 p).toNat ≤ σ 25 0 c ∧ σ 37 0 p + 1 ≤ σ 24 0 10
theorem e_iw {p : Nat} {t : Nat} : (15 * (p : Int) + (t : Int)).toNat = 15 * p + t := by omega
set_option maxRecDepth 100000 in
set_option maxHeartbeats 1000000 in
theorem c_X6_canRun {l : Launch} {g : oG} {σ : oMem} {p c : Nat} (hp : p < 11) (hc : c < 20) (hP : mP σ p) (h0 : 0 ≤ σ 24 0 8 ∧ σ 24 0 8 ≤ 100) (h1 : InR (σ 25 0 c)) (h2 : InR (σ 24 0 10)) : oMi l g yX6_canRun (.code yX6_canRun cX6_canRun 5 (some .boolean)) 1 0 [.ref (g.2.1 24 0), oi (p : Int), oi (c : Int)] σ (fun z σ' => z = b2i (mFit σ p c) ∧ σ' = σ) := by
  refine oMi_of (own := RX6) (by decide +kernel) rfl (by simp [oi, Value.category]) (by simp) (fun x C E => ?_)
  show oW l g x σ 0 [some (.ref (g.2.1 24 0)), some (oi (p : Int)), some (oi (c : Int)), none, none] [] 0
  obtain ⟨p0, p1, p2⟩ := id hP
  have L : ∀ (n t : Nat) (s i : Int), σ 37 0 p < t + n → (t : Int) ≤ σ 37 0 p → i = t → s = 2 * σ 24 0 8 + o_sum (mW σ p) t → oW l g x σ 10 [some (.ref (g.2.1 24 0)), some (oi (p : Int)), some (oi (c : Int)), some (oi s), some (oi i)] [] 0 := by
    intro n
    induction n with
    | zero => intro t s i a1 a2; omega
    | succ n ih =>
      intro t s i a1 a2 a3 a4
      subst a3
      have hs := hP.sum t a2
      have et : t = (σ 37 0 p).toNat → s = 2 * σ 24 0 8 + o_sum (mW σ p) (σ 37 0 p).toNat := fun e => by rw [a4, e]
      refine o_iload (pc := 10) C dX6_canRun_10 rfl ?_
      refine o_aload_n (pc := 12) C dX6_canRun_12 rfl ?_
      refine gf_X6_56 (pc := 13) C dX6_canRun_13 ?_
      refine o_iload_n (pc := 16) C dX6_canRun_16 rfl ?_
      refine ia_37 (pc := 17) C (by omega) (by omega) dX6_canRun_17 ?_
      rw [show ((p : Int)).toNat = p by omega]
      refine o_icmp_ge (pc := 18) C (tgt := 42) dX6_canRun_18 (by decide) (by omega) (by omega) (fun h18 => ?_) (fun h18 => ?_)
      · have et := et (by omega)
        refine o_iload_n (pc := 42) C dX6_canRun_42 rfl ?_
        refine o_aload_n (pc := 43) C dX6_canRun_43 rfl ?_
        refine gf_X6_7 (pc := 44) C dX6_canRun_44 ?_
        refine o_iload_n (pc := 47) C dX6_canRun_47 rfl ?_
        refine ia_25 (pc := 48) C (by omega) (by omega) dX6_canRun_48 ?_
        rw [show ((c : Int)).toNat = c by omega]
        refine o_icmp_gt (pc := 49) C (tgt := 71) dX6_canRun_49 (by decide) (by omega) (by omega) (fun h49 => ?_) (fun h49 => ?_)
        · refine o_iconst (pc := 71) C dX6_canRun_71 ?_
          exact E _ _ _ _ _ dX6_canRun_72 rfl ⟨by first | exact b2i_t ⟨by omega, by omega⟩ | exact b2i_f (fun q => by have := q.1; have := q.2; omega), rfl⟩ (by omega)
        · refine o_aload_n (pc := 52) C dX6_canRun_52 rfl ?_
          refine gf_X6_56 (pc := 53) C dX6_canRun_53 ?_
          refine o_iload_n (pc := 56) C dX6_canRun_56 rfl ?_
          refine ia_37 (pc := 57) C (by omega) (by omega) dX6_canRun_57 ?_
          rw [show ((p : Int)).toNat = p by omega]
          refine o_iconst (pc := 58) C dX6_canRun_58 ?_
          refine o_iadd (pc := 59) C dX6_canRun_59 ?_
          refine o_aload_n (pc := 60) C dX6_canRun_60 rfl ?_
          refine gf_X6_38 (pc := 61) C dX6_canRun_61 ?_
          refine o_icmp_gt (pc := 64) C (tgt := 71) dX6_canRun_64 (by decide) (by omega) (by omega) (fun h64 => ?_) (fun h64 => ?_)
          · refine o_iconst (pc := 71) C dX6_canRun_71 ?_
            exact E _ _ _ _ _ dX6_canRun_72 rfl ⟨by first | exact b2i_t ⟨by omega, by omega⟩ | exact b2i_f (fun q => by have := q.1; have := q.2; omega), rfl⟩ (by omega)
          · refine o_iconst (pc := 67) C dX6_canRun_67 ?_
            refine o_goto (pc := 68) C (tgt := 72) dX6_canRun_68 (by decide) ?_
            exact E _ _ _ _ _ dX6_canRun_72 rfl ⟨by first | exact b2i_t ⟨by omega, by omega⟩ | exact b2i_f (fun q => by have := q.1; have := q.2; omega), rfl⟩ (by omega)
      · refine o_iload_n (pc := 21) C dX6_canRun_21 rfl ?_
        refine o_aload_n (pc := 22) C dX6_canRun_22 rfl ?_
        refine gf_X6_53 (pc := 23) C dX6_canRun_23 ?_
        refine o_bipush (pc := 26) C dX6_canRun_26 rfl ?_
        refine o_iload_n (pc := 28) C dX6_canRun_28 rfl ?_
        refine o_imul (pc := 29) C dX6_canRun_29 ?_
        refine o_iload (pc := 30) C dX6_canRun_30 rfl ?_
        refine o_iadd (pc := 32) C dX6_canRun_32 ?_
        refine ia_36 (pc := 33) C (by omega) (by omega) dX6_canRun_33 ?_
        rw [e_iw, show σ 36 0 (15 * p + t) = mW σ p t from rfl]
        refine o_iadd (pc := 34) C dX6_canRun_34 ?_
        refine sti_3 (pc := 35) C dX6_canRun_35 ?_
        refine inc_4 (pc := 36) C dX6_canRun_36 ?_
        refine o_goto (pc := 39) C (tgt := 10) dX6_canRun_39 (by decide) ?_
        exact ih (t + 1) _ _ (by omega) (by omega) (by omega) (by rw [o_sum, a4]; omega)
  refine o_iconst (pc := 0) C dX6_canRun_0 ?_
  refine o_aload_n (pc := 1) C dX6_canRun_1 rfl ?_
  refine gf_X6_31 (pc := 2) C dX6_canRun_2 ?_
  refine o_imul (pc := 5) C dX6_canRun_5 ?_
  refine sti_3 (pc := 6) C dX6_canRun_6 ?_
  refine o_iconst (pc := 7) C dX6_canRun_7 ?_
  refine sti_4 (pc := 8) C dX6_canRun_8 ?_
  exact L 16 0 _ _ (by omega) (by omega) rfl (by simp [o_sum])
set_option maxRecDepth 100000 in
set_option maxHeartbeats 1000000 in
theorem c_X6_isPosition {l : Launch} {g : oG} {σ : oMem} {p : Nat} {a : Int} (hp : p < 11) (hP : mP σ p) (ha : 0 ≤ a ∧ a ≤ 20000) : oMi l g yX6_isPosition (.code yX6_isPosition cX6_isPosition 6 (some .boolean)) 1 0 [.ref (g.2.1 24 0), oi (p : Int), oi a] σ (fun z σ' => z = b2i (o_has (mW σ p) (σ 37 0 p).toNat a = true) ∧ σ' = σ) := by
  refine oMi_of (own := RX6) (by decide +kernel) rfl (by simp [oi, Value.category]) (by simp) (fun x C E => ?_)
  show oW l g x σ 0 [some (.ref (g.2.1 24 0)), some (oi (p : Int)), some (oi a), none, none, none] [] 0
  obtain ⟨p0, p1, p2⟩ := id hP
  have L : ∀ (n t : Nat) (s i v : Int), σ 37 0 p < t + n → (t : Int) ≤ σ 37 0 p → i = t → s = o_sum (mW σ p) t → v = b2i (o_has (mW σ p) t a = true) → oW l g x σ 16 [some (.ref (g.2.1 24 0)), some (oi (p : Int)), some (oi a), some (oi s), some (oi v), some (oi i)] [] 0 := by
    intro n
    induction n with
    | zero => intro t s i v a1 a2; omega
    | succ n ih =>
      intro t s i v a1 a2 a3 a4 a5
      subst a3
      have hst : o_has (mW σ p) (t + 1) a = (o_has (mW σ p) t a || (o_sum (mW σ p) (t + 1) == a)) := by
        unfold o_has
        rw [List.range_succ, List.any_append]
        simp
      refine o_iload (pc := 16) C dX6_isPosition_16 rfl ?_
      refine o_aload_n (pc := 18) C dX6_isPosition_18 rfl ?_
      refine gf_X6_56 (pc := 19) C dX6_isPosition_19 ?_
      refine o_iload_n (pc := 22) C dX6_isPosition_22 rfl ?_
      refine ia_37 (pc := 23) C (by omega) (by omega) dX6_isPosition_23 ?_
      rw [show ((p : Int)).toNat = p by omega]
      refine o_icmp_ge (pc := 24) C (tgt := 65) dX6_isPosition_24 (by decide) (by omega) (by omega) (fun h24 => ?_) (fun h24 => ?_)
      · refine o_iload (pc := 65) C dX6_isPosition_65 rfl ?_
        exact E _ _ _ _ _ dX6_isPosition_67 (by rw [a5]; unfold b2i; split <;> rfl) ⟨by rw [a5, show (σ 37 0 p).toNat = t by omega], rfl⟩ (by omega)
      · refine o_iload_n (pc := 27) C dX6_isPosition_27 rfl ?_
        refine o_aload_n (pc := 28) C dX6_isPosition_28 rfl ?_
        refine gf_X6_53 (pc := 29) C dX6_isPosition_29 ?_
        refine o_bipush (pc := 32) C dX6_isPosition_32 rfl ?_
        refine o_iload_n (pc := 34) C dX6_isPosition_34 rfl ?_
        refine o_imul (pc := 35) C dX6_isPosition_35 ?_
        refine o_iload (pc := 36) C dX6_isPosition_36 rfl ?_
        refine o_iadd (pc := 38) C dX6_isPosition_38 ?_
        refine ia_36 (pc := 39) C (by omega) (by omega) dX6_isPosition_39 ?_
        rw [e_iw, show σ 36 0 (15 * p + t) = mW σ p t from rfl]
        have hs := hP.sum (t + 1) (by omega)
        have es : s + mW σ p t = o_sum (mW σ p) (t + 1) := by rw [o_sum, a4]
        refine o_iadd (pc := 40) C dX6_isPosition_40 ?_
        rw [es]
        refine sti_3 (pc := 41) C dX6_isPosition_41 ?_
        refine o_iload (pc := 42) C dX6_isPosition_42 rfl ?_
        refine o_if_ne (pc := 44) C (tgt := 52) dX6_isPosition_44 (by decide) (by rw [a5]; unfold b2i; split <;> omega) (fun h44 => ?_) (fun h44 => ?_)
        · refine o_iconst (pc := 52) C dX6_isPosition_52 ?_
          refine o_goto (pc := 53) C (tgt := 57) dX6_isPosition_53 (by decide) ?_
          refine sti_4 (pc := 57) C dX6_isPosition_57 ?_
          refine inc_5 (pc := 59) C dX6_isPosition_59 ?_
          refine o_goto (pc := 62) C (tgt := 16) dX6_isPosition_62 (by decide) ?_
          rw [a5] at h44
          first
          | (have q := o_t h44; exact ih (t + 1) _ _ _ (by omega) (by omega) (by omega) rfl (b2i_t (by rw [hst, q]; rfl)))
          | (have q := o_f h44; exact ih (t + 1) _ _ _ (by omega) (by omega) (by omega) rfl (b2i_t (by rw [hst, beq_iff_eq.mpr h49, Bool.or_true])))
          | (have q := o_f h44; exact ih (t + 1) _ _ _ (by omega) (by omega) (by omega) rfl (b2i_f (by rw [hst, Bool.eq_false_iff.mpr q, beq_eq_false_iff_ne.mpr h49]; decide)))
        · refine o_iload_n (pc := 47) C dX6_isPosition_47 rfl ?_
          refine o_iload_n (pc := 48) C dX6_isPosition_48 rfl ?_
          refine o_icmp_ne (pc := 49) C (tgt := 56) dX6_isPosition_49 (by decide) (by omega) (by omega) (fun h49 => ?_) (fun h49 => ?_)
          · refine o_iconst (pc := 56) C dX6_isPosition_56 ?_
            refine sti_4 (pc := 57) C dX6_isPosition_57 ?_
            refine inc_5 (pc := 59) C dX6_isPosition_59 ?_
            refine o_goto (pc := 62) C (tgt := 16) dX6_isPosition_62 (by decide) ?_
            rw [a5] at h44
            first
            | (have q := o_t h44; exact ih (t + 1) _ _ _ (by omega) (by omega) (by omega) rfl (b2i_t (by rw [hst, q]; rfl)))
            | (have q := o_f h44; exact ih (t + 1) _ _ _ (by omega) (by omega) (by omega) rfl (b2i_t (by rw [hst, beq_iff_eq.mpr h49, Bool.or_true])))
            | (have q := o_f h44; exact ih (t + 1) _ _ _ (by omega) (by omega) (by omega) rfl (b2i_f (by rw [hst, Bool.eq_false_iff.mpr q, beq_eq_false_iff_ne.mpr h49]; decide)))
          · refine o_iconst (pc := 52) C dX6_isPosition_52 ?_
            refine o_goto (pc := 53) C (tgt := 57) dX6_isPosition_53 (by decide) ?_
            refine sti_4 (pc := 57) C dX6_isPosition_57 ?_
            refine inc_5 (pc := 59) C dX6_isPosition_59 ?_
            refine o_goto (pc := 62) C (tgt := 16) dX6_isPosition_62 (by decide) ?_
            rw [a5] at h44
            first
            | (have q := o_t h44; exact ih (t + 1) _ _ _ (by omega) (by omega) (by omega) rfl (b2i_t (by rw [hst, q]; rfl)))
            | (have q := o_f h44; exact ih (t + 1) _ _ _ (by omega) (by omega) (by omega) rfl (b2i_t (by rw [hst, beq_iff_eq.mpr h49, Bool.or_true])))
            | (have q := o_f h44; exact ih (t + 1) _ _ _ (by omega) (by omega) (by omega) rfl (b2i_f (by rw [hst, Bool.eq_false_iff.mpr q, beq_eq_false_iff_ne.mpr h49]; decide)))
  refine o_iconst (pc := 0) C dX6_isPosition_0 ?_
  refine sti_3 (pc := 1) C dX6_isPosition_1 ?_
  refine o_iload_n (pc := 2) C dX6_isPosition_2 rfl ?_
  refine o_if_ne (pc := 3) C (tgt := 10) dX6_isPosition_3 (by decide) (by omega) (fun h3 => ?_) (fun h3 => ?_)
  · refine o_iconst (pc := 10) C dX6_isPosition_10 ?_
    refine sti_4 (pc := 11) C dX6_isPosition_11 ?_
    refine o_iconst (pc := 13) C dX6_isPosition_13 ?_
    refine sti_5 (pc := 14) C dX6_isPosition_14 ?_
    first
    | exact L 16 0 _ _ _ (by omega) (by omega) rfl rfl (b2i_t (by rw [o_has_iff]; exact ⟨0, Nat.le_refl 0, h3.symm⟩))
    | exact L 16 0 _ _ _ (by omega) (by omega) rfl rfl (b2i_f (by rw [o_has_iff]; rintro ⟨k, k1, k2⟩; rw [show k = 0 by omega] at k2; exact h3 k2.symm))
  · refine o_iconst (pc := 6) C dX6_isPosition_6 ?_
    refine o_goto (pc := 7) C (tgt := 11) dX6_isPosition_7 (by decide) ?_
    refine sti_4 (pc := 11) C dX6_isPosition_11 ?_
    refine o_iconst (pc := 13) C dX6_isPosition_13 ?_
    refine sti_5 (pc := 14) C dX6_isPosition_14 ?_
    first
    | exact L 16 0 _ _ _ (by omega) (by omega) rfl rfl (b2i_t (by rw [o_has_iff]; exact ⟨0, Nat.le_refl 0, h3.symm⟩))
    | exact L 16 0 _ _ _ (by omega) (by omega) rfl rfl (b2i_f (by rw [o_has_iff]; rintro ⟨k, k1, k2⟩; rw [show k = 0 by omega] at k2; exact h3 k2.symm))
def mMv (σ : oMem) (b : Int) (p : Nat) : Int := if b = -1 then 1 + (σ 37 0 p) else o_sum (fun j => if o_has (mW σ b.toNat) (σ 37 0 b.toNat).toNat (o_sum (mW σ p) (j + 1)) = true then 0 else 1) (σ 37 0 p).toNat
set_option maxRecDepth 100000 in
set_option maxHeartbeats 1000000 in
theorem c_X6_movesFrom {l : Launch} {g : oG} {σ : oMem} {p : Nat} {b : Int} (hp : p < 11) (hP : mP σ p) (hb : -1 ≤ b ∧ b ≤ 10) (hB : 0 ≤ b → mP σ b.toNat) : oMi l g yX6_movesFrom (.code yX6_movesFrom cX6_movesFrom 6 (some .int)) 2 0 [.ref (g.2.1 24 0), oi b, oi (p : Int)] σ (fun z σ' => z = mMv σ b p ∧ σ' = σ) := by
  refine oMi_of (own := RX6) (by decide +kernel) rfl (by simp [oi, Value.category]) (by simp) (fun x C E => ?_)
  show oW l g x σ 0 [some (.ref (g.2.1 24 0)), some (oi b), some (oi (p : Int)), none, none, none] [] 0
  obtain ⟨p0, p1, p2⟩ := id hP
  obtain ⟨F, hF⟩ : ∃ F : Nat → Int, F = fun t : Nat => if b = -1 then 1 + (t : Int) else o_sum (fun j => if o_has (mW σ b.toNat) (σ 37 0 b.toNat).toNat (o_sum (mW σ p) (j + 1)) = true then 0 else 1) t := ⟨_, rfl⟩
  have hfin : F (σ 37 0 p).toNat = mMv σ b p := by
    rw [hF]; unfold mMv
    by_cases q : b = -1
    · show (if _ then _ else _) = _
      rw [if_pos q, if_pos q]; omega
    · show (if _ then _ else _) = _
      rw [if_neg q, if_neg q]
  have hF1 : b = -1 → ∀ t, F (t + 1) = F t + 1 := fun q t => by rw [hF]; simp only [if_pos q]; omega
  have hF2 : b ≠ -1 → ∀ t, F (t + 1) = F t + (if o_has (mW σ b.toNat) (σ 37 0 b.toNat).toNat (o_sum (mW σ p) (t + 1)) = true then 0 else 1) := fun q t => by rw [hF]; simp only [if_neg q]; rfl
  have L : ∀ (n t : Nat) (s i v : Int), σ 37 0 p < t + n → (t : Int) ≤ σ 37 0 p → i = t → s = o_sum (mW σ p) t → v = F t → oW l g x σ 17 [some (.ref (g.2.1 24 0)), some (oi b), some (oi (p : Int)), some (oi v), some (oi s), some (oi i)] [] 0 := by
    intro n
    induction n with
    | zero => intro t s i v a1 a2; omega
    | succ n ih =>
      intro t s i v a1 a2 a3 a4 a5
      subst a3
      refine o_iload (pc := 17) C dX6_movesFrom_17 rfl ?_
      refine o_aload_n (pc := 19) C dX6_movesFrom_19 rfl ?_
      refine gf_X6_56 (pc := 20) C dX6_movesFrom_20 ?_
      refine o_iload_n (pc := 23) C dX6_movesFrom_23 rfl ?_
      refine ia_37 (pc := 24) C (by omega) (by omega) dX6_movesFrom_24 ?_
      rw [show ((p : Int)).toNat = p by omega]
      refine o_icmp_ge (pc := 25) C (tgt := 74) dX6_movesFrom_25 (by decide) (by omega) (by omega) (fun h25 => ?_) (fun h25 => ?_)
      · refine o_iload_n (pc := 74) C dX6_movesFrom_74 rfl ?_
        exact E _ _ _ _ _ dX6_movesFrom_75 rfl ⟨by rw [a5, ← hfin, show (σ 37 0 p).toNat = t by omega], rfl⟩ (by omega)
      · refine o_iload (pc := 28) C dX6_movesFrom_28 rfl ?_
        refine o_aload_n (pc := 30) C dX6_movesFrom_30 rfl ?_
        refine gf_X6_53 (pc := 31) C dX6_movesFrom_31 ?_
        refine o_bipush (pc := 34) C dX6_movesFrom_34 rfl ?_
        refine o_iload_n (pc := 36) C dX6_movesFrom_36 rfl ?_
        refine o_imul (pc := 37) C dX6_movesFrom_37 ?_
        refine o_iload (pc := 38) C dX6_movesFrom_38 rfl ?_
        refine o_iadd (pc := 40) C dX6_movesFrom_40 ?_
        refine ia_36 (pc := 41) C (by omega) (by omega) dX6_movesFrom_41 ?_
        rw [e_iw, show σ 36 0 (15 * p + t) = mW σ p t from rfl]
        have hs := hP.sum (t + 1) (by omega)
        have es : s + mW σ p t = o_sum (mW σ p) (t + 1) := by rw [o_sum, a4]
        refine o_iadd (pc := 42) C dX6_movesFrom_42 ?_
        rw [es]
        refine sti_4 (pc := 43) C dX6_movesFrom_43 ?_
        refine o_iload_n (pc := 45) C dX6_movesFrom_45 rfl ?_
        refine o_iload_n (pc := 46) C dX6_movesFrom_46 rfl ?_
        refine o_iconst (pc := 47) C dX6_movesFrom_47 ?_
        refine o_icmp_eq (pc := 48) C (tgt := 61) dX6_movesFrom_48 (by decide) (by omega) (by omega) (fun h48 => ?_) (fun h48 => ?_)
        · refine o_iconst (pc := 61) C dX6_movesFrom_61 ?_
          refine o_goto (pc := 62) C (tgt := 66) dX6_movesFrom_62 (by decide) ?_
          refine o_iadd (pc := 66) C dX6_movesFrom_66 ?_
          refine sti_3 (pc := 67) C dX6_movesFrom_67 ?_
          refine inc_5 (pc := 68) C dX6_movesFrom_68 ?_
          refine o_goto (pc := 71) C (tgt := 17) dX6_movesFrom_71 (by decide) ?_
          first
          | (have q9 := o_t h58; exact ih (t + 1) _ _ _ (by omega) (by omega) (by omega) rfl (by rw [hF3, if_pos q9, a5]))
          | (have q9 := o_f h58; exact ih (t + 1) _ _ _ (by omega) (by omega) (by omega) rfl (by rw [hF3, if_neg q9, a5]))
          | (have q9 : b = -1 := h48; exact ih (t + 1) _ _ _ (by omega) (by omega) (by omega) rfl (by rw [hF1 q9, a5]))
        · obtain ⟨q, rfl⟩ : ∃ q : Nat, b = (q : Int) := ⟨b.toNat, by omega⟩
          have hF3 : F (t + 1) = F t + (if o_has (mW σ q) (σ 37 0 q).toNat (o_sum (mW σ p) (t + 1)) = true then 0 else 1) := hF2 h48 t
          refine o_aload_n (pc := 51) C dX6_movesFrom_51 rfl ?_
          refine o_iload_n (pc := 52) C dX6_movesFrom_52 rfl ?_
          refine o_iload (pc := 53) C dX6_movesFrom_53 rfl ?_
          refine cl_X6_144 (pc := 55) C (c_X6_isPosition (p := q) (by omega) (hB (by omega)) (by omega)) (by omega) (by omega) (Nat.le_of_ble_eq_true rfl) dX6_movesFrom_55 (fun z σ2 hq => ?_)
          obtain ⟨rfl, hq⟩ := hq
          rw [hq]; clear hq
          refine o_if_ne (pc := 58) C (tgt := 65) dX6_movesFrom_58 (by decide) (by unfold b2i; split <;> omega) (fun h58 => ?_) (fun h58 => ?_)
          · refine o_iconst (pc := 65) C dX6_movesFrom_65 ?_
            refine o_iadd (pc := 66) C dX6_movesFrom_66 ?_
            refine sti_3 (pc := 67) C dX6_movesFrom_67 ?_
            refine inc_5 (pc := 68) C dX6_movesFrom_68 ?_
            refine o_goto (pc := 71) C (tgt := 17) dX6_movesFrom_71 (by decide) ?_
            first
            | (have q9 := o_t h58; exact ih (t + 1) _ _ _ (by omega) (by omega) (by omega) rfl (by rw [hF3, if_pos q9, a5]))
            | (have q9 := o_f h58; exact ih (t + 1) _ _ _ (by omega) (by omega) (by omega) rfl (by rw [hF3, if_neg q9, a5]))
            | (have q9 : b = -1 := h48; exact ih (t + 1) _ _ _ (by omega) (by omega) (by omega) rfl (by rw [hF1 q9, a5]))
          · refine o_iconst (pc := 61) C dX6_movesFrom_61 ?_
            refine o_goto (pc := 62) C (tgt := 66) dX6_movesFrom_62 (by decide) ?_
            refine o_iadd (pc := 66) C dX6_movesFrom_66 ?_
            refine sti_3 (pc := 67) C dX6_movesFrom_67 ?_
            refine inc_5 (pc := 68) C dX6_movesFrom_68 ?_
            refine o_goto (pc := 71) C (tgt := 17) dX6_movesFrom_71 (by decide) ?_
            first
            | (have q9 := o_t h58; exact ih (t + 1) _ _ _ (by omega) (by omega) (by omega) rfl (by rw [hF3, if_pos q9, a5]))
            | (have q9 := o_f h58; exact ih (t + 1) _ _ _ (by omega) (by omega) (by omega) rfl (by rw [hF3, if_neg q9, a5]))
            | (have q9 : b = -1 := h48; exact ih (t + 1) _ _ _ (by omega) (by omega) (by omega) rfl (by rw [hF1 q9, a5]))
  refine o_iload_n (pc := 0) C dX6_movesFrom_0 rfl ?_
  refine o_iconst (pc := 1) C dX6_movesFrom_1 ?_
  refine o_icmp_ne (pc := 2) C (tgt := 9) dX6_movesFrom_2 (by decide) (by omega) (by omega) (fun h2 => ?_) (fun h2 => ?_)
  · refine o_iconst (pc := 9) C dX6_movesFrom_9 ?_
    refine sti_3 (pc := 10) C dX6_movesFrom_10 ?_
    refine o_iconst (pc := 11) C dX6_movesFrom_11 ?_
    refine sti_4 (pc := 12) C dX6_movesFrom_12 ?_
    refine o_iconst (pc := 14) C dX6_movesFrom_14 ?_
    refine sti_5 (pc := 15) C dX6_movesFrom_15 ?_
    first
    | (have q9 : b = -1 := h2; exact L 16 0 _ _ _ (by omega) (by omega) rfl rfl (by rw [hF]; simp [q9]))
    | (have q9 : ¬ b = -1 := h2; exact L 16 0 _ _ _ (by omega) (by omega) rfl rfl (by rw [hF]; simp [q9, o_sum]))
  · refine o_iconst (pc := 5) C dX6_movesFrom_5 ?_
    refine o_goto (pc := 6) C (tgt := 10) dX6_movesFrom_6 (by decide) ?_
    refine sti_3 (pc := 10) C dX6_movesFrom_10 ?_
    refine o_iconst (pc := 11) C dX6_movesFrom_11 ?_
    refine sti_4 (pc := 12) C dX6_movesFrom_12 ?_
    refine o_iconst (pc := 14) C dX6_movesFrom_14 ?_
    refine sti_5 (pc := 15) C dX6_movesFrom_15 ?_
    first
    | (have q9 : b = -1 := h2; exact L 16 0 _ _ _ (by omega) (by omega) rfl rfl (by rw [hF]; simp [q9]))
    | (have q9 : ¬ b = -1 := h2; exact L 16 0 _ _ _ (by omega) (by omega) rfl rfl (by rw [hF]; simp [q9, o_sum]))
