theorem mD_ins {σ : oMem} {c : Nat} {b d : Int} (h : mD σ c) (h8 : σ 31 0 c < 8) (hb : InR b) (hd : InR d) : mD (o_up (o_up (o_up (o_up σ 24 0 31 0) 29 0 (8 * c + (σ 31 0 c).toNat) b) 30 0 (8 * c + (σ 31 0 c).toNat) d) 31 0 c (σ 31 0 c + 1)) c := by
  obtain ⟨⟨h0, h1⟩, h2⟩ := h
  unfold mD
  rw [o_up_s]
  refine ⟨by omega, fun k hk => ?_⟩
  have e1 : o_up (o_up (o_up (o_up σ 24 0 31 0) 29 0 (8 * c + (σ 31 0 c).toNat) b) 30 0 (8 * c + (σ 31 0 c).toNat) d) 31 0 c (σ 31 0 c + 1) 29 0 (8 * c + k) = if k = (σ 31 0 c).toNat then b else σ 29 0 (8 * c + k) := by simp [o_up]
  have e2 : o_up (o_up (o_up (o_up σ 24 0 31 0) 29 0 (8 * c + (σ 31 0 c).toNat) b) 30 0 (8 * c + (σ 31 0 c).toNat) d) 31 0 c (σ 31 0 c + 1) 30 0 (8 * c + k) = if k = (σ 31 0 c).toNat then d else σ 30 0 (8 * c + k) := by simp [o_up]
  rw [e1, e2]
  split
  · exact ⟨hb, hd⟩
  · exact h2 k (by omega)
set_option maxRecDepth 100000 in
set_option maxHeartbeats 1000000 in
theorem c_X6_defect {l : Launch} {g : oG} {σ : oMem} {a b d : Int} (h0 : 0 ≤ σ 24 0 4 ∧ σ 24 0 4 ≤ 20) (hC : ∀ c : Nat, (c : Int) < σ 24 0 4 → (10 ≤ σ 27 0 c ∧ σ 27 0 c ≤ 5000) ∧ InR (σ 38 0 c) ∧ mD σ c) (h1 : InR a) (h2 : InR b) (h3 : InR d) : oMi l g yX6_defect (.code yX6_defect cX6_defect 6 (some .int)) 3 0 [.ref (g.2.1 24 0), oi a, oi b, oi d] σ (fun z σ' => if (mkC σ a) ∧ (mkC σ a ∧ (0 ≤ b ∧ b ≤ σ 27 0 a.toNat - 1) ∧ (b + 1 ≤ d ∧ d ≤ σ 27 0 a.toNat)) ∧ (mkC σ a ∧ σ 38 0 a.toNat = -1 ∧ σ 31 0 a.toNat < 8) then σ' = o_up (o_up (o_up (o_up σ 24 0 31 0) 29 0 (8 * a.toNat + (σ 31 0 a.toNat).toNat) b) 30 0 (8 * a.toNat + (σ 31 0 a.toNat).toNat) d) 31 0 a.toNat (σ 31 0 a.toNat + 1) ∧ z = mCut σ' a.toNat else σ' = o_up σ 24 0 31 (if (mkC σ a) then (if (mkC σ a ∧ (0 ≤ b ∧ b ≤ σ 27 0 a.toNat - 1) ∧ (b + 1 ≤ d ∧ d ≤ σ 27 0 a.toNat)) then (if (mkC σ a ∧ σ 38 0 a.toNat = -1 ∧ σ 31 0 a.toNat < 8) then 0 else 3) else 2) else 1)) := by
  refine oMi_of (own := RX6) (by decide +kernel) rfl (by simp [oi, Value.category]) (by simp) (fun x C E => ?_)
  show oW l g x σ 0 [some (.ref (g.2.1 24 0)), some (oi a), some (oi b), some (oi d), none, none] [] 0
  have K87 : ∀ (u v w : Int) , u = b2i (mkC σ a) → v = b2i (mkC σ a ∧ (0 ≤ b ∧ b ≤ σ 27 0 a.toNat - 1) ∧ (b + 1 ≤ d ∧ d ≤ σ 27 0 a.toNat)) → w = b2i (mkC σ a ∧ σ 38 0 a.toNat = -1 ∧ σ 31 0 a.toNat < 8) → oW l g x σ 87 [some (.ref (g.2.1 24 0)), some (oi a), some (oi b), some (oi d), some (oi u), some (oi v)] [oi w, oi v, oi u, .ref (g.2.1 24 0)] 0 := by
    intro u v w hu hv hw
    subst hu hv hw
    refine cl_X6_110 (pc := 87) C (c_X6_asked__ (P := (mkC σ a)) (Q := (mkC σ a ∧ (0 ≤ b ∧ b ≤ σ 27 0 a.toNat - 1) ∧ (b + 1 ≤ d ∧ d ≤ σ 27 0 a.toNat))) (S := (mkC σ a ∧ σ 38 0 a.toNat = -1 ∧ σ 31 0 a.toNat < 8))) (by omega) (by omega) (Nat.le_of_ble_eq_true rfl) dX6_defect_87 (fun z σ2 hq => ?_)
    obtain ⟨rfl, hq⟩ := hq
    rw [hq]; clear hq
    refine o_if_ne (pc := 90) C (tgt := 95) dX6_defect_90 (by decide) (by unfold b2i; split <;> omega) (fun h90 => ?_) (fun h90 => ?_)
    · obtain ⟨q1, q2, q3⟩ := o_t h90
      rw [if_pos q1, if_pos q2, if_pos q3]
      obtain ⟨c, rfl⟩ : ∃ c : Nat, a = (c : Int) := ⟨a.toNat, by omega⟩
      have hc := hC c (by omega)
      have hm0 := hc.2.2.1
      have hm1 : ((c : Int)).toNat = c := by omega
      rw [hm1] at q2 q3
      refine o_aload_n (pc := 95) C dX6_defect_95 rfl ?_
      refine gf_X6_22 (pc := 96) C dX6_defect_96 ?_
      refine o_bipush (pc := 99) C dX6_defect_99 rfl ?_
      refine o_iload_n (pc := 101) C dX6_defect_101 rfl ?_
      refine o_imul (pc := 102) C dX6_defect_102 ?_
      refine o_aload_n (pc := 103) C dX6_defect_103 rfl ?_
      refine gf_X6_28 (pc := 104) C dX6_defect_104 ?_
      refine o_iload_n (pc := 107) C dX6_defect_107 rfl ?_
      refine ia_31 (pc := 108) C (by omega) (by omega) dX6_defect_108 ?_
      try simp (disch := decide) only [o_up_s, o_up_k, o_up_j, o_bl_k, o_rw_k]
      rw [hm1]
      refine o_iadd (pc := 109) C dX6_defect_109 ?_
      skip
      refine o_iload_n (pc := 110) C dX6_defect_110 rfl ?_
      refine is_29 (pc := 111) C (by omega) (by omega) dX6_defect_111 ?_
      refine o_aload_n (pc := 112) C dX6_defect_112 rfl ?_
      refine gf_X6_25 (pc := 113) C dX6_defect_113 ?_
      refine o_bipush (pc := 116) C dX6_defect_116 rfl ?_
      refine o_iload_n (pc := 118) C dX6_defect_118 rfl ?_
      refine o_imul (pc := 119) C dX6_defect_119 ?_
      refine o_aload_n (pc := 120) C dX6_defect_120 rfl ?_
      refine gf_X6_28 (pc := 121) C dX6_defect_121 ?_
      refine o_iload_n (pc := 124) C dX6_defect_124 rfl ?_
      refine ia_31 (pc := 125) C (by omega) (by omega) dX6_defect_125 ?_
      try simp (disch := decide) only [o_up_s, o_up_k, o_up_j, o_bl_k, o_rw_k]
      rw [hm1]
      refine o_iadd (pc := 126) C dX6_defect_126 ?_
      refine o_iload_n (pc := 127) C dX6_defect_127 rfl ?_
      refine is_30 (pc := 128) C (by omega) (by omega) dX6_defect_128 ?_
      refine o_aload_n (pc := 129) C dX6_defect_129 rfl ?_
      refine gf_X6_28 (pc := 130) C dX6_defect_130 ?_
      refine o_iload_n (pc := 133) C dX6_defect_133 rfl ?_
      refine o_dup2 (pc := 134) C dX6_defect_134 rfl rfl ?_
      refine ia_31 (pc := 135) C (by omega) (by omega) dX6_defect_135 ?_
      try simp (disch := decide) only [o_up_s, o_up_k, o_up_j, o_bl_k, o_rw_k]
      rw [hm1]
      refine o_iconst (pc := 136) C dX6_defect_136 ?_
      refine o_iadd (pc := 137) C dX6_defect_137 ?_
      refine is_31 (pc := 138) C (by omega) (by omega) dX6_defect_138 ?_
      rw [show (8 * (c : Int) + σ 31 0 c).toNat = 8 * c + (σ 31 0 c).toNat by omega]
      have hmd := mD_ins hc.2.2 q3.2.2 h2 h3
      refine o_aload_n (pc := 139) C dX6_defect_139 rfl ?_
      refine o_iload_n (pc := 140) C dX6_defect_140 rfl ?_
      refine cl_X6_113 (pc := 141) C (c_X6_cutOut (c := c) (by omega) (by first | (simp (disch := decide) only [o_up_k]; omega)) hmd) (by omega) (by omega) (Nat.le_of_ble_eq_true rfl) dX6_defect_141 (fun z σ2 hq => ?_)
      obtain ⟨rfl, hq⟩ := hq
      rw [hq]; clear hq
      first
      | (have y := q1; exact E _ _ _ _ _ dX6_defect_144 rfl (by rw [if_pos ⟨q1, q2, q3⟩]; exact ⟨rfl, rfl⟩) (by omega))
      | exact E _ _ _ _ _ dX6_defect_144 rfl (by rw [if_neg (o_f h90)]) (by omega)
    · refine o_iconst (pc := 93) C dX6_defect_93 ?_
      first
      | (have y := q1; exact E _ _ _ _ _ dX6_defect_94 rfl (by rw [if_pos ⟨q1, q2, q3⟩]; exact ⟨rfl, rfl⟩) (by omega))
      | exact E _ _ _ _ _ dX6_defect_94 rfl (by rw [if_neg (o_f h90)]) (by omega)
  have K49 : ∀ (u v : Int), u = b2i (mkC σ a) → v = b2i (mkC σ a ∧ (0 ≤ b ∧ b ≤ σ 27 0 a.toNat - 1) ∧ (b + 1 ≤ d ∧ d ≤ σ 27 0 a.toNat)) → oW l g x σ 49 [some (.ref (g.2.1 24 0)), some (oi a), some (oi b), some (oi d), some (oi u), none] [oi v] 0 := by
    intro u v hu hv
    refine sti_5 (pc := 49) C dX6_defect_49 ?_
    refine o_aload_n (pc := 51) C dX6_defect_51 rfl ?_
    refine o_iload (pc := 52) C dX6_defect_52 rfl ?_
    refine o_iload (pc := 54) C dX6_defect_54 rfl ?_
    refine o_iload (pc := 56) C dX6_defect_56 rfl ?_
    refine o_if_eq (pc := 58) C (tgt := 86) dX6_defect_58 (by decide) (by rw [hu]; unfold b2i; split <;> omega) (fun h58 => ?_) (fun h58 => ?_)
    · refine o_iconst (pc := 86) C dX6_defect_86 ?_
      first
      | exact K87 _ _ _ hu hv (b2i_t ⟨q1, h68, h79⟩)
      | exact K87 _ _ _ hu hv (b2i_f (fun q => by omega))
      | (rw [hu] at h58; exact K87 _ _ _ hu hv (b2i_f (fun q => o_f h58 q.1)))
    · rw [hu] at h58
      have q1 := o_t h58
      refine o_aload_n (pc := 61) C dX6_defect_61 rfl ?_
      refine gf_X6_59 (pc := 62) C dX6_defect_62 ?_
      refine o_iload_n (pc := 65) C dX6_defect_65 rfl ?_
      refine ia_38 (pc := 66) C (by omega) (by omega) dX6_defect_66 ?_
      refine o_iconst (pc := 67) C dX6_defect_67 ?_
      refine o_icmp_ne (pc := 68) C (tgt := 86) dX6_defect_68 (by decide) (by have := (hC a.toNat (by omega)).2.1; omega) (by omega) (fun h68 => ?_) (fun h68 => ?_)
      · refine o_iconst (pc := 86) C dX6_defect_86 ?_
        first
        | exact K87 _ _ _ hu hv (b2i_t ⟨q1, h68, h79⟩)
        | exact K87 _ _ _ hu hv (b2i_f (fun q => by omega))
        | (rw [hu] at h58; exact K87 _ _ _ hu hv (b2i_f (fun q => o_f h58 q.1)))
      · refine o_aload_n (pc := 71) C dX6_defect_71 rfl ?_
        refine gf_X6_28 (pc := 72) C dX6_defect_72 ?_
        refine o_iload_n (pc := 75) C dX6_defect_75 rfl ?_
        refine ia_31 (pc := 76) C (by omega) (by omega) dX6_defect_76 ?_
        refine o_bipush (pc := 77) C dX6_defect_77 rfl ?_
        refine o_icmp_ge (pc := 79) C (tgt := 86) dX6_defect_79 (by decide) (by have := (hC a.toNat (by omega)).2.2.1; omega) (by omega) (fun h79 => ?_) (fun h79 => ?_)
        · refine o_iconst (pc := 86) C dX6_defect_86 ?_
          first
          | exact K87 _ _ _ hu hv (b2i_t ⟨q1, h68, h79⟩)
          | exact K87 _ _ _ hu hv (b2i_f (fun q => by omega))
          | (rw [hu] at h58; exact K87 _ _ _ hu hv (b2i_f (fun q => o_f h58 q.1)))
        · refine o_iconst (pc := 82) C dX6_defect_82 ?_
          refine o_goto (pc := 83) C (tgt := 87) dX6_defect_83 (by decide) ?_
          first
          | exact K87 _ _ _ hu hv (b2i_t ⟨q1, h68, h79⟩)
          | exact K87 _ _ _ hu hv (b2i_f (fun q => by omega))
          | (rw [hu] at h58; exact K87 _ _ _ hu hv (b2i_f (fun q => o_f h58 q.1)))
  refine o_aload_n (pc := 0) C dX6_defect_0 rfl ?_
  refine o_iload_n (pc := 1) C dX6_defect_1 rfl ?_
  refine cl_X6_106 (pc := 2) C (c_X6_isCoil h1 h0) (by omega) (by omega) (Nat.le_of_ble_eq_true rfl) dX6_defect_2 (fun z σ2 hq => ?_)
  obtain ⟨rfl, hq⟩ := hq
  rw [hq]; clear hq
  refine sti_4 (pc := 5) C dX6_defect_5 ?_
  refine o_iload (pc := 7) C dX6_defect_7 rfl ?_
  refine o_if_eq (pc := 9) C (tgt := 48) dX6_defect_9 (by decide) (by unfold b2i; split <;> omega) (fun h9 => ?_) (fun h9 => ?_)
  · refine o_iconst (pc := 48) C dX6_defect_48 ?_
    first
    | exact K49 _ _ rfl (b2i_t ⟨q1, o_t h25, o_t h41⟩)
    | exact K49 _ _ rfl (b2i_f (fun q => o_f h9 q.1))
    | exact K49 _ _ rfl (b2i_f (fun q => o_f h25 q.2.1))
    | exact K49 _ _ rfl (b2i_f (fun q => o_f h41 q.2.2))
  · have q1 := o_t h9
    have hc := hC a.toNat (by omega)
    refine o_iload_n (pc := 12) C dX6_defect_12 rfl ?_
    refine o_iconst (pc := 13) C dX6_defect_13 ?_
    refine o_aload_n (pc := 14) C dX6_defect_14 rfl ?_
    refine gf_X6_16 (pc := 15) C dX6_defect_15 ?_
    refine o_iload_n (pc := 18) C dX6_defect_18 rfl ?_
    refine ia_27 (pc := 19) C (by omega) (by omega) dX6_defect_19 ?_
    refine o_iconst (pc := 20) C dX6_defect_20 ?_
    refine o_isub (pc := 21) C dX6_defect_21 ?_
    refine cl_X6_95 (pc := 22) C (c_X6_in (by omega) (by omega) (by omega)) (by omega) (by omega) (Nat.le_of_ble_eq_true rfl) dX6_defect_22 (fun z σ2 hq => ?_)
    obtain ⟨rfl, hq⟩ := hq
    rw [hq]; clear hq
    refine o_if_eq (pc := 25) C (tgt := 48) dX6_defect_25 (by decide) (by unfold b2i; split <;> omega) (fun h25 => ?_) (fun h25 => ?_)
    · refine o_iconst (pc := 48) C dX6_defect_48 ?_
      first
      | exact K49 _ _ rfl (b2i_t ⟨q1, o_t h25, o_t h41⟩)
      | exact K49 _ _ rfl (b2i_f (fun q => o_f h9 q.1))
      | exact K49 _ _ rfl (b2i_f (fun q => o_f h25 q.2.1))
      | exact K49 _ _ rfl (b2i_f (fun q => o_f h41 q.2.2))
    · have q25 := o_t h25
      refine o_iload_n (pc := 28) C dX6_defect_28 rfl ?_
      refine o_iload_n (pc := 29) C dX6_defect_29 rfl ?_
      refine o_iconst (pc := 30) C dX6_defect_30 ?_
      refine o_iadd (pc := 31) C dX6_defect_31 ?_
      refine o_aload_n (pc := 32) C dX6_defect_32 rfl ?_
      refine gf_X6_16 (pc := 33) C dX6_defect_33 ?_
      refine o_iload_n (pc := 36) C dX6_defect_36 rfl ?_
      refine ia_27 (pc := 37) C (by omega) (by omega) dX6_defect_37 ?_
      refine cl_X6_95 (pc := 38) C (c_X6_in (by omega) (by omega) (by omega)) (by omega) (by omega) (Nat.le_of_ble_eq_true rfl) dX6_defect_38 (fun z σ2 hq => ?_)
      obtain ⟨rfl, hq⟩ := hq
      rw [hq]; clear hq
      refine o_if_eq (pc := 41) C (tgt := 48) dX6_defect_41 (by decide) (by unfold b2i; split <;> omega) (fun h41 => ?_) (fun h41 => ?_)
      · refine o_iconst (pc := 48) C dX6_defect_48 ?_
        first
        | exact K49 _ _ rfl (b2i_t ⟨q1, o_t h25, o_t h41⟩)
        | exact K49 _ _ rfl (b2i_f (fun q => o_f h9 q.1))
        | exact K49 _ _ rfl (b2i_f (fun q => o_f h25 q.2.1))
        | exact K49 _ _ rfl (b2i_f (fun q => o_f h41 q.2.2))
      · refine o_iconst (pc := 44) C dX6_defect_44 ?_
        refine o_goto (pc := 45) C (tgt := 49) dX6_defect_45 (by decide) ?_
        first
        | exact K49 _ _ rfl (b2i_t ⟨q1, o_t h25, o_t h41⟩)
        | exact K49 _ _ rfl (b2i_f (fun q => o_f h9 q.1))
        | exact K49 _ _ rfl (b2i_f (fun q => o_f h25 q.2.1))
        | exact K49 _ _ rfl (b2i_f (fun q => o_f h41 q.2.2))
