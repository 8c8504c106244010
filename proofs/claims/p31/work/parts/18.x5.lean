theorem o_t {P : Prop} [Decidable P] (h : ¬ (if P then (1 : Int) else 0) = 0) : P := by
  by_cases q : P
  · exact q
  · rw [if_neg q] at h; exact absurd rfl h
theorem o_f {P : Prop} [Decidable P] (h : (if P then (1 : Int) else 0) = 0) : ¬ P := fun q => by
  rw [if_pos q] at h; exact absurd h (by decide)
theorem o_u {P : Prop} [Decidable P] (h : (if P then (0 : Int) else 1) = 0) : P := by
  by_cases q : P
  · exact q
  · rw [if_neg q] at h; exact absurd h (by decide)
theorem o_v {P : Prop} [Decidable P] (h : ¬ (if P then (0 : Int) else 1) = 0) : ¬ P := fun q => by
  rw [if_pos q] at h; exact absurd rfl h
abbrev xIOB : String := "java/lang/IndexOutOfBoundsException"
abbrev xIAE : String := "java/lang/IllegalArgumentException"
abbrev xISE : String := "java/lang/IllegalStateException"
abbrev okC (σ : oMem) (a : Int) : Prop := 0 ≤ a ∧ a < σ 0 0 1
abbrev okP (σ : oMem) (a : Int) : Prop := 0 ≤ a ∧ a < σ 0 0 5
abbrev okO (σ : oMem) (a : Int) : Prop := 0 ≤ a ∧ a < σ 0 0 3
set_option maxRecDepth 100000 in
set_option maxHeartbeats 4000000 in
theorem c_X5_requireRange {l : Launch} {g : oG} {σ : oMem} {v a b : Int} (hfl : l.stackTraces = false) (h0 : InR v) (h1 : InR a) (h2 : InR b) : oXv l g yX5_requireRange (.code yX5_requireRange cX5_requireRange 3 none) 1 1 [oi v, oi a, oi b] σ (fun σ' => σ' = σ ∧ a ≤ v ∧ v ≤ b) (fun e => e = xIAE ∧ ¬ (a ≤ v ∧ v ≤ b)) := by
  refine oXv_of (own := RX5) hfl (by decide +kernel) rfl (by simp [oi, Value.category]) (by simp) (fun x C T E => ?_)
  show oW l g x σ 0 [some (oi v), some (oi a), some (oi b)] [] 0
  refine o_iload_n (pc := 0) C dX5_requireRange_0 rfl ?_
  refine o_iload_n (pc := 1) C dX5_requireRange_1 rfl ?_
  refine o_icmp_lt (pc := 2) C (tgt := 10) dX5_requireRange_2 (by decide) (by omega) (by omega) (fun h2 => ?_) (fun h2 => ?_)
  · exact thw_255 (pc := 10) T (List.mem_of_getElem? (i := 9) rfl) dX5_requireRange_10 dX5_requireRange_13 dX5_requireRange_14 dX5_requireRange_17 dX5_requireRange_20 (by omega) ⟨rfl, by omega⟩
  · refine o_iload_n (pc := 5) C dX5_requireRange_5 rfl ?_
    refine o_iload_n (pc := 6) C dX5_requireRange_6 rfl ?_
    refine o_icmp_le (pc := 7) C (tgt := 21) dX5_requireRange_7 (by decide) (by omega) (by omega) (fun h7 => ?_) (fun h7 => ?_)
    · exact E _ _ _ _ dX5_requireRange_21 ⟨rfl, by omega, by omega⟩ (by omega)
    · exact thw_255 (pc := 10) T (List.mem_of_getElem? (i := 9) rfl) dX5_requireRange_10 dX5_requireRange_13 dX5_requireRange_14 dX5_requireRange_17 dX5_requireRange_20 (by omega) ⟨rfl, by omega⟩
set_option maxRecDepth 100000 in
set_option maxHeartbeats 4000000 in
theorem c_X5_hasCoil {l : Launch} {g : oG} {σ : oMem} {a : Int} (h0 : InR a) (h1 : InR (σ 0 0 1)) : oMi l g yX5_hasCoil (.code yX5_hasCoil cX5_hasCoil 2 (some .boolean)) 1 0 [.ref (g.2.1 0 0), oi a] σ (fun z σ' => z = (if okC σ a then 1 else 0) ∧ σ' = σ) := by
  refine oMi_of (own := RX5) (by decide +kernel) rfl (by simp [oi, Value.category]) (by simp) (fun x C E => ?_)
  show oW l g x σ 0 [some (.ref (g.2.1 0 0)), some (oi a)] [] 0
  refine o_iload_n (pc := 0) C dX5_hasCoil_0 rfl ?_
  refine o_if_lt (pc := 1) C (tgt := 16) dX5_hasCoil_1 (by decide) (by omega) (fun h1 => ?_) (fun h1 => ?_)
  · refine o_iconst (pc := 16) C dX5_hasCoil_16 ?_
    exact E _ _ _ _ _ dX5_hasCoil_17 rfl ⟨by split <;> omega, rfl⟩ (by omega)
  · refine o_iload_n (pc := 4) C dX5_hasCoil_4 rfl ?_
    refine o_aload_n (pc := 5) C dX5_hasCoil_5 rfl ?_
    refine gf_X5_15 (pc := 6) C dX5_hasCoil_6 ?_
    refine o_icmp_ge (pc := 9) C (tgt := 16) dX5_hasCoil_9 (by decide) (by omega) (by omega) (fun h9 => ?_) (fun h9 => ?_)
    · refine o_iconst (pc := 16) C dX5_hasCoil_16 ?_
      exact E _ _ _ _ _ dX5_hasCoil_17 rfl ⟨by split <;> omega, rfl⟩ (by omega)
    · refine o_iconst (pc := 12) C dX5_hasCoil_12 ?_
      refine o_goto (pc := 13) C (tgt := 17) dX5_hasCoil_13 (by decide) ?_
      exact E _ _ _ _ _ dX5_hasCoil_17 rfl ⟨by split <;> omega, rfl⟩ (by omega)
set_option maxRecDepth 100000 in
set_option maxHeartbeats 4000000 in
theorem c_X5_hasPattern {l : Launch} {g : oG} {σ : oMem} {a : Int} (h0 : InR a) (h1 : InR (σ 0 0 5)) : oMi l g yX5_hasPattern (.code yX5_hasPattern cX5_hasPattern 2 (some .boolean)) 1 0 [.ref (g.2.1 0 0), oi a] σ (fun z σ' => z = (if okP σ a then 1 else 0) ∧ σ' = σ) := by
  refine oMi_of (own := RX5) (by decide +kernel) rfl (by simp [oi, Value.category]) (by simp) (fun x C E => ?_)
  show oW l g x σ 0 [some (.ref (g.2.1 0 0)), some (oi a)] [] 0
  refine o_iload_n (pc := 0) C dX5_hasPattern_0 rfl ?_
  refine o_if_lt (pc := 1) C (tgt := 16) dX5_hasPattern_1 (by decide) (by omega) (fun h1 => ?_) (fun h1 => ?_)
  · refine o_iconst (pc := 16) C dX5_hasPattern_16 ?_
    exact E _ _ _ _ _ dX5_hasPattern_17 rfl ⟨by split <;> omega, rfl⟩ (by omega)
  · refine o_iload_n (pc := 4) C dX5_hasPattern_4 rfl ?_
    refine o_aload_n (pc := 5) C dX5_hasPattern_5 rfl ?_
    refine gf_X5_34 (pc := 6) C dX5_hasPattern_6 ?_
    refine o_icmp_ge (pc := 9) C (tgt := 16) dX5_hasPattern_9 (by decide) (by omega) (by omega) (fun h9 => ?_) (fun h9 => ?_)
    · refine o_iconst (pc := 16) C dX5_hasPattern_16 ?_
      exact E _ _ _ _ _ dX5_hasPattern_17 rfl ⟨by split <;> omega, rfl⟩ (by omega)
    · refine o_iconst (pc := 12) C dX5_hasPattern_12 ?_
      refine o_goto (pc := 13) C (tgt := 17) dX5_hasPattern_13 (by decide) ?_
      exact E _ _ _ _ _ dX5_hasPattern_17 rfl ⟨by split <;> omega, rfl⟩ (by omega)
set_option maxRecDepth 100000 in
set_option maxHeartbeats 4000000 in
theorem c_X5_requireCoil {l : Launch} {g : oG} {σ : oMem} {a : Int} (hfl : l.stackTraces = false) (h0 : InR a) (h1 : InR (σ 0 0 1)) : oXv l g yX5_requireCoil (.code yX5_requireCoil cX5_requireCoil 2 none) 2 1 [.ref (g.2.1 0 0), oi a] σ (fun σ' => σ' = σ ∧ okC σ a) (fun e => e = xIOB ∧ ¬ okC σ a) := by
  refine oXv_of (own := RX5) hfl (by decide +kernel) rfl (by simp [oi, Value.category]) (by simp) (fun x C T E => ?_)
  show oW l g x σ 0 [some (.ref (g.2.1 0 0)), some (oi a)] [] 0
  refine o_aload_n (pc := 0) C dX5_requireCoil_0 rfl ?_
  refine o_iload_n (pc := 1) C dX5_requireCoil_1 rfl ?_
  refine cl_X5_260 (pc := 2) C (c_X5_hasCoil h0 h1) (by omega) (by omega) (Nat.le_of_ble_eq_true rfl) dX5_requireCoil_2 (fun z σ2 hq => ?_)
  obtain ⟨rfl, hq⟩ := hq
  rw [hq]; clear hq
  refine o_if_ne (pc := 5) C (tgt := 19) dX5_requireCoil_5 (by decide) (by split <;> omega) (fun h5 => ?_) (fun h5 => ?_)
  · exact E _ _ _ _ dX5_requireCoil_19 ⟨rfl, o_t h5⟩ (by omega)
  · exact thw_145 (pc := 8) T (List.mem_of_getElem? (i := 10) rfl) dX5_requireCoil_8 dX5_requireCoil_11 dX5_requireCoil_12 dX5_requireCoil_15 dX5_requireCoil_18 (by omega) ⟨rfl, o_f h5⟩
set_option maxRecDepth 100000 in
set_option maxHeartbeats 4000000 in
theorem c_X5_requirePattern {l : Launch} {g : oG} {σ : oMem} {a : Int} (hfl : l.stackTraces = false) (h0 : InR a) (h1 : InR (σ 0 0 5)) : oXv l g yX5_requirePattern (.code yX5_requirePattern cX5_requirePattern 2 none) 2 1 [.ref (g.2.1 0 0), oi a] σ (fun σ' => σ' = σ ∧ okP σ a) (fun e => e = xIOB ∧ ¬ okP σ a) := by
  refine oXv_of (own := RX5) hfl (by decide +kernel) rfl (by simp [oi, Value.category]) (by simp) (fun x C T E => ?_)
  show oW l g x σ 0 [some (.ref (g.2.1 0 0)), some (oi a)] [] 0
  refine o_aload_n (pc := 0) C dX5_requirePattern_0 rfl ?_
  refine o_iload_n (pc := 1) C dX5_requirePattern_1 rfl ?_
  refine cl_X5_265 (pc := 2) C (c_X5_hasPattern h0 h1) (by omega) (by omega) (Nat.le_of_ble_eq_true rfl) dX5_requirePattern_2 (fun z σ2 hq => ?_)
  obtain ⟨rfl, hq⟩ := hq
  rw [hq]; clear hq
  refine o_if_ne (pc := 5) C (tgt := 19) dX5_requirePattern_5 (by decide) (by split <;> omega) (fun h5 => ?_) (fun h5 => ?_)
  · exact E _ _ _ _ dX5_requirePattern_19 ⟨rfl, o_t h5⟩ (by omega)
  · exact thw_145 (pc := 8) T (List.mem_of_getElem? (i := 11) rfl) dX5_requirePattern_8 dX5_requirePattern_11 dX5_requirePattern_12 dX5_requirePattern_15 dX5_requirePattern_18 (by omega) ⟨rfl, o_f h5⟩
set_option maxRecDepth 100000 in
set_option maxHeartbeats 4000000 in
theorem c_X5_requireOrder {l : Launch} {g : oG} {σ : oMem} {a : Int} (hfl : l.stackTraces = false) (h0 : InR a) (h1 : InR (σ 0 0 3)) : oXv l g yX5_requireOrder (.code yX5_requireOrder cX5_requireOrder 2 none) 1 1 [.ref (g.2.1 0 0), oi a] σ (fun σ' => σ' = σ ∧ okO σ a) (fun e => e = xIOB ∧ ¬ okO σ a) := by
  refine oXv_of (own := RX5) hfl (by decide +kernel) rfl (by simp [oi, Value.category]) (by simp) (fun x C T E => ?_)
  show oW l g x σ 0 [some (.ref (g.2.1 0 0)), some (oi a)] [] 0
  refine o_iload_n (pc := 0) C dX5_requireOrder_0 rfl ?_
  refine o_if_lt (pc := 1) C (tgt := 12) dX5_requireOrder_1 (by decide) (by omega) (fun h1 => ?_) (fun h1 => ?_)
  · exact thw_145 (pc := 12) T (List.mem_of_getElem? (i := 12) rfl) dX5_requireOrder_12 dX5_requireOrder_15 dX5_requireOrder_16 dX5_requireOrder_19 dX5_requireOrder_22 (by omega) ⟨rfl, by omega⟩
  · refine o_iload_n (pc := 4) C dX5_requireOrder_4 rfl ?_
    refine o_aload_n (pc := 5) C dX5_requireOrder_5 rfl ?_
    refine gf_X5_25 (pc := 6) C dX5_requireOrder_6 ?_
    refine o_icmp_lt (pc := 9) C (tgt := 23) dX5_requireOrder_9 (by decide) (by omega) (by omega) (fun h9 => ?_) (fun h9 => ?_)
    · exact E _ _ _ _ dX5_requireOrder_23 ⟨rfl, by omega, by omega⟩ (by omega)
    · exact thw_145 (pc := 12) T (List.mem_of_getElem? (i := 12) rfl) dX5_requireOrder_12 dX5_requireOrder_15 dX5_requireOrder_16 dX5_requireOrder_19 dX5_requireOrder_22 (by omega) ⟨rfl, by omega⟩
set_option maxRecDepth 100000 in
set_option maxHeartbeats 4000000 in
theorem c_X5_requireSlit {l : Launch} {g : oG} {σ : oMem} {a b : Int} (hfl : l.stackTraces = false) (h0 : InR a) (hb : InR b) (h1 : σ 0 0 1 ≤ 20) (h2 : InR (σ 0 0 1)) (h3 : okC σ a → InR (σ 1 a.toNat 10)) : oXv l g yX5_requireSlit (.code yX5_requireSlit cX5_requireSlit 3 none) 3 2 [.ref (g.2.1 0 0), oi a, oi b] σ (fun σ' => σ' = σ ∧ okC σ a ∧ 0 ≤ b ∧ b < σ 1 a.toNat 10) (fun e => e = xIOB ∧ ¬ (okC σ a ∧ 0 ≤ b ∧ b < σ 1 a.toNat 10)) := by
  refine oXv_of (own := RX5) hfl (by decide +kernel) rfl (by simp [oi, Value.category]) (by simp) (fun x C T E => ?_)
  show oW l g x σ 0 [some (.ref (g.2.1 0 0)), some (oi a), some (oi b)] [] 0
  refine o_aload_n (pc := 0) C dX5_requireSlit_0 rfl ?_
  refine o_iload_n (pc := 1) C dX5_requireSlit_1 rfl ?_
  refine cl_X5_98 (pc := 2) T C (c_X5_requireCoil hfl h0 h2) (fun e h => ⟨h.1, fun q => h.2 q.1⟩) (by omega) (by omega) (Nat.le_of_ble_eq_true rfl) dX5_requireSlit_2 (fun σ2 hq => ?_)
  obtain ⟨hq, hc0, hc1⟩ := hq
  rw [hq]; clear hq
  refine o_aload_n (pc := 5) C dX5_requireSlit_5 rfl ?_
  refine gf_X5_11 (pc := 6) C dX5_requireSlit_6 ?_
  refine o_iload_n (pc := 9) C dX5_requireSlit_9 rfl ?_
  refine aa_19 (pc := 10) C (by omega) (by omega) dX5_requireSlit_10 ?_
  refine o_iload_n (pc := 11) C dX5_requireSlit_11 rfl ?_
  refine cl_X5_272 (pc := 12) C (c_X0_hasSlitAt (by omega) (h3 ⟨hc0, hc1⟩) hb) (by omega) (by omega) (by omega) (Nat.le_of_ble_eq_true rfl) dX5_requireSlit_12 (fun z σ2 hq => ?_)
  obtain ⟨rfl, hq⟩ := hq
  rw [hq]; clear hq
  refine o_if_ne (pc := 15) C (tgt := 29) dX5_requireSlit_15 (by decide) (by split <;> omega) (fun h15 => ?_) (fun h15 => ?_)
  · exact E _ _ _ _ dX5_requireSlit_29 ⟨rfl, ⟨hc0, hc1⟩, o_t h15⟩ (by omega)
  · exact thw_145 (pc := 18) T (List.mem_of_getElem? (i := 13) rfl) dX5_requireSlit_18 dX5_requireSlit_21 dX5_requireSlit_22 dX5_requireSlit_25 dX5_requireSlit_28 (by omega) ⟨rfl, fun q => o_f h15 q.2⟩
set_option maxRecDepth 100000 in
set_option maxHeartbeats 4000000 in
theorem c_X5_roomOf {l : Launch} {g : oG} {σ : oMem} {c : Nat} (hc : c < 20) : oMi l g yX5_roomOf (.code yX5_roomOf cX5_roomOf 2 (some .int)) 1 0 [.ref (g.2.1 0 0), .ref (g.2.1 1 c)] σ (fun z σ' => z = σ 1 c 0 - 2 * σ 0 0 7 ∧ σ' = σ) := by
  refine oMi_of (own := RX5) (by decide +kernel) rfl (by simp [oi, Value.category]) (by simp) (fun x C E => ?_)
  show oW l g x σ 0 [some (.ref (g.2.1 0 0)), some (.ref (g.2.1 1 c))] [] 0
  refine o_aload_n (pc := 0) C dX5_roomOf_0 rfl ?_
  refine gf_X5_275 (pc := 1) C (by omega) dX5_roomOf_1 ?_
  refine o_iconst (pc := 4) C dX5_roomOf_4 ?_
  refine o_aload_n (pc := 5) C dX5_roomOf_5 rfl ?_
  refine gf_X5_42 (pc := 6) C dX5_roomOf_6 ?_
  refine o_imul (pc := 9) C dX5_roomOf_9 ?_
  refine o_isub (pc := 10) C dX5_roomOf_10 ?_
  exact E _ _ _ _ _ dX5_roomOf_11 rfl ⟨rfl, rfl⟩ (by omega)
/-- how wide a pattern is; whether it fits -/
def o_tw (σ : oMem) (p : Nat) : Int := o_sum (σ 9 p) (σ 8 p 1).toNat
abbrev o_fit (σ : oMem) (p c : Nat) : Prop := o_tw σ p ≤ σ 1 c 0 - 2 * σ 0 0 7 ∧ σ 8 p 1 + 1 ≤ σ 0 0 9
set_option maxRecDepth 100000 in
set_option maxHeartbeats 4000000 in
theorem c_X5_canBeCutFrom {l : Launch} {g : oG} {σ : oMem} {p c : Nat} (hp : p < 11) (hc : c < 20) (hP : PB σ p) (h1 : 0 ≤ σ 1 c 0 ∧ σ 1 c 0 ≤ 2000) (h2 : 0 ≤ σ 0 0 7 ∧ σ 0 0 7 ≤ 100) (h3 : InR (σ 0 0 9)) : oMi l g yX5_canBeCutFrom (.code yX5_canBeCutFrom cX5_canBeCutFrom 3 (some .boolean)) 2 0 [.ref (g.2.1 0 0), .ref (g.2.1 8 p), .ref (g.2.1 1 c)] σ (fun z σ' => z = (if o_fit σ p c then 1 else 0) ∧ σ' = σ) := by
  refine oMi_of (own := RX5) (by decide +kernel) rfl (by simp [oi, Value.category]) (by simp) (fun x C E => ?_)
  show oW l g x σ 0 [some (.ref (g.2.1 0 0)), some (.ref (g.2.1 8 p)), some (.ref (g.2.1 1 c))] [] 0
  have hs := hP.sum (σ 8 p 1).toNat (by have := hP.1; omega)
  have hp1 := hP.1
  have hp2 := hP.2.1
  rw [show o_sum (σ 9 p) (σ 8 p 1).toNat = o_tw σ p from rfl] at hs
  refine o_aload_n (pc := 0) C dX5_canBeCutFrom_0 rfl ?_
  refine cl_X5_278 (pc := 1) C (c_X3_totalWidth hp hP) (by omega) (by omega) (by omega) (Nat.le_of_ble_eq_true rfl) dX5_canBeCutFrom_1 (fun z σ2 hq => ?_)
  obtain ⟨rfl, hq⟩ := hq
  rw [hq]; clear hq
  rw [show o_sum (σ 9 p) (σ 8 p 1).toNat = o_tw σ p from rfl]
  refine o_aload_n (pc := 4) C dX5_canBeCutFrom_4 rfl ?_
  refine o_aload_n (pc := 5) C dX5_canBeCutFrom_5 rfl ?_
  refine cl_X5_170 (pc := 6) C (c_X5_roomOf hc) (by omega) (by omega) (Nat.le_of_ble_eq_true rfl) dX5_canBeCutFrom_6 (fun z σ2 hq => ?_)
  obtain ⟨rfl, hq⟩ := hq
  rw [hq]; clear hq
  refine o_icmp_gt (pc := 9) C (tgt := 27) dX5_canBeCutFrom_9 (by decide) (by omega) (by omega) (fun h9 => ?_) (fun h9 => ?_)
  · refine o_iconst (pc := 27) C dX5_canBeCutFrom_27 ?_
    exact E _ _ _ _ _ dX5_canBeCutFrom_28 rfl ⟨by split <;> omega, rfl⟩ (by omega)
  · refine o_aload_n (pc := 12) C dX5_canBeCutFrom_12 rfl ?_
    refine cl_X5_281 (pc := 13) C (c_X3_knivesNeeded hp) (by omega) (by omega) (by omega) (Nat.le_of_ble_eq_true rfl) dX5_canBeCutFrom_13 (fun z σ2 hq => ?_)
    obtain ⟨rfl, hq⟩ := hq
    rw [hq]; clear hq
    refine o_aload_n (pc := 16) C dX5_canBeCutFrom_16 rfl ?_
    refine gf_X5_48 (pc := 17) C dX5_canBeCutFrom_17 ?_
    refine o_icmp_gt (pc := 20) C (tgt := 27) dX5_canBeCutFrom_20 (by decide) (by omega) (by omega) (fun h20 => ?_) (fun h20 => ?_)
    · refine o_iconst (pc := 27) C dX5_canBeCutFrom_27 ?_
      exact E _ _ _ _ _ dX5_canBeCutFrom_28 rfl ⟨by split <;> omega, rfl⟩ (by omega)
    · refine o_iconst (pc := 23) C dX5_canBeCutFrom_23 ?_
      refine o_goto (pc := 24) C (tgt := 28) dX5_canBeCutFrom_24 (by decide) ?_
      exact E _ _ _ _ _ dX5_canBeCutFrom_28 rfl ⟨by split <;> omega, rfl⟩ (by omega)
set_option maxRecDepth 100000 in
set_option maxHeartbeats 4000000 in
theorem c_X5_canBeRun {l : Launch} {g : oG} {σ : oMem} {a b : Int} (h0 : InR a) (h1 : InR b) (hc1 : 0 ≤ σ 0 0 1 ∧ σ 0 0 1 ≤ 20) (hp1 : 0 ≤ σ 0 0 5 ∧ σ 0 0 5 ≤ 10) (hC : okC σ a → InR (σ 1 a.toNat 10) ∧ 0 ≤ σ 1 a.toNat 0 ∧ σ 1 a.toNat 0 ≤ 2000) (hP : okP σ b → PB σ b.toNat) (h2 : 0 ≤ σ 0 0 7 ∧ σ 0 0 7 ≤ 100) (h3 : InR (σ 0 0 9)) : oMi l g yX5_canBeRun (.code yX5_canBeRun cX5_canBeRun 3 (some .boolean)) 3 0 [.ref (g.2.1 0 0), oi a, oi b] σ (fun z σ' => z = (if okC σ a ∧ okP σ b ∧ σ 1 a.toNat 10 = -1 ∧ o_fit σ b.toNat a.toNat then 1 else 0) ∧ σ' = σ) := by
  refine oMi_of (own := RX5) (by decide +kernel) rfl (by simp [oi, Value.category]) (by simp) (fun x C E => ?_)
  show oW l g x σ 0 [some (.ref (g.2.1 0 0)), some (oi a), some (oi b)] [] 0
  refine o_aload_n (pc := 0) C dX5_canBeRun_0 rfl ?_
  refine o_iload_n (pc := 1) C dX5_canBeRun_1 rfl ?_
  refine cl_X5_260 (pc := 2) C (c_X5_hasCoil h0 (by omega)) (by omega) (by omega) (Nat.le_of_ble_eq_true rfl) dX5_canBeRun_2 (fun z σ2 hq => ?_)
  obtain ⟨rfl, hq⟩ := hq
  rw [hq]; clear hq
  refine o_if_eq (pc := 5) C (tgt := 51) dX5_canBeRun_5 (by decide) (by split <;> omega) (fun h5 => ?_) (fun h5 => ?_)
  · refine o_iconst (pc := 51) C dX5_canBeRun_51 ?_
    first
    | (have q9 := k44; exact E _ _ _ _ _ dX5_canBeRun_52 rfl ⟨(if_pos ⟨k5, k13, k25, q9⟩).symm, rfl⟩ (by omega))
    | (have q9 := k25; exact E _ _ _ _ _ dX5_canBeRun_52 rfl ⟨(if_neg (fun q => o_f h44 q.2.2.2)).symm, rfl⟩ (by omega))
    | (have q9 := k13; exact E _ _ _ _ _ dX5_canBeRun_52 rfl ⟨(if_neg (fun q => o_v h25 q.2.2.1)).symm, rfl⟩ (by omega))
    | (have q9 := k5; exact E _ _ _ _ _ dX5_canBeRun_52 rfl ⟨(if_neg (fun q => o_f h13 q.2.1)).symm, rfl⟩ (by omega))
    | exact E _ _ _ _ _ dX5_canBeRun_52 rfl ⟨(if_neg (fun q => o_f h5 q.1)).symm, rfl⟩ (by omega)
  · have k5 : okC σ a := o_t h5
    refine o_aload_n (pc := 8) C dX5_canBeRun_8 rfl ?_
    refine o_iload_n (pc := 9) C dX5_canBeRun_9 rfl ?_
    refine cl_X5_265 (pc := 10) C (c_X5_hasPattern h1 (by omega)) (by omega) (by omega) (Nat.le_of_ble_eq_true rfl) dX5_canBeRun_10 (fun z σ2 hq => ?_)
    obtain ⟨rfl, hq⟩ := hq
    rw [hq]; clear hq
    refine o_if_eq (pc := 13) C (tgt := 51) dX5_canBeRun_13 (by decide) (by split <;> omega) (fun h13 => ?_) (fun h13 => ?_)
    · refine o_iconst (pc := 51) C dX5_canBeRun_51 ?_
      first
      | (have q9 := k44; exact E _ _ _ _ _ dX5_canBeRun_52 rfl ⟨(if_pos ⟨k5, k13, k25, q9⟩).symm, rfl⟩ (by omega))
      | (have q9 := k25; exact E _ _ _ _ _ dX5_canBeRun_52 rfl ⟨(if_neg (fun q => o_f h44 q.2.2.2)).symm, rfl⟩ (by omega))
      | (have q9 := k13; exact E _ _ _ _ _ dX5_canBeRun_52 rfl ⟨(if_neg (fun q => o_v h25 q.2.2.1)).symm, rfl⟩ (by omega))
      | (have q9 := k5; exact E _ _ _ _ _ dX5_canBeRun_52 rfl ⟨(if_neg (fun q => o_f h13 q.2.1)).symm, rfl⟩ (by omega))
      | exact E _ _ _ _ _ dX5_canBeRun_52 rfl ⟨(if_neg (fun q => o_f h5 q.1)).symm, rfl⟩ (by omega)
    · have k13 : okP σ b := o_t h13
      refine o_aload_n (pc := 16) C dX5_canBeRun_16 rfl ?_
      refine gf_X5_11 (pc := 17) C dX5_canBeRun_17 ?_
      refine o_iload_n (pc := 20) C dX5_canBeRun_20 rfl ?_
      refine aa_19 (pc := 21) C (by omega) (by omega) dX5_canBeRun_21 ?_
      refine cl_X5_105 (pc := 22) C (c_X0_isSlit (by omega) (hC k5).1) (by omega) (by omega) (by omega) (Nat.le_of_ble_eq_true rfl) dX5_canBeRun_22 (fun z σ2 hq => ?_)
      obtain ⟨rfl, hq⟩ := hq
      rw [hq]; clear hq
      refine o_if_ne (pc := 25) C (tgt := 51) dX5_canBeRun_25 (by decide) (by split <;> omega) (fun h25 => ?_) (fun h25 => ?_)
      · refine o_iconst (pc := 51) C dX5_canBeRun_51 ?_
        first
        | (have q9 := k44; exact E _ _ _ _ _ dX5_canBeRun_52 rfl ⟨(if_pos ⟨k5, k13, k25, q9⟩).symm, rfl⟩ (by omega))
        | (have q9 := k25; exact E _ _ _ _ _ dX5_canBeRun_52 rfl ⟨(if_neg (fun q => o_f h44 q.2.2.2)).symm, rfl⟩ (by omega))
        | (have q9 := k13; exact E _ _ _ _ _ dX5_canBeRun_52 rfl ⟨(if_neg (fun q => o_v h25 q.2.2.1)).symm, rfl⟩ (by omega))
        | (have q9 := k5; exact E _ _ _ _ _ dX5_canBeRun_52 rfl ⟨(if_neg (fun q => o_f h13 q.2.1)).symm, rfl⟩ (by omega))
        | exact E _ _ _ _ _ dX5_canBeRun_52 rfl ⟨(if_neg (fun q => o_f h5 q.1)).symm, rfl⟩ (by omega)
      · have k25 : σ 1 a.toNat 10 = -1 := o_u h25
        refine o_aload_n (pc := 28) C dX5_canBeRun_28 rfl ?_
        refine o_aload_n (pc := 29) C dX5_canBeRun_29 rfl ?_
        refine gf_X5_30 (pc := 30) C dX5_canBeRun_30 ?_
        refine o_iload_n (pc := 33) C dX5_canBeRun_33 rfl ?_
        refine aa_21 (pc := 34) C (by omega) (by omega) dX5_canBeRun_34 ?_
        refine o_aload_n (pc := 35) C dX5_canBeRun_35 rfl ?_
        refine gf_X5_11 (pc := 36) C dX5_canBeRun_36 ?_
        refine o_iload_n (pc := 39) C dX5_canBeRun_39 rfl ?_
        refine aa_19 (pc := 40) C (by omega) (by omega) dX5_canBeRun_40 ?_
        refine cl_X5_162 (pc := 41) C (c_X5_canBeCutFrom (by omega) (by omega) (hP k13) (hC k5).2 h2 h3) (by omega) (by omega) (Nat.le_of_ble_eq_true rfl) dX5_canBeRun_41 (fun z σ2 hq => ?_)
        obtain ⟨rfl, hq⟩ := hq
        rw [hq]; clear hq
        refine o_if_eq (pc := 44) C (tgt := 51) dX5_canBeRun_44 (by decide) (by split <;> omega) (fun h44 => ?_) (fun h44 => ?_)
        · refine o_iconst (pc := 51) C dX5_canBeRun_51 ?_
          first
          | (have q9 := k44; exact E _ _ _ _ _ dX5_canBeRun_52 rfl ⟨(if_pos ⟨k5, k13, k25, q9⟩).symm, rfl⟩ (by omega))
          | (have q9 := k25; exact E _ _ _ _ _ dX5_canBeRun_52 rfl ⟨(if_neg (fun q => o_f h44 q.2.2.2)).symm, rfl⟩ (by omega))
          | (have q9 := k13; exact E _ _ _ _ _ dX5_canBeRun_52 rfl ⟨(if_neg (fun q => o_v h25 q.2.2.1)).symm, rfl⟩ (by omega))
          | (have q9 := k5; exact E _ _ _ _ _ dX5_canBeRun_52 rfl ⟨(if_neg (fun q => o_f h13 q.2.1)).symm, rfl⟩ (by omega))
          | exact E _ _ _ _ _ dX5_canBeRun_52 rfl ⟨(if_neg (fun q => o_f h5 q.1)).symm, rfl⟩ (by omega)
        · have k44 : o_fit σ b.toNat a.toNat := o_t h44
          refine o_iconst (pc := 47) C dX5_canBeRun_47 ?_
          refine o_goto (pc := 48) C (tgt := 52) dX5_canBeRun_48 (by decide) ?_
          first
          | (have q9 := k44; exact E _ _ _ _ _ dX5_canBeRun_52 rfl ⟨(if_pos ⟨k5, k13, k25, q9⟩).symm, rfl⟩ (by omega))
          | (have q9 := k25; exact E _ _ _ _ _ dX5_canBeRun_52 rfl ⟨(if_neg (fun q => o_f h44 q.2.2.2)).symm, rfl⟩ (by omega))
          | (have q9 := k13; exact E _ _ _ _ _ dX5_canBeRun_52 rfl ⟨(if_neg (fun q => o_v h25 q.2.2.1)).symm, rfl⟩ (by omega))
          | (have q9 := k5; exact E _ _ _ _ _ dX5_canBeRun_52 rfl ⟨(if_neg (fun q => o_f h13 q.2.1)).symm, rfl⟩ (by omega))
          | exact E _ _ _ _ _ dX5_canBeRun_52 rfl ⟨(if_neg (fun q => o_f h5 q.1)).symm, rfl⟩ (by omega)
/-- how many knives are moved from before to pattern -/
def o_kn (σ : oMem) (q p : Nat) : Int := o_sum (fun j => if o_has (σ 9 q) (σ 8 q 1).toNat (o_sum (σ 9 p) (j + 1)) = true then 0 else 1) (σ 8 p 1).toNat
def oMb (σ : oMem) (a b : Int) : Int := if okP σ b then (if okP σ a then o_kn σ a.toNat b.toNat else σ 8 b.toNat 1 + 1) else 0
theorem o_sum_bd {f : Nat → Int} : ∀ n : Nat, (∀ j, j < n → 0 ≤ f j ∧ f j ≤ 1) → 0 ≤ o_sum f n ∧ o_sum f n ≤ n
  | 0, _ => ⟨Int.le_refl 0, Int.le_refl 0⟩
  | n + 1, h => by
    have a := o_sum_bd n (fun j hj => h j (by omega))
    have b := h n (by omega)
    rw [o_sum]; omega
theorem oMb_bd {σ : oMem} {a b : Int} (hP : okP σ b → PB σ b.toNat) : 0 ≤ oMb σ a b ∧ oMb σ a b ≤ 16 := by
  unfold oMb
  split
  · rename_i h
    have hp := hP h
    have h1 := hp.1
    have h2 := hp.2.1
    split
    · have := o_sum_bd (f := fun j => if o_has (σ 9 a.toNat) (σ 8 a.toNat 1).toNat (o_sum (σ 9 b.toNat) (j + 1)) = true then 0 else 1) (σ 8 b.toNat 1).toNat (fun j _ => by split <;> omega)
      unfold o_kn; omega
    · omega
  · omega
set_option maxRecDepth 100000 in
set_option maxHeartbeats 4000000 in
theorem c_X5_movesBetween {l : Launch} {g : oG} {σ : oMem} {a b : Int} (h0 : InR a) (h1 : InR b) (hp1 : 0 ≤ σ 0 0 5 ∧ σ 0 0 5 ≤ 10) (hP : ∀ p : Nat, (p : Int) < σ 0 0 5 → PB σ p) : oMi l g yX5_movesBetween (.code yX5_movesBetween cX5_movesBetween 3 (some .int)) 3 0 [.ref (g.2.1 0 0), oi a, oi b] σ (fun z σ' => z = oMb σ a b ∧ σ' = σ) := by
  refine oMi_of (own := RX5) (by decide +kernel) rfl (by simp [oi, Value.category]) (by simp) (fun x C E => ?_)
  show oW l g x σ 0 [some (.ref (g.2.1 0 0)), some (oi a), some (oi b)] [] 0
  refine o_aload_n (pc := 0) C dX5_movesBetween_0 rfl ?_
  refine o_iload_n (pc := 1) C dX5_movesBetween_1 rfl ?_
  refine cl_X5_265 (pc := 2) C (c_X5_hasPattern (by omega) (by omega)) (by omega) (by omega) (Nat.le_of_ble_eq_true rfl) dX5_movesBetween_2 (fun z σ2 hq => ?_)
  obtain ⟨rfl, hq⟩ := hq
  rw [hq]; clear hq
  refine o_if_ne (pc := 5) C (tgt := 10) dX5_movesBetween_5 (by decide) (by split <;> omega) (fun h5 => ?_) (fun h5 => ?_)
  · have k5 : okP σ b := o_t h5
    refine o_aload_n (pc := 10) C dX5_movesBetween_10 rfl ?_
    refine o_iload_n (pc := 11) C dX5_movesBetween_11 rfl ?_
    refine cl_X5_265 (pc := 12) C (c_X5_hasPattern (by omega) (by omega)) (by omega) (by omega) (Nat.le_of_ble_eq_true rfl) dX5_movesBetween_12 (fun z σ2 hq => ?_)
    obtain ⟨rfl, hq⟩ := hq
    rw [hq]; clear hq
    refine o_if_ne (pc := 15) C (tgt := 28) dX5_movesBetween_15 (by decide) (by split <;> omega) (fun h15 => ?_) (fun h15 => ?_)
    · have k15 : okP σ a := o_t h15
      refine o_aload_n (pc := 28) C dX5_movesBetween_28 rfl ?_
      refine gf_X5_30 (pc := 29) C dX5_movesBetween_29 ?_
      refine o_iload_n (pc := 32) C dX5_movesBetween_32 rfl ?_
      refine aa_21 (pc := 33) C (by omega) (by omega) dX5_movesBetween_33 ?_
      refine o_aload_n (pc := 34) C dX5_movesBetween_34 rfl ?_
      refine gf_X5_30 (pc := 35) C dX5_movesBetween_35 ?_
      refine o_iload_n (pc := 38) C dX5_movesBetween_38 rfl ?_
      refine aa_21 (pc := 39) C (by omega) (by omega) dX5_movesBetween_39 ?_
      refine cl_X5_311 (pc := 40) C (c_X3_knivesNotIn (by omega) (by omega) (hP _ (by omega)) (hP _ (by omega))) (by omega) (by omega) (by omega) (Nat.le_of_ble_eq_true rfl) dX5_movesBetween_40 (fun z σ2 hq => ?_)
      obtain ⟨rfl, hq⟩ := hq
      rw [hq]; clear hq
      first
      | (have q9 := k15; exact E _ _ _ _ _ dX5_movesBetween_43 rfl ⟨by unfold oMb; rw [if_pos k5, if_pos k15]; rfl, rfl⟩ (by omega))
      | (have q9 := k5; exact E _ _ _ _ _ dX5_movesBetween_43 rfl ⟨by unfold oMb; rw [if_pos k5, if_neg (o_f h15)], rfl⟩ (by omega))
      | exact E _ _ _ _ _ dX5_movesBetween_43 rfl ⟨by unfold oMb; rw [if_neg (o_f h5)], rfl⟩ (by omega)
    · refine o_aload_n (pc := 18) C dX5_movesBetween_18 rfl ?_
      refine gf_X5_30 (pc := 19) C dX5_movesBetween_19 ?_
      refine o_iload_n (pc := 22) C dX5_movesBetween_22 rfl ?_
      refine aa_21 (pc := 23) C (by omega) (by omega) dX5_movesBetween_23 ?_
      refine cl_X5_281 (pc := 24) C (c_X3_knivesNeeded (by omega)) (by omega) (by omega) (by omega) (Nat.le_of_ble_eq_true rfl) dX5_movesBetween_24 (fun z σ2 hq => ?_)
      obtain ⟨rfl, hq⟩ := hq
      rw [hq]; clear hq
      first
      | (have q9 := k15; exact E _ _ _ _ _ dX5_movesBetween_27 rfl ⟨by unfold oMb; rw [if_pos k5, if_pos k15]; rfl, rfl⟩ (by omega))
      | (have q9 := k5; exact E _ _ _ _ _ dX5_movesBetween_27 rfl ⟨by unfold oMb; rw [if_pos k5, if_neg (o_f h15)], rfl⟩ (by omega))
      | exact E _ _ _ _ _ dX5_movesBetween_27 rfl ⟨by unfold oMb; rw [if_neg (o_f h5)], rfl⟩ (by omega)
  · refine o_iconst (pc := 8) C dX5_movesBetween_8 ?_
    first
    | (have q9 := k15; exact E _ _ _ _ _ dX5_movesBetween_9 rfl ⟨by unfold oMb; rw [if_pos k5, if_pos k15]; rfl, rfl⟩ (by omega))
    | (have q9 := k5; exact E _ _ _ _ _ dX5_movesBetween_9 rfl ⟨by unfold oMb; rw [if_pos k5, if_neg (o_f h15)], rfl⟩ (by omega))
    | exact E _ _ _ _ _ dX5_movesBetween_9 rfl ⟨by unfold oMb; rw [if_neg (o_f h5)], rfl⟩ (by omega)
set_option maxRecDepth 100000 in
set_option maxHeartbeats 4000000 in
theorem c_X5_coilWaits {l : Launch} {g : oG} {σ : oMem} {a : Int} (h0 : InR a) (h1 : 0 ≤ σ 0 0 14 ∧ σ 0 0 14 ≤ 7) (h2 : ∀ i : Nat, (i : Int) < σ 0 0 14 → InR (σ 17 0 i)) : oMi l g yX5_coilWaits (.code yX5_coilWaits cX5_coilWaits 3 (some .boolean)) 1 0 [.ref (g.2.1 0 0), oi a] σ (fun z σ' => (z = 0 ∧ ∀ i : Nat, (i : Int) < σ 0 0 14 → σ 17 0 i ≠ a) ∧ σ' = σ ∨ (z = 1 ∧ ∃ i : Nat, (i : Int) < σ 0 0 14 ∧ σ 17 0 i = a) ∧ σ' = σ) := by
  refine oMi_of (own := RX5) (by decide +kernel) rfl (by simp [oi, Value.category]) (by simp) (fun x C E => ?_)
  show oW l g x σ 0 [some (.ref (g.2.1 0 0)), some (oi a), none] [] 0
  have L : ∀ (n t : Nat) (i : Int), σ 0 0 14 < t + n → (t : Int) ≤ σ 0 0 14 → i = t → (∀ j : Nat, j < t → σ 17 0 j ≠ a) → oW l g x σ 2 [some (.ref (g.2.1 0 0)), some (oi a), some (oi i)] [] 0 := by
    intro n
    induction n with
    | zero => intro t i a1 a2; omega
    | succ n ih =>
      intro t i a1 a2 a3 a4
      subst a3
      have hb := h2 t
      refine o_iload_n (pc := 2) C dX5_coilWaits_2 rfl ?_
      refine o_aload_n (pc := 3) C dX5_coilWaits_3 rfl ?_
      refine gf_X5_64 (pc := 4) C dX5_coilWaits_4 ?_
      refine o_icmp_ge (pc := 7) C (tgt := 28) dX5_coilWaits_7 (by decide) (by omega) (by omega) (fun h7 => ?_) (fun h7 => ?_)
      · refine o_iconst (pc := 28) C dX5_coilWaits_28 ?_
        first
        | exact E _ _ _ _ _ dX5_coilWaits_29 rfl (Or.inr ⟨⟨rfl, t, by omega, h17⟩, rfl⟩) (by omega)
        | exact E _ _ _ _ _ dX5_coilWaits_29 rfl (Or.inl ⟨⟨rfl, fun j hj => a4 j (by omega)⟩, rfl⟩) (by omega)
      · refine o_aload_n (pc := 10) C dX5_coilWaits_10 rfl ?_
        refine gf_X5_57 (pc := 11) C dX5_coilWaits_11 ?_
        refine o_iload_n (pc := 14) C dX5_coilWaits_14 rfl ?_
        have hb := hb (by omega)
        refine ia_17 (pc := 15) C (by omega) (by omega) dX5_coilWaits_15 ?_
        rw [show ((t : Int)).toNat = t by omega]
        refine o_iload_n (pc := 16) C dX5_coilWaits_16 rfl ?_
        refine o_icmp_ne (pc := 17) C (tgt := 22) dX5_coilWaits_17 (by decide) (by omega) (by omega) (fun h17 => ?_) (fun h17 => ?_)
        · refine inc_2 (pc := 22) C dX5_coilWaits_22 ?_
          refine o_goto (pc := 25) C (tgt := 2) dX5_coilWaits_25 (by decide) ?_
          refine ih (t + 1) _ (by omega) (by omega) (by omega) (fun j hj => ?_)
          rcases Nat.lt_succ_iff_lt_or_eq.mp hj with y | y
          · exact a4 j y
          · subst y; exact h17
        · refine o_iconst (pc := 20) C dX5_coilWaits_20 ?_
          first
          | exact E _ _ _ _ _ dX5_coilWaits_21 rfl (Or.inr ⟨⟨rfl, t, by omega, h17⟩, rfl⟩) (by omega)
          | exact E _ _ _ _ _ dX5_coilWaits_21 rfl (Or.inl ⟨⟨rfl, fun j hj => a4 j (by omega)⟩, rfl⟩) (by omega)
  refine o_iconst (pc := 0) C dX5_coilWaits_0 ?_
  refine sti_2 (pc := 1) C dX5_coilWaits_1 ?_
  exact L 8 0 _ (by omega) (by omega) rfl (fun j hj => absurd hj (Nat.not_lt_zero j))
/-- the first of n that has P, -1 if none has -/
def o_fs (P : Nat → Bool) (n : Nat) : Int := match (List.range n).find? P with
  | some j => (j : Int)
  | none => -1
theorem o_fs_none {P : Nat → Bool} {n : Nat} (h : ∀ j, j < n → P j = false) : o_fs P n = -1 := by
  unfold o_fs
  rw [List.find?_eq_none.mpr (fun j hj => by rw [h j (List.mem_range.mp hj)]; decide)]
theorem o_fs_some {P : Nat → Bool} : ∀ {n r : Nat}, r < n → P r = true → (∀ q, q < r → P q = false) → o_fs P n = r
  | n, r, h1, h2, h3 => by
    unfold o_fs
    have h : (List.range n).find? P = some r := by
      rw [List.find?_eq_some_iff_append]
      refine ⟨h2, List.range r, (List.range (n - r - 1)).map (fun j => r + 1 + j), ?_, fun a ha => by rw [h3 a (List.mem_range.mp ha)]; rfl⟩
      apply List.ext_getElem
      · simp; omega
      · intro i i1 i2
        simp only [List.getElem_range]
        by_cases c : i < r
        · rw [List.getElem_append_left (by simpa using c)]; simp
        · rw [List.getElem_append_right (by simpa using Nat.le_of_not_lt c)]
          simp only [List.length_range]
          rw [List.getElem_cons]
          split
          · omega
          · simp; omega
    rw [h]
theorem o_fs_cong {P P' : Nat → Bool} {n : Nat} (h : ∀ j, j < n → P j = P' j) : o_fs P n = o_fs P' n := by
  unfold o_fs
  have e : ∀ l : List Nat, (∀ j ∈ l, P j = P' j) → l.find? P = l.find? P' := by
    intro l
    induction l with
    | nil => intro _; rfl
    | cons a r ih =>
      intro hl
      rw [List.find?_cons, List.find?_cons, hl a List.mem_cons_self, ih (fun j hj => hl j (List.mem_cons_of_mem _ hj))]
  rw [e _ (fun j hj => h j (List.mem_range.mp hj))]
theorem o_fs_bd {P : Nat → Bool} {n : Nat} : -1 ≤ o_fs P n ∧ o_fs P n < n ∧ (o_fs P n ≠ -1 → P (o_fs P n).toNat = true) := by
  unfold o_fs
  cases h : (List.range n).find? P with
  | none => exact ⟨by simp, by simp; omega, fun q => absurd rfl q⟩
  | some j =>
    have h1 := List.mem_range.mp (List.mem_of_find?_eq_some h)
    exact ⟨by show -1 ≤ (j : Int); omega, by show (j : Int) < n; omega, fun _ => by simpa using List.find?_some h⟩
/-- the taker of a slit -/
def o_tkb (σ : oMem) (w h : Int) (r : Nat) : Bool := decide (σ 7 r 0 = w ∧ o_tk σ r h)
def o_taker (σ : oMem) (w h : Int) : Int := o_fs (o_tkb σ w h) (σ 0 0 3).toNat
set_option maxRecDepth 100000 in
set_option maxHeartbeats 4000000 in
theorem c_X5_takerOf {l : Launch} {g : oG} {σ : oMem} {a b : Int} (h0 : InR a) (h1 : InR b) (h2 : 0 ≤ σ 0 0 3 ∧ σ 0 0 3 ≤ 12) (h3 : ∀ r : Nat, (r : Int) < σ 0 0 3 → OB σ r) : oMi l g yX5_takerOf (.code yX5_takerOf cX5_takerOf 4 (some .int)) 2 0 [.ref (g.2.1 0 0), oi a, oi b] σ (fun z σ' => z = o_taker σ a b ∧ σ' = σ) := by
  refine oMi_of (own := RX5) (by decide +kernel) rfl (by simp [oi, Value.category]) (by simp) (fun x C E => ?_)
  show oW l g x σ 0 [some (.ref (g.2.1 0 0)), some (oi a), some (oi b), none] [] 0
  have L : ∀ (n t : Nat) (i : Int), σ 0 0 3 < t + n → (t : Int) ≤ σ 0 0 3 → i = t → (∀ j : Nat, j < t → o_tkb σ a b j = false) → oW l g x σ 2 [some (.ref (g.2.1 0 0)), some (oi a), some (oi b), some (oi i)] [] 0 := by
    intro n
    induction n with
    | zero => intro t i a1 a2; omega
    | succ n ih =>
      intro t i a1 a2 a3 a4
      subst a3
      have hb := h3 t
      refine o_iload_n (pc := 2) C dX5_takerOf_2 rfl ?_
      refine o_aload_n (pc := 3) C dX5_takerOf_3 rfl ?_
      refine gf_X5_25 (pc := 4) C dX5_takerOf_4 ?_
      refine o_icmp_ge (pc := 7) C (tgt := 44) dX5_takerOf_7 (by decide) (by omega) (by omega) (fun h7 => ?_) (fun h7 => ?_)
      · refine o_iconst (pc := 44) C dX5_takerOf_44 ?_
        first
        | exact E _ _ _ _ _ dX5_takerOf_45 rfl ⟨by
            unfold o_taker
            rw [o_fs_some (r := t) (by omega) (by unfold o_tkb; rw [decide_eq_true_iff]; exact ⟨h20, o_t h33⟩) a4], rfl⟩ (by omega)
        | exact E _ _ _ _ _ dX5_takerOf_45 rfl ⟨by
            unfold o_taker
            rw [o_fs_none (fun j hj => a4 j (by omega))], rfl⟩ (by omega)
      · have hb := hb (by omega)
        have hb0 := hb.1
        refine o_aload_n (pc := 10) C dX5_takerOf_10 rfl ?_
        refine gf_X5_21 (pc := 11) C dX5_takerOf_11 ?_
        refine o_iload_n (pc := 14) C dX5_takerOf_14 rfl ?_
        refine aa_20 (pc := 15) C (by omega) (by omega) dX5_takerOf_15 ?_
        rw [show ((t : Int)).toNat = t by omega]
        refine gf_X5_291 (pc := 16) C (by omega) dX5_takerOf_16 ?_
        refine o_iload_n (pc := 19) C dX5_takerOf_19 rfl ?_
        refine o_icmp_ne (pc := 20) C (tgt := 38) dX5_takerOf_20 (by decide) (by omega) (by omega) (fun h20 => ?_) (fun h20 => ?_)
        · refine inc_3 (pc := 38) C dX5_takerOf_38 ?_
          refine o_goto (pc := 41) C (tgt := 2) dX5_takerOf_41 (by decide) ?_
          refine ih (t + 1) _ (by omega) (by omega) (by omega) (fun j hj => ?_)
          rcases Nat.lt_succ_iff_lt_or_eq.mp hj with y | y
          · exact a4 j y
          · subst y
            unfold o_tkb
            rw [decide_eq_false_iff_not]
            rintro ⟨y1, y2⟩
            first
            | exact absurd y1 h20
            | exact o_f h33 y2
        · refine o_aload_n (pc := 23) C dX5_takerOf_23 rfl ?_
          refine gf_X5_21 (pc := 24) C dX5_takerOf_24 ?_
          refine o_iload_n (pc := 27) C dX5_takerOf_27 rfl ?_
          refine aa_20 (pc := 28) C (by omega) (by omega) dX5_takerOf_28 ?_
          rw [show ((t : Int)).toNat = t by omega]
          refine o_iload_n (pc := 29) C dX5_takerOf_29 rfl ?_
          refine cl_X5_288 (pc := 30) C (c_X2_wouldTakeHeat (by omega) hb h1) (by omega) (by omega) (by omega) (Nat.le_of_ble_eq_true rfl) dX5_takerOf_30 (fun z σ2 hq => ?_)
          obtain ⟨rfl, hq⟩ := hq
          rw [hq]; clear hq
          refine o_if_eq (pc := 33) C (tgt := 38) dX5_takerOf_33 (by decide) (by split <;> omega) (fun h33 => ?_) (fun h33 => ?_)
          · refine inc_3 (pc := 38) C dX5_takerOf_38 ?_
            refine o_goto (pc := 41) C (tgt := 2) dX5_takerOf_41 (by decide) ?_
            refine ih (t + 1) _ (by omega) (by omega) (by omega) (fun j hj => ?_)
            rcases Nat.lt_succ_iff_lt_or_eq.mp hj with y | y
            · exact a4 j y
            · subst y
              unfold o_tkb
              rw [decide_eq_false_iff_not]
              rintro ⟨y1, y2⟩
              first
              | exact absurd y1 h20
              | exact o_f h33 y2
          · refine o_iload_n (pc := 36) C dX5_takerOf_36 rfl ?_
            first
            | exact E _ _ _ _ _ dX5_takerOf_37 rfl ⟨by
                unfold o_taker
                rw [o_fs_some (r := t) (by omega) (by unfold o_tkb; rw [decide_eq_true_iff]; exact ⟨h20, o_t h33⟩) a4], rfl⟩ (by omega)
            | exact E _ _ _ _ _ dX5_takerOf_37 rfl ⟨by
                unfold o_taker
                rw [o_fs_none (fun j hj => a4 j (by omega))], rfl⟩ (by omega)
  refine o_iconst (pc := 0) C dX5_takerOf_0 ?_
  refine sti_3 (pc := 1) C dX5_takerOf_1 ?_
  exact L 13 0 _ (by omega) (by omega) rfl (fun j hj => absurd hj (Nat.not_lt_zero j))
