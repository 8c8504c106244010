/-- an order: what it takes -/
abbrev o_tk (σ : oMem) (r : Nat) (h : Int) : Prop := σ 7 r 2 < σ 7 r 1 ∧ (σ 7 r 3 = -1 ∨ σ 7 r 3 = h)
def OB (σ : oMem) (r : Nat) : Prop := InR (σ 7 r 0) ∧ InR (σ 7 r 1) ∧ InR (σ 7 r 2) ∧ InR (σ 7 r 3)
set_option maxRecDepth 100000 in
set_option maxHeartbeats 4000000 in
theorem c_X2_describe {l : Launch} {g : oG} {σ : oMem} {r : Nat} {a b : Int} (hr : r < 12) : oMv l g yX2_describe (.code yX2_describe cX2_describe 3 none) 1 0 [.ref (g.2.1 7 r), oi a, oi b] σ (fun σ' => σ' = o_up (o_up σ 7 r 0 a) 7 r 1 b) := by
  refine oMv_of (own := RX2) (by decide +kernel) rfl (by simp [oi, Value.category]) (by simp) (fun x C E => ?_)
  show oW l g x σ 0 [some (.ref (g.2.1 7 r)), some (oi a), some (oi b)] [] 0
  refine o_aload_n (pc := 0) C dX2_describe_0 rfl ?_
  refine o_iload_n (pc := 1) C dX2_describe_1 rfl ?_
  refine pf_X2_9 (pc := 2) C (by omega) dX2_describe_2 ?_
  refine o_aload_n (pc := 5) C dX2_describe_5 rfl ?_
  refine o_iload_n (pc := 6) C dX2_describe_6 rfl ?_
  refine pf_X2_15 (pc := 7) C (by omega) dX2_describe_7 ?_
  exact E _ _ _ _ dX2_describe_10 rfl (by omega)
set_option maxRecDepth 100000 in
set_option maxHeartbeats 4000000 in
theorem c_X2_wouldTakeHeat {l : Launch} {g : oG} {σ : oMem} {r : Nat} {a : Int} (hr : r < 12) (hO : OB σ r) (ha : InR a) : oMi l g yX2_wouldTakeHeat (.code yX2_wouldTakeHeat cX2_wouldTakeHeat 2 (some .boolean)) 1 0 [.ref (g.2.1 7 r), oi a] σ (fun z σ' => z = (if o_tk σ r a then 1 else 0) ∧ σ' = σ) := by
  refine oMi_of (own := RX2) (by decide +kernel) rfl (by simp [oi, Value.category]) (by simp) (fun x C E => ?_)
  show oW l g x σ 0 [some (.ref (g.2.1 7 r)), some (oi a)] [] 0
  obtain ⟨h0, h1, h2, h3⟩ := hO
  refine o_aload_n (pc := 0) C dX2_wouldTakeHeat_0 rfl ?_
  refine gf_X2_18 (pc := 1) C (by omega) dX2_wouldTakeHeat_1 ?_
  refine o_aload_n (pc := 4) C dX2_wouldTakeHeat_4 rfl ?_
  refine gf_X2_15 (pc := 5) C (by omega) dX2_wouldTakeHeat_5 ?_
  refine o_icmp_ge (pc := 8) C (tgt := 31) dX2_wouldTakeHeat_8 (by decide) (by omega) (by omega) (fun h8 => ?_) (fun h8 => ?_)
  · refine o_iconst (pc := 31) C dX2_wouldTakeHeat_31 ?_
    exact E _ _ _ _ _ dX2_wouldTakeHeat_32 rfl ⟨by split <;> omega, rfl⟩ (by omega)
  · refine o_aload_n (pc := 11) C dX2_wouldTakeHeat_11 rfl ?_
    refine gf_X2_21 (pc := 12) C (by omega) dX2_wouldTakeHeat_12 ?_
    refine o_iconst (pc := 15) C dX2_wouldTakeHeat_15 ?_
    refine o_icmp_eq (pc := 16) C (tgt := 27) dX2_wouldTakeHeat_16 (by decide) (by omega) (by omega) (fun h16 => ?_) (fun h16 => ?_)
    · refine o_iconst (pc := 27) C dX2_wouldTakeHeat_27 ?_
      refine o_goto (pc := 28) C (tgt := 32) dX2_wouldTakeHeat_28 (by decide) ?_
      exact E _ _ _ _ _ dX2_wouldTakeHeat_32 rfl ⟨by split <;> omega, rfl⟩ (by omega)
    · refine o_aload_n (pc := 19) C dX2_wouldTakeHeat_19 rfl ?_
      refine gf_X2_21 (pc := 20) C (by omega) dX2_wouldTakeHeat_20 ?_
      refine o_iload_n (pc := 23) C dX2_wouldTakeHeat_23 rfl ?_
      refine o_icmp_ne (pc := 24) C (tgt := 31) dX2_wouldTakeHeat_24 (by decide) (by omega) (by omega) (fun h24 => ?_) (fun h24 => ?_)
      · refine o_iconst (pc := 31) C dX2_wouldTakeHeat_31 ?_
        exact E _ _ _ _ _ dX2_wouldTakeHeat_32 rfl ⟨by split <;> omega, rfl⟩ (by omega)
      · refine o_iconst (pc := 27) C dX2_wouldTakeHeat_27 ?_
        refine o_goto (pc := 28) C (tgt := 32) dX2_wouldTakeHeat_28 (by decide) ?_
        exact E _ _ _ _ _ dX2_wouldTakeHeat_32 rfl ⟨by split <;> omega, rfl⟩ (by omega)
set_option maxRecDepth 100000 in
set_option maxHeartbeats 4000000 in
theorem c_X2_receive {l : Launch} {g : oG} {σ : oMem} {r : Nat} {a b : Int} (hr : r < 12) : oMv l g yX2_receive (.code yX2_receive cX2_receive 3 none) 1 0 [.ref (g.2.1 7 r), oi a, oi b] σ (fun σ' => σ' = o_up (o_up σ 7 r 2 (σ 7 r 2 + a)) 7 r 3 b) := by
  refine oMv_of (own := RX2) (by decide +kernel) rfl (by simp [oi, Value.category]) (by simp) (fun x C E => ?_)
  show oW l g x σ 0 [some (.ref (g.2.1 7 r)), some (oi a), some (oi b)] [] 0
  refine o_aload_n (pc := 0) C dX2_receive_0 rfl ?_
  refine o_dup (pc := 1) C dX2_receive_1 rfl ?_
  refine gf_X2_18 (pc := 2) C (by omega) dX2_receive_2 ?_
  refine o_iload_n (pc := 5) C dX2_receive_5 rfl ?_
  refine o_iadd (pc := 6) C dX2_receive_6 ?_
  refine pf_X2_18 (pc := 7) C (by omega) dX2_receive_7 ?_
  refine o_aload_n (pc := 10) C dX2_receive_10 rfl ?_
  refine o_iload_n (pc := 11) C dX2_receive_11 rfl ?_
  refine pf_X2_21 (pc := 12) C (by omega) dX2_receive_12 ?_
  exact E _ _ _ _ dX2_receive_15 rfl (by omega)
set_option maxRecDepth 100000 in
set_option maxHeartbeats 4000000 in
theorem c_X0_describe {l : Launch} {g : oG} {σ : oMem} {c : Nat} {a b d e : Int} (hc : c < 20) : oMv l g yX0_describe (.code yX0_describe cX0_describe 5 none) 1 0 [.ref (g.2.1 1 c), oi a, oi b, oi d, oi e] σ (fun σ' => σ' = o_up (o_up (o_up (o_up σ 1 c 0 a) 1 c 1 b) 1 c 2 d) 1 c 3 e) := by
  refine oMv_of (own := RX0) (by decide +kernel) rfl (by simp [oi, Value.category]) (by simp) (fun x C E => ?_)
  show oW l g x σ 0 [some (.ref (g.2.1 1 c)), some (oi a), some (oi b), some (oi d), some (oi e)] [] 0
  refine o_aload_n (pc := 0) C dX0_describe_0 rfl ?_
  refine o_iload_n (pc := 1) C dX0_describe_1 rfl ?_
  refine pf_X0_9 (pc := 2) C (by omega) dX0_describe_2 ?_
  refine o_aload_n (pc := 5) C dX0_describe_5 rfl ?_
  refine o_iload_n (pc := 6) C dX0_describe_6 rfl ?_
  refine pf_X0_15 (pc := 7) C (by omega) dX0_describe_7 ?_
  refine o_aload_n (pc := 10) C dX0_describe_10 rfl ?_
  refine o_iload_n (pc := 11) C dX0_describe_11 rfl ?_
  refine pf_X0_18 (pc := 12) C (by omega) dX0_describe_12 ?_
  refine o_aload_n (pc := 15) C dX0_describe_15 rfl ?_
  refine o_iload (pc := 16) C dX0_describe_16 rfl ?_
  refine pf_X0_21 (pc := 18) C (by omega) dX0_describe_18 ?_
  exact E _ _ _ _ dX0_describe_21 rfl (by omega)
set_option maxRecDepth 100000 in
set_option maxHeartbeats 4000000 in
theorem c_X0_isSlit {l : Launch} {g : oG} {σ : oMem} {c : Nat} (hc : c < 20) (h1 : InR (σ 1 c 10)) : oMi l g yX0_isSlit (.code yX0_isSlit cX0_isSlit 1 (some .boolean)) 1 0 [.ref (g.2.1 1 c)] σ (fun z σ' => z = (if σ 1 c 10 = -1 then 0 else 1) ∧ σ' = σ) := by
  refine oMi_of (own := RX0) (by decide +kernel) rfl (by simp [oi, Value.category]) (by simp) (fun x C E => ?_)
  show oW l g x σ 0 [some (.ref (g.2.1 1 c))] [] 0
  refine o_aload_n (pc := 0) C dX0_isSlit_0 rfl ?_
  refine gf_X0_43 (pc := 1) C (by omega) dX0_isSlit_1 ?_
  refine o_iconst (pc := 4) C dX0_isSlit_4 ?_
  refine o_icmp_eq (pc := 5) C (tgt := 12) dX0_isSlit_5 (by decide) (by omega) (by omega) (fun h5 => ?_) (fun h5 => ?_)
  · refine o_iconst (pc := 12) C dX0_isSlit_12 ?_
    exact E _ _ _ _ _ dX0_isSlit_13 rfl ⟨by split <;> omega, rfl⟩ (by omega)
  · refine o_iconst (pc := 8) C dX0_isSlit_8 ?_
    refine o_goto (pc := 9) C (tgt := 13) dX0_isSlit_9 (by decide) ?_
    exact E _ _ _ _ _ dX0_isSlit_13 rfl ⟨by split <;> omega, rfl⟩ (by omega)
set_option maxRecDepth 100000 in
set_option maxHeartbeats 4000000 in
theorem c_X0_hasSlitAt {l : Launch} {g : oG} {σ : oMem} {c : Nat} {a : Int} (hc : c < 20) (h1 : InR (σ 1 c 10)) (ha : InR a) : oMi l g yX0_hasSlitAt (.code yX0_hasSlitAt cX0_hasSlitAt 2 (some .boolean)) 1 0 [.ref (g.2.1 1 c), oi a] σ (fun z σ' => z = (if 0 ≤ a ∧ a < σ 1 c 10 then 1 else 0) ∧ σ' = σ) := by
  refine oMi_of (own := RX0) (by decide +kernel) rfl (by simp [oi, Value.category]) (by simp) (fun x C E => ?_)
  show oW l g x σ 0 [some (.ref (g.2.1 1 c)), some (oi a)] [] 0
  refine o_iload_n (pc := 0) C dX0_hasSlitAt_0 rfl ?_
  refine o_if_lt (pc := 1) C (tgt := 16) dX0_hasSlitAt_1 (by decide) (by omega) (fun h1 => ?_) (fun h1 => ?_)
  · refine o_iconst (pc := 16) C dX0_hasSlitAt_16 ?_
    exact E _ _ _ _ _ dX0_hasSlitAt_17 rfl ⟨by split <;> omega, rfl⟩ (by omega)
  · refine o_iload_n (pc := 4) C dX0_hasSlitAt_4 rfl ?_
    refine o_aload_n (pc := 5) C dX0_hasSlitAt_5 rfl ?_
    refine gf_X0_43 (pc := 6) C (by omega) dX0_hasSlitAt_6 ?_
    refine o_icmp_ge (pc := 9) C (tgt := 16) dX0_hasSlitAt_9 (by decide) (by omega) (by omega) (fun h9 => ?_) (fun h9 => ?_)
    · refine o_iconst (pc := 16) C dX0_hasSlitAt_16 ?_
      exact E _ _ _ _ _ dX0_hasSlitAt_17 rfl ⟨by split <;> omega, rfl⟩ (by omega)
    · refine o_iconst (pc := 12) C dX0_hasSlitAt_12 ?_
      refine o_goto (pc := 13) C (tgt := 17) dX0_hasSlitAt_13 (by decide) ?_
      exact E _ _ _ _ _ dX0_hasSlitAt_17 rfl ⟨by split <;> omega, rfl⟩ (by omega)
set_option maxRecDepth 100000 in
set_option maxHeartbeats 4000000 in
theorem c_X0_hasMostDefects {l : Launch} {g : oG} {σ : oMem} {c : Nat} (hc : c < 20) (h1 : InR (σ 1 c 6)) : oMi l g yX0_hasMostDefects (.code yX0_hasMostDefects cX0_hasMostDefects 1 (some .boolean)) 1 0 [.ref (g.2.1 1 c)] σ (fun z σ' => z = (if 8 ≤ σ 1 c 6 then 1 else 0) ∧ σ' = σ) := by
  refine oMi_of (own := RX0) (by decide +kernel) rfl (by simp [oi, Value.category]) (by simp) (fun x C E => ?_)
  show oW l g x σ 0 [some (.ref (g.2.1 1 c))] [] 0
  refine o_aload_n (pc := 0) C dX0_hasMostDefects_0 rfl ?_
  refine gf_X0_31 (pc := 1) C (by omega) dX0_hasMostDefects_1 ?_
  refine o_bipush (pc := 4) C dX0_hasMostDefects_4 rfl ?_
  refine o_icmp_lt (pc := 6) C (tgt := 13) dX0_hasMostDefects_6 (by decide) (by omega) (by omega) (fun h6 => ?_) (fun h6 => ?_)
  · refine o_iconst (pc := 13) C dX0_hasMostDefects_13 ?_
    exact E _ _ _ _ _ dX0_hasMostDefects_14 rfl ⟨by split <;> omega, rfl⟩ (by omega)
  · refine o_iconst (pc := 9) C dX0_hasMostDefects_9 ?_
    refine o_goto (pc := 10) C (tgt := 14) dX0_hasMostDefects_10 (by decide) ?_
    exact E _ _ _ _ _ dX0_hasMostDefects_14 rfl ⟨by split <;> omega, rfl⟩ (by omega)
set_option maxRecDepth 100000 in
set_option maxHeartbeats 4000000 in
theorem c_X0_share {l : Launch} {g : oG} {σ : oMem} {a b d : Int} (h0 : 0 ≤ a) (h1 : 0 ≤ b) (h2 : a * b ≤ 2147483647) (h3 : InR d) : oMi l g yX0_share (.code yX0_share cX0_share 3 (some .int)) 1 0 [oi a, oi b, oi d] σ (fun z σ' => z = (if d ≤ 0 then 0 else a * b / d) ∧ σ' = σ) := by
  refine oMi_of (own := RX0) (by decide +kernel) rfl (by simp [oi, Value.category]) (by simp) (fun x C E => ?_)
  show oW l g x σ 0 [some (oi a), some (oi b), some (oi d)] [] 0
  have h4 : 0 ≤ a * b := Int.mul_nonneg h0 h1
  refine o_iload_n (pc := 0) C dX0_share_0 rfl ?_
  refine o_if_gt (pc := 1) C (tgt := 8) dX0_share_1 (by decide) (by omega) (fun h1 => ?_) (fun h1 => ?_)
  · refine o_iload_n (pc := 8) C dX0_share_8 rfl ?_
    refine o_iload_n (pc := 9) C dX0_share_9 rfl ?_
    refine o_imul (pc := 10) C dX0_share_10 ?_
    refine o_iload_n (pc := 11) C dX0_share_11 rfl ?_
    refine o_idiv (pc := 12) C dX0_share_12 (by omega) (by omega) (by omega) (by omega) ?_
    exact E _ _ _ _ _ dX0_share_13 rfl ⟨by first | rw [if_pos (by omega)] | rw [if_neg (by omega)], rfl⟩ (by omega)
  · refine o_iconst (pc := 4) C dX0_share_4 ?_
    refine o_goto (pc := 5) C (tgt := 13) dX0_share_5 (by decide) ?_
    exact E _ _ _ _ _ dX0_share_13 rfl ⟨by first | rw [if_pos (by omega)] | rw [if_neg (by omega)], rfl⟩ (by omega)
/-- the cut-out length, by a sweep over the defects in their order -/
def o_sw (f t : Nat → Int) : Nat → Int × Int
  | 0 => (0, 0)
  | n + 1 => if t n > (if f n < (o_sw f t n).2 then (o_sw f t n).2 else f n) then ((o_sw f t n).1 + (t n - (if f n < (o_sw f t n).2 then (o_sw f t n).2 else f n)), t n) else o_sw f t n
/-- a coil's defects -/
def DB (σ : oMem) (c : Nat) : Prop := 0 ≤ σ 1 c 6 ∧ σ 1 c 6 ≤ 8 ∧ ∀ j : Nat, (j : Int) < σ 1 c 6 → 0 ≤ σ 2 c j ∧ σ 2 c j < σ 3 c j ∧ σ 3 c j ≤ 5000
theorem DB.sw {σ : oMem} {c : Nat} (h : DB σ c) (t : Nat) (ht : (t : Int) ≤ σ 1 c 6) : 0 ≤ (o_sw (σ 2 c) (σ 3 c) t).1 ∧ (o_sw (σ 2 c) (σ 3 c) t).1 ≤ (o_sw (σ 2 c) (σ 3 c) t).2 ∧ (o_sw (σ 2 c) (σ 3 c) t).2 ≤ 5000 := by
  induction t with
  | zero => simp [o_sw]
  | succ t ih =>
    have h1 := ih (by omega)
    have h2 := h.2.2 t (by omega)
    rw [o_sw]
    grind
set_option maxRecDepth 100000 in
set_option maxHeartbeats 4000000 in
theorem c_X0_cutOutLength {l : Launch} {g : oG} {σ : oMem} {c : Nat} (hc : c < 20) (hD : DB σ c) : oMi l g yX0_cutOutLength (.code yX0_cutOutLength cX0_cutOutLength 5 (some .int)) 1 0 [.ref (g.2.1 1 c)] σ (fun z σ' => z = (o_sw (σ 2 c) (σ 3 c) (σ 1 c 6).toNat).1 ∧ σ' = σ) := by
  refine oMi_of (own := RX0) (by decide +kernel) rfl (by simp [oi, Value.category]) (by simp) (fun x C E => ?_)
  show oW l g x σ 0 [some (.ref (g.2.1 1 c)), none, none, none, none] [] 0
  obtain ⟨h0, h1, h2⟩ := id hD
  have L : ∀ (n t : Nat) (s e b : Int) (r : Option Value), σ 1 c 6 < t + n → (t : Int) ≤ σ 1 c 6 → s = (o_sw (σ 2 c) (σ 3 c) t).1 → e = (o_sw (σ 2 c) (σ 3 c) t).2 → b = t → oW l g x σ 6 [some (.ref (g.2.1 1 c)), some (oi s), some (oi e), some (oi b), r] [] 0 := by
    intro n
    induction n with
    | zero => intro t s e b r a1 a2; omega
    | succ n ih =>
      intro t s e b r a1 a2 a3 a4 a5
      have hs := hD.sw t a2
      rw [← a3, ← a4] at hs
      have hd := fun q => h2 t q
      have e1 : b.toNat = t := by omega
      refine o_iload_n (pc := 6) C dX0_cutOutLength_6 rfl ?_
      refine o_aload_n (pc := 7) C dX0_cutOutLength_7 rfl ?_
      refine gf_X0_31 (pc := 8) C (by omega) dX0_cutOutLength_8 ?_
      refine o_icmp_ge (pc := 11) C (tgt := 62) dX0_cutOutLength_11 (by decide) (by omega) (by omega) (fun h11 => ?_) (fun h11 => ?_)
      · refine o_iload_n (pc := 62) C dX0_cutOutLength_62 rfl ?_
        exact E _ _ _ _ _ dX0_cutOutLength_63 rfl ⟨by rw [a3, show (σ 1 c 6).toNat = t by omega], rfl⟩ (by omega)
      · have hd := hd (by omega)
        refine o_aload_n (pc := 14) C dX0_cutOutLength_14 rfl ?_
        refine gf_X0_24 (pc := 15) C (by omega) dX0_cutOutLength_15 ?_
        refine o_iload_n (pc := 18) C dX0_cutOutLength_18 rfl ?_
        refine ia_2 (pc := 19) C (by omega) (by omega) (by omega) dX0_cutOutLength_19 ?_
        refine o_iload_n (pc := 20) C dX0_cutOutLength_20 rfl ?_
        refine o_max (pc := 21) C kw_8_9 kw_8_10 kw_8_11 kw_8_12 (by rw [e1]; omega) (by omega) (Nat.le_of_ble_eq_true rfl) (by omega) dX0_cutOutLength_21 ?_
        refine sti_4 (pc := 24) C dX0_cutOutLength_24 ?_
        refine o_aload_n (pc := 26) C dX0_cutOutLength_26 rfl ?_
        refine gf_X0_28 (pc := 27) C (by omega) dX0_cutOutLength_27 ?_
        refine o_iload_n (pc := 30) C dX0_cutOutLength_30 rfl ?_
        refine ia_3 (pc := 31) C (by omega) (by omega) (by omega) dX0_cutOutLength_31 ?_
        refine o_iload (pc := 32) C dX0_cutOutLength_32 rfl ?_
        refine o_icmp_le (pc := 34) C (tgt := 56) dX0_cutOutLength_34 (by decide) (by rw [e1]; omega) (by rw [e1]; split <;> omega) (fun h34 => ?_) (fun h34 => ?_)
        · refine inc_3 (pc := 56) C dX0_cutOutLength_56 ?_
          refine o_goto (pc := 59) C (tgt := 6) dX0_cutOutLength_59 (by decide) ?_
          exact ih (t + 1) _ _ _ _ (by omega) (by omega) (by rw [o_sw]; rw [e1] at *; grind) (by rw [o_sw]; rw [e1] at *; grind) (by omega)
        · refine o_iload_n (pc := 37) C dX0_cutOutLength_37 rfl ?_
          refine o_aload_n (pc := 38) C dX0_cutOutLength_38 rfl ?_
          refine gf_X0_28 (pc := 39) C (by omega) dX0_cutOutLength_39 ?_
          refine o_iload_n (pc := 42) C dX0_cutOutLength_42 rfl ?_
          refine ia_3 (pc := 43) C (by omega) (by omega) (by omega) dX0_cutOutLength_43 ?_
          refine o_iload (pc := 44) C dX0_cutOutLength_44 rfl ?_
          refine o_isub (pc := 46) C dX0_cutOutLength_46 ?_
          refine o_iadd (pc := 47) C dX0_cutOutLength_47 ?_
          refine sti_1 (pc := 48) C dX0_cutOutLength_48 ?_
          refine o_aload_n (pc := 49) C dX0_cutOutLength_49 rfl ?_
          refine gf_X0_28 (pc := 50) C (by omega) dX0_cutOutLength_50 ?_
          refine o_iload_n (pc := 53) C dX0_cutOutLength_53 rfl ?_
          refine ia_3 (pc := 54) C (by omega) (by omega) (by omega) dX0_cutOutLength_54 ?_
          refine sti_2 (pc := 55) C dX0_cutOutLength_55 ?_
          refine inc_3 (pc := 56) C dX0_cutOutLength_56 ?_
          refine o_goto (pc := 59) C (tgt := 6) dX0_cutOutLength_59 (by decide) ?_
          exact ih (t + 1) _ _ _ _ (by omega) (by omega) (by rw [o_sw]; rw [e1] at *; grind) (by rw [o_sw]; rw [e1] at *; grind) (by omega)
  refine o_iconst (pc := 0) C dX0_cutOutLength_0 ?_
  refine sti_1 (pc := 1) C dX0_cutOutLength_1 ?_
  refine o_iconst (pc := 2) C dX0_cutOutLength_2 ?_
  refine sti_2 (pc := 3) C dX0_cutOutLength_3 ?_
  refine o_iconst (pc := 4) C dX0_cutOutLength_4 ?_
  refine sti_3 (pc := 5) C dX0_cutOutLength_5 ?_
  exact L 9 0 _ _ _ _ (by omega) (by omega) rfl rfl rfl
def o_ins (f : Nat → Int) (d pl : Nat) (v : Int) : Nat → Int := fun j => if j < pl then f j else if j = pl then v else if j ≤ d then f (j - 1) else f j
def o_shf (f : Nat → Int) (d pl : Nat) : Nat → Int := fun j => if j ≤ pl then f j else if j ≤ d then f (j - 1) else f j
set_option maxRecDepth 100000 in
set_option maxHeartbeats 4000000 in
theorem c_X0_addDefect {l : Launch} {g : oG} {σ : oMem} {c : Nat} {a b : Int} (hc : c < 20) (hD : DB σ c) (hd : σ 1 c 6 < 8) (ha : InR a) : oMv l g yX0_addDefect (.code yX0_addDefect cX0_addDefect 4 none) 2 0 [.ref (g.2.1 1 c), oi a, oi b] σ (fun σ' => ∃ pl : Nat, (pl : Int) ≤ σ 1 c 6 ∧ (0 < pl → σ 2 c (pl - 1) ≤ a) ∧ (∀ j : Nat, pl ≤ j → (j : Int) < σ 1 c 6 → a < σ 2 c j) ∧ σ' = o_up (o_rw (o_rw σ 2 c (o_ins (σ 2 c) (σ 1 c 6).toNat pl a)) 3 c (o_ins (σ 3 c) (σ 1 c 6).toNat pl b)) 1 c 6 (σ 1 c 6 + 1)) := by
  refine oMv_of (own := RX0) (by decide +kernel) rfl (by simp [oi, Value.category]) (by simp) (fun x C E => ?_)
  show oW l g x σ 0 [some (.ref (g.2.1 1 c)), some (oi a), some (oi b), none] [] 0
  obtain ⟨h0, h1, h2⟩ := id hD
  obtain ⟨d, hd0⟩ : ∃ d : Nat, (d : Int) = σ 1 c 6 := ⟨(σ 1 c 6).toNat, by omega⟩
  have hd1 : (σ 1 c 6).toNat = d := by omega
  rw [hd1] at E
  have L : ∀ (pl : Nat) (q : Int), pl ≤ d → q = pl → (∀ j : Nat, pl ≤ j → (j : Int) < σ 1 c 6 → a < σ 2 c j) → oW l g x (o_rw (o_rw σ 2 c (o_shf (σ 2 c) d pl)) 3 c (o_shf (σ 3 c) d pl)) 13 [some (.ref (g.2.1 1 c)), some (oi a), some (oi b), some (oi q)] [] 0 := by
    intro pl
    induction pl with
    | zero =>
      intro q a1 a2 a3
      have e6 : (o_rw (o_rw σ 2 c (o_shf (σ 2 c) d 0)) 3 c (o_shf (σ 3 c) d 0)) 1 c 6 = σ 1 c 6 := by simp [o_rw]
      refine o_iload_n (pc := 13) C dX0_addDefect_13 rfl ?_
      refine o_if_le (pc := 14) C (tgt := 63) dX0_addDefect_14 (by decide) (by omega) (fun h14 => ?_) (fun h14 => ?_)
      · refine o_aload_n (pc := 63) C dX0_addDefect_63 rfl ?_
        refine gf_X0_24 (pc := 64) C (by omega) dX0_addDefect_64 ?_
        refine o_iload_n (pc := 67) C dX0_addDefect_67 rfl ?_
        refine o_iload_n (pc := 68) C dX0_addDefect_68 rfl ?_
        refine is_2 (pc := 69) C (by omega) (by omega) (by omega) dX0_addDefect_69 ?_
        refine o_aload_n (pc := 70) C dX0_addDefect_70 rfl ?_
        refine gf_X0_28 (pc := 71) C (by omega) dX0_addDefect_71 ?_
        refine o_iload_n (pc := 74) C dX0_addDefect_74 rfl ?_
        refine o_iload_n (pc := 75) C dX0_addDefect_75 rfl ?_
        refine is_3 (pc := 76) C (by omega) (by omega) (by omega) dX0_addDefect_76 ?_
        refine o_aload_n (pc := 77) C dX0_addDefect_77 rfl ?_
        refine o_dup (pc := 78) C dX0_addDefect_78 rfl ?_
        refine gf_X0_31 (pc := 79) C (by omega) dX0_addDefect_79 ?_
        refine o_iconst (pc := 82) C dX0_addDefect_82 ?_
        refine o_iadd (pc := 83) C dX0_addDefect_83 ?_
        refine pf_X0_31 (pc := 84) C (by omega) dX0_addDefect_84 ?_
        exact E _ _ _ _ dX0_addDefect_87 ⟨0, by omega, fun h => absurd h (Nat.lt_irrefl 0), a3, by rw [show q.toNat = 0 by omega]; funext K i j; simp only [o_up, o_rw, o_shf, o_ins]; grind⟩ (by omega)
      · omega
    | succ pl ih =>
      intro q a1 a2 a3
      have e2 : (o_rw (o_rw σ 2 c (o_shf (σ 2 c) d (pl + 1))) 3 c (o_shf (σ 3 c) d (pl + 1))) 2 c (q - 1).toNat = σ 2 c pl := by rw [show (q - 1).toNat = pl by omega]; simp [o_rw, o_shf]
      have e6 : (o_rw (o_rw σ 2 c (o_shf (σ 2 c) d (pl + 1))) 3 c (o_shf (σ 3 c) d (pl + 1))) 1 c 6 = σ 1 c 6 := by simp [o_rw]
      have hpl := h2 pl (by omega)
      have eq : q.toNat = pl + 1 := by omega
      have eq1 : (q - 1).toNat = pl := by omega
      refine o_iload_n (pc := 13) C dX0_addDefect_13 rfl ?_
      refine o_if_le (pc := 14) C (tgt := 63) dX0_addDefect_14 (by decide) (by omega) (fun h14 => ?_) (fun h14 => ?_)
      · refine o_aload_n (pc := 63) C dX0_addDefect_63 rfl ?_
        refine gf_X0_24 (pc := 64) C (by omega) dX0_addDefect_64 ?_
        refine o_iload_n (pc := 67) C dX0_addDefect_67 rfl ?_
        refine o_iload_n (pc := 68) C dX0_addDefect_68 rfl ?_
        refine is_2 (pc := 69) C (by omega) (by omega) (by omega) dX0_addDefect_69 ?_
        refine o_aload_n (pc := 70) C dX0_addDefect_70 rfl ?_
        refine gf_X0_28 (pc := 71) C (by omega) dX0_addDefect_71 ?_
        refine o_iload_n (pc := 74) C dX0_addDefect_74 rfl ?_
        refine o_iload_n (pc := 75) C dX0_addDefect_75 rfl ?_
        refine is_3 (pc := 76) C (by omega) (by omega) (by omega) dX0_addDefect_76 ?_
        refine o_aload_n (pc := 77) C dX0_addDefect_77 rfl ?_
        refine o_dup (pc := 78) C dX0_addDefect_78 rfl ?_
        refine gf_X0_31 (pc := 79) C (by omega) dX0_addDefect_79 ?_
        refine o_iconst (pc := 82) C dX0_addDefect_82 ?_
        refine o_iadd (pc := 83) C dX0_addDefect_83 ?_
        refine pf_X0_31 (pc := 84) C (by omega) dX0_addDefect_84 ?_
        exact E _ _ _ _ dX0_addDefect_87 ⟨pl + 1, by omega, fun _ => by first | omega | (simp only [Nat.add_sub_cancel]; omega), a3, by rw [eq]; funext K i j; simp only [o_up, o_rw, o_shf, o_ins]; grind⟩ (by omega)
      · refine o_aload_n (pc := 17) C dX0_addDefect_17 rfl ?_
        refine gf_X0_24 (pc := 18) C (by omega) dX0_addDefect_18 ?_
        refine o_iload_n (pc := 21) C dX0_addDefect_21 rfl ?_
        refine o_iconst (pc := 22) C dX0_addDefect_22 ?_
        refine o_isub (pc := 23) C dX0_addDefect_23 ?_
        refine ia_2 (pc := 24) C (by omega) (by omega) (by omega) dX0_addDefect_24 ?_
        rw [e2]
        refine o_iload_n (pc := 25) C dX0_addDefect_25 rfl ?_
        refine o_icmp_le (pc := 26) C (tgt := 63) dX0_addDefect_26 (by decide) (by omega) (by omega) (fun h26 => ?_) (fun h26 => ?_)
        · refine o_aload_n (pc := 63) C dX0_addDefect_63 rfl ?_
          refine gf_X0_24 (pc := 64) C (by omega) dX0_addDefect_64 ?_
          refine o_iload_n (pc := 67) C dX0_addDefect_67 rfl ?_
          refine o_iload_n (pc := 68) C dX0_addDefect_68 rfl ?_
          refine is_2 (pc := 69) C (by omega) (by omega) (by omega) dX0_addDefect_69 ?_
          refine o_aload_n (pc := 70) C dX0_addDefect_70 rfl ?_
          refine gf_X0_28 (pc := 71) C (by omega) dX0_addDefect_71 ?_
          refine o_iload_n (pc := 74) C dX0_addDefect_74 rfl ?_
          refine o_iload_n (pc := 75) C dX0_addDefect_75 rfl ?_
          refine is_3 (pc := 76) C (by omega) (by omega) (by omega) dX0_addDefect_76 ?_
          refine o_aload_n (pc := 77) C dX0_addDefect_77 rfl ?_
          refine o_dup (pc := 78) C dX0_addDefect_78 rfl ?_
          refine gf_X0_31 (pc := 79) C (by omega) dX0_addDefect_79 ?_
          refine o_iconst (pc := 82) C dX0_addDefect_82 ?_
          refine o_iadd (pc := 83) C dX0_addDefect_83 ?_
          refine pf_X0_31 (pc := 84) C (by omega) dX0_addDefect_84 ?_
          exact E _ _ _ _ dX0_addDefect_87 ⟨pl + 1, by omega, fun _ => by first | omega | (simp only [Nat.add_sub_cancel]; omega), a3, by rw [eq]; funext K i j; simp only [o_up, o_rw, o_shf, o_ins]; grind⟩ (by omega)
        · refine o_aload_n (pc := 29) C dX0_addDefect_29 rfl ?_
          refine gf_X0_24 (pc := 30) C (by omega) dX0_addDefect_30 ?_
          refine o_iload_n (pc := 33) C dX0_addDefect_33 rfl ?_
          refine o_aload_n (pc := 34) C dX0_addDefect_34 rfl ?_
          refine gf_X0_24 (pc := 35) C (by omega) dX0_addDefect_35 ?_
          refine o_iload_n (pc := 38) C dX0_addDefect_38 rfl ?_
          refine o_iconst (pc := 39) C dX0_addDefect_39 ?_
          refine o_isub (pc := 40) C dX0_addDefect_40 ?_
          refine ia_2 (pc := 41) C (by omega) (by omega) (by omega) dX0_addDefect_41 ?_
          refine is_2 (pc := 42) C (by omega) (by omega) (by omega) dX0_addDefect_42 ?_
          refine o_aload_n (pc := 43) C dX0_addDefect_43 rfl ?_
          refine gf_X0_28 (pc := 44) C (by omega) dX0_addDefect_44 ?_
          refine o_iload_n (pc := 47) C dX0_addDefect_47 rfl ?_
          refine o_aload_n (pc := 48) C dX0_addDefect_48 rfl ?_
          refine gf_X0_28 (pc := 49) C (by omega) dX0_addDefect_49 ?_
          refine o_iload_n (pc := 52) C dX0_addDefect_52 rfl ?_
          refine o_iconst (pc := 53) C dX0_addDefect_53 ?_
          refine o_isub (pc := 54) C dX0_addDefect_54 ?_
          refine ia_3 (pc := 55) C (by omega) (by omega) (by omega) dX0_addDefect_55 ?_
          refine is_3 (pc := 56) C (by omega) (by omega) (by omega) dX0_addDefect_56 ?_
          refine inc_3 (pc := 57) C dX0_addDefect_57 ?_
          refine o_goto (pc := 60) C (tgt := 13) dX0_addDefect_60 (by decide) ?_
          rw [show o_up (o_up (o_rw (o_rw σ 2 c (o_shf (σ 2 c) d (pl + 1))) 3 c (o_shf (σ 3 c) d (pl + 1))) 2 c q.toNat ((o_rw (o_rw σ 2 c (o_shf (σ 2 c) d (pl + 1))) 3 c (o_shf (σ 3 c) d (pl + 1))) 2 c (q - 1).toNat)) 3 c q.toNat ((o_up (o_rw (o_rw σ 2 c (o_shf (σ 2 c) d (pl + 1))) 3 c (o_shf (σ 3 c) d (pl + 1))) 2 c q.toNat ((o_rw (o_rw σ 2 c (o_shf (σ 2 c) d (pl + 1))) 3 c (o_shf (σ 3 c) d (pl + 1))) 2 c (q - 1).toNat)) 3 c (q - 1).toNat) = o_rw (o_rw σ 2 c (o_shf (σ 2 c) d pl)) 3 c (o_shf (σ 3 c) d pl) from by funext K i j; rw [eq, eq1]; simp only [o_up, o_rw, o_shf]; grind]
          exact ih _ (by omega) (by omega) (fun j k1 k2 => by rcases Nat.lt_or_eq_of_le k1 with k3 | k3; exact a3 j k3 k2; subst k3; omega)
  refine o_aload_n (pc := 0) C dX0_addDefect_0 rfl ?_
  refine cl_X0_55 (pc := 1) C (c_X0_hasMostDefects hc (by omega)) (by omega) (by omega) (by omega) (Nat.le_of_ble_eq_true rfl) dX0_addDefect_1 (fun z σ2 hq => ?_)
  obtain ⟨rfl, hq⟩ := hq
  rw [hq]; clear hq
  refine o_if_eq (pc := 4) C (tgt := 8) dX0_addDefect_4 (by decide) (by split <;> omega) (fun h4 => ?_) (fun h4 => ?_)
  · refine o_aload_n (pc := 8) C dX0_addDefect_8 rfl ?_
    refine gf_X0_31 (pc := 9) C (by omega) dX0_addDefect_9 ?_
    refine sti_3 (pc := 12) C dX0_addDefect_12 ?_
    rw [show σ = o_rw (o_rw σ 2 c (o_shf (σ 2 c) d d)) 3 c (o_shf (σ 3 c) d d) from by funext K i j; simp only [o_rw, o_shf]; grind]
    exact L d _ (Nat.le_refl d) (by simp [o_rw]; omega) (fun j k1 k2 => by omega)
  · exact absurd h4 (by rw [if_neg (by omega)]; decide)
set_option maxRecDepth 100000 in
set_option maxHeartbeats 4000000 in
theorem c_X0_stockOf {l : Launch} {g : oG} {σ : oMem} {c : Nat} {a : Int} (hc : c < 20) (h0 : -1 ≤ σ 1 c 10) (h1 : σ 1 c 10 ≤ 15) (h2 : ∀ j : Nat, (j : Int) < σ 1 c 10 → InR (σ 4 c j) ∧ InR (σ 6 c j)) (ha : InR a) : oMi l g yX0_stockOf (.code yX0_stockOf cX0_stockOf 4 (some .int)) 1 0 [.ref (g.2.1 1 c), oi a] σ (fun z σ' => z = o_sum (fun j => if σ 4 c j = a ∧ σ 6 c j = -1 then σ 5 c j else 0) (σ 1 c 10).toNat ∧ σ' = σ) := by
  refine oMi_of (own := RX0) (by decide +kernel) rfl (by simp [oi, Value.category]) (by simp) (fun x C E => ?_)
  show oW l g x σ 0 [some (.ref (g.2.1 1 c)), some (oi a), none, none] [] 0
  have L : ∀ (n t : Nat) (s b : Int), σ 1 c 10 < t + n → ((t : Int) ≤ σ 1 c 10 ∨ t = 0) → s = o_sum (fun j => if σ 4 c j = a ∧ σ 6 c j = -1 then σ 5 c j else 0) t → b = t → 0 < n → oW l g x σ 4 [some (.ref (g.2.1 1 c)), some (oi a), some (oi s), some (oi b)] [] 0 := by
    intro n
    induction n with
    | zero => intro t s b a1 a2; omega
    | succ n ih =>
      intro t s b a1 a2 a3 a4 _
      have e1 : b.toNat = t := by omega
      have hb := fun q => h2 t q
      refine o_iload_n (pc := 4) C dX0_stockOf_4 rfl ?_
      refine o_aload_n (pc := 5) C dX0_stockOf_5 rfl ?_
      refine gf_X0_43 (pc := 6) C (by omega) dX0_stockOf_6 ?_
      refine o_icmp_ge (pc := 9) C (tgt := 47) dX0_stockOf_9 (by decide) (by omega) (by omega) (fun h9 => ?_) (fun h9 => ?_)
      · refine o_iload_n (pc := 47) C dX0_stockOf_47 rfl ?_
        exact E _ _ _ _ _ dX0_stockOf_48 rfl ⟨by rw [a3, show (σ 1 c 10).toNat = t by omega], rfl⟩ (by omega)
      · have hb := hb (by omega)
        refine o_aload_n (pc := 12) C dX0_stockOf_12 rfl ?_
        refine gf_X0_34 (pc := 13) C (by omega) dX0_stockOf_13 ?_
        refine o_iload_n (pc := 16) C dX0_stockOf_16 rfl ?_
        refine ia_4 (pc := 17) C (by omega) (by omega) (by omega) dX0_stockOf_17 ?_
        refine o_iload_n (pc := 18) C dX0_stockOf_18 rfl ?_
        refine o_icmp_ne (pc := 19) C (tgt := 41) dX0_stockOf_19 (by decide) (by rw [e1]; omega) (by omega) (fun h19 => ?_) (fun h19 => ?_)
        · refine inc_3 (pc := 41) C dX0_stockOf_41 ?_
          refine o_goto (pc := 44) C (tgt := 4) dX0_stockOf_44 (by decide) ?_
          exact ih (t + 1) _ _ (by omega) (by omega) (by rw [o_sum]; rw [e1] at *; simp_all) (by omega) (by omega)
        · refine o_aload_n (pc := 22) C dX0_stockOf_22 rfl ?_
          refine gf_X0_40 (pc := 23) C (by omega) dX0_stockOf_23 ?_
          refine o_iload_n (pc := 26) C dX0_stockOf_26 rfl ?_
          refine ia_6 (pc := 27) C (by omega) (by omega) (by omega) dX0_stockOf_27 ?_
          refine o_iconst (pc := 28) C dX0_stockOf_28 ?_
          refine o_icmp_ne (pc := 29) C (tgt := 41) dX0_stockOf_29 (by decide) (by rw [e1]; omega) (by omega) (fun h29 => ?_) (fun h29 => ?_)
          · refine inc_3 (pc := 41) C dX0_stockOf_41 ?_
            refine o_goto (pc := 44) C (tgt := 4) dX0_stockOf_44 (by decide) ?_
            exact ih (t + 1) _ _ (by omega) (by omega) (by rw [o_sum]; rw [e1] at *; simp_all) (by omega) (by omega)
          · refine o_iload_n (pc := 32) C dX0_stockOf_32 rfl ?_
            refine o_aload_n (pc := 33) C dX0_stockOf_33 rfl ?_
            refine gf_X0_37 (pc := 34) C (by omega) dX0_stockOf_34 ?_
            refine o_iload_n (pc := 37) C dX0_stockOf_37 rfl ?_
            refine ia_5 (pc := 38) C (by omega) (by omega) (by omega) dX0_stockOf_38 ?_
            refine o_iadd (pc := 39) C dX0_stockOf_39 ?_
            refine sti_2 (pc := 40) C dX0_stockOf_40 ?_
            refine inc_3 (pc := 41) C dX0_stockOf_41 ?_
            refine o_goto (pc := 44) C (tgt := 4) dX0_stockOf_44 (by decide) ?_
            exact ih (t + 1) _ _ (by omega) (by omega) (by rw [o_sum]; rw [e1] at *; simp_all) (by omega) (by omega)
  refine o_iconst (pc := 0) C dX0_stockOf_0 ?_
  refine sti_2 (pc := 1) C dX0_stockOf_1 ?_
  refine o_iconst (pc := 2) C dX0_stockOf_2 ?_
  refine sti_3 (pc := 3) C dX0_stockOf_3 ?_
  exact L 17 0 _ _ (by omega) (by omega) rfl rfl (by omega)
theorem o_up_s (σ : oMem) (K i j : Nat) (v : Int) : o_up σ K i j v K i j = v := by simp [o_up]
theorem o_up_k {σ : oMem} {K i j : Nat} {v : Int} {K' : Nat} (h : K' ≠ K) : o_up σ K i j v K' = σ K' := by funext i' j'; simp [o_up, h]
theorem o_up_j {σ : oMem} {K i j : Nat} {v : Int} {i' j' : Nat} (h : j' ≠ j) : o_up σ K i j v K i' j' = σ K i' j' := by simp [o_up, h]
theorem o_bl_k {σ : oMem} {K i n : Nat} {f : Nat → Int} {K' : Nat} (h : K' ≠ K) : o_bl σ K i n f K' = σ K' := by funext i' j'; simp [o_bl, h]
theorem o_rw_k {σ : oMem} {K i : Nat} {f : Nat → Int} {K' : Nat} (h : K' ≠ K) : o_rw σ K i f K' = σ K' := by funext i' j'; simp [o_rw, h]
theorem DB.len {σ : oMem} {c : Nat} {n : Int} (h : DB σ c) (hn : 0 ≤ n) (hl : ∀ j : Nat, (j : Int) < σ 1 c 6 → σ 3 c j ≤ n) (t : Nat) (ht : (t : Int) ≤ σ 1 c 6) : (o_sw (σ 2 c) (σ 3 c) t).2 ≤ n := by
  induction t with
  | zero => simpa [o_sw] using hn
  | succ t ih =>
    have h1 := ih (by omega)
    have h2 := hl t (by omega)
    rw [o_sw]
    grind
/-- what becomes of a coil's weight: inner turns, cut out, the net weight, a slit's weight -/
def o_inner (σ : oMem) (c : Nat) (ls : Int) : Int := if σ 1 c 1 < ls then σ 1 c 1 else ls
def o_cutl (σ : oMem) (c : Nat) : Int := (o_sw (σ 2 c) (σ 3 c) (σ 1 c 6).toNat).1
def o_cut (σ : oMem) (c : Nat) (ls : Int) : Int := (σ 1 c 1 - o_inner σ c ls) * o_cutl σ c / σ 1 c 2
def o_net (σ : oMem) (c : Nat) (ls : Int) : Int := σ 1 c 1 - o_inner σ c ls - o_cut σ c ls
def o_wt (σ : oMem) (c : Nat) (ls : Int) (p j : Nat) : Int := o_net σ c ls * σ 9 p j / σ 1 c 0
def o_slit (σ : oMem) (c : Nat) (ls : Int) (p n : Nat) : oMem := o_up (o_up (o_up (o_up (o_bl (o_bl σ 4 c n (σ 9 p)) 5 c n (o_wt σ c ls p)) 1 c 11 (o_inner σ c ls)) 1 c 12 (o_cut σ c ls)) 1 c 13 (o_net σ c ls - o_sum (o_wt σ c ls p) n)) 1 c 10 (σ 8 p 1)
/-- a coil: its measures, its defects within its length -/
def CB (σ : oMem) (c : Nat) : Prop := (100 ≤ σ 1 c 0 ∧ σ 1 c 0 ≤ 2000) ∧ (1 ≤ σ 1 c 1 ∧ σ 1 c 1 ≤ 30000) ∧ (10 ≤ σ 1 c 2 ∧ σ 1 c 2 ≤ 5000) ∧ (1 ≤ σ 1 c 3 ∧ σ 1 c 3 ≤ 99) ∧ DB σ c ∧ ∀ j : Nat, (j : Int) < σ 1 c 6 → σ 3 c j ≤ σ 1 c 2
theorem o_slit_step {σ : oMem} {c : Nat} {a : Int} {p t : Nat} : o_up (o_up (o_up (o_slit σ c a p t) 4 c t (σ 9 p t)) 5 c t (o_net σ c a * σ 9 p t / σ 1 c 0)) 1 c 13 (o_net σ c a - o_sum (o_wt σ c a p) t - o_wt σ c a p t) = o_slit σ c a p (t + 1) := by
  funext K i j
  simp only [o_slit, o_sum]
  generalize o_inner σ c a = v1
  generalize o_cut σ c a = v2
  rw [show o_net σ c a * σ 9 p t / σ 1 c 0 = o_wt σ c a p t from rfl]
  generalize o_sum (o_wt σ c a p) t = v3
  generalize o_net σ c a = v4
  simp only [o_up, o_bl]
  by_cases h4 : K = 4
  · subst h4; simp <;> grind (splits := 20)
  · by_cases h5 : K = 5
    · subst h5; simp <;> grind (splits := 20)
    · by_cases h1 : K = 1
      · subst h1; simp <;> grind (splits := 20)
      · simp [h4, h5, h1]
theorem o_slit_zero {σ : oMem} {c : Nat} {a : Int} {p : Nat} : o_up (o_up (o_up (o_up σ 1 c 11 (o_inner σ c a)) 1 c 12 (o_cut σ c a)) 1 c 13 (σ 1 c 1 - o_inner σ c a - o_cut σ c a)) 1 c 10 (σ 8 p 1) = o_slit σ c a p 0 := by
  funext K i j
  simp only [o_slit, o_sum, o_net]
  simp only [o_up, o_bl]
  grind
theorem o_wts {σ : oMem} {c : Nat} {ls : Int} (h : CB σ c) (h0 : 0 ≤ ls) (h1 : ls ≤ 500) : 0 ≤ o_inner σ c ls ∧ o_inner σ c ls ≤ σ 1 c 1 ∧ 0 ≤ o_cutl σ c ∧ o_cutl σ c ≤ σ 1 c 2 ∧ 0 ≤ o_cut σ c ls ∧ 0 ≤ o_net σ c ls ∧ o_net σ c ls ≤ 30000 ∧ 0 ≤ (σ 1 c 1 - o_inner σ c ls) * o_cutl σ c ∧ (σ 1 c 1 - o_inner σ c ls) * o_cutl σ c ≤ 150000000 := by
  obtain ⟨w, g1, le, he, d, dl⟩ := h
  have hs := d.sw (σ 1 c 6).toNat (by have := d.1; omega)
  have hs2 := d.len (n := σ 1 c 2) (by omega) dl (σ 1 c 6).toNat (by have := d.1; omega)
  have i0 : 0 ≤ o_inner σ c ls := by unfold o_inner; split <;> omega
  have i1 : o_inner σ c ls ≤ σ 1 c 1 := by unfold o_inner; split <;> omega
  have c0 : 0 ≤ o_cutl σ c := hs.1
  have c1 : o_cutl σ c ≤ σ 1 c 2 := by unfold o_cutl; omega
  have m0 : 0 ≤ (σ 1 c 1 - o_inner σ c ls) * o_cutl σ c := Int.mul_nonneg (by omega) c0
  have m1 : (σ 1 c 1 - o_inner σ c ls) * o_cutl σ c ≤ (σ 1 c 1 - o_inner σ c ls) * σ 1 c 2 := Int.mul_le_mul_of_nonneg_left c1 (by omega)
  have m2 : (σ 1 c 1 - o_inner σ c ls) * σ 1 c 2 ≤ 30000 * 5000 := Int.mul_le_mul (by omega) (by omega) (by omega) (by omega)
  have q0 : 0 ≤ o_cut σ c ls := Int.ediv_nonneg m0 (by omega)
  have q1 : o_cut σ c ls ≤ σ 1 c 1 - o_inner σ c ls := Int.ediv_le_of_le_mul (by omega) (by omega)
  refine ⟨i0, i1, c0, c1, q0, ?_, ?_, m0, by omega⟩ <;> unfold o_net <;> omega
set_option maxRecDepth 100000 in
set_option maxHeartbeats 4000000 in
theorem c_X0_slitBy {l : Launch} {g : oG} {σ : oMem} {c p : Nat} {a : Int} (hc : c < 20) (hp : p < 11) (hC : CB σ c) (hP : PB σ p) (h0 : 0 ≤ a) (h1 : a ≤ 500) : oMv l g yX0_slitBy (.code yX0_slitBy cX0_slitBy 6 none) 2 0 [.ref (g.2.1 1 c), .ref (g.2.1 8 p), oi a] σ (fun σ' => σ' = o_slit σ c a p (σ 8 p 1).toNat) := by
  refine oMv_of (own := RX0) (by decide +kernel) rfl (by simp [oi, Value.category]) (by simp) (fun x C E => ?_)
  show oW l g x σ 0 [some (.ref (g.2.1 1 c)), some (.ref (g.2.1 8 p)), some (oi a), none, none, none] [] 0
  have hw := o_wts hC h0 h1
  obtain ⟨cw, cg, cl, ch, cd, cdl⟩ := id hC
  obtain ⟨p0, p1, p2⟩ := id hP
  have L : ∀ (n t : Nat) (b e : Int), σ 8 p 1 < t + n → (t : Int) ≤ σ 8 p 1 → b = t → e = o_net σ c a → oW l g x (o_slit σ c a p t) 63 [some (.ref (g.2.1 1 c)), some (.ref (g.2.1 8 p)), some (oi a), some (oi (σ 1 c 1 - o_inner σ c a)), some (oi e), some (oi b)] [] 0 := by
    intro n
    induction n with
    | zero => intro t b e a1 a2; omega
    | succ n ih =>
      intro t b e a1 a2 a3 a4
      have eb : b.toNat = t := by omega
      have e10 : o_slit σ c a p t 1 c 10 = σ 8 p 1 := by simp [o_slit, o_up]
      have e9 : o_slit σ c a p t 9 p b.toNat = σ 9 p t := by simp [o_slit, o_up, o_bl, eb]
      have e4 : o_up (o_slit σ c a p t) 4 c b.toNat (σ 9 p t) 4 c b.toNat = σ 9 p t := by simp [o_up]
      have e0 : o_up (o_slit σ c a p t) 4 c b.toNat (σ 9 p t) 1 c 0 = σ 1 c 0 := by simp [o_slit, o_up, o_bl]
      have e5 : o_up (o_up (o_slit σ c a p t) 4 c b.toNat (σ 9 p t)) 5 c b.toNat (o_net σ c a * σ 9 p t / σ 1 c 0) 5 c b.toNat = o_wt σ c a p t := by simp [o_up, o_wt]
      have e13 : o_up (o_up (o_slit σ c a p t) 4 c b.toNat (σ 9 p t)) 5 c b.toNat (o_net σ c a * σ 9 p t / σ 1 c 0) 1 c 13 = o_net σ c a - o_sum (o_wt σ c a p) t := by simp [o_slit, o_up]
      have hpw := fun q => p2 t q
      refine o_iload (pc := 63) C dX0_slitBy_63 rfl ?_
      refine o_aload_n (pc := 65) C dX0_slitBy_65 rfl ?_
      refine gf_X0_43 (pc := 66) C (by omega) dX0_slitBy_66 ?_
      rw [e10]
      refine o_icmp_ge (pc := 69) C (tgt := 131) dX0_slitBy_69 (by decide) (by omega) (by omega) (fun h69 => ?_) (fun h69 => ?_)
      · exact E _ _ _ _ dX0_slitBy_131 (by rw [show (σ 8 p 1).toNat = t by omega]) (by omega)
      · have hpw := hpw (by omega)
        have hm : o_net σ c a * σ 9 p t ≤ 30000 * 1000 := Int.mul_le_mul (by omega) (by omega) (by omega) (by omega)
        refine o_aload_n (pc := 72) C dX0_slitBy_72 rfl ?_
        refine gf_X0_34 (pc := 73) C (by omega) dX0_slitBy_73 ?_
        refine o_iload (pc := 76) C dX0_slitBy_76 rfl ?_
        refine o_aload_n (pc := 78) C dX0_slitBy_78 rfl ?_
        refine gf_X0_81 (pc := 79) C (by omega) dX0_slitBy_79 ?_
        refine o_iload (pc := 82) C dX0_slitBy_82 rfl ?_
        refine ia_9 (pc := 84) C (by omega) (by omega) (by omega) dX0_slitBy_84 ?_
        rw [e9]
        refine is_4 (pc := 85) C (by omega) (by omega) (by omega) dX0_slitBy_85 ?_
        refine o_aload_n (pc := 86) C dX0_slitBy_86 rfl ?_
        refine gf_X0_37 (pc := 87) C (by omega) dX0_slitBy_87 ?_
        refine o_iload (pc := 90) C dX0_slitBy_90 rfl ?_
        refine o_iload (pc := 92) C dX0_slitBy_92 rfl ?_
        refine o_aload_n (pc := 94) C dX0_slitBy_94 rfl ?_
        refine gf_X0_34 (pc := 95) C (by omega) dX0_slitBy_95 ?_
        refine o_iload (pc := 98) C dX0_slitBy_98 rfl ?_
        refine ia_4 (pc := 100) C (by omega) (by omega) (by omega) dX0_slitBy_100 ?_
        rw [e4]
        refine o_aload_n (pc := 101) C dX0_slitBy_101 rfl ?_
        refine gf_X0_9 (pc := 102) C (by omega) dX0_slitBy_102 ?_
        rw [e0, a4]
        refine cl_X0_72 (pc := 105) C (c_X0_share (by omega) (by omega) (by omega) (by omega)) (by omega) (by omega) (Nat.le_of_ble_eq_true rfl) dX0_slitBy_105 (fun z σ2 hq => ?_)
        obtain ⟨rfl, hq⟩ := hq
        rw [hq]; clear hq
        rw [if_neg (by omega)]
        refine is_5 (pc := 108) C (by omega) (by omega) (by omega) dX0_slitBy_108 ?_
        refine o_aload_n (pc := 109) C dX0_slitBy_109 rfl ?_
        refine o_dup (pc := 110) C dX0_slitBy_110 rfl ?_
        refine gf_X0_52 (pc := 111) C (by omega) dX0_slitBy_111 ?_
        rw [e13]
        refine o_aload_n (pc := 114) C dX0_slitBy_114 rfl ?_
        refine gf_X0_37 (pc := 115) C (by omega) dX0_slitBy_115 ?_
        refine o_iload (pc := 118) C dX0_slitBy_118 rfl ?_
        refine ia_5 (pc := 120) C (by omega) (by omega) (by omega) dX0_slitBy_120 ?_
        rw [e5]
        refine o_isub (pc := 121) C dX0_slitBy_121 ?_
        refine pf_X0_52 (pc := 122) C (by omega) dX0_slitBy_122 ?_
        refine inc_5 (pc := 125) C dX0_slitBy_125 ?_
        refine o_goto (pc := 128) C (tgt := 63) dX0_slitBy_128 (by decide) ?_
        rw [show o_up (o_up (o_up (o_slit σ c a p t) 4 c b.toNat (σ 9 p t)) 5 c b.toNat (o_net σ c a * σ 9 p t / σ 1 c 0)) 1 c 13 (o_net σ c a - o_sum (o_wt σ c a p) t - o_wt σ c a p t) = o_slit σ c a p (t + 1) from by rw [eb]; exact o_slit_step]
        exact ih (t + 1) _ _ (by omega) (by omega) (by omega) rfl
  have hD1 : ∀ v, DB (o_up σ 1 c 11 v) c := fun v => by simpa [DB, o_up] using cd
  refine o_aload_n (pc := 0) C dX0_slitBy_0 rfl ?_
  refine o_iload_n (pc := 1) C dX0_slitBy_1 rfl ?_
  refine o_aload_n (pc := 2) C dX0_slitBy_2 rfl ?_
  refine gf_X0_15 (pc := 3) C (by omega) dX0_slitBy_3 ?_
  try simp (disch := decide) only [o_up_s, o_up_k, o_up_j, o_bl_k, o_rw_k]
  refine o_min (pc := 6) C kw_15_5 kw_9_21 kw_8_11 kw_9_22 (by omega) (by omega) (Nat.le_of_ble_eq_true rfl) (by omega) dX0_slitBy_6 ?_
  rw [show (if σ 1 c 1 < a then σ 1 c 1 else a) = o_inner σ c a from rfl]
  refine pf_X0_46 (pc := 9) C (by omega) dX0_slitBy_9 ?_
  refine o_aload_n (pc := 12) C dX0_slitBy_12 rfl ?_
  refine gf_X0_15 (pc := 13) C (by omega) dX0_slitBy_13 ?_
  try simp (disch := decide) only [o_up_s, o_up_k, o_up_j, o_bl_k, o_rw_k]
  refine o_aload_n (pc := 16) C dX0_slitBy_16 rfl ?_
  refine gf_X0_46 (pc := 17) C (by omega) dX0_slitBy_17 ?_
  try simp (disch := decide) only [o_up_s, o_up_k, o_up_j, o_bl_k, o_rw_k]
  refine o_isub (pc := 20) C dX0_slitBy_20 ?_
  refine sti_3 (pc := 21) C dX0_slitBy_21 ?_
  refine o_aload_n (pc := 22) C dX0_slitBy_22 rfl ?_
  refine o_iload_n (pc := 23) C dX0_slitBy_23 rfl ?_
  refine o_aload_n (pc := 24) C dX0_slitBy_24 rfl ?_
  refine cl_X0_68 (pc := 25) C (c_X0_cutOutLength hc (hD1 _)) (by omega) (by omega) (by omega) (Nat.le_of_ble_eq_true rfl) dX0_slitBy_25 (fun z σ2 hq => ?_)
  obtain ⟨rfl, hq⟩ := hq
  rw [hq]; clear hq
  simp (disch := decide) only [o_up_s, o_up_k, o_up_j]
  rw [show (o_sw (σ 2 c) (σ 3 c) (σ 1 c 6).toNat).1 = o_cutl σ c from rfl]
  refine o_aload_n (pc := 28) C dX0_slitBy_28 rfl ?_
  refine gf_X0_18 (pc := 29) C (by omega) dX0_slitBy_29 ?_
  try simp (disch := decide) only [o_up_s, o_up_k, o_up_j, o_bl_k, o_rw_k]
  refine cl_X0_72 (pc := 32) C (c_X0_share (by omega) (by omega) (by omega) (by omega)) (by omega) (by omega) (Nat.le_of_ble_eq_true rfl) dX0_slitBy_32 (fun z σ2 hq => ?_)
  obtain ⟨rfl, hq⟩ := hq
  rw [hq]; clear hq
  rw [if_neg (by omega), show (σ 1 c 1 - o_inner σ c a) * o_cutl σ c / σ 1 c 2 = o_cut σ c a from rfl]
  refine pf_X0_49 (pc := 35) C (by omega) dX0_slitBy_35 ?_
  refine o_iload_n (pc := 38) C dX0_slitBy_38 rfl ?_
  refine o_aload_n (pc := 39) C dX0_slitBy_39 rfl ?_
  refine gf_X0_49 (pc := 40) C (by omega) dX0_slitBy_40 ?_
  try simp (disch := decide) only [o_up_s, o_up_k, o_up_j, o_bl_k, o_rw_k]
  refine o_isub (pc := 43) C dX0_slitBy_43 ?_
  refine sti_4 (pc := 44) C dX0_slitBy_44 ?_
  refine o_aload_n (pc := 46) C dX0_slitBy_46 rfl ?_
  refine o_iload (pc := 47) C dX0_slitBy_47 rfl ?_
  refine pf_X0_52 (pc := 49) C (by omega) dX0_slitBy_49 ?_
  refine o_aload_n (pc := 52) C dX0_slitBy_52 rfl ?_
  refine o_aload_n (pc := 53) C dX0_slitBy_53 rfl ?_
  refine gf_X0_76 (pc := 54) C (by omega) dX0_slitBy_54 ?_
  try simp (disch := decide) only [o_up_s, o_up_k, o_up_j, o_bl_k, o_rw_k]
  refine pf_X0_43 (pc := 57) C (by omega) dX0_slitBy_57 ?_
  refine o_iconst (pc := 60) C dX0_slitBy_60 ?_
  refine sti_5 (pc := 61) C dX0_slitBy_61 ?_
  rw [show o_up (o_up (o_up (o_up σ 1 c 11 (o_inner σ c a)) 1 c 12 (o_cut σ c a)) 1 c 13 (σ 1 c 1 - o_inner σ c a - o_cut σ c a)) 1 c 10 (σ 8 p 1) = o_slit σ c a p 0 from o_slit_zero]
  exact L 16 0 _ _ (by omega) (by omega) rfl rfl
