/-! THE MODEL -/
abbrev b2i (P : Prop) [Decidable P] : Int := if P then 1 else 0
abbrev mkC (σ : oMem) (a : Int) : Prop := 0 ≤ a ∧ a ≤ σ 24 0 4 - 1
abbrev mkP (σ : oMem) (a : Int) : Prop := 0 ≤ a ∧ a ≤ σ 24 0 18 - 1
theorem b2i_t {P : Prop} [Decidable P] (h : P) : (1 : Int) = b2i P := (if_pos h).symm
theorem b2i_f {P : Prop} [Decidable P] (h : ¬ P) : (0 : Int) = b2i P := (if_neg h).symm
set_option maxRecDepth 100000 in
set_option maxHeartbeats 4000000 in
theorem c_X6_in {l : Launch} {g : oG} {σ : oMem} {v a b : Int} (h0 : InR v) (h1 : InR a) (h2 : InR b) : oMi l g yX6_in (.code yX6_in cX6_in 3 (some .boolean)) 1 0 [oi v, oi a, oi b] σ (fun z σ' => z = b2i (a ≤ v ∧ v ≤ b) ∧ σ' = σ) := by
  refine oMi_of (own := RX6) (by decide +kernel) rfl (by simp [oi, Value.category]) (by simp) (fun x C E => ?_)
  show oW l g x σ 0 [some (oi v), some (oi a), some (oi b)] [] 0
  refine o_iload_n (pc := 0) C dX6_in_0 rfl ?_
  refine o_iload_n (pc := 1) C dX6_in_1 rfl ?_
  refine o_icmp_lt (pc := 2) C (tgt := 14) dX6_in_2 (by decide) (by omega) (by omega) (fun h2 => ?_) (fun h2 => ?_)
  · refine o_iconst (pc := 14) C dX6_in_14 ?_
    exact E _ _ _ _ _ dX6_in_15 rfl ⟨by first | exact b2i_t (by omega) | exact b2i_f (by omega), rfl⟩ (by omega)
  · refine o_iload_n (pc := 5) C dX6_in_5 rfl ?_
    refine o_iload_n (pc := 6) C dX6_in_6 rfl ?_
    refine o_icmp_gt (pc := 7) C (tgt := 14) dX6_in_7 (by decide) (by omega) (by omega) (fun h7 => ?_) (fun h7 => ?_)
    · refine o_iconst (pc := 14) C dX6_in_14 ?_
      exact E _ _ _ _ _ dX6_in_15 rfl ⟨by first | exact b2i_t (by omega) | exact b2i_f (by omega), rfl⟩ (by omega)
    · refine o_iconst (pc := 10) C dX6_in_10 ?_
      refine o_goto (pc := 11) C (tgt := 15) dX6_in_11 (by decide) ?_
      exact E _ _ _ _ _ dX6_in_15 rfl ⟨by first | exact b2i_t (by omega) | exact b2i_f (by omega), rfl⟩ (by omega)
set_option maxRecDepth 100000 in
set_option maxHeartbeats 4000000 in
theorem c_X6_asked {l : Launch} {g : oG} {σ : oMem} {P : Prop} [Decidable P]  : oMi l g yX6_asked (.code yX6_asked cX6_asked 2 (some .boolean)) 1 0 [.ref (g.2.1 24 0), oi (b2i P)] σ (fun z σ' => z = b2i P ∧ σ' = o_up σ 24 0 31 (if P then 0 else 1)) := by
  refine oMi_of (own := RX6) (by decide +kernel) rfl (by simp [oi, Value.category]) (by simp) (fun x C E => ?_)
  show oW l g x σ 0 [some (.ref (g.2.1 24 0)), some (oi (b2i P))] [] 0
  refine o_aload_n (pc := 0) C dX6_asked_0 rfl ?_
  refine o_iload_n (pc := 1) C dX6_asked_1 rfl ?_
  refine o_if_eq (pc := 2) C (tgt := 9) dX6_asked_2 (by decide) (by unfold b2i; split <;> omega) (fun h2 => ?_) (fun h2 => ?_)
  · refine o_iconst (pc := 9) C dX6_asked_9 ?_
    refine pf_X6_89 (pc := 10) C dX6_asked_10 ?_
    refine o_iload_n (pc := 13) C dX6_asked_13 rfl ?_
    first
    | (have q := o_f h2; exact E _ _ _ _ _ dX6_asked_14 (by rw [show b2i P = 0 from if_neg q]; rfl) ⟨rfl, by rw [if_neg q]⟩ (by omega))
    | (have q := o_t h2; exact E _ _ _ _ _ dX6_asked_14 (by rw [show b2i P = 1 from if_pos q]; rfl) ⟨rfl, by rw [if_pos q]⟩ (by omega))
  · refine o_iconst (pc := 5) C dX6_asked_5 ?_
    refine o_goto (pc := 6) C (tgt := 10) dX6_asked_6 (by decide) ?_
    refine pf_X6_89 (pc := 10) C dX6_asked_10 ?_
    refine o_iload_n (pc := 13) C dX6_asked_13 rfl ?_
    first
    | (have q := o_f h2; exact E _ _ _ _ _ dX6_asked_14 (by rw [show b2i P = 0 from if_neg q]; rfl) ⟨rfl, by rw [if_neg q]⟩ (by omega))
    | (have q := o_t h2; exact E _ _ _ _ _ dX6_asked_14 (by rw [show b2i P = 1 from if_pos q]; rfl) ⟨rfl, by rw [if_pos q]⟩ (by omega))
set_option maxRecDepth 100000 in
set_option maxHeartbeats 4000000 in
theorem c_X6_asked_ {l : Launch} {g : oG} {σ : oMem} {P Q : Prop} [Decidable P] [Decidable Q]  : oMi l g yX6_asked_ (.code yX6_asked_ cX6_asked_ 3 (some .boolean)) 1 0 [.ref (g.2.1 24 0), oi (b2i P), oi (b2i Q)] σ (fun z σ' => z = b2i (P ∧ Q) ∧ σ' = o_up σ 24 0 31 (if P then (if Q then 0 else 2) else 1)) := by
  refine oMi_of (own := RX6) (by decide +kernel) rfl (by simp [oi, Value.category]) (by simp) (fun x C E => ?_)
  show oW l g x σ 0 [some (.ref (g.2.1 24 0)), some (oi (b2i P)), some (oi (b2i Q))] [] 0
  refine o_aload_n (pc := 0) C dX6_asked__0 rfl ?_
  refine o_iload_n (pc := 1) C dX6_asked__1 rfl ?_
  refine o_if_ne (pc := 2) C (tgt := 9) dX6_asked__2 (by decide) (by unfold b2i; split <;> omega) (fun h2 => ?_) (fun h2 => ?_)
  · refine o_iload_n (pc := 9) C dX6_asked__9 rfl ?_
    refine o_if_eq (pc := 10) C (tgt := 17) dX6_asked__10 (by decide) (by unfold b2i; split <;> omega) (fun h10 => ?_) (fun h10 => ?_)
    · refine o_iconst (pc := 17) C dX6_asked__17 ?_
      refine pf_X6_89 (pc := 18) C dX6_asked__18 ?_
      refine o_aload_n (pc := 21) C dX6_asked__21 rfl ?_
      refine gf_X6_89 (pc := 22) C dX6_asked__22 ?_
      try simp (disch := decide) only [o_up_s, o_up_k, o_up_j, o_bl_k, o_rw_k]
      refine o_if_ne (pc := 25) C (tgt := 32) dX6_asked__25 (by decide) (by omega) (fun h25 => ?_) (fun h25 => ?_)
      · refine o_iconst (pc := 32) C dX6_asked__32 ?_
        first
        | (exfalso; omega)
        | (have q := o_f h2; exact E _ _ _ _ _ dX6_asked__33 rfl ⟨b2i_f (fun y => q y.1), by rw [if_neg q]⟩ (by omega))
        | (have q2 := o_f h10; have q := o_t h2; exact E _ _ _ _ _ dX6_asked__33 rfl ⟨b2i_f (fun y => q2 y.2), by rw [if_pos q, if_neg q2]⟩ (by omega))
        | (have q2 := o_t h10; have q := o_t h2; exact E _ _ _ _ _ dX6_asked__33 rfl ⟨b2i_t ⟨q, q2⟩, by rw [if_pos q, if_pos q2]⟩ (by omega))
      · refine o_iconst (pc := 28) C dX6_asked__28 ?_
        refine o_goto (pc := 29) C (tgt := 33) dX6_asked__29 (by decide) ?_
        first
        | (exfalso; omega)
        | (have q := o_f h2; exact E _ _ _ _ _ dX6_asked__33 rfl ⟨b2i_f (fun y => q y.1), by rw [if_neg q]⟩ (by omega))
        | (have q2 := o_f h10; have q := o_t h2; exact E _ _ _ _ _ dX6_asked__33 rfl ⟨b2i_f (fun y => q2 y.2), by rw [if_pos q, if_neg q2]⟩ (by omega))
        | (have q2 := o_t h10; have q := o_t h2; exact E _ _ _ _ _ dX6_asked__33 rfl ⟨b2i_t ⟨q, q2⟩, by rw [if_pos q, if_pos q2]⟩ (by omega))
    · refine o_iconst (pc := 13) C dX6_asked__13 ?_
      refine o_goto (pc := 14) C (tgt := 18) dX6_asked__14 (by decide) ?_
      refine pf_X6_89 (pc := 18) C dX6_asked__18 ?_
      refine o_aload_n (pc := 21) C dX6_asked__21 rfl ?_
      refine gf_X6_89 (pc := 22) C dX6_asked__22 ?_
      try simp (disch := decide) only [o_up_s, o_up_k, o_up_j, o_bl_k, o_rw_k]
      refine o_if_ne (pc := 25) C (tgt := 32) dX6_asked__25 (by decide) (by omega) (fun h25 => ?_) (fun h25 => ?_)
      · refine o_iconst (pc := 32) C dX6_asked__32 ?_
        first
        | (exfalso; omega)
        | (have q := o_f h2; exact E _ _ _ _ _ dX6_asked__33 rfl ⟨b2i_f (fun y => q y.1), by rw [if_neg q]⟩ (by omega))
        | (have q2 := o_f h10; have q := o_t h2; exact E _ _ _ _ _ dX6_asked__33 rfl ⟨b2i_f (fun y => q2 y.2), by rw [if_pos q, if_neg q2]⟩ (by omega))
        | (have q2 := o_t h10; have q := o_t h2; exact E _ _ _ _ _ dX6_asked__33 rfl ⟨b2i_t ⟨q, q2⟩, by rw [if_pos q, if_pos q2]⟩ (by omega))
      · refine o_iconst (pc := 28) C dX6_asked__28 ?_
        refine o_goto (pc := 29) C (tgt := 33) dX6_asked__29 (by decide) ?_
        first
        | (exfalso; omega)
        | (have q := o_f h2; exact E _ _ _ _ _ dX6_asked__33 rfl ⟨b2i_f (fun y => q y.1), by rw [if_neg q]⟩ (by omega))
        | (have q2 := o_f h10; have q := o_t h2; exact E _ _ _ _ _ dX6_asked__33 rfl ⟨b2i_f (fun y => q2 y.2), by rw [if_pos q, if_neg q2]⟩ (by omega))
        | (have q2 := o_t h10; have q := o_t h2; exact E _ _ _ _ _ dX6_asked__33 rfl ⟨b2i_t ⟨q, q2⟩, by rw [if_pos q, if_pos q2]⟩ (by omega))
  · refine o_iconst (pc := 5) C dX6_asked__5 ?_
    refine o_goto (pc := 6) C (tgt := 18) dX6_asked__6 (by decide) ?_
    refine pf_X6_89 (pc := 18) C dX6_asked__18 ?_
    refine o_aload_n (pc := 21) C dX6_asked__21 rfl ?_
    refine gf_X6_89 (pc := 22) C dX6_asked__22 ?_
    try simp (disch := decide) only [o_up_s, o_up_k, o_up_j, o_bl_k, o_rw_k]
    refine o_if_ne (pc := 25) C (tgt := 32) dX6_asked__25 (by decide) (by omega) (fun h25 => ?_) (fun h25 => ?_)
    · refine o_iconst (pc := 32) C dX6_asked__32 ?_
      first
      | (exfalso; omega)
      | (have q := o_f h2; exact E _ _ _ _ _ dX6_asked__33 rfl ⟨b2i_f (fun y => q y.1), by rw [if_neg q]⟩ (by omega))
      | (have q2 := o_f h10; have q := o_t h2; exact E _ _ _ _ _ dX6_asked__33 rfl ⟨b2i_f (fun y => q2 y.2), by rw [if_pos q, if_neg q2]⟩ (by omega))
      | (have q2 := o_t h10; have q := o_t h2; exact E _ _ _ _ _ dX6_asked__33 rfl ⟨b2i_t ⟨q, q2⟩, by rw [if_pos q, if_pos q2]⟩ (by omega))
    · refine o_iconst (pc := 28) C dX6_asked__28 ?_
      refine o_goto (pc := 29) C (tgt := 33) dX6_asked__29 (by decide) ?_
      first
      | (exfalso; omega)
      | (have q := o_f h2; exact E _ _ _ _ _ dX6_asked__33 rfl ⟨b2i_f (fun y => q y.1), by rw [if_neg q]⟩ (by omega))
      | (have q2 := o_f h10; have q := o_t h2; exact E _ _ _ _ _ dX6_asked__33 rfl ⟨b2i_f (fun y => q2 y.2), by rw [if_pos q, if_neg q2]⟩ (by omega))
      | (have q2 := o_t h10; have q := o_t h2; exact E _ _ _ _ _ dX6_asked__33 rfl ⟨b2i_t ⟨q, q2⟩, by rw [if_pos q, if_pos q2]⟩ (by omega))
set_option maxRecDepth 100000 in
set_option maxHeartbeats 4000000 in
theorem c_X6_asked__ {l : Launch} {g : oG} {σ : oMem} {P Q S : Prop} [Decidable P] [Decidable Q] [Decidable S]  : oMi l g yX6_asked__ (.code yX6_asked__ cX6_asked__ 4 (some .boolean)) 1 0 [.ref (g.2.1 24 0), oi (b2i P), oi (b2i Q), oi (b2i S)] σ (fun z σ' => z = b2i (P ∧ Q ∧ S) ∧ σ' = o_up σ 24 0 31 (if P then (if Q then (if S then 0 else 3) else 2) else 1)) := by
  refine oMi_of (own := RX6) (by decide +kernel) rfl (by simp [oi, Value.category]) (by simp) (fun x C E => ?_)
  show oW l g x σ 0 [some (.ref (g.2.1 24 0)), some (oi (b2i P)), some (oi (b2i Q)), some (oi (b2i S))] [] 0
  refine o_aload_n (pc := 0) C dX6_asked___0 rfl ?_
  refine o_iload_n (pc := 1) C dX6_asked___1 rfl ?_
  refine o_if_ne (pc := 2) C (tgt := 9) dX6_asked___2 (by decide) (by unfold b2i; split <;> omega) (fun h2 => ?_) (fun h2 => ?_)
  · refine o_iload_n (pc := 9) C dX6_asked___9 rfl ?_
    refine o_if_ne (pc := 10) C (tgt := 17) dX6_asked___10 (by decide) (by unfold b2i; split <;> omega) (fun h10 => ?_) (fun h10 => ?_)
    · refine o_iload_n (pc := 17) C dX6_asked___17 rfl ?_
      refine o_if_eq (pc := 18) C (tgt := 25) dX6_asked___18 (by decide) (by unfold b2i; split <;> omega) (fun h18 => ?_) (fun h18 => ?_)
      · refine o_iconst (pc := 25) C dX6_asked___25 ?_
        refine pf_X6_89 (pc := 26) C dX6_asked___26 ?_
        refine o_aload_n (pc := 29) C dX6_asked___29 rfl ?_
        refine gf_X6_89 (pc := 30) C dX6_asked___30 ?_
        try simp (disch := decide) only [o_up_s, o_up_k, o_up_j, o_bl_k, o_rw_k]
        refine o_if_ne (pc := 33) C (tgt := 40) dX6_asked___33 (by decide) (by omega) (fun h33 => ?_) (fun h33 => ?_)
        · refine o_iconst (pc := 40) C dX6_asked___40 ?_
          first
          | (exfalso; omega)
          | (have q := o_f h2; exact E _ _ _ _ _ dX6_asked___41 rfl ⟨b2i_f (fun y => q y.1), by rw [if_neg q]⟩ (by omega))
          | (have q2 := o_f h10; have q := o_t h2; exact E _ _ _ _ _ dX6_asked___41 rfl ⟨b2i_f (fun y => q2 y.2.1), by rw [if_pos q, if_neg q2]⟩ (by omega))
          | (have q3 := o_f h18; have q2 := o_t h10; have q := o_t h2; exact E _ _ _ _ _ dX6_asked___41 rfl ⟨b2i_f (fun y => q3 y.2.2), by rw [if_pos q, if_pos q2, if_neg q3]⟩ (by omega))
          | (have q3 := o_t h18; have q2 := o_t h10; have q := o_t h2; exact E _ _ _ _ _ dX6_asked___41 rfl ⟨b2i_t ⟨q, q2, q3⟩, by rw [if_pos q, if_pos q2, if_pos q3]⟩ (by omega))
        · refine o_iconst (pc := 36) C dX6_asked___36 ?_
          refine o_goto (pc := 37) C (tgt := 41) dX6_asked___37 (by decide) ?_
          first
          | (exfalso; omega)
          | (have q := o_f h2; exact E _ _ _ _ _ dX6_asked___41 rfl ⟨b2i_f (fun y => q y.1), by rw [if_neg q]⟩ (by omega))
          | (have q2 := o_f h10; have q := o_t h2; exact E _ _ _ _ _ dX6_asked___41 rfl ⟨b2i_f (fun y => q2 y.2.1), by rw [if_pos q, if_neg q2]⟩ (by omega))
          | (have q3 := o_f h18; have q2 := o_t h10; have q := o_t h2; exact E _ _ _ _ _ dX6_asked___41 rfl ⟨b2i_f (fun y => q3 y.2.2), by rw [if_pos q, if_pos q2, if_neg q3]⟩ (by omega))
          | (have q3 := o_t h18; have q2 := o_t h10; have q := o_t h2; exact E _ _ _ _ _ dX6_asked___41 rfl ⟨b2i_t ⟨q, q2, q3⟩, by rw [if_pos q, if_pos q2, if_pos q3]⟩ (by omega))
      · refine o_iconst (pc := 21) C dX6_asked___21 ?_
        refine o_goto (pc := 22) C (tgt := 26) dX6_asked___22 (by decide) ?_
        refine pf_X6_89 (pc := 26) C dX6_asked___26 ?_
        refine o_aload_n (pc := 29) C dX6_asked___29 rfl ?_
        refine gf_X6_89 (pc := 30) C dX6_asked___30 ?_
        try simp (disch := decide) only [o_up_s, o_up_k, o_up_j, o_bl_k, o_rw_k]
        refine o_if_ne (pc := 33) C (tgt := 40) dX6_asked___33 (by decide) (by omega) (fun h33 => ?_) (fun h33 => ?_)
        · refine o_iconst (pc := 40) C dX6_asked___40 ?_
          first
          | (exfalso; omega)
          | (have q := o_f h2; exact E _ _ _ _ _ dX6_asked___41 rfl ⟨b2i_f (fun y => q y.1), by rw [if_neg q]⟩ (by omega))
          | (have q2 := o_f h10; have q := o_t h2; exact E _ _ _ _ _ dX6_asked___41 rfl ⟨b2i_f (fun y => q2 y.2.1), by rw [if_pos q, if_neg q2]⟩ (by omega))
          | (have q3 := o_f h18; have q2 := o_t h10; have q := o_t h2; exact E _ _ _ _ _ dX6_asked___41 rfl ⟨b2i_f (fun y => q3 y.2.2), by rw [if_pos q, if_pos q2, if_neg q3]⟩ (by omega))
          | (have q3 := o_t h18; have q2 := o_t h10; have q := o_t h2; exact E _ _ _ _ _ dX6_asked___41 rfl ⟨b2i_t ⟨q, q2, q3⟩, by rw [if_pos q, if_pos q2, if_pos q3]⟩ (by omega))
        · refine o_iconst (pc := 36) C dX6_asked___36 ?_
          refine o_goto (pc := 37) C (tgt := 41) dX6_asked___37 (by decide) ?_
          first
          | (exfalso; omega)
          | (have q := o_f h2; exact E _ _ _ _ _ dX6_asked___41 rfl ⟨b2i_f (fun y => q y.1), by rw [if_neg q]⟩ (by omega))
          | (have q2 := o_f h10; have q := o_t h2; exact E _ _ _ _ _ dX6_asked___41 rfl ⟨b2i_f (fun y => q2 y.2.1), by rw [if_pos q, if_neg q2]⟩ (by omega))
          | (have q3 := o_f h18; have q2 := o_t h10; have q := o_t h2; exact E _ _ _ _ _ dX6_asked___41 rfl ⟨b2i_f (fun y => q3 y.2.2), by rw [if_pos q, if_pos q2, if_neg q3]⟩ (by omega))
          | (have q3 := o_t h18; have q2 := o_t h10; have q := o_t h2; exact E _ _ _ _ _ dX6_asked___41 rfl ⟨b2i_t ⟨q, q2, q3⟩, by rw [if_pos q, if_pos q2, if_pos q3]⟩ (by omega))
    · refine o_iconst (pc := 13) C dX6_asked___13 ?_
      refine o_goto (pc := 14) C (tgt := 26) dX6_asked___14 (by decide) ?_
      refine pf_X6_89 (pc := 26) C dX6_asked___26 ?_
      refine o_aload_n (pc := 29) C dX6_asked___29 rfl ?_
      refine gf_X6_89 (pc := 30) C dX6_asked___30 ?_
      try simp (disch := decide) only [o_up_s, o_up_k, o_up_j, o_bl_k, o_rw_k]
      refine o_if_ne (pc := 33) C (tgt := 40) dX6_asked___33 (by decide) (by omega) (fun h33 => ?_) (fun h33 => ?_)
      · refine o_iconst (pc := 40) C dX6_asked___40 ?_
        first
        | (exfalso; omega)
        | (have q := o_f h2; exact E _ _ _ _ _ dX6_asked___41 rfl ⟨b2i_f (fun y => q y.1), by rw [if_neg q]⟩ (by omega))
        | (have q2 := o_f h10; have q := o_t h2; exact E _ _ _ _ _ dX6_asked___41 rfl ⟨b2i_f (fun y => q2 y.2.1), by rw [if_pos q, if_neg q2]⟩ (by omega))
        | (have q3 := o_f h18; have q2 := o_t h10; have q := o_t h2; exact E _ _ _ _ _ dX6_asked___41 rfl ⟨b2i_f (fun y => q3 y.2.2), by rw [if_pos q, if_pos q2, if_neg q3]⟩ (by omega))
        | (have q3 := o_t h18; have q2 := o_t h10; have q := o_t h2; exact E _ _ _ _ _ dX6_asked___41 rfl ⟨b2i_t ⟨q, q2, q3⟩, by rw [if_pos q, if_pos q2, if_pos q3]⟩ (by omega))
      · refine o_iconst (pc := 36) C dX6_asked___36 ?_
        refine o_goto (pc := 37) C (tgt := 41) dX6_asked___37 (by decide) ?_
        first
        | (exfalso; omega)
        | (have q := o_f h2; exact E _ _ _ _ _ dX6_asked___41 rfl ⟨b2i_f (fun y => q y.1), by rw [if_neg q]⟩ (by omega))
        | (have q2 := o_f h10; have q := o_t h2; exact E _ _ _ _ _ dX6_asked___41 rfl ⟨b2i_f (fun y => q2 y.2.1), by rw [if_pos q, if_neg q2]⟩ (by omega))
        | (have q3 := o_f h18; have q2 := o_t h10; have q := o_t h2; exact E _ _ _ _ _ dX6_asked___41 rfl ⟨b2i_f (fun y => q3 y.2.2), by rw [if_pos q, if_pos q2, if_neg q3]⟩ (by omega))
        | (have q3 := o_t h18; have q2 := o_t h10; have q := o_t h2; exact E _ _ _ _ _ dX6_asked___41 rfl ⟨b2i_t ⟨q, q2, q3⟩, by rw [if_pos q, if_pos q2, if_pos q3]⟩ (by omega))
  · refine o_iconst (pc := 5) C dX6_asked___5 ?_
    refine o_goto (pc := 6) C (tgt := 26) dX6_asked___6 (by decide) ?_
    refine pf_X6_89 (pc := 26) C dX6_asked___26 ?_
    refine o_aload_n (pc := 29) C dX6_asked___29 rfl ?_
    refine gf_X6_89 (pc := 30) C dX6_asked___30 ?_
    try simp (disch := decide) only [o_up_s, o_up_k, o_up_j, o_bl_k, o_rw_k]
    refine o_if_ne (pc := 33) C (tgt := 40) dX6_asked___33 (by decide) (by omega) (fun h33 => ?_) (fun h33 => ?_)
    · refine o_iconst (pc := 40) C dX6_asked___40 ?_
      first
      | (exfalso; omega)
      | (have q := o_f h2; exact E _ _ _ _ _ dX6_asked___41 rfl ⟨b2i_f (fun y => q y.1), by rw [if_neg q]⟩ (by omega))
      | (have q2 := o_f h10; have q := o_t h2; exact E _ _ _ _ _ dX6_asked___41 rfl ⟨b2i_f (fun y => q2 y.2.1), by rw [if_pos q, if_neg q2]⟩ (by omega))
      | (have q3 := o_f h18; have q2 := o_t h10; have q := o_t h2; exact E _ _ _ _ _ dX6_asked___41 rfl ⟨b2i_f (fun y => q3 y.2.2), by rw [if_pos q, if_pos q2, if_neg q3]⟩ (by omega))
      | (have q3 := o_t h18; have q2 := o_t h10; have q := o_t h2; exact E _ _ _ _ _ dX6_asked___41 rfl ⟨b2i_t ⟨q, q2, q3⟩, by rw [if_pos q, if_pos q2, if_pos q3]⟩ (by omega))
    · refine o_iconst (pc := 36) C dX6_asked___36 ?_
      refine o_goto (pc := 37) C (tgt := 41) dX6_asked___37 (by decide) ?_
      first
      | (exfalso; omega)
      | (have q := o_f h2; exact E _ _ _ _ _ dX6_asked___41 rfl ⟨b2i_f (fun y => q y.1), by rw [if_neg q]⟩ (by omega))
      | (have q2 := o_f h10; have q := o_t h2; exact E _ _ _ _ _ dX6_asked___41 rfl ⟨b2i_f (fun y => q2 y.2.1), by rw [if_pos q, if_neg q2]⟩ (by omega))
      | (have q3 := o_f h18; have q2 := o_t h10; have q := o_t h2; exact E _ _ _ _ _ dX6_asked___41 rfl ⟨b2i_f (fun y => q3 y.2.2), by rw [if_pos q, if_pos q2, if_neg q3]⟩ (by omega))
      | (have q3 := o_t h18; have q2 := o_t h10; have q := o_t h2; exact E _ _ _ _ _ dX6_asked___41 rfl ⟨b2i_t ⟨q, q2, q3⟩, by rw [if_pos q, if_pos q2, if_pos q3]⟩ (by omega))
set_option maxRecDepth 100000 in
set_option maxHeartbeats 4000000 in
theorem c_X6_told {l : Launch} {g : oG} {σ : oMem} {a : Int}  : oMi l g yX6_told (.code yX6_told cX6_told 2 (some .int)) 1 0 [.ref (g.2.1 24 0), oi a] σ (fun z σ' => z = a ∧ σ' = o_up σ 24 0 31 0) := by
  refine oMi_of (own := RX6) (by decide +kernel) rfl (by simp [oi, Value.category]) (by simp) (fun x C E => ?_)
  show oW l g x σ 0 [some (.ref (g.2.1 24 0)), some (oi a)] [] 0
  refine o_aload_n (pc := 0) C dX6_told_0 rfl ?_
  refine o_iconst (pc := 1) C dX6_told_1 ?_
  refine pf_X6_89 (pc := 2) C dX6_told_2 ?_
  refine o_iload_n (pc := 5) C dX6_told_5 rfl ?_
  exact E _ _ _ _ _ dX6_told_6 rfl ⟨rfl, rfl⟩ (by omega)
set_option maxRecDepth 100000 in
set_option maxHeartbeats 4000000 in
theorem c_X6_thrown {l : Launch} {g : oG} {σ : oMem}   : oMi l g yX6_thrown (.code yX6_thrown cX6_thrown 1 (some .int)) 1 0 [.ref (g.2.1 24 0)] σ (fun z σ' => z = σ 24 0 31 ∧ σ' = σ) := by
  refine oMi_of (own := RX6) (by decide +kernel) rfl (by simp [oi, Value.category]) (by simp) (fun x C E => ?_)
  show oW l g x σ 0 [some (.ref (g.2.1 24 0))] [] 0
  refine o_aload_n (pc := 0) C dX6_thrown_0 rfl ?_
  refine gf_X6_89 (pc := 1) C dX6_thrown_1 ?_
  exact E _ _ _ _ _ dX6_thrown_4 rfl ⟨rfl, rfl⟩ (by omega)
set_option maxRecDepth 100000 in
set_option maxHeartbeats 4000000 in
theorem c_X6_isCoil {l : Launch} {g : oG} {σ : oMem} {a : Int} (h0 : InR a) (h1 : 0 ≤ σ 24 0 4 ∧ σ 24 0 4 ≤ 20) : oMi l g yX6_isCoil (.code yX6_isCoil cX6_isCoil 2 (some .boolean)) 2 0 [.ref (g.2.1 24 0), oi a] σ (fun z σ' => z = b2i (mkC σ a) ∧ σ' = σ) := by
  refine oMi_of (own := RX6) (by decide +kernel) rfl (by simp [oi, Value.category]) (by simp) (fun x C E => ?_)
  show oW l g x σ 0 [some (.ref (g.2.1 24 0)), some (oi a)] [] 0
  refine o_iload_n (pc := 0) C dX6_isCoil_0 rfl ?_
  refine o_iconst (pc := 1) C dX6_isCoil_1 ?_
  refine o_aload_n (pc := 2) C dX6_isCoil_2 rfl ?_
  refine gf_X6_92 (pc := 3) C dX6_isCoil_3 ?_
  refine o_iconst (pc := 6) C dX6_isCoil_6 ?_
  refine o_isub (pc := 7) C dX6_isCoil_7 ?_
  refine cl_X6_95 (pc := 8) C (c_X6_in h0 (by omega) (by omega)) (by omega) (by omega) (Nat.le_of_ble_eq_true rfl) dX6_isCoil_8 (fun z σ2 hq => ?_)
  obtain ⟨rfl, hq⟩ := hq
  rw [hq]; clear hq
  exact E _ _ _ _ _ dX6_isCoil_11 (by unfold b2i; split <;> rfl) ⟨rfl, rfl⟩ (by omega)
set_option maxRecDepth 100000 in
set_option maxHeartbeats 4000000 in
theorem c_X6_isPattern {l : Launch} {g : oG} {σ : oMem} {a : Int} (h0 : InR a) (h1 : 0 ≤ σ 24 0 18 ∧ σ 24 0 18 ≤ 10) : oMi l g yX6_isPattern (.code yX6_isPattern cX6_isPattern 2 (some .boolean)) 2 0 [.ref (g.2.1 24 0), oi a] σ (fun z σ' => z = b2i (mkP σ a) ∧ σ' = σ) := by
  refine oMi_of (own := RX6) (by decide +kernel) rfl (by simp [oi, Value.category]) (by simp) (fun x C E => ?_)
  show oW l g x σ 0 [some (.ref (g.2.1 24 0)), some (oi a)] [] 0
  refine o_iload_n (pc := 0) C dX6_isPattern_0 rfl ?_
  refine o_iconst (pc := 1) C dX6_isPattern_1 ?_
  refine o_aload_n (pc := 2) C dX6_isPattern_2 rfl ?_
  refine gf_X6_99 (pc := 3) C dX6_isPattern_3 ?_
  refine o_iconst (pc := 6) C dX6_isPattern_6 ?_
  refine o_isub (pc := 7) C dX6_isPattern_7 ?_
  refine cl_X6_95 (pc := 8) C (c_X6_in h0 (by omega) (by omega)) (by omega) (by omega) (Nat.le_of_ble_eq_true rfl) dX6_isPattern_8 (fun z σ2 hq => ?_)
  obtain ⟨rfl, hq⟩ := hq
  rw [hq]; clear hq
  exact E _ _ _ _ _ dX6_isPattern_11 (by unfold b2i; split <;> rfl) ⟨rfl, rfl⟩ (by omega)
set_option maxRecDepth 100000 in
set_option maxHeartbeats 4000000 in
theorem c_X6_coil {l : Launch} {g : oG} {σ : oMem} {a b d e : Int} (h0 : 0 ≤ σ 24 0 4 ∧ σ 24 0 4 ≤ 20) (h1 : InR a) (h2 : InR b) (h3 : InR d) (h4 : InR e) : oMi l g yX6_coil (.code yX6_coil cX6_coil 6 (some .int)) 3 0 [.ref (g.2.1 24 0), oi a, oi b, oi d, oi e] σ (fun z σ' => if ((100 ≤ a ∧ a ≤ 2000) ∧ (1 ≤ b ∧ b ≤ 30000) ∧ (10 ≤ d ∧ d ≤ 5000) ∧ (1 ≤ e ∧ e ≤ 99)) ∧ σ 24 0 4 < 20 then z = σ 24 0 4 ∧ σ' = o_up (o_up (o_up (o_up (o_up (o_up (o_up σ 24 0 31 0) 25 0 (σ 24 0 4).toNat a) 26 0 (σ 24 0 4).toNat b) 27 0 (σ 24 0 4).toNat d) 28 0 (σ 24 0 4).toNat e) 38 0 (σ 24 0 4).toNat (-1)) 24 0 4 (σ 24 0 4 + 1) else σ' = o_up σ 24 0 31 (if ((100 ≤ a ∧ a ≤ 2000) ∧ (1 ≤ b ∧ b ≤ 30000) ∧ (10 ≤ d ∧ d ≤ 5000) ∧ (1 ≤ e ∧ e ≤ 99)) then (if σ 24 0 4 < 20 then 0 else 2) else 1)) := by
  refine oMi_of (own := RX6) (by decide +kernel) rfl (by simp [oi, Value.category]) (by simp) (fun x C E => ?_)
  show oW l g x σ 0 [some (.ref (g.2.1 24 0)), some (oi a), some (oi b), some (oi d), some (oi e), none] [] 0
  have K70 : ∀ (v w : Int) (r : Option Value), v = b2i ((100 ≤ a ∧ a ≤ 2000) ∧ (1 ≤ b ∧ b ≤ 30000) ∧ (10 ≤ d ∧ d ≤ 5000) ∧ (1 ≤ e ∧ e ≤ 99)) → w = b2i (σ 24 0 4 < 20) → oW l g x σ 70 [some (.ref (g.2.1 24 0)), some (oi a), some (oi b), some (oi d), some (oi e), r] [oi w, oi v, .ref (g.2.1 24 0)] 0 := by
    intro v w r hv hw
    subst hv hw
    refine cl_X6_102 (pc := 70) C (c_X6_asked_ (P := ((100 ≤ a ∧ a ≤ 2000) ∧ (1 ≤ b ∧ b ≤ 30000) ∧ (10 ≤ d ∧ d ≤ 5000) ∧ (1 ≤ e ∧ e ≤ 99))) (Q := σ 24 0 4 < 20)) (by omega) (by omega) (Nat.le_of_ble_eq_true rfl) dX6_coil_70 (fun z σ2 hq => ?_)
    obtain ⟨rfl, hq⟩ := hq
    rw [hq]; clear hq
    refine o_if_ne (pc := 73) C (tgt := 78) dX6_coil_73 (by decide) (by unfold b2i; split <;> omega) (fun h73 => ?_) (fun h73 => ?_)
    · have hq := o_t h73
      rw [if_pos hq.1, if_pos hq.2]
      refine o_aload_n (pc := 78) C dX6_coil_78 rfl ?_
      refine gf_X6_7 (pc := 79) C dX6_coil_79 ?_
      refine o_aload_n (pc := 82) C dX6_coil_82 rfl ?_
      refine gf_X6_92 (pc := 83) C dX6_coil_83 ?_
      try simp (disch := decide) only [o_up_s, o_up_k, o_up_j, o_bl_k, o_rw_k]
      refine o_iload_n (pc := 86) C dX6_coil_86 rfl ?_
      refine is_25 (pc := 87) C (by omega) (by omega) dX6_coil_87 ?_
      refine o_aload_n (pc := 88) C dX6_coil_88 rfl ?_
      refine gf_X6_13 (pc := 89) C dX6_coil_89 ?_
      refine o_aload_n (pc := 92) C dX6_coil_92 rfl ?_
      refine gf_X6_92 (pc := 93) C dX6_coil_93 ?_
      try simp (disch := decide) only [o_up_s, o_up_k, o_up_j, o_bl_k, o_rw_k]
      refine o_iload_n (pc := 96) C dX6_coil_96 rfl ?_
      refine is_26 (pc := 97) C (by omega) (by omega) dX6_coil_97 ?_
      refine o_aload_n (pc := 98) C dX6_coil_98 rfl ?_
      refine gf_X6_16 (pc := 99) C dX6_coil_99 ?_
      refine o_aload_n (pc := 102) C dX6_coil_102 rfl ?_
      refine gf_X6_92 (pc := 103) C dX6_coil_103 ?_
      try simp (disch := decide) only [o_up_s, o_up_k, o_up_j, o_bl_k, o_rw_k]
      refine o_iload_n (pc := 106) C dX6_coil_106 rfl ?_
      refine is_27 (pc := 107) C (by omega) (by omega) dX6_coil_107 ?_
      refine o_aload_n (pc := 108) C dX6_coil_108 rfl ?_
      refine gf_X6_19 (pc := 109) C dX6_coil_109 ?_
      refine o_aload_n (pc := 112) C dX6_coil_112 rfl ?_
      refine gf_X6_92 (pc := 113) C dX6_coil_113 ?_
      try simp (disch := decide) only [o_up_s, o_up_k, o_up_j, o_bl_k, o_rw_k]
      refine o_iload (pc := 116) C dX6_coil_116 rfl ?_
      refine is_28 (pc := 118) C (by omega) (by omega) dX6_coil_118 ?_
      refine o_aload_n (pc := 119) C dX6_coil_119 rfl ?_
      refine gf_X6_59 (pc := 120) C dX6_coil_120 ?_
      refine o_aload_n (pc := 123) C dX6_coil_123 rfl ?_
      refine gf_X6_92 (pc := 124) C dX6_coil_124 ?_
      try simp (disch := decide) only [o_up_s, o_up_k, o_up_j, o_bl_k, o_rw_k]
      refine o_iconst (pc := 127) C dX6_coil_127 ?_
      refine is_38 (pc := 128) C (by omega) (by omega) dX6_coil_128 ?_
      refine o_aload_n (pc := 129) C dX6_coil_129 rfl ?_
      refine o_dup (pc := 130) C dX6_coil_130 rfl ?_
      refine gf_X6_92 (pc := 131) C dX6_coil_131 ?_
      try simp (disch := decide) only [o_up_s, o_up_k, o_up_j, o_bl_k, o_rw_k]
      refine o_iconst (pc := 134) C dX6_coil_134 ?_
      refine o_iadd (pc := 135) C dX6_coil_135 ?_
      refine pf_X6_92 (pc := 136) C dX6_coil_136 ?_
      refine o_aload_n (pc := 139) C dX6_coil_139 rfl ?_
      refine gf_X6_92 (pc := 140) C dX6_coil_140 ?_
      try simp (disch := decide) only [o_up_s, o_up_k, o_up_j, o_bl_k, o_rw_k]
      refine o_iconst (pc := 143) C dX6_coil_143 ?_
      refine o_isub (pc := 144) C dX6_coil_144 ?_
      first
      | (have y := hq; exact E _ _ _ _ _ dX6_coil_145 rfl (by rw [if_pos hq]; exact ⟨by omega, rfl⟩) (by omega))
      | exact E _ _ _ _ _ dX6_coil_145 rfl (by rw [if_neg (o_f h73)]) (by omega)
    · refine o_iconst (pc := 76) C dX6_coil_76 ?_
      first
      | (have y := hq; exact E _ _ _ _ _ dX6_coil_77 rfl (by rw [if_pos hq]; exact ⟨by omega, rfl⟩) (by omega))
      | exact E _ _ _ _ _ dX6_coil_77 rfl (by rw [if_neg (o_f h73)]) (by omega)
  have K51 : ∀ v : Int, v = b2i ((100 ≤ a ∧ a ≤ 2000) ∧ (1 ≤ b ∧ b ≤ 30000) ∧ (10 ≤ d ∧ d ≤ 5000) ∧ (1 ≤ e ∧ e ≤ 99)) → oW l g x σ 51 [some (.ref (g.2.1 24 0)), some (oi a), some (oi b), some (oi d), some (oi e), none] [oi v] 0 := by
    intro v hv
    refine sti_5 (pc := 51) C dX6_coil_51 ?_
    refine o_aload_n (pc := 53) C dX6_coil_53 rfl ?_
    refine o_iload (pc := 54) C dX6_coil_54 rfl ?_
    refine o_aload_n (pc := 56) C dX6_coil_56 rfl ?_
    refine gf_X6_92 (pc := 57) C dX6_coil_57 ?_
    refine o_bipush (pc := 60) C dX6_coil_60 rfl ?_
    refine o_icmp_ge (pc := 62) C (tgt := 69) dX6_coil_62 (by decide) (by omega) (by omega) (fun h62 => ?_) (fun h62 => ?_)
    · refine o_iconst (pc := 69) C dX6_coil_69 ?_
      exact K70 _ _ _ hv (by first | exact b2i_t (by omega) | exact b2i_f (by omega))
    · refine o_iconst (pc := 65) C dX6_coil_65 ?_
      refine o_goto (pc := 66) C (tgt := 70) dX6_coil_66 (by decide) ?_
      exact K70 _ _ _ hv (by first | exact b2i_t (by omega) | exact b2i_f (by omega))
  refine o_iload_n (pc := 0) C dX6_coil_0 rfl ?_
  refine o_bipush (pc := 1) C dX6_coil_1 rfl ?_
  refine o_sipush (pc := 3) C dX6_coil_3 rfl ?_
  refine cl_X6_95 (pc := 6) C (c_X6_in (by omega) (by omega) (by omega)) (by omega) (by omega) (Nat.le_of_ble_eq_true rfl) dX6_coil_6 (fun z σ2 hq => ?_)
  obtain ⟨rfl, hq⟩ := hq
  rw [hq]; clear hq
  refine o_if_eq (pc := 9) C (tgt := 50) dX6_coil_9 (by decide) (by unfold b2i; split <;> omega) (fun h9 => ?_) (fun h9 => ?_)
  · refine o_iconst (pc := 50) C dX6_coil_50 ?_
    first
    | exact K51 _ (b2i_t ⟨o_t h9, o_t h20, o_t h32, o_t h43⟩)
    | exact K51 _ (b2i_f (fun q => o_f h9 q.1))
    | exact K51 _ (b2i_f (fun q => o_f h20 q.2.1))
    | exact K51 _ (b2i_f (fun q => o_f h32 q.2.2.1))
    | exact K51 _ (b2i_f (fun q => o_f h43 q.2.2.2))
  · refine o_iload_n (pc := 12) C dX6_coil_12 rfl ?_
    refine o_iconst (pc := 13) C dX6_coil_13 ?_
    refine o_sipush (pc := 14) C dX6_coil_14 rfl ?_
    refine cl_X6_95 (pc := 17) C (c_X6_in (by omega) (by omega) (by omega)) (by omega) (by omega) (Nat.le_of_ble_eq_true rfl) dX6_coil_17 (fun z σ2 hq => ?_)
    obtain ⟨rfl, hq⟩ := hq
    rw [hq]; clear hq
    refine o_if_eq (pc := 20) C (tgt := 50) dX6_coil_20 (by decide) (by unfold b2i; split <;> omega) (fun h20 => ?_) (fun h20 => ?_)
    · refine o_iconst (pc := 50) C dX6_coil_50 ?_
      first
      | exact K51 _ (b2i_t ⟨o_t h9, o_t h20, o_t h32, o_t h43⟩)
      | exact K51 _ (b2i_f (fun q => o_f h9 q.1))
      | exact K51 _ (b2i_f (fun q => o_f h20 q.2.1))
      | exact K51 _ (b2i_f (fun q => o_f h32 q.2.2.1))
      | exact K51 _ (b2i_f (fun q => o_f h43 q.2.2.2))
    · refine o_iload_n (pc := 23) C dX6_coil_23 rfl ?_
      refine o_bipush (pc := 24) C dX6_coil_24 rfl ?_
      refine o_sipush (pc := 26) C dX6_coil_26 rfl ?_
      refine cl_X6_95 (pc := 29) C (c_X6_in (by omega) (by omega) (by omega)) (by omega) (by omega) (Nat.le_of_ble_eq_true rfl) dX6_coil_29 (fun z σ2 hq => ?_)
      obtain ⟨rfl, hq⟩ := hq
      rw [hq]; clear hq
      refine o_if_eq (pc := 32) C (tgt := 50) dX6_coil_32 (by decide) (by unfold b2i; split <;> omega) (fun h32 => ?_) (fun h32 => ?_)
      · refine o_iconst (pc := 50) C dX6_coil_50 ?_
        first
        | exact K51 _ (b2i_t ⟨o_t h9, o_t h20, o_t h32, o_t h43⟩)
        | exact K51 _ (b2i_f (fun q => o_f h9 q.1))
        | exact K51 _ (b2i_f (fun q => o_f h20 q.2.1))
        | exact K51 _ (b2i_f (fun q => o_f h32 q.2.2.1))
        | exact K51 _ (b2i_f (fun q => o_f h43 q.2.2.2))
      · refine o_iload (pc := 35) C dX6_coil_35 rfl ?_
        refine o_iconst (pc := 37) C dX6_coil_37 ?_
        refine o_bipush (pc := 38) C dX6_coil_38 rfl ?_
        refine cl_X6_95 (pc := 40) C (c_X6_in (by omega) (by omega) (by omega)) (by omega) (by omega) (Nat.le_of_ble_eq_true rfl) dX6_coil_40 (fun z σ2 hq => ?_)
        obtain ⟨rfl, hq⟩ := hq
        rw [hq]; clear hq
        refine o_if_eq (pc := 43) C (tgt := 50) dX6_coil_43 (by decide) (by unfold b2i; split <;> omega) (fun h43 => ?_) (fun h43 => ?_)
        · refine o_iconst (pc := 50) C dX6_coil_50 ?_
          first
          | exact K51 _ (b2i_t ⟨o_t h9, o_t h20, o_t h32, o_t h43⟩)
          | exact K51 _ (b2i_f (fun q => o_f h9 q.1))
          | exact K51 _ (b2i_f (fun q => o_f h20 q.2.1))
          | exact K51 _ (b2i_f (fun q => o_f h32 q.2.2.1))
          | exact K51 _ (b2i_f (fun q => o_f h43 q.2.2.2))
        · refine o_iconst (pc := 46) C dX6_coil_46 ?_
          refine o_goto (pc := 47) C (tgt := 51) dX6_coil_47 (by decide) ?_
          first
          | exact K51 _ (b2i_t ⟨o_t h9, o_t h20, o_t h32, o_t h43⟩)
          | exact K51 _ (b2i_f (fun q => o_f h9 q.1))
          | exact K51 _ (b2i_f (fun q => o_f h20 q.2.1))
          | exact K51 _ (b2i_f (fun q => o_f h32 q.2.2.1))
          | exact K51 _ (b2i_f (fun q => o_f h43 q.2.2.2))
/-- a coil of the model: its defects -/
def mD (σ : oMem) (c : Nat) : Prop := (0 ≤ σ 31 0 c ∧ σ 31 0 c ≤ 8) ∧ ∀ k : Nat, (k : Int) < σ 31 0 c → InR (σ 29 0 (8 * c + k)) ∧ InR (σ 30 0 (8 * c + k))
def mCv (σ : oMem) (c : Nat) (m : Int) (n : Nat) : Bool := (List.range n).any (fun k => decide (σ 29 0 (8 * c + k) ≤ m ∧ m < σ 30 0 (8 * c + k)))
theorem mCv_s (σ : oMem) (c : Nat) (m : Int) (n : Nat) : mCv σ c m (n + 1) = (mCv σ c m n || decide (σ 29 0 (8 * c + n) ≤ m ∧ m < σ 30 0 (8 * c + n))) := by
  unfold mCv
  rw [List.range_succ, List.any_append]
  simp
def mCut (σ : oMem) (c : Nat) : Int := o_sum (fun m => if mCv σ c m (σ 31 0 c).toNat = true then 1 else 0) (σ 27 0 c).toNat
theorem o_sum_01 {f : Nat → Int} (h : ∀ j, 0 ≤ f j ∧ f j ≤ 1) (n : Nat) : 0 ≤ o_sum f n ∧ o_sum f n ≤ n := o_sum_bd n (fun j _ => h j)
set_option maxRecDepth 100000 in
set_option maxHeartbeats 4000000 in
theorem c_X6_cutOut {l : Launch} {g : oG} {σ : oMem} {c : Nat} (hc : c < 20) (hl : 0 ≤ σ 27 0 c ∧ σ 27 0 c ≤ 5000) (hD : mD σ c) : oMi l g yX6_cutOut (.code yX6_cutOut cX6_cutOut 6 (some .int)) 1 0 [.ref (g.2.1 24 0), oi (c : Int)] σ (fun z σ' => z = mCut σ c ∧ σ' = σ) := by
  refine oMi_of (own := RX6) (by decide +kernel) rfl (by simp [oi, Value.category]) (by simp) (fun x C E => ?_)
  show oW l g x σ 0 [some (.ref (g.2.1 24 0)), some (oi (c : Int)), none, none, none, none] [] 0
  obtain ⟨⟨d0, d1⟩, d2⟩ := hD
  have L2 : ∀ (m : Nat) (s : Int), ((m : Int) < σ 27 0 c) → (∀ (v : Int) (r : Option Value), v = b2i (mCv σ c m (σ 31 0 c).toNat = true) → oW l g x σ 79 [some (.ref (g.2.1 24 0)), some (oi (c : Int)), some (oi s), some (oi (m : Int)), some (oi v), r] [] 0) → ∀ (n t : Nat) (v k : Int), σ 31 0 c < t + n → (t : Int) ≤ σ 31 0 c → k = 8 * (c : Int) + t → v = b2i (mCv σ c m t = true) → oW l g x σ 23 [some (.ref (g.2.1 24 0)), some (oi (c : Int)), some (oi s), some (oi (m : Int)), some (oi v), some (oi k)] [] 0 := by
    intro m s hm kk n
    induction n with
    | zero => intro t v k a1 a2; omega
    | succ n ih =>
      intro t v k a1 a2 a3 a4
      have ek : k.toNat = 8 * c + t := by omega
      have hd := d2 t
      have hst := mCv_s σ c m t
      refine o_iload (pc := 23) C dX6_cutOut_23 rfl ?_
      refine o_bipush (pc := 25) C dX6_cutOut_25 rfl ?_
      refine o_iload_n (pc := 27) C dX6_cutOut_27 rfl ?_
      refine o_imul (pc := 28) C dX6_cutOut_28 ?_
      refine o_aload_n (pc := 29) C dX6_cutOut_29 rfl ?_
      refine gf_X6_28 (pc := 30) C dX6_cutOut_30 ?_
      refine o_iload_n (pc := 33) C dX6_cutOut_33 rfl ?_
      refine ia_31 (pc := 34) C (by omega) (by omega) dX6_cutOut_34 ?_
      rw [show ((c : Int)).toNat = c by omega]
      refine o_iadd (pc := 35) C dX6_cutOut_35 ?_
      refine o_icmp_ge (pc := 36) C (tgt := 79) dX6_cutOut_36 (by decide) (by omega) (by omega) (fun h36 => ?_) (fun h36 => ?_)
      · exact kk _ _ (by rw [a4, show (σ 31 0 c).toNat = t by omega])
      · have hd := hd (by omega)
        refine o_iload (pc := 39) C dX6_cutOut_39 rfl ?_
        refine o_if_ne (pc := 41) C (tgt := 66) dX6_cutOut_41 (by decide) (by rw [a4]; unfold b2i; split <;> omega) (fun h41 => ?_) (fun h41 => ?_)
        · refine o_iconst (pc := 66) C dX6_cutOut_66 ?_
          refine o_goto (pc := 67) C (tgt := 71) dX6_cutOut_67 (by decide) ?_
          refine sti_4 (pc := 71) C dX6_cutOut_71 ?_
          refine inc_5 (pc := 73) C dX6_cutOut_73 ?_
          refine o_goto (pc := 76) C (tgt := 23) dX6_cutOut_76 (by decide) ?_
          rw [a4] at h41
          first
          | (have q := o_t h41; exact ih (t + 1) _ _ (by omega) (by omega) (by omega) (b2i_t (by rw [hst, q]; rfl)))
          | (have q := o_f h41; exact ih (t + 1) _ _ (by omega) (by omega) (by omega) (b2i_t (by rw [hst, decide_eq_true (show _ ∧ _ from ⟨h52, h63⟩), Bool.or_true])))
          | (have q := o_f h41; exact ih (t + 1) _ _ (by omega) (by omega) (by omega) (b2i_f (by rw [hst, Bool.eq_false_iff.mpr q, decide_eq_false (by omega)]; decide)))
        · refine o_iload_n (pc := 44) C dX6_cutOut_44 rfl ?_
          refine o_aload_n (pc := 45) C dX6_cutOut_45 rfl ?_
          refine gf_X6_22 (pc := 46) C dX6_cutOut_46 ?_
          refine o_iload (pc := 49) C dX6_cutOut_49 rfl ?_
          refine ia_29 (pc := 51) C (by omega) (by omega) dX6_cutOut_51 ?_
          rw [ek]
          refine o_icmp_lt (pc := 52) C (tgt := 70) dX6_cutOut_52 (by decide) (by omega) (by omega) (fun h52 => ?_) (fun h52 => ?_)
          · refine o_iconst (pc := 70) C dX6_cutOut_70 ?_
            refine sti_4 (pc := 71) C dX6_cutOut_71 ?_
            refine inc_5 (pc := 73) C dX6_cutOut_73 ?_
            refine o_goto (pc := 76) C (tgt := 23) dX6_cutOut_76 (by decide) ?_
            rw [a4] at h41
            first
            | (have q := o_t h41; exact ih (t + 1) _ _ (by omega) (by omega) (by omega) (b2i_t (by rw [hst, q]; rfl)))
            | (have q := o_f h41; exact ih (t + 1) _ _ (by omega) (by omega) (by omega) (b2i_t (by rw [hst, decide_eq_true (show _ ∧ _ from ⟨h52, h63⟩), Bool.or_true])))
            | (have q := o_f h41; exact ih (t + 1) _ _ (by omega) (by omega) (by omega) (b2i_f (by rw [hst, Bool.eq_false_iff.mpr q, decide_eq_false (by omega)]; decide)))
          · refine o_iload_n (pc := 55) C dX6_cutOut_55 rfl ?_
            refine o_aload_n (pc := 56) C dX6_cutOut_56 rfl ?_
            refine gf_X6_25 (pc := 57) C dX6_cutOut_57 ?_
            refine o_iload (pc := 60) C dX6_cutOut_60 rfl ?_
            refine ia_30 (pc := 62) C (by omega) (by omega) dX6_cutOut_62 ?_
            rw [ek]
            refine o_icmp_ge (pc := 63) C (tgt := 70) dX6_cutOut_63 (by decide) (by omega) (by omega) (fun h63 => ?_) (fun h63 => ?_)
            · refine o_iconst (pc := 70) C dX6_cutOut_70 ?_
              refine sti_4 (pc := 71) C dX6_cutOut_71 ?_
              refine inc_5 (pc := 73) C dX6_cutOut_73 ?_
              refine o_goto (pc := 76) C (tgt := 23) dX6_cutOut_76 (by decide) ?_
              rw [a4] at h41
              first
              | (have q := o_t h41; exact ih (t + 1) _ _ (by omega) (by omega) (by omega) (b2i_t (by rw [hst, q]; rfl)))
              | (have q := o_f h41; exact ih (t + 1) _ _ (by omega) (by omega) (by omega) (b2i_t (by rw [hst, decide_eq_true (show _ ∧ _ from ⟨h52, h63⟩), Bool.or_true])))
              | (have q := o_f h41; exact ih (t + 1) _ _ (by omega) (by omega) (by omega) (b2i_f (by rw [hst, Bool.eq_false_iff.mpr q, decide_eq_false (by omega)]; decide)))
            · refine o_iconst (pc := 66) C dX6_cutOut_66 ?_
              refine o_goto (pc := 67) C (tgt := 71) dX6_cutOut_67 (by decide) ?_
              refine sti_4 (pc := 71) C dX6_cutOut_71 ?_
              refine inc_5 (pc := 73) C dX6_cutOut_73 ?_
              refine o_goto (pc := 76) C (tgt := 23) dX6_cutOut_76 (by decide) ?_
              rw [a4] at h41
              first
              | (have q := o_t h41; exact ih (t + 1) _ _ (by omega) (by omega) (by omega) (b2i_t (by rw [hst, q]; rfl)))
              | (have q := o_f h41; exact ih (t + 1) _ _ (by omega) (by omega) (by omega) (b2i_t (by rw [hst, decide_eq_true (show _ ∧ _ from ⟨h52, h63⟩), Bool.or_true])))
              | (have q := o_f h41; exact ih (t + 1) _ _ (by omega) (by omega) (by omega) (b2i_f (by rw [hst, Bool.eq_false_iff.mpr q, decide_eq_false (by omega)]; decide)))
  have L1 : ∀ (n m : Nat) (s i : Int) (r1 r2 : Option Value), σ 27 0 c < m + n → (m : Int) ≤ σ 27 0 c → i = m → s = o_sum (fun m => if mCv σ c m (σ 31 0 c).toNat = true then 1 else 0) m → oW l g x σ 4 [some (.ref (g.2.1 24 0)), some (oi (c : Int)), some (oi s), some (oi i), r1, r2] [] 0 := by
    intro n
    induction n with
    | zero => intro m s i r1 r2 a1 a2; omega
    | succ n ih =>
      intro m s i r1 r2 a1 a2 a3 a4
      subst a3
      refine o_iload_n (pc := 4) C dX6_cutOut_4 rfl ?_
      refine o_aload_n (pc := 5) C dX6_cutOut_5 rfl ?_
      refine gf_X6_16 (pc := 6) C dX6_cutOut_6 ?_
      refine o_iload_n (pc := 9) C dX6_cutOut_9 rfl ?_
      refine ia_27 (pc := 10) C (by omega) (by omega) dX6_cutOut_10 ?_
      rw [show ((c : Int)).toNat = c by omega]
      refine o_icmp_ge (pc := 11) C (tgt := 98) dX6_cutOut_11 (by decide) (by omega) (by omega) (fun h11 => ?_) (fun h11 => ?_)
      · refine o_iload_n (pc := 98) C dX6_cutOut_98 rfl ?_
        exact E _ _ _ _ _ dX6_cutOut_99 rfl ⟨by rw [a4]; unfold mCut; rw [show (σ 27 0 c).toNat = m by omega], rfl⟩ (by omega)
      · refine o_iconst (pc := 14) C dX6_cutOut_14 ?_
        refine sti_4 (pc := 15) C dX6_cutOut_15 ?_
        refine o_bipush (pc := 17) C dX6_cutOut_17 rfl ?_
        refine o_iload_n (pc := 19) C dX6_cutOut_19 rfl ?_
        refine o_imul (pc := 20) C dX6_cutOut_20 ?_
        refine sti_5 (pc := 21) C dX6_cutOut_21 ?_
        refine L2 m s (by omega) (fun v r hv => ?_) 9 0 _ _ (by omega) (by omega) (by omega) (b2i_f (by simp [mCv]))
        refine o_iload_n (pc := 79) C dX6_cutOut_79 rfl ?_
        refine o_iload (pc := 80) C dX6_cutOut_80 rfl ?_
        refine o_if_eq (pc := 82) C (tgt := 89) dX6_cutOut_82 (by decide) (by rw [hv]; unfold b2i; split <;> omega) (fun h82 => ?_) (fun h82 => ?_)
        · refine o_iconst (pc := 89) C dX6_cutOut_89 ?_
          refine o_iadd (pc := 90) C dX6_cutOut_90 ?_
          refine sti_2 (pc := 91) C dX6_cutOut_91 ?_
          refine inc_3 (pc := 92) C dX6_cutOut_92 ?_
          refine o_goto (pc := 95) C (tgt := 4) dX6_cutOut_95 (by decide) ?_
          rw [hv] at h82
          first
          | (have q := o_t h82; exact ih (m + 1) _ _ _ _ (by omega) (by omega) (by omega) (by rw [o_sum, if_pos q, a4]))
          | (have q := o_f h82; exact ih (m + 1) _ _ _ _ (by omega) (by omega) (by omega) (by rw [o_sum, if_neg q, a4]))
        · refine o_iconst (pc := 85) C dX6_cutOut_85 ?_
          refine o_goto (pc := 86) C (tgt := 90) dX6_cutOut_86 (by decide) ?_
          refine o_iadd (pc := 90) C dX6_cutOut_90 ?_
          refine sti_2 (pc := 91) C dX6_cutOut_91 ?_
          refine inc_3 (pc := 92) C dX6_cutOut_92 ?_
          refine o_goto (pc := 95) C (tgt := 4) dX6_cutOut_95 (by decide) ?_
          rw [hv] at h82
          first
          | (have q := o_t h82; exact ih (m + 1) _ _ _ _ (by omega) (by omega) (by omega) (by rw [o_sum, if_pos q, a4]))
          | (have q := o_f h82; exact ih (m + 1) _ _ _ _ (by omega) (by omega) (by omega) (by rw [o_sum, if_neg q, a4]))
  refine o_iconst (pc := 0) C dX6_cutOut_0 ?_
  refine sti_2 (pc := 1) C dX6_cutOut_1 ?_
  refine o_iconst (pc := 2) C dX6_cutOut_2 ?_
  refine sti_3 (pc := 3) C dX6_cutOut_3 ?_
  exact L1 5001 0 _ _ _ _ (by omega) (by omega) rfl rfl
