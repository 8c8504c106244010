/-- a coil's cells, by kind; an order's, a pattern's, the filling's -/
def cC (g : oG) (a : Nat → Nat) : va_W := [(a 1, .inr (0, [oi 0, oi 0, oi 0, oi 0, .ref (a 2), .ref (a 3), oi 0, .ref (a 4), .ref (a 5), .ref (a 6), oi (-1), oi 0, oi 0, oi 0])), (a 2, .inl (g.2.2 0, 8, .inl (fun _ => 0))), (a 3, .inl (g.2.2 0, 8, .inl (fun _ => 0))), (a 4, .inl (g.2.2 0, 15, .inl (fun _ => 0))), (a 5, .inl (g.2.2 0, 15, .inl (fun _ => 0))), (a 6, .inl (g.2.2 0, 15, .inl (fun _ => 0)))]
def cO (g : oG) (a : Nat → Nat) : va_W := [(a 7, .inr (2, [oi 0, oi 0, oi 0, oi (-1)]))]
def cP (g : oG) (a : Nat → Nat) : va_W := [(a 8, .inr (3, [.ref (a 9), oi 0])), (a 9, .inl (g.2.2 0, 15, .inl (fun _ => 0)))]
def cF (g : oG) (a : Nat → Nat) : va_W := [(a 10, .inr (1, [.ref (a 11), oi 0, .ref (a 12)])), (a 11, .inl (g.2.2 0, 12, .inl (fun _ => 0))), (a 12, .inl (g.2.2 0, 2001, .inl (fun _ => 0)))]
def cR (g : oG) (a r1 r2 : Nat → Nat) : va_W := (a 13, .inr (4, [.ref (a 22), .ref (a 23), .ref (a 16)])) :: (((([] ++ [(a 22, .inl (g.2.2 4, 8, .inr (.inr (.inr (.inr (fun i => if i < 8 then some (r1 i) else none))))))]) ++ (List.range 8).map (fun i => (r1 i, (.inl (g.2.2 0, 7, .inl (fun _ => 0)) : va_E)))) ++ [(a 23, .inl (g.2.2 4, 8, .inr (.inr (.inr (.inr (fun i => if i < 8 then some (r2 i) else none))))))]) ++ (List.range 8).map (fun i => (r2 i, (.inl (g.2.2 0, 128, .inl (fun _ => 0)) : va_E))) ++ [(a 16, .inl (g.2.2 0, 7, .inl (fun _ => 0)))])
set_option maxRecDepth 100000 in
set_option maxHeartbeats 4000000 in
theorem c_X0_init {l : Launch} {g : oG} {q : Nat} : nMv l g yX0_init (.code yX0_init cX0_init 1 none) 1 5 61 q (.inr (0, [oi 0, oi 0, oi 0, oi 0, .null, .null, oi 0, .null, .null, .null, oi 0, oi 0, oi 0, oi 0])) (fun w => ∃ a : Nat → Nat, a 1 = q ∧ w = cC g a) := by
  refine nMv_of (own := RX0) (by decide +kernel) rfl rfl (by decide) (fun x C hI E => ?_)
  show nW l g x [(q, .inr (0, [oi 0, oi 0, oi 0, oi 0, .null, .null, oi 0, .null, .null, .null, oi 0, oi 0, oi 0, oi 0]))] 0 [some (.ref q)] [] 0 0
  refine n_aload_n (pc := 0) C dX0_init_0 rfl ?_
  refine n_obj (pc := 1) C kw_3_14 (Nat.le_of_ble_eq_true rfl) dX0_init_1 ?_
  refine n_aload_n (pc := 4) C dX0_init_4 rfl ?_
  refine n_iconst (pc := 5) C dX0_init_5 ?_
  refine n_put (pc := 6) (q0 := 0) (slot := 0) (ty := .int) (ws' := (q, .inr (0, [oi 0, oi 0, oi 0, oi 0, .null, .null, oi 0, .null, .null, .null, oi 0, oi 0, oi 0, oi 0])) :: ([])) C hI rfl rfl inlX0 tyX0 tyX0_ok nmX0 (by decide) kw_3_15 rfl (by decide +kernel) rfl rfl (Nat.le_of_ble_eq_true rfl) dX0_init_6 rfl ?_
  refine n_aload_n (pc := 9) C dX0_init_9 rfl ?_
  refine n_iconst (pc := 10) C dX0_init_10 ?_
  refine n_put (pc := 11) (q0 := 0) (slot := 1) (ty := .int) (ws' := (q, .inr (0, [oi 0, oi 0, oi 0, oi 0, .null, .null, oi 0, .null, .null, .null, oi 0, oi 0, oi 0, oi 0])) :: ([])) C hI rfl rfl inlX0 tyX0 tyX0_ok nmX0 (by decide) kw_3_16 rfl (by decide +kernel) rfl rfl (Nat.le_of_ble_eq_true rfl) dX0_init_11 rfl ?_
  refine n_aload_n (pc := 14) C dX0_init_14 rfl ?_
  refine n_iconst (pc := 15) C dX0_init_15 ?_
  refine n_put (pc := 16) (q0 := 0) (slot := 2) (ty := .int) (ws' := (q, .inr (0, [oi 0, oi 0, oi 0, oi 0, .null, .null, oi 0, .null, .null, .null, oi 0, oi 0, oi 0, oi 0])) :: ([])) C hI rfl rfl inlX0 tyX0 tyX0_ok nmX0 (by decide) kw_3_17 rfl (by decide +kernel) rfl rfl (Nat.le_of_ble_eq_true rfl) dX0_init_16 rfl ?_
  refine n_aload_n (pc := 19) C dX0_init_19 rfl ?_
  refine n_iconst (pc := 20) C dX0_init_20 ?_
  refine n_put (pc := 21) (q0 := 0) (slot := 3) (ty := .int) (ws' := (q, .inr (0, [oi 0, oi 0, oi 0, oi 0, .null, .null, oi 0, .null, .null, .null, oi 0, oi 0, oi 0, oi 0])) :: ([])) C hI rfl rfl inlX0 tyX0 tyX0_ok nmX0 (by decide) kw_3_18 rfl (by decide +kernel) rfl rfl (Nat.le_of_ble_eq_true rfl) dX0_init_21 rfl ?_
  refine n_aload_n (pc := 24) C dX0_init_24 rfl ?_
  refine n_bipush (pc := 25) C dX0_init_25 rfl ?_
  refine n_newa (pc := 27) C (N := 8) rfl (by decide) (Nat.le_of_ble_eq_true rfl) (Nat.le_of_ble_eq_true rfl) dX0_init_27 (fun q1 => ?_)
  refine n_put (pc := 29) (q0 := 0) (slot := 4) (ty := (.array .int)) (ws' := (q, .inr (0, [oi 0, oi 0, oi 0, oi 0, .ref q1, .null, oi 0, .null, .null, .null, oi 0, oi 0, oi 0, oi 0])) :: (([] ++ [(q1, .inl (g.2.2 0, 8, .inl (fun _ => 0)))]))) C hI rfl rfl inlX0 tyX0 tyX0_ok nmX0 (by decide) kw_3_19 rfl (by decide +kernel) rfl rfl (Nat.le_of_ble_eq_true rfl) dX0_init_29 rfl ?_
  refine n_aload_n (pc := 32) C dX0_init_32 rfl ?_
  refine n_bipush (pc := 33) C dX0_init_33 rfl ?_
  refine n_newa (pc := 35) C (N := 8) rfl (by decide) (Nat.le_of_ble_eq_true rfl) (Nat.le_of_ble_eq_true rfl) dX0_init_35 (fun q2 => ?_)
  refine n_put (pc := 37) (q0 := 0) (slot := 5) (ty := (.array .int)) (ws' := (q, .inr (0, [oi 0, oi 0, oi 0, oi 0, .ref q1, .ref q2, oi 0, .null, .null, .null, oi 0, oi 0, oi 0, oi 0])) :: ((([] ++ [(q1, .inl (g.2.2 0, 8, .inl (fun _ => 0)))]) ++ [(q2, .inl (g.2.2 0, 8, .inl (fun _ => 0)))]))) C hI rfl rfl inlX0 tyX0 tyX0_ok nmX0 (by decide) kw_3_20 rfl (by decide +kernel) rfl rfl (Nat.le_of_ble_eq_true rfl) dX0_init_37 rfl ?_
  refine n_aload_n (pc := 40) C dX0_init_40 rfl ?_
  refine n_iconst (pc := 41) C dX0_init_41 ?_
  refine n_put (pc := 42) (q0 := 0) (slot := 6) (ty := .int) (ws' := (q, .inr (0, [oi 0, oi 0, oi 0, oi 0, .ref q1, .ref q2, oi 0, .null, .null, .null, oi 0, oi 0, oi 0, oi 0])) :: ((([] ++ [(q1, .inl (g.2.2 0, 8, .inl (fun _ => 0)))]) ++ [(q2, .inl (g.2.2 0, 8, .inl (fun _ => 0)))]))) C hI rfl rfl inlX0 tyX0 tyX0_ok nmX0 (by decide) kw_3_21 rfl (by decide +kernel) rfl rfl (Nat.le_of_ble_eq_true rfl) dX0_init_42 rfl ?_
  refine n_aload_n (pc := 45) C dX0_init_45 rfl ?_
  refine n_bipush (pc := 46) C dX0_init_46 rfl ?_
  refine n_newa (pc := 48) C (N := 15) rfl (by decide) (Nat.le_of_ble_eq_true rfl) (Nat.le_of_ble_eq_true rfl) dX0_init_48 (fun q3 => ?_)
  refine n_put (pc := 50) (q0 := 0) (slot := 7) (ty := (.array .int)) (ws' := (q, .inr (0, [oi 0, oi 0, oi 0, oi 0, .ref q1, .ref q2, oi 0, .ref q3, .null, .null, oi 0, oi 0, oi 0, oi 0])) :: (((([] ++ [(q1, .inl (g.2.2 0, 8, .inl (fun _ => 0)))]) ++ [(q2, .inl (g.2.2 0, 8, .inl (fun _ => 0)))]) ++ [(q3, .inl (g.2.2 0, 15, .inl (fun _ => 0)))]))) C hI rfl rfl inlX0 tyX0 tyX0_ok nmX0 (by decide) kw_3_22 rfl (by decide +kernel) rfl rfl (Nat.le_of_ble_eq_true rfl) dX0_init_50 rfl ?_
  refine n_aload_n (pc := 53) C dX0_init_53 rfl ?_
  refine n_bipush (pc := 54) C dX0_init_54 rfl ?_
  refine n_newa (pc := 56) C (N := 15) rfl (by decide) (Nat.le_of_ble_eq_true rfl) (Nat.le_of_ble_eq_true rfl) dX0_init_56 (fun q4 => ?_)
  refine n_put (pc := 58) (q0 := 0) (slot := 8) (ty := (.array .int)) (ws' := (q, .inr (0, [oi 0, oi 0, oi 0, oi 0, .ref q1, .ref q2, oi 0, .ref q3, .ref q4, .null, oi 0, oi 0, oi 0, oi 0])) :: ((((([] ++ [(q1, .inl (g.2.2 0, 8, .inl (fun _ => 0)))]) ++ [(q2, .inl (g.2.2 0, 8, .inl (fun _ => 0)))]) ++ [(q3, .inl (g.2.2 0, 15, .inl (fun _ => 0)))]) ++ [(q4, .inl (g.2.2 0, 15, .inl (fun _ => 0)))]))) C hI rfl rfl inlX0 tyX0 tyX0_ok nmX0 (by decide) kw_3_23 rfl (by decide +kernel) rfl rfl (Nat.le_of_ble_eq_true rfl) dX0_init_58 rfl ?_
  refine n_aload_n (pc := 61) C dX0_init_61 rfl ?_
  refine n_bipush (pc := 62) C dX0_init_62 rfl ?_
  refine n_newa (pc := 64) C (N := 15) rfl (by decide) (Nat.le_of_ble_eq_true rfl) (Nat.le_of_ble_eq_true rfl) dX0_init_64 (fun q5 => ?_)
  refine n_put (pc := 66) (q0 := 0) (slot := 9) (ty := (.array .int)) (ws' := (q, .inr (0, [oi 0, oi 0, oi 0, oi 0, .ref q1, .ref q2, oi 0, .ref q3, .ref q4, .ref q5, oi 0, oi 0, oi 0, oi 0])) :: (((((([] ++ [(q1, .inl (g.2.2 0, 8, .inl (fun _ => 0)))]) ++ [(q2, .inl (g.2.2 0, 8, .inl (fun _ => 0)))]) ++ [(q3, .inl (g.2.2 0, 15, .inl (fun _ => 0)))]) ++ [(q4, .inl (g.2.2 0, 15, .inl (fun _ => 0)))]) ++ [(q5, .inl (g.2.2 0, 15, .inl (fun _ => 0)))]))) C hI rfl rfl inlX0 tyX0 tyX0_ok nmX0 (by decide) kw_4_0 rfl (by decide +kernel) rfl rfl (Nat.le_of_ble_eq_true rfl) dX0_init_66 rfl ?_
  refine n_aload_n (pc := 69) C dX0_init_69 rfl ?_
  refine n_iconst (pc := 70) C dX0_init_70 ?_
  refine n_put (pc := 71) (q0 := 0) (slot := 10) (ty := .int) (ws' := (q, .inr (0, [oi 0, oi 0, oi 0, oi 0, .ref q1, .ref q2, oi 0, .ref q3, .ref q4, .ref q5, oi (-1), oi 0, oi 0, oi 0])) :: (((((([] ++ [(q1, .inl (g.2.2 0, 8, .inl (fun _ => 0)))]) ++ [(q2, .inl (g.2.2 0, 8, .inl (fun _ => 0)))]) ++ [(q3, .inl (g.2.2 0, 15, .inl (fun _ => 0)))]) ++ [(q4, .inl (g.2.2 0, 15, .inl (fun _ => 0)))]) ++ [(q5, .inl (g.2.2 0, 15, .inl (fun _ => 0)))]))) C hI rfl rfl inlX0 tyX0 tyX0_ok nmX0 (by decide) kw_4_1 rfl (by decide +kernel) rfl rfl (Nat.le_of_ble_eq_true rfl) dX0_init_71 rfl ?_
  refine n_aload_n (pc := 74) C dX0_init_74 rfl ?_
  refine n_iconst (pc := 75) C dX0_init_75 ?_
  refine n_put (pc := 76) (q0 := 0) (slot := 11) (ty := .int) (ws' := (q, .inr (0, [oi 0, oi 0, oi 0, oi 0, .ref q1, .ref q2, oi 0, .ref q3, .ref q4, .ref q5, oi (-1), oi 0, oi 0, oi 0])) :: (((((([] ++ [(q1, .inl (g.2.2 0, 8, .inl (fun _ => 0)))]) ++ [(q2, .inl (g.2.2 0, 8, .inl (fun _ => 0)))]) ++ [(q3, .inl (g.2.2 0, 15, .inl (fun _ => 0)))]) ++ [(q4, .inl (g.2.2 0, 15, .inl (fun _ => 0)))]) ++ [(q5, .inl (g.2.2 0, 15, .inl (fun _ => 0)))]))) C hI rfl rfl inlX0 tyX0 tyX0_ok nmX0 (by decide) kw_4_2 rfl (by decide +kernel) rfl rfl (Nat.le_of_ble_eq_true rfl) dX0_init_76 rfl ?_
  refine n_aload_n (pc := 79) C dX0_init_79 rfl ?_
  refine n_iconst (pc := 80) C dX0_init_80 ?_
  refine n_put (pc := 81) (q0 := 0) (slot := 12) (ty := .int) (ws' := (q, .inr (0, [oi 0, oi 0, oi 0, oi 0, .ref q1, .ref q2, oi 0, .ref q3, .ref q4, .ref q5, oi (-1), oi 0, oi 0, oi 0])) :: (((((([] ++ [(q1, .inl (g.2.2 0, 8, .inl (fun _ => 0)))]) ++ [(q2, .inl (g.2.2 0, 8, .inl (fun _ => 0)))]) ++ [(q3, .inl (g.2.2 0, 15, .inl (fun _ => 0)))]) ++ [(q4, .inl (g.2.2 0, 15, .inl (fun _ => 0)))]) ++ [(q5, .inl (g.2.2 0, 15, .inl (fun _ => 0)))]))) C hI rfl rfl inlX0 tyX0 tyX0_ok nmX0 (by decide) kw_4_3 rfl (by decide +kernel) rfl rfl (Nat.le_of_ble_eq_true rfl) dX0_init_81 rfl ?_
  refine n_aload_n (pc := 84) C dX0_init_84 rfl ?_
  refine n_iconst (pc := 85) C dX0_init_85 ?_
  refine n_put (pc := 86) (q0 := 0) (slot := 13) (ty := .int) (ws' := (q, .inr (0, [oi 0, oi 0, oi 0, oi 0, .ref q1, .ref q2, oi 0, .ref q3, .ref q4, .ref q5, oi (-1), oi 0, oi 0, oi 0])) :: (((((([] ++ [(q1, .inl (g.2.2 0, 8, .inl (fun _ => 0)))]) ++ [(q2, .inl (g.2.2 0, 8, .inl (fun _ => 0)))]) ++ [(q3, .inl (g.2.2 0, 15, .inl (fun _ => 0)))]) ++ [(q4, .inl (g.2.2 0, 15, .inl (fun _ => 0)))]) ++ [(q5, .inl (g.2.2 0, 15, .inl (fun _ => 0)))]))) C hI rfl rfl inlX0 tyX0 tyX0_ok nmX0 (by decide) kw_4_4 rfl (by decide +kernel) rfl rfl (Nat.le_of_ble_eq_true rfl) dX0_init_86 rfl ?_
  exact E _ _ _ _ _ dX0_init_89 ⟨(fun k => if k = 1 then q else if k = 2 then q1 else if k = 3 then q2 else if k = 4 then q3 else if k = 5 then q4 else q5), rfl, rfl⟩ (Nat.le_of_ble_eq_true rfl) (Nat.le_of_ble_eq_true rfl)
set_option maxRecDepth 100000 in
set_option maxHeartbeats 4000000 in
theorem c_X1_init {l : Launch} {g : oG} {q : Nat} : nMv l g yX1_init (.code yX1_init cX1_init 1 none) 1 2 2013 q (.inr (1, [.null, oi 0, .null])) (fun w => ∃ a : Nat → Nat, a 10 = q ∧ w = cF g a) := by
  refine nMv_of (own := RX1) (by decide +kernel) rfl rfl (by decide) (fun x C hI E => ?_)
  show nW l g x [(q, .inr (1, [.null, oi 0, .null]))] 0 [some (.ref q)] [] 0 0
  refine n_aload_n (pc := 0) C dX1_init_0 rfl ?_
  refine n_obj (pc := 1) C kw_3_1 (Nat.le_of_ble_eq_true rfl) dX1_init_1 ?_
  refine n_aload_n (pc := 4) C dX1_init_4 rfl ?_
  refine n_bipush (pc := 5) C dX1_init_5 rfl ?_
  refine n_newa (pc := 7) C (N := 12) rfl (by decide) (Nat.le_of_ble_eq_true rfl) (Nat.le_of_ble_eq_true rfl) dX1_init_7 (fun q1 => ?_)
  refine n_put (pc := 9) (q0 := 0) (slot := 0) (ty := (.array .int)) (ws' := (q, .inr (1, [.ref q1, oi 0, .null])) :: (([] ++ [(q1, .inl (g.2.2 0, 12, .inl (fun _ => 0)))]))) C hI rfl rfl inlX1 tyX1 tyX1_ok nmX1 (by decide) kw_3_2 rfl (by decide +kernel) rfl rfl (Nat.le_of_ble_eq_true rfl) dX1_init_9 rfl ?_
  refine n_aload_n (pc := 12) C dX1_init_12 rfl ?_
  refine n_iconst (pc := 13) C dX1_init_13 ?_
  refine n_put (pc := 14) (q0 := 0) (slot := 1) (ty := .int) (ws' := (q, .inr (1, [.ref q1, oi 0, .null])) :: (([] ++ [(q1, .inl (g.2.2 0, 12, .inl (fun _ => 0)))]))) C hI rfl rfl inlX1 tyX1 tyX1_ok nmX1 (by decide) kw_3_3 rfl (by decide +kernel) rfl rfl (Nat.le_of_ble_eq_true rfl) dX1_init_14 rfl ?_
  refine n_aload_n (pc := 17) C dX1_init_17 rfl ?_
  refine n_sipush (pc := 18) C dX1_init_18 rfl ?_
  refine n_newa (pc := 21) C (N := 2001) rfl (by decide) (Nat.le_of_ble_eq_true rfl) (Nat.le_of_ble_eq_true rfl) dX1_init_21 (fun q2 => ?_)
  refine n_put (pc := 23) (q0 := 0) (slot := 2) (ty := (.array .int)) (ws' := (q, .inr (1, [.ref q1, oi 0, .ref q2])) :: ((([] ++ [(q1, .inl (g.2.2 0, 12, .inl (fun _ => 0)))]) ++ [(q2, .inl (g.2.2 0, 2001, .inl (fun _ => 0)))]))) C hI rfl rfl inlX1 tyX1 tyX1_ok nmX1 (by decide) kw_3_4 rfl (by decide +kernel) rfl rfl (Nat.le_of_ble_eq_true rfl) dX1_init_23 rfl ?_
  exact E _ _ _ _ _ dX1_init_26 ⟨(fun k => if k = 10 then q else if k = 11 then q1 else q2), rfl, rfl⟩ (Nat.le_of_ble_eq_true rfl) (Nat.le_of_ble_eq_true rfl)
set_option maxRecDepth 100000 in
set_option maxHeartbeats 4000000 in
theorem c_X2_init {l : Launch} {g : oG} {q : Nat} : nMv l g yX2_init (.code yX2_init cX2_init 1 none) 1 0 0 q (.inr (2, [oi 0, oi 0, oi 0, oi 0])) (fun w => ∃ a : Nat → Nat, a 7 = q ∧ w = cO g a) := by
  refine nMv_of (own := RX2) (by decide +kernel) rfl rfl (by decide) (fun x C hI E => ?_)
  show nW l g x [(q, .inr (2, [oi 0, oi 0, oi 0, oi 0]))] 0 [some (.ref q)] [] 0 0
  refine n_aload_n (pc := 0) C dX2_init_0 rfl ?_
  refine n_obj (pc := 1) C kw_4_7 (Nat.le_of_ble_eq_true rfl) dX2_init_1 ?_
  refine n_aload_n (pc := 4) C dX2_init_4 rfl ?_
  refine n_iconst (pc := 5) C dX2_init_5 ?_
  refine n_put (pc := 6) (q0 := 0) (slot := 0) (ty := .int) (ws' := (q, .inr (2, [oi 0, oi 0, oi 0, oi 0])) :: ([])) C hI rfl rfl inlX2 tyX2 tyX2_ok nmX2 (by decide) kw_4_8 rfl (by decide +kernel) rfl rfl (Nat.le_of_ble_eq_true rfl) dX2_init_6 rfl ?_
  refine n_aload_n (pc := 9) C dX2_init_9 rfl ?_
  refine n_iconst (pc := 10) C dX2_init_10 ?_
  refine n_put (pc := 11) (q0 := 0) (slot := 1) (ty := .int) (ws' := (q, .inr (2, [oi 0, oi 0, oi 0, oi 0])) :: ([])) C hI rfl rfl inlX2 tyX2 tyX2_ok nmX2 (by decide) kw_4_9 rfl (by decide +kernel) rfl rfl (Nat.le_of_ble_eq_true rfl) dX2_init_11 rfl ?_
  refine n_aload_n (pc := 14) C dX2_init_14 rfl ?_
  refine n_iconst (pc := 15) C dX2_init_15 ?_
  refine n_put (pc := 16) (q0 := 0) (slot := 2) (ty := .int) (ws' := (q, .inr (2, [oi 0, oi 0, oi 0, oi 0])) :: ([])) C hI rfl rfl inlX2 tyX2 tyX2_ok nmX2 (by decide) kw_4_10 rfl (by decide +kernel) rfl rfl (Nat.le_of_ble_eq_true rfl) dX2_init_16 rfl ?_
  refine n_aload_n (pc := 19) C dX2_init_19 rfl ?_
  refine n_iconst (pc := 20) C dX2_init_20 ?_
  refine n_put (pc := 21) (q0 := 0) (slot := 3) (ty := .int) (ws' := (q, .inr (2, [oi 0, oi 0, oi 0, oi (-1)])) :: ([])) C hI rfl rfl inlX2 tyX2 tyX2_ok nmX2 (by decide) kw_4_11 rfl (by decide +kernel) rfl rfl (Nat.le_of_ble_eq_true rfl) dX2_init_21 rfl ?_
  exact E _ _ _ _ _ dX2_init_24 ⟨(fun _ => q), rfl, rfl⟩ (Nat.le_of_ble_eq_true rfl) (Nat.le_of_ble_eq_true rfl)
set_option maxRecDepth 100000 in
set_option maxHeartbeats 4000000 in
theorem c_X3_init {l : Launch} {g : oG} {q : Nat} : nMv l g yX3_init (.code yX3_init cX3_init 1 none) 1 1 15 q (.inr (3, [.null, oi 0])) (fun w => ∃ a : Nat → Nat, a 8 = q ∧ w = cP g a) := by
  refine nMv_of (own := RX3) (by decide +kernel) rfl rfl (by decide) (fun x C hI E => ?_)
  show nW l g x [(q, .inr (3, [.null, oi 0]))] 0 [some (.ref q)] [] 0 0
  refine n_aload_n (pc := 0) C dX3_init_0 rfl ?_
  refine n_obj (pc := 1) C kw_2_20 (Nat.le_of_ble_eq_true rfl) dX3_init_1 ?_
  refine n_aload_n (pc := 4) C dX3_init_4 rfl ?_
  refine n_bipush (pc := 5) C dX3_init_5 rfl ?_
  refine n_newa (pc := 7) C (N := 15) rfl (by decide) (Nat.le_of_ble_eq_true rfl) (Nat.le_of_ble_eq_true rfl) dX3_init_7 (fun q1 => ?_)
  refine n_put (pc := 9) (q0 := 0) (slot := 0) (ty := (.array .int)) (ws' := (q, .inr (3, [.ref q1, oi 0])) :: (([] ++ [(q1, .inl (g.2.2 0, 15, .inl (fun _ => 0)))]))) C hI rfl rfl inlX3 tyX3 tyX3_ok nmX3 (by decide) kw_2_21 rfl (by decide +kernel) rfl rfl (Nat.le_of_ble_eq_true rfl) dX3_init_9 rfl ?_
  refine n_aload_n (pc := 12) C dX3_init_12 rfl ?_
  refine n_iconst (pc := 13) C dX3_init_13 ?_
  refine n_put (pc := 14) (q0 := 0) (slot := 1) (ty := .int) (ws' := (q, .inr (3, [.ref q1, oi 0])) :: (([] ++ [(q1, .inl (g.2.2 0, 15, .inl (fun _ => 0)))]))) C hI rfl rfl inlX3 tyX3 tyX3_ok nmX3 (by decide) kw_2_22 rfl (by decide +kernel) rfl rfl (Nat.le_of_ble_eq_true rfl) dX3_init_14 rfl ?_
  exact E _ _ _ _ _ dX3_init_17 ⟨(fun k => if k = 8 then q else q1), rfl, rfl⟩ (Nat.le_of_ble_eq_true rfl) (Nat.le_of_ble_eq_true rfl)
set_option maxRecDepth 100000 in
set_option maxHeartbeats 4000000 in
theorem c_X4_init {l : Launch} {g : oG} {q : Nat} : nMv l g yX4_init (.code yX4_init cX4_init 1 none) 1 19 1103 q (.inr (4, [.null, .null, .null])) (fun w => ∃ a r1 r2 : Nat → Nat, a 13 = q ∧ w = cR g a r1 r2) := by
  refine nMv_of (own := RX4) (by decide +kernel) rfl rfl (by decide) (fun x C hI E => ?_)
  show nW l g x [(q, .inr (4, [.null, .null, .null]))] 0 [some (.ref q)] [] 0 0
  refine n_aload_n (pc := 0) C dX4_init_0 rfl ?_
  refine n_obj (pc := 1) C kw_3_7 (Nat.le_of_ble_eq_true rfl) dX4_init_1 ?_
  refine n_aload_n (pc := 4) C dX4_init_4 rfl ?_
  refine n_bipush (pc := 5) C dX4_init_5 rfl ?_
  refine n_bipush (pc := 7) C dX4_init_7 rfl ?_
  refine n_mna (pc := 9) C (N := 8) (M := 7) rfl rfl (by decide) (by decide) kw_3_8 (Nat.le_of_ble_eq_true rfl) (Nat.le_of_ble_eq_true rfl) dX4_init_9 (fun q1 r1 => ?_)
  refine n_put (pc := 13) (q0 := 0) (slot := 0) (ty := (.array (.array .int))) (ws' := (q, .inr (4, [.ref q1, .null, .null])) :: ((([] ++ [(q1, .inl (g.2.2 4, 8, .inr (.inr (.inr (.inr (fun i => if i < 8 then some (r1 i) else none))))))]) ++ (List.range 8).map (fun i => (r1 i, (.inl (g.2.2 0, 7, .inl (fun _ => 0)) : va_E)))))) C hI rfl rfl inlX4 tyX4 tyX4_ok nmX4 (by decide) kw_3_9 rfl (by decide +kernel) rfl rfl (Nat.le_of_ble_eq_true rfl) dX4_init_13 rfl ?_
  refine n_aload_n (pc := 16) C dX4_init_16 rfl ?_
  refine n_bipush (pc := 17) C dX4_init_17 rfl ?_
  refine n_sipush (pc := 19) C dX4_init_19 rfl ?_
  refine n_mna (pc := 22) C (N := 8) (M := 128) rfl rfl (by decide) (by decide) kw_3_8 (Nat.le_of_ble_eq_true rfl) (Nat.le_of_ble_eq_true rfl) dX4_init_22 (fun q2 r2 => ?_)
  refine n_put (pc := 26) (q0 := 0) (slot := 1) (ty := (.array (.array .int))) (ws' := (q, .inr (4, [.ref q1, .ref q2, .null])) :: ((((([] ++ [(q1, .inl (g.2.2 4, 8, .inr (.inr (.inr (.inr (fun i => if i < 8 then some (r1 i) else none))))))]) ++ (List.range 8).map (fun i => (r1 i, (.inl (g.2.2 0, 7, .inl (fun _ => 0)) : va_E)))) ++ [(q2, .inl (g.2.2 4, 8, .inr (.inr (.inr (.inr (fun i => if i < 8 then some (r2 i) else none))))))]) ++ (List.range 8).map (fun i => (r2 i, (.inl (g.2.2 0, 128, .inl (fun _ => 0)) : va_E)))))) C hI rfl rfl inlX4 tyX4 tyX4_ok nmX4 (by decide) kw_3_10 rfl (by decide +kernel) rfl rfl (Nat.le_of_ble_eq_true rfl) dX4_init_26 rfl ?_
  refine n_aload_n (pc := 29) C dX4_init_29 rfl ?_
  refine n_bipush (pc := 30) C dX4_init_30 rfl ?_
  refine n_newa (pc := 32) C (N := 7) rfl (by decide) (Nat.le_of_ble_eq_true rfl) (Nat.le_of_ble_eq_true rfl) dX4_init_32 (fun q3 => ?_)
  refine n_put (pc := 34) (q0 := 0) (slot := 2) (ty := (.array .int)) (ws' := (q, .inr (4, [.ref q1, .ref q2, .ref q3])) :: (((((([] ++ [(q1, .inl (g.2.2 4, 8, .inr (.inr (.inr (.inr (fun i => if i < 8 then some (r1 i) else none))))))]) ++ (List.range 8).map (fun i => (r1 i, (.inl (g.2.2 0, 7, .inl (fun _ => 0)) : va_E)))) ++ [(q2, .inl (g.2.2 4, 8, .inr (.inr (.inr (.inr (fun i => if i < 8 then some (r2 i) else none))))))]) ++ (List.range 8).map (fun i => (r2 i, (.inl (g.2.2 0, 128, .inl (fun _ => 0)) : va_E)))) ++ [(q3, .inl (g.2.2 0, 7, .inl (fun _ => 0)))]))) C hI rfl rfl inlX4 tyX4 tyX4_ok nmX4 (by decide) kw_3_11 rfl (by decide +kernel) rfl rfl (Nat.le_of_ble_eq_true rfl) dX4_init_34 rfl ?_
  exact E _ _ _ _ _ dX4_init_37 ⟨(fun k => if k = 13 then q else if k = 22 then q1 else if k = 23 then q2 else q3), r1, r2, rfl, rfl⟩ (Nat.le_of_ble_eq_true rfl) (Nat.le_of_ble_eq_true rfl)