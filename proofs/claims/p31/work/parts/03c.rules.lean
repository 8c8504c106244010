/-! instructions -/
section ORULES
variable {l : Launch} {g : oG} {own : String} {cc : ByteArray} {lam mc : Nat} {x : oCtx} {σ : oMem} {pc : Nat} {vs : List (Option Value)} {st : List Value} {k : Nat}
theorem o_iconst {n : Int} (C : oK l g own cc lam mc x) (hd : decode cc pc = .ok (.iconst n, 1)) (kk : oW l g x σ (pc + 1) vs (oi n :: st) k) : oW l g x σ pc vs st k := by
  obtain ⟨p, e, R, s, m, args, below, meth, c, Q, A, nL⟩ := x
  obtain ⟨hx, hb, -⟩ := C
  exact fun H locs ls hl hP hS => lv_iconst hx hb hd rfl (kk H locs ls hl hP hS)
theorem o_bipush {n : Int} (C : oK l g own cc lam mc x) (hd : decode cc pc = .ok (.bipush n, 2)) (hv : (Int8.ofInt n).toInt32 = Int32.ofInt n) (kk : oW l g x σ (pc + 2) vs (oi n :: st) k) : oW l g x σ pc vs st k := by
  obtain ⟨p, e, R, s, m, args, below, meth, c, Q, A, nL⟩ := x
  obtain ⟨hx, hb, -⟩ := C
  exact fun H locs ls hl hP hS => lv_bipush hx hb hd hv (kk H locs ls hl hP hS)
theorem o_sipush {n : Int} (C : oK l g own cc lam mc x) (hd : decode cc pc = .ok (.sipush n, 3)) (hv : (Int16.ofInt n).toInt32 = Int32.ofInt n) (kk : oW l g x σ (pc + 3) vs (oi n :: st) k) : oW l g x σ pc vs st k := by
  obtain ⟨p, e, R, s, m, args, below, meth, c, Q, A, nL⟩ := x
  obtain ⟨hx, hb, -⟩ := C
  exact fun H locs ls hl hP hS => lv_sipush hx hb hd hv (kk H locs ls hl hP hS)
theorem o_ldcI {n : Int} {index : Nat} (C : oK l g own cc lam mc x) (hd : decode cc pc = .ok (.ldc index, 2)) (hw : Cond.constant own index (Int32.ofInt n) ∈ wsL_law) (kk : oW l g x σ (pc + 2) vs (oi n :: st) k) : oW l g x σ pc vs st k := by
  obtain ⟨p, e, R, s, m, args, below, meth, c, Q, A, nL⟩ := x
  obtain ⟨hx, hb, -, hown, hts, -⟩ := C
  exact fun H locs ls hl hP hS => lv_ldc hx hb hown (hts _ hw) hd (kk H locs ls hl hP hS)
theorem o_iload {i : Nat} {z : Int} (C : oK l g own cc lam mc x) (hd : decode cc pc = .ok (.iload i, 2)) (hi : vs[i]? = some (some (oi z))) (kk : oW l g x σ (pc + 2) vs (oi z :: st) k) : oW l g x σ pc vs st k := by
  obtain ⟨p, e, R, s, m, args, below, meth, c, Q, A, nL⟩ := x
  obtain ⟨hx, hb, -⟩ := C
  exact fun H locs ls hl hP hS => lv_iload hx hb hd (hl.val hi) (kk H locs ls hl hP hS)
theorem o_iload_n {i : Fin 4} {z : Int} (C : oK l g own cc lam mc x) (hd : decode cc pc = .ok (.iload_n i, 1)) (hi : vs[(i : Nat)]? = some (some (oi z))) (kk : oW l g x σ (pc + 1) vs (oi z :: st) k) : oW l g x σ pc vs st k := by
  obtain ⟨p, e, R, s, m, args, below, meth, c, Q, A, nL⟩ := x
  obtain ⟨hx, hb, -⟩ := C
  exact fun H locs ls hl hP hS => lv_iload_n hx hb hd rfl (hl.val hi) (kk H locs ls hl hP hS)
theorem o_aload {i a : Nat} (C : oK l g own cc lam mc x) (hd : decode cc pc = .ok (.aload i, 2)) (hi : vs[i]? = some (some (.ref a))) (kk : oW l g x σ (pc + 2) vs (.ref a :: st) k) : oW l g x σ pc vs st k := by
  obtain ⟨p, e, R, s, m, args, below, meth, c, Q, A, nL⟩ := x
  obtain ⟨hx, hb, -⟩ := C
  exact fun H locs ls hl hP hS => lv_aload hx hb hd (hl.val hi) (kk H locs ls hl hP hS)
theorem o_aload_n {i : Fin 4} {a : Nat} (C : oK l g own cc lam mc x) (hd : decode cc pc = .ok (.aload_n i, 1)) (hi : vs[(i : Nat)]? = some (some (.ref a))) (kk : oW l g x σ (pc + 1) vs (.ref a :: st) k) : oW l g x σ pc vs st k := by
  obtain ⟨p, e, R, s, m, args, below, meth, c, Q, A, nL⟩ := x
  obtain ⟨hx, hb, -⟩ := C
  exact fun H locs ls hl hP hS => lv_aload_n hx hb hd rfl (hl.val hi) (kk H locs ls hl hP hS)
theorem o_istore {i : Nat} {z : Int} (C : oK l g own cc lam mc x) (hd : decode cc pc = .ok (.istore i, 2)) (hi : i < vs.length) (kk : oW l g x σ (pc + 2) (vs.set i (some (oi z))) st k) : oW l g x σ pc vs (oi z :: st) k := by
  obtain ⟨p, e, R, s, m, args, below, meth, c, Q, A, nL⟩ := x
  obtain ⟨hx, hb, -⟩ := C
  exact fun H locs ls hl hP hS => lv_istore hx hb hd hl.1 (hl.lt hi) rfl (fun ls' h' => kk H locs ls' (hl.setv rfl hi h') hP hS)
theorem o_istore_n {i : Fin 4} {z : Int} (C : oK l g own cc lam mc x) (hd : decode cc pc = .ok (.istore_n i, 1)) (hi : (i : Nat) < vs.length) (kk : oW l g x σ (pc + 1) (vs.set (i : Nat) (some (oi z))) st k) : oW l g x σ pc vs (oi z :: st) k := by
  obtain ⟨p, e, R, s, m, args, below, meth, c, Q, A, nL⟩ := x
  obtain ⟨hx, hb, -⟩ := C
  exact fun H locs ls hl hP hS => lv_istore_n hx hb hd rfl hl.1 (hl.lt hi) rfl (fun ls' h' => kk H locs ls' (hl.setv rfl hi h') hP hS)
theorem o_astore {i a : Nat} (C : oK l g own cc lam mc x) (hd : decode cc pc = .ok (.astore i, 2)) (hi : i < vs.length) (kk : oW l g x σ (pc + 2) (vs.set i (some (.ref a))) st k) : oW l g x σ pc vs (.ref a :: st) k := by
  obtain ⟨p, e, R, s, m, args, below, meth, c, Q, A, nL⟩ := x
  obtain ⟨hx, hb, -⟩ := C
  exact fun H locs ls hl hP hS => lv_astore hx hb hd hl.1 (hl.lt hi) rfl (fun ls' h' => kk H locs ls' (hl.setv rfl hi h') hP hS)
theorem o_astore_n {i : Fin 4} {a : Nat} (C : oK l g own cc lam mc x) (hd : decode cc pc = .ok (.astore_n i, 1)) (hi : (i : Nat) < vs.length) (kk : oW l g x σ (pc + 1) (vs.set (i : Nat) (some (.ref a))) st k) : oW l g x σ pc vs (.ref a :: st) k := by
  obtain ⟨p, e, R, s, m, args, below, meth, c, Q, A, nL⟩ := x
  obtain ⟨hx, hb, -⟩ := C
  exact fun H locs ls hl hP hS => lv_astore_n hx hb hd rfl hl.1 (hl.lt hi) rfl (fun ls' h' => kk H locs ls' (hl.setv rfl hi h') hP hS)
theorem o_iinc {i : Nat} {n z : Int} (C : oK l g own cc lam mc x) (hd : decode cc pc = .ok (.iinc i n, 3)) (hi : vs[i]? = some (some (oi z))) (kk : oW l g x σ (pc + 3) (vs.set i (some (oi (z + n)))) st k) : oW l g x σ pc vs st k := by
  obtain ⟨p, e, R, s, m, args, below, meth, c, Q, A, nL⟩ := x
  obtain ⟨hx, hb, -⟩ := C
  intro H locs ls hl hP hS
  have hlt : i < vs.length := (List.getElem?_eq_some_iff.mp hi).1
  obtain ⟨j, hj⟩ := List.mem_iff_getElem?.mp ((o_as_mem (i := i) (v := oi z) vs 0).mpr ⟨i, by omega, hi⟩)
  exact lv_iinc (v := Int32.ofInt (z + n)) hx hb hd hl.1 hj (o_add z n) (hl.lt hlt) rfl (fun ls' h' => kk H locs ls' (hl.setv rfl hlt h') hP hS)
theorem o_iadd {a b : Int} (C : oK l g own cc lam mc x) (hd : decode cc pc = .ok (.iadd, 1)) (kk : oW l g x σ (pc + 1) vs (oi (a + b) :: st) k) : oW l g x σ pc vs (oi b :: oi a :: st) k := by
  obtain ⟨p, e, R, s, m, args, below, meth, c, Q, A, nL⟩ := x
  obtain ⟨hx, hb, -⟩ := C
  exact fun H locs ls hl hP hS => lv_iadd hx hb hd (by rw [o_add]; exact kk H locs ls hl hP hS)
theorem o_isub {a b : Int} (C : oK l g own cc lam mc x) (hd : decode cc pc = .ok (.isub, 1)) (kk : oW l g x σ (pc + 1) vs (oi (a - b) :: st) k) : oW l g x σ pc vs (oi b :: oi a :: st) k := by
  obtain ⟨p, e, R, s, m, args, below, meth, c, Q, A, nL⟩ := x
  obtain ⟨hx, hb, -⟩ := C
  exact fun H locs ls hl hP hS => lv_isub hx hb hd (by rw [o_sub]; exact kk H locs ls hl hP hS)
theorem o_imul {a b : Int} (C : oK l g own cc lam mc x) (hd : decode cc pc = .ok (.imul, 1)) (kk : oW l g x σ (pc + 1) vs (oi (a * b) :: st) k) : oW l g x σ pc vs (oi b :: oi a :: st) k := by
  obtain ⟨p, e, R, s, m, args, below, meth, c, Q, A, nL⟩ := x
  obtain ⟨hx, hb, -⟩ := C
  exact fun H locs ls hl hP hS => lv_imul hx hb hd (by rw [o_mul]; exact kk H locs ls hl hP hS)
theorem o_idiv {a b : Int} (C : oK l g own cc lam mc x) (hd : decode cc pc = .ok (.idiv, 1)) (ha : 0 ≤ a) (hb0 : 0 < b) (h1 : InR a) (h2 : InR b) (kk : oW l g x σ (pc + 1) vs (oi (a / b) :: st) k) : oW l g x σ pc vs (oi b :: oi a :: st) k := by
  obtain ⟨p, e, R, s, m, args, below, meth, c, Q, A, nL⟩ := x
  obtain ⟨hx, hb, -⟩ := C
  exact fun H locs ls hl hP hS => lv_idiv hx hb hd (fun h => by rw [show (0 : Int32) = Int32.ofInt 0 from rfl, o_eq h2 ⟨by omega, by omega⟩] at h; omega) (by rw [o_div ha hb0 h1 h2]; exact kk H locs ls hl hP hS)
theorem o_ishl {a b v : Int} (C : oK l g own cc lam mc x) (hd : decode cc pc = .ok (.ishl, 1)) (hv : Int32.ofInt a <<< (Int32.ofInt b &&& 31) = Int32.ofInt v) (kk : oW l g x σ (pc + 1) vs (oi v :: st) k) : oW l g x σ pc vs (oi b :: oi a :: st) k := by
  obtain ⟨p, e, R, s, m, args, below, meth, c, Q, A, nL⟩ := x
  obtain ⟨hx, hb, -⟩ := C
  exact fun H locs ls hl hP hS => lv_ishl hx hb hd (by rw [hv]; exact kk H locs ls hl hP hS)
theorem o_ishr {a b v : Int} (C : oK l g own cc lam mc x) (hd : decode cc pc = .ok (.ishr, 1)) (hv : Int32.ofInt a >>> (Int32.ofInt b &&& 31) = Int32.ofInt v) (kk : oW l g x σ (pc + 1) vs (oi v :: st) k) : oW l g x σ pc vs (oi b :: oi a :: st) k := by
  obtain ⟨p, e, R, s, m, args, below, meth, c, Q, A, nL⟩ := x
  obtain ⟨hx, hb, -⟩ := C
  exact fun H locs ls hl hP hS => lv_ishr hx hb hd (by rw [hv]; exact kk H locs ls hl hP hS)
theorem o_iand {a b v : Int} (C : oK l g own cc lam mc x) (hd : decode cc pc = .ok (.iand, 1)) (hv : Int32.ofInt a &&& Int32.ofInt b = Int32.ofInt v) (kk : oW l g x σ (pc + 1) vs (oi v :: st) k) : oW l g x σ pc vs (oi b :: oi a :: st) k := by
  obtain ⟨p, e, R, s, m, args, below, meth, c, Q, A, nL⟩ := x
  obtain ⟨hx, hb, -⟩ := C
  exact fun H locs ls hl hP hS => lv_iand hx hb hd (by rw [hv]; exact kk H locs ls hl hP hS)
theorem o_ior {a b v : Int} (C : oK l g own cc lam mc x) (hd : decode cc pc = .ok (.ior, 1)) (hv : Int32.ofInt a ||| Int32.ofInt b = Int32.ofInt v) (kk : oW l g x σ (pc + 1) vs (oi v :: st) k) : oW l g x σ pc vs (oi b :: oi a :: st) k := by
  obtain ⟨p, e, R, s, m, args, below, meth, c, Q, A, nL⟩ := x
  obtain ⟨hx, hb, -⟩ := C
  exact fun H locs ls hl hP hS => lv_ior hx hb hd (by rw [hv]; exact kk H locs ls hl hP hS)
theorem o_ixor {a b v : Int} (C : oK l g own cc lam mc x) (hd : decode cc pc = .ok (.ixor, 1)) (hv : Int32.ofInt a ^^^ Int32.ofInt b = Int32.ofInt v) (kk : oW l g x σ (pc + 1) vs (oi v :: st) k) : oW l g x σ pc vs (oi b :: oi a :: st) k := by
  obtain ⟨p, e, R, s, m, args, below, meth, c, Q, A, nL⟩ := x
  obtain ⟨hx, hb, -⟩ := C
  exact fun H locs ls hl hP hS => lv_ixor hx hb hd (by rw [hv]; exact kk H locs ls hl hP hS)
theorem o_goto {off : Int} {tgt : Nat} (C : oK l g own cc lam mc x) (hd : decode cc pc = .ok (.goto off, 3)) (ht : (pc : Int) + off = (tgt : Int)) (kk : oW l g x σ tgt vs st k) : oW l g x σ pc vs st k := by
  obtain ⟨p, e, R, s, m, args, below, meth, c, Q, A, nL⟩ := x
  obtain ⟨hx, hb, -⟩ := C
  exact fun H locs ls hl hP hS => lv_goto hx hb hd ht (kk H locs ls hl hP hS)
theorem o_dup {v : Value} (C : oK l g own cc lam mc x) (hd : decode cc pc = .ok (.dup, 1)) (hv : v.category = 1) (kk : oW l g x σ (pc + 1) vs (v :: v :: st) k) : oW l g x σ pc vs (v :: st) k := by
  obtain ⟨p, e, R, s, m, args, below, meth, c, Q, A, nL⟩ := x
  obtain ⟨hx, hb, -⟩ := C
  exact fun H locs ls hl hP hS => lv_dup hx hb hd hv (kk H locs ls hl hP hS)
theorem o_dup2 {v w : Value} (C : oK l g own cc lam mc x) (hd : decode cc pc = .ok (.dup2, 1)) (hv : v.category = 1) (hw : w.category = 1) (kk : oW l g x σ (pc + 1) vs (v :: w :: v :: w :: st) k) : oW l g x σ pc vs (v :: w :: st) k := by
  obtain ⟨p, e, R, s, m, args, below, meth, c, Q, A, nL⟩ := x
  obtain ⟨hx, hb, -⟩ := C
  exact fun H locs ls hl hP hS => lv_dup2_11 hx hb hd hv hw (kk H locs ls hl hP hS)
theorem o_pop {v : Value} (C : oK l g own cc lam mc x) (hd : decode cc pc = .ok (.pop, 1)) (hv : v.category = 1) (kk : oW l g x σ (pc + 1) vs st k) : oW l g x σ pc vs (v :: st) k := by
  obtain ⟨p, e, R, s, m, args, below, meth, c, Q, A, nL⟩ := x
  obtain ⟨hx, hb, -⟩ := C
  exact fun H locs ls hl hP hS => lv_pop hx hb hd hv (kk H locs ls hl hP hS)
theorem o_icmp_eq {a b off : Int} {tgt : Nat} (C : oK l g own cc lam mc x) (hd : decode cc pc = .ok (.if_icmp .eq off, 3)) (ht : (pc : Int) + off = (tgt : Int)) (ha : InR a) (hb : InR b) (kt : a = b → oW l g x σ tgt vs st k) (kf : ¬ a = b → oW l g x σ (pc + 3) vs st k) : oW l g x σ pc vs (oi b :: oi a :: st) k := by
  obtain ⟨p, e, R, s, m, args, below, meth, c, Q, A, nL⟩ := x
  obtain ⟨hx, hb9, -⟩ := C
  intro H locs ls hl hP hS
  refine lv_icmp_eq hx hb9 hd ht (fun h1 => kt (by rw [o_eq ha hb] at h1; exact h1) H locs ls hl hP hS) (fun h1 => kf ?_ H locs ls hl hP hS)
  rw [o_eq ha hb] at h1
  exact h1
theorem o_if_eq {a off : Int} {tgt : Nat} (C : oK l g own cc lam mc x) (hd : decode cc pc = .ok (.ifCond .eq off, 3)) (ht : (pc : Int) + off = (tgt : Int)) (ha : InR a) (kt : a = 0 → oW l g x σ tgt vs st k) (kf : ¬ a = 0 → oW l g x σ (pc + 3) vs st k) : oW l g x σ pc vs (oi a :: st) k := by
  obtain ⟨p, e, R, s, m, args, below, meth, c, Q, A, nL⟩ := x
  obtain ⟨hx, hb9, -⟩ := C
  have hb : InR 0 := ⟨by omega, by omega⟩
  have h0 : (0 : Int32) = Int32.ofInt 0 := rfl
  intro H locs ls hl hP hS
  refine lv_if_eq hx hb9 hd ht (fun h1 => kt (by rw [h0, o_eq ha hb] at h1; exact h1) H locs ls hl hP hS) (fun h1 => kf ?_ H locs ls hl hP hS)
  rw [h0, o_eq ha hb] at h1
  exact h1
theorem o_icmp_ne {a b off : Int} {tgt : Nat} (C : oK l g own cc lam mc x) (hd : decode cc pc = .ok (.if_icmp .ne off, 3)) (ht : (pc : Int) + off = (tgt : Int)) (ha : InR a) (hb : InR b) (kt : ¬ a = b → oW l g x σ tgt vs st k) (kf : a = b → oW l g x σ (pc + 3) vs st k) : oW l g x σ pc vs (oi b :: oi a :: st) k := by
  obtain ⟨p, e, R, s, m, args, below, meth, c, Q, A, nL⟩ := x
  obtain ⟨hx, hb9, -⟩ := C
  intro H locs ls hl hP hS
  refine lv_icmp_ne hx hb9 hd ht (fun h1 => kt (by rw [o_eq ha hb] at h1; exact h1) H locs ls hl hP hS) (fun h1 => kf ?_ H locs ls hl hP hS)
  rw [o_eq ha hb] at h1
  exact h1
theorem o_if_ne {a off : Int} {tgt : Nat} (C : oK l g own cc lam mc x) (hd : decode cc pc = .ok (.ifCond .ne off, 3)) (ht : (pc : Int) + off = (tgt : Int)) (ha : InR a) (kt : ¬ a = 0 → oW l g x σ tgt vs st k) (kf : a = 0 → oW l g x σ (pc + 3) vs st k) : oW l g x σ pc vs (oi a :: st) k := by
  obtain ⟨p, e, R, s, m, args, below, meth, c, Q, A, nL⟩ := x
  obtain ⟨hx, hb9, -⟩ := C
  have hb : InR 0 := ⟨by omega, by omega⟩
  have h0 : (0 : Int32) = Int32.ofInt 0 := rfl
  intro H locs ls hl hP hS
  refine lv_if_ne hx hb9 hd ht (fun h1 => kt (by rw [h0, o_eq ha hb] at h1; exact h1) H locs ls hl hP hS) (fun h1 => kf ?_ H locs ls hl hP hS)
  rw [h0, o_eq ha hb] at h1
  exact h1
theorem o_icmp_lt {a b off : Int} {tgt : Nat} (C : oK l g own cc lam mc x) (hd : decode cc pc = .ok (.if_icmp .lt off, 3)) (ht : (pc : Int) + off = (tgt : Int)) (ha : InR a) (hb : InR b) (kt : a < b → oW l g x σ tgt vs st k) (kf : b ≤ a → oW l g x σ (pc + 3) vs st k) : oW l g x σ pc vs (oi b :: oi a :: st) k := by
  obtain ⟨p, e, R, s, m, args, below, meth, c, Q, A, nL⟩ := x
  obtain ⟨hx, hb9, -⟩ := C
  intro H locs ls hl hP hS
  refine lv_icmp_lt hx hb9 hd ht (fun h1 => kt (by rw [o_lt ha hb] at h1; exact h1) H locs ls hl hP hS) (fun h1 => kf ?_ H locs ls hl hP hS)
  rw [o_lt ha hb] at h1
  omega
theorem o_if_lt {a off : Int} {tgt : Nat} (C : oK l g own cc lam mc x) (hd : decode cc pc = .ok (.ifCond .lt off, 3)) (ht : (pc : Int) + off = (tgt : Int)) (ha : InR a) (kt : a < 0 → oW l g x σ tgt vs st k) (kf : 0 ≤ a → oW l g x σ (pc + 3) vs st k) : oW l g x σ pc vs (oi a :: st) k := by
  obtain ⟨p, e, R, s, m, args, below, meth, c, Q, A, nL⟩ := x
  obtain ⟨hx, hb9, -⟩ := C
  have hb : InR 0 := ⟨by omega, by omega⟩
  have h0 : (0 : Int32) = Int32.ofInt 0 := rfl
  intro H locs ls hl hP hS
  refine lv_if_lt hx hb9 hd ht (fun h1 => kt (by rw [h0, o_lt ha hb] at h1; exact h1) H locs ls hl hP hS) (fun h1 => kf ?_ H locs ls hl hP hS)
  rw [h0, o_lt ha hb] at h1
  omega
theorem o_icmp_ge {a b off : Int} {tgt : Nat} (C : oK l g own cc lam mc x) (hd : decode cc pc = .ok (.if_icmp .ge off, 3)) (ht : (pc : Int) + off = (tgt : Int)) (ha : InR a) (hb : InR b) (kt : b ≤ a → oW l g x σ tgt vs st k) (kf : a < b → oW l g x σ (pc + 3) vs st k) : oW l g x σ pc vs (oi b :: oi a :: st) k := by
  obtain ⟨p, e, R, s, m, args, below, meth, c, Q, A, nL⟩ := x
  obtain ⟨hx, hb9, -⟩ := C
  intro H locs ls hl hP hS
  refine lv_icmp_ge hx hb9 hd ht (fun h1 => kt (by rw [o_le hb ha] at h1; exact h1) H locs ls hl hP hS) (fun h1 => kf ?_ H locs ls hl hP hS)
  rw [o_le hb ha] at h1
  omega
theorem o_if_ge {a off : Int} {tgt : Nat} (C : oK l g own cc lam mc x) (hd : decode cc pc = .ok (.ifCond .ge off, 3)) (ht : (pc : Int) + off = (tgt : Int)) (ha : InR a) (kt : 0 ≤ a → oW l g x σ tgt vs st k) (kf : a < 0 → oW l g x σ (pc + 3) vs st k) : oW l g x σ pc vs (oi a :: st) k := by
  obtain ⟨p, e, R, s, m, args, below, meth, c, Q, A, nL⟩ := x
  obtain ⟨hx, hb9, -⟩ := C
  have hb : InR 0 := ⟨by omega, by omega⟩
  have h0 : (0 : Int32) = Int32.ofInt 0 := rfl
  intro H locs ls hl hP hS
  refine lv_if_ge hx hb9 hd ht (fun h1 => kt (by rw [h0, o_le hb ha] at h1; exact h1) H locs ls hl hP hS) (fun h1 => kf ?_ H locs ls hl hP hS)
  rw [h0, o_le hb ha] at h1
  omega
theorem o_icmp_gt {a b off : Int} {tgt : Nat} (C : oK l g own cc lam mc x) (hd : decode cc pc = .ok (.if_icmp .gt off, 3)) (ht : (pc : Int) + off = (tgt : Int)) (ha : InR a) (hb : InR b) (kt : b < a → oW l g x σ tgt vs st k) (kf : a ≤ b → oW l g x σ (pc + 3) vs st k) : oW l g x σ pc vs (oi b :: oi a :: st) k := by
  obtain ⟨p, e, R, s, m, args, below, meth, c, Q, A, nL⟩ := x
  obtain ⟨hx, hb9, -⟩ := C
  intro H locs ls hl hP hS
  refine lv_icmp_gt hx hb9 hd ht (fun h1 => kt (by rw [o_lt hb ha] at h1; exact h1) H locs ls hl hP hS) (fun h1 => kf ?_ H locs ls hl hP hS)
  rw [o_lt hb ha] at h1
  omega
theorem o_if_gt {a off : Int} {tgt : Nat} (C : oK l g own cc lam mc x) (hd : decode cc pc = .ok (.ifCond .gt off, 3)) (ht : (pc : Int) + off = (tgt : Int)) (ha : InR a) (kt : 0 < a → oW l g x σ tgt vs st k) (kf : a ≤ 0 → oW l g x σ (pc + 3) vs st k) : oW l g x σ pc vs (oi a :: st) k := by
  obtain ⟨p, e, R, s, m, args, below, meth, c, Q, A, nL⟩ := x
  obtain ⟨hx, hb9, -⟩ := C
  have hb : InR 0 := ⟨by omega, by omega⟩
  have h0 : (0 : Int32) = Int32.ofInt 0 := rfl
  intro H locs ls hl hP hS
  refine lv_if_gt hx hb9 hd ht (fun h1 => kt (by rw [h0, o_lt hb ha] at h1; exact h1) H locs ls hl hP hS) (fun h1 => kf ?_ H locs ls hl hP hS)
  rw [h0, o_lt hb ha] at h1
  omega
theorem o_icmp_le {a b off : Int} {tgt : Nat} (C : oK l g own cc lam mc x) (hd : decode cc pc = .ok (.if_icmp .le off, 3)) (ht : (pc : Int) + off = (tgt : Int)) (ha : InR a) (hb : InR b) (kt : a ≤ b → oW l g x σ tgt vs st k) (kf : b < a → oW l g x σ (pc + 3) vs st k) : oW l g x σ pc vs (oi b :: oi a :: st) k := by
  obtain ⟨p, e, R, s, m, args, below, meth, c, Q, A, nL⟩ := x
  obtain ⟨hx, hb9, -⟩ := C
  intro H locs ls hl hP hS
  refine lv_icmp_le hx hb9 hd ht (fun h1 => kt (by rw [o_le ha hb] at h1; exact h1) H locs ls hl hP hS) (fun h1 => kf ?_ H locs ls hl hP hS)
  rw [o_le ha hb] at h1
  omega
theorem o_if_le {a off : Int} {tgt : Nat} (C : oK l g own cc lam mc x) (hd : decode cc pc = .ok (.ifCond .le off, 3)) (ht : (pc : Int) + off = (tgt : Int)) (ha : InR a) (kt : a ≤ 0 → oW l g x σ tgt vs st k) (kf : 0 < a → oW l g x σ (pc + 3) vs st k) : oW l g x σ pc vs (oi a :: st) k := by
  obtain ⟨p, e, R, s, m, args, below, meth, c, Q, A, nL⟩ := x
  obtain ⟨hx, hb9, -⟩ := C
  have hb : InR 0 := ⟨by omega, by omega⟩
  have h0 : (0 : Int32) = Int32.ofInt 0 := rfl
  intro H locs ls hl hP hS
  refine lv_if_le hx hb9 hd ht (fun h1 => kt (by rw [h0, o_le ha hb] at h1; exact h1) H locs ls hl hP hS) (fun h1 => kf ?_ H locs ls hl hP hS)
  rw [h0, o_le ha hb] at h1
  omega
end ORULES
