set_option maxRecDepth 100000 in
theorem zw_math : Cond.initialized "java/lang/Math" ∈ zw_good := zw_in (by decide +kernel) (by decide +kernel)
set_option maxRecDepth 100000 in
theorem zw_max1 : Cond.static Lib.Math.max.name ∈ zw_good := zw_in (by decide +kernel) (by decide +kernel)
set_option maxRecDepth 100000 in
theorem zw_min1 : Cond.static Lib.Math.min.name ∈ zw_good := zw_in (by decide +kernel) (by decide +kernel)
set_option maxRecDepth 100000 in
theorem zw_max2 : Cond.code Lib.Math.max.name Lib.Math.max.code 2 (some .int) ∈ zw_good := zw_in (by decide +kernel) (by decide +kernel)
set_option maxRecDepth 100000 in
theorem zw_min2 : Cond.code Lib.Math.min.name Lib.Math.min.code 2 (some .int) ∈ zw_good := zw_in (by decide +kernel) (by decide +kernel)
section JR
variable {E : ET} {own : String} {cc : ByteArray} {ce sl : Nat} {G : GT} {pc : Nat} {lv : List (Nat × Value)} {st : List Value} {Z : ZT}
theorem j_iload_n (C : Cb E own cc) {k : Fin 4} {i : Nat} {x : Int32} (q : Nat) (hd : decode cc pc = .ok (.iload_n k, 1)) (hi : (k : Nat) = i) (hl : lv[q]? = some (i, .int x)) (kk : J E ce sl G (pc + 1) lv (.int x :: st) Z) : J E ce sl G pc lv st Z :=
  fun H locs ls hP hS h => lv_iload_n C.hx C.hb hd hi (lv_at h q hl) (kk H locs ls hP hS h)
theorem j_iload (C : Cb E own cc) {i : Nat} {x : Int32} (q : Nat) (hd : decode cc pc = .ok (.iload i, 2)) (hl : lv[q]? = some (i, .int x)) (kk : J E ce sl G (pc + 2) lv (.int x :: st) Z) : J E ce sl G pc lv st Z :=
  fun H locs ls hP hS h => lv_iload C.hx C.hb hd (lv_at h q hl) (kk H locs ls hP hS h)
theorem j_istore_n (C : Cb E own cc) {k : Fin 4} {i : Nat} {x : Int32} {lv' : List (Nat × Value)} (hd : decode cc pc = .ok (.istore_n k, 1)) (hi : (k : Nat) = i) (hn : i < eN E) (hl : (i, Value.int x) :: lv.filter (fun q => !(q.1 == i) && !(q.1 + 1 == i && q.2.category == 2)) = lv') (kk : J E ce sl G (pc + 1) lv' st Z) : J E ce sl G pc lv (.int x :: st) Z :=
  fun H locs ls hP hS h => lv_istore_n C.hx C.hb hd hi h hn hl (fun ls2 h2 => kk H locs ls2 hP hS h2)
theorem j_istore (C : Cb E own cc) {i : Nat} {x : Int32} {lv' : List (Nat × Value)} (hd : decode cc pc = .ok (.istore i, 2)) (hn : i < eN E) (hl : (i, Value.int x) :: lv.filter (fun q => !(q.1 == i) && !(q.1 + 1 == i && q.2.category == 2)) = lv') (kk : J E ce sl G (pc + 2) lv' st Z) : J E ce sl G pc lv (.int x :: st) Z :=
  fun H locs ls hP hS h => lv_istore C.hx C.hb hd h hn hl (fun ls2 h2 => kk H locs ls2 hP hS h2)
theorem j_aload_n (C : Cb E own cc) {k : Fin 4} {i : Nat} {x : Nat} (q : Nat) (hd : decode cc pc = .ok (.aload_n k, 1)) (hi : (k : Nat) = i) (hl : lv[q]? = some (i, .ref x)) (kk : J E ce sl G (pc + 1) lv (.ref x :: st) Z) : J E ce sl G pc lv st Z :=
  fun H locs ls hP hS h => lv_aload_n C.hx C.hb hd hi (lv_at h q hl) (kk H locs ls hP hS h)
theorem j_aload (C : Cb E own cc) {i : Nat} {x : Nat} (q : Nat) (hd : decode cc pc = .ok (.aload i, 2)) (hl : lv[q]? = some (i, .ref x)) (kk : J E ce sl G (pc + 2) lv (.ref x :: st) Z) : J E ce sl G pc lv st Z :=
  fun H locs ls hP hS h => lv_aload C.hx C.hb hd (lv_at h q hl) (kk H locs ls hP hS h)
theorem j_astore_n (C : Cb E own cc) {k : Fin 4} {i : Nat} {x : Nat} {lv' : List (Nat × Value)} (hd : decode cc pc = .ok (.astore_n k, 1)) (hi : (k : Nat) = i) (hn : i < eN E) (hl : (i, Value.ref x) :: lv.filter (fun q => !(q.1 == i) && !(q.1 + 1 == i && q.2.category == 2)) = lv') (kk : J E ce sl G (pc + 1) lv' st Z) : J E ce sl G pc lv (.ref x :: st) Z :=
  fun H locs ls hP hS h => lv_astore_n C.hx C.hb hd hi h hn hl (fun ls2 h2 => kk H locs ls2 hP hS h2)
theorem j_astore (C : Cb E own cc) {i : Nat} {x : Nat} {lv' : List (Nat × Value)} (hd : decode cc pc = .ok (.astore i, 2)) (hn : i < eN E) (hl : (i, Value.ref x) :: lv.filter (fun q => !(q.1 == i) && !(q.1 + 1 == i && q.2.category == 2)) = lv') (kk : J E ce sl G (pc + 2) lv' st Z) : J E ce sl G pc lv (.ref x :: st) Z :=
  fun H locs ls hP hS h => lv_astore C.hx C.hb hd h hn hl (fun ls2 h2 => kk H locs ls2 hP hS h2)
theorem j_iinc (C : Cb E own cc) {i : Nat} {n : Int} {x v : Int32} {lv' : List (Nat × Value)} (q : Nat) (hd : decode cc pc = .ok (.iinc i n, 3)) (hk : lv[q]? = some (i, .int x)) (hv : x + Int32.ofInt n = v) (hn : i < eN E) (hl : (i, Value.int v) :: lv.filter (fun q => !(q.1 == i) && !(q.1 + 1 == i && q.2.category == 2)) = lv') (kk : J E ce sl G (pc + 3) lv' st Z) : J E ce sl G pc lv st Z :=
  fun H locs ls hP hS h => lv_iinc C.hx C.hb hd h hk hv hn hl (fun ls2 h2 => kk H locs ls2 hP hS h2)
theorem j_iconst (C : Cb E own cc) {n : Int} (v : Int32) (hd : decode cc pc = .ok (.iconst n, 1)) (hv : Int32.ofInt n = v) (kk : J E ce sl G (pc + 1) lv (.int v :: st) Z) : J E ce sl G pc lv st Z :=
  fun H locs ls hP hS h => lv_iconst C.hx C.hb hd hv (kk H locs ls hP hS h)
theorem j_bipush (C : Cb E own cc) {n : Int} (v : Int32) (hd : decode cc pc = .ok (.bipush n, 2)) (hv : (Int8.ofInt n).toInt32 = v) (kk : J E ce sl G (pc + 2) lv (.int v :: st) Z) : J E ce sl G pc lv st Z :=
  fun H locs ls hP hS h => lv_bipush C.hx C.hb hd hv (kk H locs ls hP hS h)
theorem j_sipush (C : Cb E own cc) {n : Int} (v : Int32) (hd : decode cc pc = .ok (.sipush n, 3)) (hv : (Int16.ofInt n).toInt32 = v) (kk : J E ce sl G (pc + 3) lv (.int v :: st) Z) : J E ce sl G pc lv st Z :=
  fun H locs ls hP hS h => lv_sipush C.hx C.hb hd hv (kk H locs ls hP hS h)
theorem j_ldc (C : Cb E own cc) {index : Nat} (v : Int32) (hw : Cond.constant own index v ∈ zw_good) (hd : decode cc pc = .ok (.ldc index, 2)) (kk : J E ce sl G (pc + 2) lv (.int v :: st) Z) : J E ce sl G pc lv st Z :=
  fun H locs ls hP hS h => lv_ldc C.hx C.hb C.ho (C.hts _ hw) hd (kk H locs ls hP hS h)
theorem j_iadd (C : Cb E own cc) {x y : Int32} (v : Int32) (hd : decode cc pc = .ok (.iadd, 1)) (hv : x + y = v) (kk : J E ce sl G (pc + 1) lv (.int v :: st) Z) : J E ce sl G pc lv (.int y :: .int x :: st) Z :=
  fun H locs ls hP hS h => lv_iadd C.hx C.hb hd (by rw [hv]; exact kk H locs ls hP hS h)
theorem j_isub (C : Cb E own cc) {x y : Int32} (v : Int32) (hd : decode cc pc = .ok (.isub, 1)) (hv : x - y = v) (kk : J E ce sl G (pc + 1) lv (.int v :: st) Z) : J E ce sl G pc lv (.int y :: .int x :: st) Z :=
  fun H locs ls hP hS h => lv_isub C.hx C.hb hd (by rw [hv]; exact kk H locs ls hP hS h)
theorem j_imul (C : Cb E own cc) {x y : Int32} (v : Int32) (hd : decode cc pc = .ok (.imul, 1)) (hv : x * y = v) (kk : J E ce sl G (pc + 1) lv (.int v :: st) Z) : J E ce sl G pc lv (.int y :: .int x :: st) Z :=
  fun H locs ls hP hS h => lv_imul C.hx C.hb hd (by rw [hv]; exact kk H locs ls hP hS h)
theorem j_iand (C : Cb E own cc) {x y : Int32} (v : Int32) (hd : decode cc pc = .ok (.iand, 1)) (hv : x &&& y = v) (kk : J E ce sl G (pc + 1) lv (.int v :: st) Z) : J E ce sl G pc lv (.int y :: .int x :: st) Z :=
  fun H locs ls hP hS h => lv_iand C.hx C.hb hd (by rw [hv]; exact kk H locs ls hP hS h)
theorem j_idiv (C : Cb E own cc) {x y : Int32} (v : Int32) (hd : decode cc pc = .ok (.idiv, 1)) (hne : ¬ y = 0) (hv : x / y = v) (kk : J E ce sl G (pc + 1) lv (.int v :: st) Z) : J E ce sl G pc lv (.int y :: .int x :: st) Z :=
  fun H locs ls hP hS h => lv_idiv C.hx C.hb hd hne (by rw [hv]; exact kk H locs ls hP hS h)
theorem j_irem (C : Cb E own cc) {x y : Int32} (v : Int32) (hd : decode cc pc = .ok (.irem, 1)) (hne : ¬ y = 0) (hv : x - x / y * y = v) (kk : J E ce sl G (pc + 1) lv (.int v :: st) Z) : J E ce sl G pc lv (.int y :: .int x :: st) Z :=
  fun H locs ls hP hS h => lv_irem C.hx C.hb hd hne (by rw [hv]; exact kk H locs ls hP hS h)
theorem j_i2l (C : Cb E own cc) {x : Int32} (hd : decode cc pc = .ok (.i2l, 1)) (kk : J E ce sl G (pc + 1) lv (.long x.toInt64 :: st) Z) : J E ce sl G pc lv (.int x :: st) Z :=
  fun H locs ls hP hS h => lv_i2l C.hx C.hb hd rfl (kk H locs ls hP hS h)
theorem j_lcmp (C : Cb E own cc) {x y : Int64} (v : Int32) (hd : decode cc pc = .ok (.lcmp, 1)) (hv : lg_cmp x y = v) (kk : J E ce sl G (pc + 1) lv (.int v :: st) Z) : J E ce sl G pc lv (.long y :: .long x :: st) Z :=
  fun H locs ls hP hS h => W.lcmp C.hx C.hb hd (by rw [hv]; exact kk H locs ls hP hS h)
theorem j_dup (C : Cb E own cc) {va : Value} (hd : decode cc pc = .ok (.dup, 1)) (hva : va.category = 1) (kk : J E ce sl G (pc + 1) lv (va :: va :: st) Z) : J E ce sl G pc lv (va :: st) Z :=
  fun H locs ls hP hS h => lv_dup C.hx C.hb hd hva (kk H locs ls hP hS h)
theorem j_dup2 (C : Cb E own cc) {va vb : Value} (hd : decode cc pc = .ok (.dup2, 1)) (hva : va.category = 1) (hvb : vb.category = 1) (kk : J E ce sl G (pc + 1) lv (va :: vb :: va :: vb :: st) Z) : J E ce sl G pc lv (va :: vb :: st) Z :=
  fun H locs ls hP hS h => lv_dup2_11 C.hx C.hb hd hva hvb (kk H locs ls hP hS h)
theorem j_goto (C : Cb E own cc) {off : Int} {tgt : Nat} (hd : decode cc pc = .ok (.goto off, 3)) (ht : (pc : Int) + off = (tgt : Int)) (kk : J E ce sl G tgt lv st Z) : J E ce sl G pc lv st Z :=
  fun H locs ls hP hS h => lv_goto C.hx C.hb hd ht (kk H locs ls hP hS h)
theorem zi_eq {x y : Int32} {a b : Int} (hx : x.toInt = a) (hy : y.toInt = b) : x = y ↔ a = b := by rw [← hx, ← hy]; exact Int32.toInt_inj.symm
theorem zi_lt {x y : Int32} {a b : Int} (hx : x.toInt = a) (hy : y.toInt = b) : x < y ↔ a < b := by rw [← hx, ← hy]; exact Int32.lt_iff_toInt_lt
theorem zi_le {x y : Int32} {a b : Int} (hx : x.toInt = a) (hy : y.toInt = b) : x ≤ y ↔ a ≤ b := by rw [← hx, ← hy]; exact Int32.le_iff_toInt_le
theorem j_icmp_eq (C : Cb E own cc) {x y : Int32} {off : Int} {tgt : Nat} {a b : Int} (hx : x.toInt = a) (hy : y.toInt = b) (hd : decode cc pc = .ok (.if_icmp .eq off, 3)) (ht : (pc : Int) + off = (tgt : Int)) (kt : a = b → J E ce sl G tgt lv st Z) (kf : a ≠ b → J E ce sl G (pc + 3) lv st Z) : J E ce sl G pc lv (.int y :: .int x :: st) Z :=
  fun H locs ls hP hS h => lv_icmp_eq C.hx C.hb hd ht (fun c9 => kt ((zi_eq hx hy).mp c9) H locs ls hP hS h) (fun c9 => kf (fun z => c9 ((zi_eq hx hy).mpr z)) H locs ls hP hS h)
theorem j_if_eq (C : Cb E own cc) {x : Int32} {off : Int} {tgt : Nat} {a : Int} (hx : x.toInt = a) (hd : decode cc pc = .ok (.ifCond .eq off, 3)) (ht : (pc : Int) + off = (tgt : Int)) (kt : a = 0 → J E ce sl G tgt lv st Z) (kf : a ≠ 0 → J E ce sl G (pc + 3) lv st Z) : J E ce sl G pc lv (.int x :: st) Z :=
  fun H locs ls hP hS h => lv_if_eq C.hx C.hb hd ht (fun c9 => kt ((zi_eq hx (show (0 : Int32).toInt = 0 from rfl)).mp c9) H locs ls hP hS h) (fun c9 => kf (fun z => c9 ((zi_eq hx (show (0 : Int32).toInt = 0 from rfl)).mpr z)) H locs ls hP hS h)
theorem j_icmp_ne (C : Cb E own cc) {x y : Int32} {off : Int} {tgt : Nat} {a b : Int} (hx : x.toInt = a) (hy : y.toInt = b) (hd : decode cc pc = .ok (.if_icmp .ne off, 3)) (ht : (pc : Int) + off = (tgt : Int)) (kt : a ≠ b → J E ce sl G tgt lv st Z) (kf : a = b → J E ce sl G (pc + 3) lv st Z) : J E ce sl G pc lv (.int y :: .int x :: st) Z :=
  fun H locs ls hP hS h => lv_icmp_ne C.hx C.hb hd ht (fun c9 => kt (fun z => c9 ((zi_eq hx hy).mpr z)) H locs ls hP hS h) (fun c9 => kf ((zi_eq hx hy).mp c9) H locs ls hP hS h)
theorem j_if_ne (C : Cb E own cc) {x : Int32} {off : Int} {tgt : Nat} {a : Int} (hx : x.toInt = a) (hd : decode cc pc = .ok (.ifCond .ne off, 3)) (ht : (pc : Int) + off = (tgt : Int)) (kt : a ≠ 0 → J E ce sl G tgt lv st Z) (kf : a = 0 → J E ce sl G (pc + 3) lv st Z) : J E ce sl G pc lv (.int x :: st) Z :=
  fun H locs ls hP hS h => lv_if_ne C.hx C.hb hd ht (fun c9 => kt (fun z => c9 ((zi_eq hx (show (0 : Int32).toInt = 0 from rfl)).mpr z)) H locs ls hP hS h) (fun c9 => kf ((zi_eq hx (show (0 : Int32).toInt = 0 from rfl)).mp c9) H locs ls hP hS h)
theorem j_icmp_lt (C : Cb E own cc) {x y : Int32} {off : Int} {tgt : Nat} {a b : Int} (hx : x.toInt = a) (hy : y.toInt = b) (hd : decode cc pc = .ok (.if_icmp .lt off, 3)) (ht : (pc : Int) + off = (tgt : Int)) (kt : a < b → J E ce sl G tgt lv st Z) (kf : b ≤ a → J E ce sl G (pc + 3) lv st Z) : J E ce sl G pc lv (.int y :: .int x :: st) Z :=
  fun H locs ls hP hS h => lv_icmp_lt C.hx C.hb hd ht (fun c9 => kt ((zi_lt hx hy).mp c9) H locs ls hP hS h) (fun c9 => kf (Int.not_lt.mp (fun z => c9 ((zi_lt hx hy).mpr z))) H locs ls hP hS h)
theorem j_if_lt (C : Cb E own cc) {x : Int32} {off : Int} {tgt : Nat} {a : Int} (hx : x.toInt = a) (hd : decode cc pc = .ok (.ifCond .lt off, 3)) (ht : (pc : Int) + off = (tgt : Int)) (kt : a < 0 → J E ce sl G tgt lv st Z) (kf : 0 ≤ a → J E ce sl G (pc + 3) lv st Z) : J E ce sl G pc lv (.int x :: st) Z :=
  fun H locs ls hP hS h => lv_if_lt C.hx C.hb hd ht (fun c9 => kt ((zi_lt hx (show (0 : Int32).toInt = 0 from rfl)).mp c9) H locs ls hP hS h) (fun c9 => kf (Int.not_lt.mp (fun z => c9 ((zi_lt hx (show (0 : Int32).toInt = 0 from rfl)).mpr z))) H locs ls hP hS h)
theorem j_icmp_ge (C : Cb E own cc) {x y : Int32} {off : Int} {tgt : Nat} {a b : Int} (hx : x.toInt = a) (hy : y.toInt = b) (hd : decode cc pc = .ok (.if_icmp .ge off, 3)) (ht : (pc : Int) + off = (tgt : Int)) (kt : b ≤ a → J E ce sl G tgt lv st Z) (kf : a < b → J E ce sl G (pc + 3) lv st Z) : J E ce sl G pc lv (.int y :: .int x :: st) Z :=
  fun H locs ls hP hS h => lv_icmp_ge C.hx C.hb hd ht (fun c9 => kt ((zi_le hy hx).mp c9) H locs ls hP hS h) (fun c9 => kf (Int.not_le.mp (fun z => c9 ((zi_le hy hx).mpr z))) H locs ls hP hS h)
theorem j_if_ge (C : Cb E own cc) {x : Int32} {off : Int} {tgt : Nat} {a : Int} (hx : x.toInt = a) (hd : decode cc pc = .ok (.ifCond .ge off, 3)) (ht : (pc : Int) + off = (tgt : Int)) (kt : 0 ≤ a → J E ce sl G tgt lv st Z) (kf : a < 0 → J E ce sl G (pc + 3) lv st Z) : J E ce sl G pc lv (.int x :: st) Z :=
  fun H locs ls hP hS h => lv_if_ge C.hx C.hb hd ht (fun c9 => kt ((zi_le (show (0 : Int32).toInt = 0 from rfl) hx).mp c9) H locs ls hP hS h) (fun c9 => kf (Int.not_le.mp (fun z => c9 ((zi_le (show (0 : Int32).toInt = 0 from rfl) hx).mpr z))) H locs ls hP hS h)
theorem j_icmp_gt (C : Cb E own cc) {x y : Int32} {off : Int} {tgt : Nat} {a b : Int} (hx : x.toInt = a) (hy : y.toInt = b) (hd : decode cc pc = .ok (.if_icmp .gt off, 3)) (ht : (pc : Int) + off = (tgt : Int)) (kt : b < a → J E ce sl G tgt lv st Z) (kf : a ≤ b → J E ce sl G (pc + 3) lv st Z) : J E ce sl G pc lv (.int y :: .int x :: st) Z :=
  fun H locs ls hP hS h => lv_icmp_gt C.hx C.hb hd ht (fun c9 => kt ((zi_lt hy hx).mp c9) H locs ls hP hS h) (fun c9 => kf (Int.not_lt.mp (fun z => c9 ((zi_lt hy hx).mpr z))) H locs ls hP hS h)
theorem j_if_gt (C : Cb E own cc) {x : Int32} {off : Int} {tgt : Nat} {a : Int} (hx : x.toInt = a) (hd : decode cc pc = .ok (.ifCond .gt off, 3)) (ht : (pc : Int) + off = (tgt : Int)) (kt : 0 < a → J E ce sl G tgt lv st Z) (kf : a ≤ 0 → J E ce sl G (pc + 3) lv st Z) : J E ce sl G pc lv (.int x :: st) Z :=
  fun H locs ls hP hS h => lv_if_gt C.hx C.hb hd ht (fun c9 => kt ((zi_lt (show (0 : Int32).toInt = 0 from rfl) hx).mp c9) H locs ls hP hS h) (fun c9 => kf (Int.not_lt.mp (fun z => c9 ((zi_lt (show (0 : Int32).toInt = 0 from rfl) hx).mpr z))) H locs ls hP hS h)
theorem j_icmp_le (C : Cb E own cc) {x y : Int32} {off : Int} {tgt : Nat} {a b : Int} (hx : x.toInt = a) (hy : y.toInt = b) (hd : decode cc pc = .ok (.if_icmp .le off, 3)) (ht : (pc : Int) + off = (tgt : Int)) (kt : a ≤ b → J E ce sl G tgt lv st Z) (kf : b < a → J E ce sl G (pc + 3) lv st Z) : J E ce sl G pc lv (.int y :: .int x :: st) Z :=
  fun H locs ls hP hS h => lv_icmp_le C.hx C.hb hd ht (fun c9 => kt ((zi_le hx hy).mp c9) H locs ls hP hS h) (fun c9 => kf (Int.not_le.mp (fun z => c9 ((zi_le hx hy).mpr z))) H locs ls hP hS h)
theorem j_if_le (C : Cb E own cc) {x : Int32} {off : Int} {tgt : Nat} {a : Int} (hx : x.toInt = a) (hd : decode cc pc = .ok (.ifCond .le off, 3)) (ht : (pc : Int) + off = (tgt : Int)) (kt : a ≤ 0 → J E ce sl G tgt lv st Z) (kf : 0 < a → J E ce sl G (pc + 3) lv st Z) : J E ce sl G pc lv (.int x :: st) Z :=
  fun H locs ls hP hS h => lv_if_le C.hx C.hb hd ht (fun c9 => kt ((zi_le hx (show (0 : Int32).toInt = 0 from rfl)).mp c9) H locs ls hP hS h) (fun c9 => kf (Int.not_le.mp (fun z => c9 ((zi_le hx (show (0 : Int32).toInt = 0 from rfl)).mpr z))) H locs ls hP hS h)
theorem j_tableOut (C : Cb E own cc) {dflt lo hi : Int} {offs : Array Int} {len : Nat} {x : Int32} {tgt : Nat} (hd : decode cc pc = .ok (.tableswitch dflt lo hi offs, len)) (h9 : x.toInt < lo ∨ hi < x.toInt) (ht : (pc : Int) + dflt = (tgt : Int)) (kk : J E ce sl G tgt lv st Z) : J E ce sl G pc lv (.int x :: st) Z :=
  fun H locs ls hP hS h => lv_tableOut C.hx C.hb hd h9 ht (kk H locs ls hP hS h)
theorem j_tableIn (C : Cb E own cc) {dflt lo hi : Int} {offs : Array Int} {len : Nat} {x : Int32} {off : Int} {tgt : Nat} (hd : decode cc pc = .ok (.tableswitch dflt lo hi offs, len)) (h1 : ¬ x.toInt < lo) (h2 : ¬ hi < x.toInt) (ho : offs[(x.toInt - lo).toNat]? = some off) (ht : (pc : Int) + off = (tgt : Int)) (kk : J E ce sl G tgt lv st Z) : J E ce sl G pc lv (.int x :: st) Z :=
  fun H locs ls hP hS h => lv_tableIn C.hx C.hb hd h1 h2 ho ht (kk H locs ls hP hS h)
theorem j_lookup (C : Cb E own cc) {dflt : Int} {ps : Array (Int × Int)} {len : Nat} {x : Int32} {off : Int} {tgt : Nat} (hd : decode cc pc = .ok (.lookupswitch dflt ps, len)) (hp : (ps.toList.zip (ps.toList.drop 1)).all (fun (a, next) => a.1 < next.1) = true) (ho : Op.lookupswitch.offset ps.toList dflt x.toInt = off) (ht : (pc : Int) + off = (tgt : Int)) (kk : J E ce sl G tgt lv st Z) : J E ce sl G pc lv (.int x :: st) Z :=
  fun H locs ls hP hS h => lv_lookup C.hx C.hb hd hp ho ht (kk H locs ls hP hS h)
theorem j_top {x y : Int32} (e : x = y) (kk : J E ce sl G pc lv (.int y :: st) Z) : J E ce sl G pc lv (.int x :: st) Z := by rw [e]; exact kk
theorem j_st {st' : List Value} (e : st = st') (kk : J E ce sl G pc lv st' Z) : J E ce sl G pc lv st Z := by rw [e]; exact kk
theorem j_lv {lv' : List (Nat × Value)} (e : lv = lv') (kk : J E ce sl G pc lv' st Z) : J E ce sl G pc lv st Z := by rw [e]; exact kk
theorem j_Z {Z' : ZT} (e : Z = Z') (kk : J E ce sl G pc lv st Z') : J E ce sl G pc lv st Z := by rw [e]; exact kk
theorem j_sub {lv' : List (Nat × Value)} (ks : List Nat) (e : lv_pick lv ks = lv') (kk : J E ce sl G pc lv' st Z) : J E ce sl G pc lv st Z := fun H locs ls hP hS h => kk H locs ls hP hS (lv_sub h ks e)
theorem j_getI (C : Cb E own cc) {k c f N index : Nat} {C0 : String} {T : u_T} {ty : Nat → FieldType} (hk : zK k C0 T N ty) (hc : c < G.1) (hs : G.2.2.1 c = k) (hf : f < N) (hr : zr k f = false) (hlink : Cond.fieldLink own index C0 (T f).2.1 (T f).2.2.1 ∈ zw_good) (hT : (T f).1 = C0) (v : Int32) (hv : Z c f = v) (hd : decode cc pc = .ok (.getfield index, 3)) (kk : J E ce sl G (pc + 3) lv (.int v :: st) Z) : J E ce sl G pc lv (.ref (G.2.1 c) :: st) Z :=
  fun H locs ls hP hS h => va_get C.hx C.hb C.hts hk.2.1 C.ho C.hK hP c (by rw [zc_at hc, ze_obj hs hk.2.2.2.1]) hk.1 f hf (C.hts _ hlink) (fun _ h9 => hT ▸ h9) (by rw [zfl_at (by rw [hk.2.2.1]; exact hf) hr, hv]) hd (kk H locs ls hP hS h)
theorem j_getR (C : Cb E own cc) {k c f N index : Nat} {C0 : String} {T : u_T} {ty : Nat → FieldType} (hk : zK k C0 T N ty) (hc : c < G.1) (hs : G.2.2.1 c = k) (hf : f < N) {t : Nat} (hr : zr k f = true) (hlink : Cond.fieldLink own index C0 (T f).2.1 (T f).2.2.1 ∈ zw_good) (hT : (T f).1 = C0) (hv : G.2.2.2.2 c f = some t) (hd : decode cc pc = .ok (.getfield index, 3)) (kk : J E ce sl G (pc + 3) lv (.ref (G.2.1 t) :: st) Z) : J E ce sl G pc lv (.ref (G.2.1 c) :: st) Z :=
  fun H locs ls hP hS h => va_get C.hx C.hb C.hts hk.2.1 C.ho C.hK hP c (by rw [zc_at hc, ze_obj hs hk.2.2.2.1]) hk.1 f hf (C.hts _ hlink) (fun _ h9 => hT ▸ h9) (zfl_atR (by rw [hk.2.2.1]; exact hf) hr hv) hd (kk H locs ls hP hS h)
theorem j_getIN (C : Cb E own cc) {k c f N index : Nat} {C0 : String} {T : u_T} {ty : Nat → FieldType} (hk : zK k C0 T N ty) (hc : c < G.1) (hs : G.2.2.1 c = k) (hf : f < N) (hr : zr k f = false) {host : String} (hlink : Cond.fieldLinkNest own index C0 (T f).2.1 (T f).2.2.1 host ∈ zw_nest) (hT : (T f).1 = C0) (v : Int32) (hv : Z c f = v) (hd : decode cc pc = .ok (.getfield index, 3)) (kk : J E ce sl G (pc + 3) lv (.int v :: st) Z) : J E ce sl G pc lv (.ref (G.2.1 c) :: st) Z :=
  fun H locs ls hP hS h => va_getN C.hx C.hb C.hts hk.2.1 C.ho C.hK hP c (by rw [zc_at hc, ze_obj hs hk.2.2.2.1]) hk.1 f hf (va_Nw.use (zw_on hlink) (C.hnw _ hlink)) (fun _ h9 => hT ▸ h9) (by rw [zfl_at (by rw [hk.2.2.1]; exact hf) hr, hv]) hd (kk H locs ls hP hS h)
theorem j_getRN (C : Cb E own cc) {k c f N index : Nat} {C0 : String} {T : u_T} {ty : Nat → FieldType} (hk : zK k C0 T N ty) (hc : c < G.1) (hs : G.2.2.1 c = k) (hf : f < N) {t : Nat} (hr : zr k f = true) {host : String} (hlink : Cond.fieldLinkNest own index C0 (T f).2.1 (T f).2.2.1 host ∈ zw_nest) (hT : (T f).1 = C0) (hv : G.2.2.2.2 c f = some t) (hd : decode cc pc = .ok (.getfield index, 3)) (kk : J E ce sl G (pc + 3) lv (.ref (G.2.1 t) :: st) Z) : J E ce sl G pc lv (.ref (G.2.1 c) :: st) Z :=
  fun H locs ls hP hS h => va_getN C.hx C.hb C.hts hk.2.1 C.ho C.hK hP c (by rw [zc_at hc, ze_obj hs hk.2.2.2.1]) hk.1 f hf (va_Nw.use (zw_on hlink) (C.hnw _ hlink)) (fun _ h9 => hT ▸ h9) (zfl_atR (by rw [hk.2.2.1]; exact hf) hr hv) hd (kk H locs ls hP hS h)
theorem j_putI (C : Cb E own cc) (hD : GD (e0 E) G) {k c f N index : Nat} {C0 : String} {T : u_T} {ty : Nat → FieldType} (hk : zK k C0 T N ty) (hc : c < G.1) (hs : G.2.2.1 c = k) (hf : f < N) (hr : zr k f = false) (hlink : Cond.fieldLink own index C0 (T f).2.1 (T f).2.2.1 ∈ zw_good) (hT : (T f).1 = C0) (hfin : (T f).2.2.2 = false) {v : Int32} (hn : narrow (ty f) (.int v) = .int v) (hfit : fits (ty f) (.int v) = true) (hd : decode cc pc = .ok (.putfield index, 3)) (kk : J E ce sl G (pc + 3) lv st (zu Z c f v)) : J E ce sl G pc lv (.int v :: .ref (G.2.1 c) :: st) Z :=
  fun H locs ls hP hS h => va_put C.hx C.hb C.hts hk.2.1 ty hk.2.2.2.2.1 hk.2.2.2.2.2 C.ho C.hK hP (zc_D hD) hS c (by rw [zc_at hc, ze_obj hs hk.2.2.2.1]) hk.1 f hf (C.hts _ hlink) (fun _ h9 => hT ▸ h9) hfin (hk.2.2.2.2.1 f hf) hn hfit (by rw [zfl_len, hk.2.2.1]; exact hf) hd (fun H1 locs1 hP1 _ hS1 => kk H1 locs1 ls (by rw [zc_putI hc hs hk.2.2.2.1 (by rw [hk.2.2.1]; exact hf) hr] at hP1; exact hP1) hS1 h)
theorem j_putIN (C : Cb E own cc) (hD : GD (e0 E) G) {k c f N index : Nat} {C0 : String} {T : u_T} {ty : Nat → FieldType} (hk : zK k C0 T N ty) (hc : c < G.1) (hs : G.2.2.1 c = k) (hf : f < N) (hr : zr k f = false) {host : String} (hlink : Cond.fieldLinkNest own index C0 (T f).2.1 (T f).2.2.1 host ∈ zw_nest) (hT : (T f).1 = C0) (hfin : (T f).2.2.2 = false) {v : Int32} (hn : narrow (ty f) (.int v) = .int v) (hfit : fits (ty f) (.int v) = true) (hd : decode cc pc = .ok (.putfield index, 3)) (kk : J E ce sl G (pc + 3) lv st (zu Z c f v)) : J E ce sl G pc lv (.int v :: .ref (G.2.1 c) :: st) Z :=
  fun H locs ls hP hS h => va_putN C.hx C.hb C.hts hk.2.1 ty hk.2.2.2.2.1 hk.2.2.2.2.2 C.ho C.hK hP (zc_D hD) hS c (by rw [zc_at hc, ze_obj hs hk.2.2.2.1]) hk.1 f hf (va_Nw.use (zw_on hlink) (C.hnw _ hlink)) (fun _ h9 => hT ▸ h9) hfin (hk.2.2.2.2.1 f hf) hn hfit (by rw [zfl_len, hk.2.2.1]; exact hf) hd (fun H1 locs1 hP1 _ hS1 => kk H1 locs1 ls (by rw [zc_putI hc hs hk.2.2.2.1 (by rw [hk.2.2.1]; exact hf) hr] at hP1; exact hP1) hS1 h)
theorem j_iald (C : Cb E own cc) {c j n : Nat} {x : Int32} (hc : c < G.1) (hs : G.2.2.1 c = 6) (hn : G.2.2.2.1 c = n) (hx : x = nI j) (hj : j < n) (hb : n < 2 ^ 31) (v : Int32) (hv : Z c j = v) (hd : decode cc pc = .ok (.iaload, 1)) (kk : J E ce sl G (pc + 1) lv (.int v :: st) Z) : J E ce sl G pc lv (.int x :: .ref (G.2.1 c) :: st) Z :=
  by
  subst hx; subst hn; subst hv
  exact fun H locs ls hP hS h => va_iald C.hx C.hb C.hK hP c 0 (by rw [zc_at hc, ze_I hs]) rfl (vp_in_nI hj hb) hd (by rw [nI_clamp (Nat.lt_trans hj hb)]; exact kk H locs ls hP hS h)
theorem j_zald (C : Cb E own cc) {c j n : Nat} {x : Int32} (hc : c < G.1) (hs : G.2.2.1 c = 7) (hn : G.2.2.2.1 c = n) (hx : x = nI j) (hj : j < n) (hb : n < 2 ^ 31) (v : Int32) (hv : Z c j = v) (hd : decode cc pc = .ok (.baload, 1)) (kk : J E ce sl G (pc + 1) lv (.int v :: st) Z) : J E ce sl G pc lv (.int x :: .ref (G.2.1 c) :: st) Z :=
  by
  subst hx; subst hn; subst hv
  exact fun H locs ls hP hS h => va_zald C.hx C.hb C.hK hP c 1 (by rw [zc_at hc, ze_Z hs]) rfl (vp_in_nI hj hb) hd (by rw [nI_clamp (Nat.lt_trans hj hb)]; exact kk H locs ls hP hS h)
theorem j_lald (C : Cb E own cc) {c j n : Nat} {x : Int32} (hc : c < G.1) (hs : G.2.2.1 c = 10) (hn : G.2.2.2.1 c = n) (hx : x = nI j) (hj : j < n) (hb : n < 2 ^ 31) (hd : decode cc pc = .ok (.laload, 1)) (kk : J E ce sl G (pc + 1) lv (.long (Z c j).toInt64 :: st) Z) : J E ce sl G pc lv (.int x :: .ref (G.2.1 c) :: st) Z :=
  by
  subst hx; subst hn
  exact fun H locs ls hP hS h => va_lald C.hx C.hb C.hK hP c 4 (by rw [zc_at hc, ze_L hs]) rfl (vp_in_nI hj hb) hd (by rw [nI_clamp (Nat.lt_trans hj hb)]; exact kk H locs ls hP hS h)
theorem j_aldP (C : Cb E own cc) {c j n : Nat} {x : Int32} (hc : c < G.1) {t : Nat} (hs : G.2.2.1 c = 8) (hn : G.2.2.2.1 c = n) (hx : x = nI j) (hj : j < n) (hb : n < 2 ^ 31) (hv : G.2.2.2.2 c j = some t) (hd : decode cc pc = .ok (.aaload, 1)) (kk : J E ce sl G (pc + 1) lv (.ref (G.2.1 t) :: st) Z) : J E ce sl G pc lv (.int x :: .ref (G.2.1 c) :: st) Z :=
  by
  subst hx; subst hn
  exact fun H locs ls hP hS h => va_aldq C.hx C.hb C.hK hP c 2 (by rw [zc_at hc, ze_P hs]) rfl (vp_in_nI hj hb) hd (by rw [nI_clamp (Nat.lt_trans hj hb), hv]; exact kk H locs ls hP hS h)
theorem j_aldM (C : Cb E own cc) {c j n : Nat} {x : Int32} (hc : c < G.1) {t : Nat} (hs : G.2.2.1 c = 9) (hn : G.2.2.2.1 c = n) (hx : x = nI j) (hj : j < n) (hb : n < 2 ^ 31) (hv : G.2.2.2.2 c j = some t) (hd : decode cc pc = .ok (.aaload, 1)) (kk : J E ce sl G (pc + 1) lv (.ref (G.2.1 t) :: st) Z) : J E ce sl G pc lv (.int x :: .ref (G.2.1 c) :: st) Z :=
  by
  subst hx; subst hn
  exact fun H locs ls hP hS h => va_aldq C.hx C.hb C.hK hP c 3 (by rw [zc_at hc, ze_M hs]) rfl (vp_in_nI hj hb) hd (by rw [nI_clamp (Nat.lt_trans hj hb), hv]; exact kk H locs ls hP hS h)
theorem j_iast (C : Cb E own cc) (hD : GD (e0 E) G) {c j n : Nat} {x : Int32} (hc : c < G.1) {v : Int32} (hs : G.2.2.1 c = 6) (hn : G.2.2.2.1 c = n) (hx : x = nI j) (hj : j < n) (hb : n < 2 ^ 31) (hd : decode cc pc = .ok (.iastore, 1)) (kk : J E ce sl G (pc + 1) lv st (zu Z c j v)) : J E ce sl G pc lv (.int v :: .int x :: .ref (G.2.1 c) :: st) Z :=
  by
  subst hx; subst hn
  exact fun H locs ls hP hS h => va_iast C.hx C.hb C.hK hP (zc_D hD) hS c 0 (by rw [zc_at hc, ze_I hs]) rfl (vp_in_nI hj hb) hd (fun H1 locs1 hP1 _ hS1 => kk H1 locs1 ls (by rw [nI_clamp (Nat.lt_trans hj hb), zc_arrI hc hs] at hP1; exact hP1) hS1 h)
theorem zb_nar {v : Int32} (h : v = 0 ∨ v = 1) : vp_nar .boolean v = v := by rcases h with rfl | rfl <;> rfl
theorem zb_nr {v : Int32} (h : v = 0 ∨ v = 1) : narrow .boolean (.int v) = .int v := by rcases h with rfl | rfl <;> rfl
theorem zb_ft {v : Int32} (h : v = 0 ∨ v = 1) : fits .boolean (.int v) = true := by rcases h with rfl | rfl <;> rfl
theorem j_zast (C : Cb E own cc) (hD : GD (e0 E) G) {c j n : Nat} {x : Int32} (hc : c < G.1) {v : Int32} (hs : G.2.2.1 c = 7) (hn : G.2.2.2.1 c = n) (hx : x = nI j) (hj : j < n) (hb : n < 2 ^ 31) (hz : v = 0 ∨ v = 1) (hd : decode cc pc = .ok (.bastore, 1)) (kk : J E ce sl G (pc + 1) lv st (zu Z c j v)) : J E ce sl G pc lv (.int v :: .int x :: .ref (G.2.1 c) :: st) Z :=
  by
  subst hx; subst hn
  exact fun H locs ls hP hS h => va_zast C.hx C.hb C.hK hP (zc_D hD) hS c 1 (by rw [zc_at hc, ze_Z hs]) rfl (vp_in_nI hj hb) hd (fun H1 locs1 hP1 _ hS1 => kk H1 locs1 ls (by rw [nI_clamp (Nat.lt_trans hj hb), zb_nar hz, zc_arrZ hc hs] at hP1; exact hP1) hS1 h)
theorem j_last (C : Cb E own cc) (hD : GD (e0 E) G) {c j n : Nat} {x : Int32} (hc : c < G.1) {v : Int32} (hs : G.2.2.1 c = 10) (hn : G.2.2.2.1 c = n) (hx : x = nI j) (hj : j < n) (hb : n < 2 ^ 31) (hd : decode cc pc = .ok (.lastore, 1)) (kk : J E ce sl G (pc + 1) lv st (zu Z c j v)) : J E ce sl G pc lv (.long v.toInt64 :: .int x :: .ref (G.2.1 c) :: st) Z :=
  by
  subst hx; subst hn
  exact fun H locs ls hP hS h => va_last C.hx C.hb C.hK hP (zc_D hD) hS c 4 (by rw [zc_at hc, ze_L hs]) rfl (vp_in_nI hj hb) hd (fun H1 locs1 hP1 _ hS1 => kk H1 locs1 ls (by rw [nI_clamp (Nat.lt_trans hj hb), zc_arrL hc hs] at hP1; exact hP1) hS1 h)
theorem j_max (C : Cb E own cc) {lev index : Nat} {x y : Int32} (hR : eR E = rmL (lev + 1)) (v : Int32) (hl : Cond.methodLink own index Lib.Math.max.name ∈ zw_good) (hd : decode cc pc = .ok (.invokestatic index, 3)) (hst : (st.map fun v => v.category).sum ≤ 8) (hce : ce = 0) (hsl : sl = 0) (hv : (if x < y then y else x) = v) (kk : J E ce sl G (pc + 3) lv (.int v :: st) Z) : J E ce sl G pc lv (.int y :: .int x :: st) Z :=
  fun H locs ls hP hS h => va_mmax C.hx C.hb (C.hml.trans h.1.symm) C.ho (C.hts _ hl) (C.hts _ zw_max1) (C.hts _ zw_math) (C.hts _ zw_max2) (by rw [hR]; exact Nat.succ_le_succ (Nat.zero_le _)) (by rw [hR]; show _ ≤ 40 * (lev + 1); omega) (by rw [hce]; exact Nat.zero_le _) (by rw [hsl]; exact Nat.zero_le _) hd (by rw [hv]; exact kk H locs ls hP hS h)
theorem j_min (C : Cb E own cc) {lev index : Nat} {x y : Int32} (hR : eR E = rmL (lev + 1)) (v : Int32) (hl : Cond.methodLink own index Lib.Math.min.name ∈ zw_good) (hd : decode cc pc = .ok (.invokestatic index, 3)) (hst : (st.map fun v => v.category).sum ≤ 8) (hce : ce = 0) (hsl : sl = 0) (hv : (if y < x then y else x) = v) (kk : J E ce sl G (pc + 3) lv (.int v :: st) Z) : J E ce sl G pc lv (.int y :: .int x :: st) Z :=
  fun H locs ls hP hS h => va_mmin C.hx C.hb (C.hml.trans h.1.symm) C.ho (C.hts _ hl) (C.hts _ zw_min1) (C.hts _ zw_math) (C.hts _ zw_min2) (by rw [hR]; exact Nat.succ_le_succ (Nat.zero_le _)) (by rw [hR]; show _ ≤ 40 * (lev + 1); omega) (by rw [hce]; exact Nat.zero_le _) (by rw [hsl]; exact Nat.zero_le _) hd (by rw [hv]; exact kk H locs ls hP hS h)
end JR
