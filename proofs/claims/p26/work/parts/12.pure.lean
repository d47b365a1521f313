/-! THE RULES: one for an instruction -/
/-- whole numbers in the machine's 32 bits, and in 64 -/
def iZ (z : Int) : Int32 := Int32.ofInt z
def lZ (z : Int) : Int64 := Int64.ofInt z
theorem iZ_add (x y : Int) : iZ x + iZ y = iZ (x + y) := (Int32.ofInt_add x y).symm
theorem iZ_sub (x y : Int) : iZ x - iZ y = iZ (x - y) := (Int32.ofInt_sub x y).symm
theorem iZ_mul (x y : Int) : iZ x * iZ y = iZ (x * y) := (Int32.ofInt_mul x y).symm
theorem iZ_neg (x : Int) : -iZ x = iZ (-x) := (Int32.ofInt_neg x).symm
theorem lZ_add (x y : Int) : lZ x + lZ y = lZ (x + y) := (Int64.ofInt_add x y).symm
theorem lZ_mul (x y : Int) : lZ x * lZ y = lZ (x * y) := (Int64.ofInt_mul x y).symm
theorem iZ_toInt {x : Int} (h : -2147483648 ≤ x ∧ x < 2147483648) : (iZ x).toInt = x := by
  unfold iZ
  rw [Int32.toInt_ofInt]
  have e : Int32.size = 4294967296 := rfl
  exact Int.bmod_eq_of_le (by omega) (by omega)
theorem lZ_toInt {x : Int} (h : -9223372036854775808 ≤ x ∧ x < 9223372036854775808) : (lZ x).toInt = x := by
  unfold lZ
  rw [Int64.toInt_ofInt]
  have e : Int64.size = 18446744073709551616 := rfl
  exact Int.bmod_eq_of_le (by omega) (by omega)
theorem iZ_of (x : Int32) : iZ x.toInt = x := by unfold iZ; exact Int32.ofInt_toInt x
theorem iZ_nI (n : Nat) : nI n = iZ (n : Int) := rfl
theorem iZ_lt {x y : Int} (h : -2147483648 ≤ x ∧ x < 2147483648 ∧ -2147483648 ≤ y ∧ y < 2147483648) : iZ x < iZ y ↔ x < y := by
  rw [Int32.lt_iff_toInt_lt, iZ_toInt ⟨h.1, h.2.1⟩, iZ_toInt h.2.2]
theorem iZ_le {x y : Int} (h : -2147483648 ≤ x ∧ x < 2147483648 ∧ -2147483648 ≤ y ∧ y < 2147483648) : iZ x ≤ iZ y ↔ x ≤ y := by
  rw [Int32.le_iff_toInt_le, iZ_toInt ⟨h.1, h.2.1⟩, iZ_toInt h.2.2]
theorem iZ_inj {x y : Int} (h : -2147483648 ≤ x ∧ x < 2147483648 ∧ -2147483648 ≤ y ∧ y < 2147483648) : iZ x = iZ y ↔ x = y := by
  constructor
  · intro e
    rw [← iZ_toInt ⟨h.1, h.2.1⟩, e, iZ_toInt h.2.2]
  · intro e
    rw [e]
theorem iZ_0 : (0 : Int32) = iZ 0 := rfl
theorem iZ_clamp {x : Int} (h : 0 ≤ x ∧ x < 2147483648) : (iZ x).toNatClampNeg = x.toNat := by
  show (iZ x).toInt.toNat = x.toNat
  rw [iZ_toInt ⟨by omega, h.2⟩]
theorem iZ_l {x : Int} (h : -2147483648 ≤ x ∧ x < 2147483648) : (iZ x).toInt64 = lZ x := by
  unfold lZ
  rw [← Int64.ofInt_toInt (iZ x).toInt64, Int32.toInt_toInt64, iZ_toInt h]
section RULES
variable {l : Launch} {Γ : zk_G} {I : zk_MI} {d kc ks : Nat} {Q : Option Value → zk_M → (Heap → Prop) → Prop} {pc : Nat} {L : List (Option Value)} {st : List Value} {M : zk_M} {F : Heap → Prop}

theorem gz_iadd {x y : Int32} (hd : decode I.2.1 pc = .ok (.iadd, 1)) 
    (k : zk_Go l Γ I d kc ks Q (pc + 1) L (.int (x + y) :: st) M F) : zk_Go l Γ I d kc ks Q pc L (.int y :: .int x :: st) M F :=
  zk_Go.pure (st2 := .int (x + y) :: st) (fun p e R s m args below meth c H locs cells slots Qf ρ ls hc hL k => lv_iadd hc.1 hc.2.1 hd k ) (fun ρ ls hL hw => ⟨trivial, hw.2.2⟩) k
theorem gz_isub {x y : Int32} (hd : decode I.2.1 pc = .ok (.isub, 1)) 
    (k : zk_Go l Γ I d kc ks Q (pc + 1) L (.int (x - y) :: st) M F) : zk_Go l Γ I d kc ks Q pc L (.int y :: .int x :: st) M F :=
  zk_Go.pure (st2 := .int (x - y) :: st) (fun p e R s m args below meth c H locs cells slots Qf ρ ls hc hL k => lv_isub hc.1 hc.2.1 hd k ) (fun ρ ls hL hw => ⟨trivial, hw.2.2⟩) k
theorem gz_imul {x y : Int32} (hd : decode I.2.1 pc = .ok (.imul, 1)) 
    (k : zk_Go l Γ I d kc ks Q (pc + 1) L (.int (x * y) :: st) M F) : zk_Go l Γ I d kc ks Q pc L (.int y :: .int x :: st) M F :=
  zk_Go.pure (st2 := .int (x * y) :: st) (fun p e R s m args below meth c H locs cells slots Qf ρ ls hc hL k => lv_imul hc.1 hc.2.1 hd k ) (fun ρ ls hL hw => ⟨trivial, hw.2.2⟩) k
theorem gz_iand {x y : Int32} (hd : decode I.2.1 pc = .ok (.iand, 1)) 
    (k : zk_Go l Γ I d kc ks Q (pc + 1) L (.int (x &&& y) :: st) M F) : zk_Go l Γ I d kc ks Q pc L (.int y :: .int x :: st) M F :=
  zk_Go.pure (st2 := .int (x &&& y) :: st) (fun p e R s m args below meth c H locs cells slots Qf ρ ls hc hL k => lv_iand hc.1 hc.2.1 hd k ) (fun ρ ls hL hw => ⟨trivial, hw.2.2⟩) k
theorem gz_ior {x y : Int32} (hd : decode I.2.1 pc = .ok (.ior, 1)) 
    (k : zk_Go l Γ I d kc ks Q (pc + 1) L (.int (x ||| y) :: st) M F) : zk_Go l Γ I d kc ks Q pc L (.int y :: .int x :: st) M F :=
  zk_Go.pure (st2 := .int (x ||| y) :: st) (fun p e R s m args below meth c H locs cells slots Qf ρ ls hc hL k => lv_ior hc.1 hc.2.1 hd k ) (fun ρ ls hL hw => ⟨trivial, hw.2.2⟩) k
theorem gz_ishl {x y : Int32} (hd : decode I.2.1 pc = .ok (.ishl, 1)) 
    (k : zk_Go l Γ I d kc ks Q (pc + 1) L (.int (x <<< (y &&& 31)) :: st) M F) : zk_Go l Γ I d kc ks Q pc L (.int y :: .int x :: st) M F :=
  zk_Go.pure (st2 := .int (x <<< (y &&& 31)) :: st) (fun p e R s m args below meth c H locs cells slots Qf ρ ls hc hL k => lv_ishl hc.1 hc.2.1 hd k ) (fun ρ ls hL hw => ⟨trivial, hw.2.2⟩) k
theorem gz_ishr {x y : Int32} (hd : decode I.2.1 pc = .ok (.ishr, 1)) 
    (k : zk_Go l Γ I d kc ks Q (pc + 1) L (.int (x >>> (y &&& 31)) :: st) M F) : zk_Go l Γ I d kc ks Q pc L (.int y :: .int x :: st) M F :=
  zk_Go.pure (st2 := .int (x >>> (y &&& 31)) :: st) (fun p e R s m args below meth c H locs cells slots Qf ρ ls hc hL k => lv_ishr hc.1 hc.2.1 hd k ) (fun ρ ls hL hw => ⟨trivial, hw.2.2⟩) k
theorem gz_ladd {x y : Int64} (hd : decode I.2.1 pc = .ok (.ladd, 1)) 
    (k : zk_Go l Γ I d kc ks Q (pc + 1) L (.long (x + y) :: st) M F) : zk_Go l Γ I d kc ks Q pc L (.long y :: .long x :: st) M F :=
  zk_Go.pure (st2 := .long (x + y) :: st) (fun p e R s m args below meth c H locs cells slots Qf ρ ls hc hL k => lv_ladd hc.1 hc.2.1 hd k ) (fun ρ ls hL hw => ⟨trivial, hw.2.2⟩) k
theorem gz_lmul {x y : Int64} (hd : decode I.2.1 pc = .ok (.lmul, 1)) 
    (k : zk_Go l Γ I d kc ks Q (pc + 1) L (.long (x * y) :: st) M F) : zk_Go l Γ I d kc ks Q pc L (.long y :: .long x :: st) M F :=
  zk_Go.pure (st2 := .long (x * y) :: st) (fun p e R s m args below meth c H locs cells slots Qf ρ ls hc hL k => lv_lmul hc.1 hc.2.1 hd k ) (fun ρ ls hL hw => ⟨trivial, hw.2.2⟩) k
theorem zz_ineg {x : Int} (hd : decode I.2.1 pc = .ok (.ineg, 1)) 
    (k : zk_Go l Γ I d kc ks Q (pc + 1) L (.int (iZ (-x)) :: st) M F) : zk_Go l Γ I d kc ks Q pc L (.int (iZ x) :: st) M F :=
  zk_Go.pure (st2 := .int (iZ (-x)) :: st) (fun p e R s m args below meth c H locs cells slots Qf ρ ls hc hL k => lv_ineg hc.1 hc.2.1 hd (by rw [iZ_neg]; exact k) ) (fun ρ ls hL hw => ⟨trivial, hw.2⟩) k
theorem zz_i2l {x : Int} (hd : decode I.2.1 pc = .ok (.i2l, 1)) (hx : -2147483648 ≤ x ∧ x < 2147483648)
    (k : zk_Go l Γ I d kc ks Q (pc + 1) L (.long (lZ x) :: st) M F) : zk_Go l Γ I d kc ks Q pc L (.int (iZ x) :: st) M F :=
  zk_Go.pure (st2 := .long (lZ x) :: st) (fun p e R s m args below meth c H locs cells slots Qf ρ ls hc hL k => lv_i2l hc.1 hc.2.1 hd (iZ_l hx) k ) (fun ρ ls hL hw => ⟨trivial, hw.2⟩) k
theorem gz_l2i {x : Int64} {y : Int32} (hd : decode I.2.1 pc = .ok (.l2i, 1)) (hx : x.toInt32 = y)
    (k : zk_Go l Γ I d kc ks Q (pc + 1) L (.int y :: st) M F) : zk_Go l Γ I d kc ks Q pc L (.long x :: st) M F :=
  zk_Go.pure (st2 := .int y :: st) (fun p e R s m args below meth c H locs cells slots Qf ρ ls hc hL k => lv_l2i hc.1 hc.2.1 hd hx k ) (fun ρ ls hL hw => ⟨trivial, hw.2⟩) k
theorem gz_i2b {x : Int32} {y : Int32} (hd : decode I.2.1 pc = .ok (.i2b, 1)) (hx : x.toInt8.toInt32 = y)
    (k : zk_Go l Γ I d kc ks Q (pc + 1) L (.int y :: st) M F) : zk_Go l Γ I d kc ks Q pc L (.int x :: st) M F :=
  zk_Go.pure (st2 := .int y :: st) (fun p e R s m args below meth c H locs cells slots Qf ρ ls hc hL k => lv_i2b hc.1 hc.2.1 hd hx k ) (fun ρ ls hL hw => ⟨trivial, hw.2⟩) k
theorem gz_i2c {x : Int32} {y : Int32} (hd : decode I.2.1 pc = .ok (.i2c, 1)) (hx : (x.toUInt32 % 65536).toInt32 = y)
    (k : zk_Go l Γ I d kc ks Q (pc + 1) L (.int y :: st) M F) : zk_Go l Γ I d kc ks Q pc L (.int x :: st) M F :=
  zk_Go.pure (st2 := .int y :: st) (fun p e R s m args below meth c H locs cells slots Qf ρ ls hc hL k => lv_i2c hc.1 hc.2.1 hd hx k ) (fun ρ ls hL hw => ⟨trivial, hw.2⟩) k
theorem gz_iushr {x y z : Int32} (hd : decode I.2.1 pc = .ok (.iushr, 1)) (hx : (x.toUInt32 >>> (y.toUInt32 &&& Int32.toUInt32 31)).toInt32 = z)
    (k : zk_Go l Γ I d kc ks Q (pc + 1) L (.int z :: st) M F) : zk_Go l Γ I d kc ks Q pc L (.int y :: .int x :: st) M F :=
  zk_Go.pure (st2 := .int z :: st) (fun p e R s m args below meth c H locs cells slots Qf ρ ls hc hL k => lv_iushr hc.1 hc.2.1 hd hx k ) (fun ρ ls hL hw => ⟨trivial, hw.2.2⟩) k
theorem gz_irem {x y : Int32} (hd : decode I.2.1 pc = .ok (.irem, 1)) (hx : ¬ y = 0)
    (k : zk_Go l Γ I d kc ks Q (pc + 1) L (.int (x - x / y * y) :: st) M F) : zk_Go l Γ I d kc ks Q pc L (.int y :: .int x :: st) M F :=
  zk_Go.pure (st2 := .int (x - x / y * y) :: st) (fun p e R s m args below meth c H locs cells slots Qf ρ ls hc hL k => lv_irem hc.1 hc.2.1 hd hx k ) (fun ρ ls hL hw => ⟨trivial, hw.2.2⟩) k
theorem gz_idiv {x y : Int32} (hd : decode I.2.1 pc = .ok (.idiv, 1)) (hx : ¬ y = 0)
    (k : zk_Go l Γ I d kc ks Q (pc + 1) L (.int (x / y) :: st) M F) : zk_Go l Γ I d kc ks Q pc L (.int y :: .int x :: st) M F :=
  zk_Go.pure (st2 := .int (x / y) :: st) (fun p e R s m args below meth c H locs cells slots Qf ρ ls hc hL k => lv_idiv hc.1 hc.2.1 hd hx k ) (fun ρ ls hL hw => ⟨trivial, hw.2.2⟩) k
theorem zz_i2d {x : Int} (hd : decode I.2.1 pc = .ok (.i2d, 1)) 
    (k : zk_Go l Γ I d kc ks Q (pc + 1) L (.double (FP.i2d (iZ x)) :: st) M F) : zk_Go l Γ I d kc ks Q pc L (.int (iZ x) :: st) M F :=
  zk_Go.pure (st2 := .double (FP.i2d (iZ x)) :: st) (fun p e R s m args below meth c H locs cells slots Qf ρ ls hc hL k => lv_i2d hc.1 hc.2.1 hd k ) (fun ρ ls hL hw => ⟨trivial, hw.2⟩) k
theorem gz_ddiv {x y : UInt64} (hd : decode I.2.1 pc = .ok (.ddiv, 1)) (hx : vf_n64 (FP.ddiv x y))
    (k : zk_Go l Γ I d kc ks Q (pc + 1) L (.double (FP.ddiv x y) :: st) M F) : zk_Go l Γ I d kc ks Q pc L (.double y :: .double x :: st) M F :=
  zk_Go.pure (st2 := .double (FP.ddiv x y) :: st) (fun p e R s m args below meth c H locs cells slots Qf ρ ls hc hL k => lv_ddiv hc.1 hc.2.1 hd hx k ) (fun ρ ls hL hw => ⟨trivial, hw.2.2⟩) k
theorem gz_dcmp {x y : UInt64} {op : CmpOp} (hd : decode I.2.1 pc = .ok (.dcmp op, 1)) 
    (k : zk_Go l Γ I d kc ks Q (pc + 1) L (.int (Op.cmpValue (FP.dcmp x y) op) :: st) M F) : zk_Go l Γ I d kc ks Q pc L (.double y :: .double x :: st) M F :=
  zk_Go.pure (st2 := .int (Op.cmpValue (FP.dcmp x y) op) :: st) (fun p e R s m args below meth c H locs cells slots Qf ρ ls hc hL k => lv_dcmp hc.1 hc.2.1 hd k ) (fun ρ ls hL hw => ⟨trivial, hw.2.2⟩) k
theorem gz_dconst0  (hd : decode I.2.1 pc = .ok (.dconst 0, 1)) 
    (k : zk_Go l Γ I d kc ks Q (pc + 1) L (.double FP.dconst0 :: st) M F) : zk_Go l Γ I d kc ks Q pc L (st) M F :=
  zk_Go.pure (st2 := .double FP.dconst0 :: st) (fun p e R s m args below meth c H locs cells slots Qf ρ ls hc hL k => lv_dconst0 hc.1 hc.2.1 hd k ) (fun ρ ls hL hw => ⟨trivial, hw⟩) k
theorem gz_lcmp {x y : Int64} (hd : decode I.2.1 pc = .ok (.lcmp, 1)) 
    (k : zk_Go l Γ I d kc ks Q (pc + 1) L (.int (lg_cmp x y) :: st) M F) : zk_Go l Γ I d kc ks Q pc L (.long y :: .long x :: st) M F :=
  zk_Go.pure (st2 := .int (lg_cmp x y) :: st) (fun p e R s m args below meth c H locs cells slots Qf ρ ls hc hL k => W.lcmp hc.1 hc.2.1 hd k ) (fun ρ ls hL hw => ⟨trivial, hw.2.2⟩) k
theorem zz_iconst {n : Int} (hd : decode I.2.1 pc = .ok (.iconst n, 1)) 
    (k : zk_Go l Γ I d kc ks Q (pc + 1) L (.int (iZ n) :: st) M F) : zk_Go l Γ I d kc ks Q pc L (st) M F :=
  zk_Go.pure (st2 := .int (iZ n) :: st) (fun p e R s m args below meth c H locs cells slots Qf ρ ls hc hL k => lv_iconst hc.1 hc.2.1 hd rfl k ) (fun ρ ls hL hw => ⟨trivial, hw⟩) k
theorem zz_bipush {n : Int} {x : Int} (hd : decode I.2.1 pc = .ok (.bipush n, 2)) (hx : (Int8.ofInt n).toInt32 = iZ x)
    (k : zk_Go l Γ I d kc ks Q (pc + 2) L (.int (iZ x) :: st) M F) : zk_Go l Γ I d kc ks Q pc L (st) M F :=
  zk_Go.pure (st2 := .int (iZ x) :: st) (fun p e R s m args below meth c H locs cells slots Qf ρ ls hc hL k => lv_bipush hc.1 hc.2.1 hd hx k ) (fun ρ ls hL hw => ⟨trivial, hw⟩) k
theorem zz_sipush {n : Int} {x : Int} (hd : decode I.2.1 pc = .ok (.sipush n, 3)) (hx : (Int16.ofInt n).toInt32 = iZ x)
    (k : zk_Go l Γ I d kc ks Q (pc + 3) L (.int (iZ x) :: st) M F) : zk_Go l Γ I d kc ks Q pc L (st) M F :=
  zk_Go.pure (st2 := .int (iZ x) :: st) (fun p e R s m args below meth c H locs cells slots Qf ρ ls hc hL k => lv_sipush hc.1 hc.2.1 hd hx k ) (fun ρ ls hL hw => ⟨trivial, hw⟩) k
theorem zz_lconst {n : Fin 2} (hd : decode I.2.1 pc = .ok (.lconst n, 1)) 
    (k : zk_Go l Γ I d kc ks Q (pc + 1) L (.long (lZ ((n : Nat) : Int)) :: st) M F) : zk_Go l Γ I d kc ks Q pc L (st) M F :=
  zk_Go.pure (st2 := .long (lZ ((n : Nat) : Int)) :: st) (fun p e R s m args below meth c H locs cells slots Qf ρ ls hc hL k => lv_lconst hc.1 hc.2.1 hd rfl k ) (fun ρ ls hL hw => ⟨trivial, hw⟩) k
theorem gz_ldc {i : Nat} {x : Int32} (hd : decode I.2.1 pc = .ok (.ldc i, 2)) (hw1 : Cond.constant I.1.cls i x ∈ zk_tg)
    (k : zk_Go l Γ I d kc ks Q (pc + 2) L (.int x :: st) M F) : zk_Go l Γ I d kc ks Q pc L (st) M F :=
  zk_Go.pure (st2 := .int x :: st) (fun p e R s m args below meth c H locs cells slots Qf ρ ls hc hL k => lv_ldc hc.1 hc.2.1 hc.2.2.2.1 (hc.2.2.2.2.1 _ hw1) hd k ) (fun ρ ls hL hw => ⟨trivial, hw⟩) k
theorem gz_ldc2 {i : Nat} {x : Int64} (hd : decode I.2.1 pc = .ok (.ldc2_w i, 3)) (hw1 : Cond.constantLong I.1.cls i x ∈ zk_tg)
    (k : zk_Go l Γ I d kc ks Q (pc + 3) L (.long x :: st) M F) : zk_Go l Γ I d kc ks Q pc L (st) M F :=
  zk_Go.pure (st2 := .long x :: st) (fun p e R s m args below meth c H locs cells slots Qf ρ ls hc hL k => lv_ldc2 hc.1 hc.2.1 hc.2.2.2.1 (hc.2.2.2.2.1 _ hw1) hd k ) (fun ρ ls hL hw => ⟨trivial, hw⟩) k
theorem gz_null  (hd : decode I.2.1 pc = .ok (.aconst_null, 1)) 
    (k : zk_Go l Γ I d kc ks Q (pc + 1) L (.null :: st) M F) : zk_Go l Γ I d kc ks Q pc L (st) M F :=
  zk_Go.pure (st2 := .null :: st) (fun p e R s m args below meth c H locs cells slots Qf ρ ls hc hL k => lv_null hc.1 hc.2.1 hd k ) (fun ρ ls hL hw => ⟨trivial, hw⟩) k
theorem gz_dup {v : Value} (hd : decode I.2.1 pc = .ok (.dup, 1)) (hv : v.category = 1)
    (k : zk_Go l Γ I d kc ks Q (pc + 1) L (v :: v :: st) M F) : zk_Go l Γ I d kc ks Q pc L (v :: st) M F :=
  zk_Go.pure (st2 := v :: v :: st) (fun p e R s m args below meth c H locs cells slots Qf ρ ls hc hL k => lv_dup hc.1 hc.2.1 hd (by rw [zk_v_cat]; exact hv) k ) (fun ρ ls hL hw => ⟨hw.1, hw.1, hw.2⟩) k
theorem gz_pop {v : Value} (hd : decode I.2.1 pc = .ok (.pop, 1)) (hv : v.category = 1)
    (k : zk_Go l Γ I d kc ks Q (pc + 1) L (st) M F) : zk_Go l Γ I d kc ks Q pc L (v :: st) M F :=
  zk_Go.pure (st2 := st) (fun p e R s m args below meth c H locs cells slots Qf ρ ls hc hL k => lv_pop hc.1 hc.2.1 hd (by rw [zk_v_cat]; exact hv) k ) (fun ρ ls hL hw => hw.2) k
theorem gz_dup2 {v w : Value} (hd : decode I.2.1 pc = .ok (.dup2, 1)) (hv : v.category = 1) (hv2 : w.category = 1)
    (k : zk_Go l Γ I d kc ks Q (pc + 1) L (v :: w :: v :: w :: st) M F) : zk_Go l Γ I d kc ks Q pc L (v :: w :: st) M F :=
  zk_Go.pure (st2 := v :: w :: v :: w :: st) (fun p e R s m args below meth c H locs cells slots Qf ρ ls hc hL k => lv_dup2_11 hc.1 hc.2.1 hd (by rw [zk_v_cat]; exact hv) (by rw [zk_v_cat]; exact hv2) k ) (fun ρ ls hL hw => ⟨hw.1, hw.2.1, hw.1, hw.2.1, hw.2.2⟩) k
theorem gz_dup_x1 {v w : Value} (hd : decode I.2.1 pc = .ok (.dup_x1, 1)) (hv : v.category = 1) (hv2 : w.category = 1)
    (k : zk_Go l Γ I d kc ks Q (pc + 1) L (v :: w :: v :: st) M F) : zk_Go l Γ I d kc ks Q pc L (v :: w :: st) M F :=
  zk_Go.pure (st2 := v :: w :: v :: st) (fun p e R s m args below meth c H locs cells slots Qf ρ ls hc hL k => lv_dup_x1 hc.1 hc.2.1 hd (by rw [zk_v_cat]; exact hv) (by rw [zk_v_cat]; exact hv2) k ) (fun ρ ls hL hw => ⟨hw.1, hw.2.1, hw.1, hw.2.2⟩) k
theorem gz_iload_n {kk : Fin 4} {x : Int32} (hd : decode I.2.1 pc = .ok (.iload_n kk, 1)) (hl : L[(kk : Nat)]? = some (some (.int x)))
    (k : zk_Go l Γ I d kc ks Q (pc + 1) L (.int x :: st) M F) : zk_Go l Γ I d kc ks Q pc L (st) M F :=
  zk_Go.pure (st2 := .int x :: st) (fun p e R s m args below meth c H locs cells slots Qf ρ ls hc hL k => lv_iload_n hc.1 hc.2.1 hd rfl (hL.2.2.2 _ _ hl).1 k ) (fun ρ ls hL hw => ⟨trivial, hw⟩) k
theorem gz_iload {i : Nat} {x : Int32} (hd : decode I.2.1 pc = .ok (.iload i, 2)) (hl : L[i]? = some (some (.int x)))
    (k : zk_Go l Γ I d kc ks Q (pc + 2) L (.int x :: st) M F) : zk_Go l Γ I d kc ks Q pc L (st) M F :=
  zk_Go.pure (st2 := .int x :: st) (fun p e R s m args below meth c H locs cells slots Qf ρ ls hc hL k => lv_iload hc.1 hc.2.1 hd (hL.2.2.2 _ _ hl).1 k ) (fun ρ ls hL hw => ⟨trivial, hw⟩) k
theorem gz_lload_n {kk : Fin 4} {x : Int64} (hd : decode I.2.1 pc = .ok (.lload_n kk, 1)) (hl : L[(kk : Nat)]? = some (some (.long x)))
    (k : zk_Go l Γ I d kc ks Q (pc + 1) L (.long x :: st) M F) : zk_Go l Γ I d kc ks Q pc L (st) M F :=
  zk_Go.pure (st2 := .long x :: st) (fun p e R s m args below meth c H locs cells slots Qf ρ ls hc hL k => lv_lload_n hc.1 hc.2.1 hd rfl (hL.2.2.2 _ _ hl).1 k ) (fun ρ ls hL hw => ⟨trivial, hw⟩) k
theorem gz_lload {i : Nat} {x : Int64} (hd : decode I.2.1 pc = .ok (.lload i, 2)) (hl : L[i]? = some (some (.long x)))
    (k : zk_Go l Γ I d kc ks Q (pc + 2) L (.long x :: st) M F) : zk_Go l Γ I d kc ks Q pc L (st) M F :=
  zk_Go.pure (st2 := .long x :: st) (fun p e R s m args below meth c H locs cells slots Qf ρ ls hc hL k => lv_lload hc.1 hc.2.1 hd (hL.2.2.2 _ _ hl).1 k ) (fun ρ ls hL hw => ⟨trivial, hw⟩) k
theorem gz_dload_n {kk : Fin 4} {x : UInt64} (hd : decode I.2.1 pc = .ok (.dload_n kk, 1)) (hl : L[(kk : Nat)]? = some (some (.double x)))
    (k : zk_Go l Γ I d kc ks Q (pc + 1) L (.double x :: st) M F) : zk_Go l Γ I d kc ks Q pc L (st) M F :=
  zk_Go.pure (st2 := .double x :: st) (fun p e R s m args below meth c H locs cells slots Qf ρ ls hc hL k => lv_dload_n hc.1 hc.2.1 hd rfl (hL.2.2.2 _ _ hl).1 k ) (fun ρ ls hL hw => ⟨trivial, hw⟩) k
theorem gz_aload_n {kk : Fin 4} {x : Nat} (hd : decode I.2.1 pc = .ok (.aload_n kk, 1)) (hl : L[(kk : Nat)]? = some (some (.ref x)))
    (k : zk_Go l Γ I d kc ks Q (pc + 1) L (.ref x :: st) M F) : zk_Go l Γ I d kc ks Q pc L (st) M F :=
  zk_Go.pure (st2 := .ref x :: st) (fun p e R s m args below meth c H locs cells slots Qf ρ ls hc hL k => lv_aload_n hc.1 hc.2.1 hd rfl (hL.2.2.2 _ _ hl).1 k ) (fun ρ ls hL hw => ⟨(hL.2.2.2 _ _ hl).2, hw⟩) k
theorem gz_aload {i : Nat} {x : Nat} (hd : decode I.2.1 pc = .ok (.aload i, 2)) (hl : L[i]? = some (some (.ref x)))
    (k : zk_Go l Γ I d kc ks Q (pc + 2) L (.ref x :: st) M F) : zk_Go l Γ I d kc ks Q pc L (st) M F :=
  zk_Go.pure (st2 := .ref x :: st) (fun p e R s m args below meth c H locs cells slots Qf ρ ls hc hL k => lv_aload hc.1 hc.2.1 hd (hL.2.2.2 _ _ hl).1 k ) (fun ρ ls hL hw => ⟨(hL.2.2.2 _ _ hl).2, hw⟩) k
theorem gz_aload_nN {kk : Fin 4} (hd : decode I.2.1 pc = .ok (.aload_n kk, 1)) (hl : L[(kk : Nat)]? = some (some .null))
    (k : zk_Go l Γ I d kc ks Q (pc + 1) L (.null :: st) M F) : zk_Go l Γ I d kc ks Q pc L (st) M F :=
  zk_Go.pure (st2 := .null :: st) (fun p e R s m args below meth c H locs cells slots Qf ρ ls hc hL k => lv_aload_nN hc.1 hc.2.1 hd rfl (hL.2.2.2 _ _ hl).1 k ) (fun ρ ls hL hw => ⟨trivial, hw⟩) k
theorem gz_istore_n {kk : Fin 4} {x : Int32} (hd : decode I.2.1 pc = .ok (.istore_n kk, 1)) (hi : (kk : Nat) < L.length) {L2 : List (Option Value)} (h2 : zk_put L (kk : Nat) (.int x) = L2)
    (k : zk_Go l Γ I d kc ks Q (pc + 1) L2 st M F) : zk_Go l Γ I d kc ks Q pc L (.int x :: st) M F := by
  subst h2
  refine zk_Go.loc (st2 := st) (fun p e R s m args below meth c H locs cells slots Qf ρ ls hc hL hw k T hT X => ?_) (fun hw => hw.2) k
  obtain ⟨ls2, e2, hL2⟩ := zk_store hL (i := (kk : Nat)) (v := .int x) hw.1 (by simpa [zk_c2] using hi)
  obtain ⟨t, a, b⟩ := k ls2 hL2 T hT X
  refine ⟨t, ?_, b⟩
  have hx := hc.1
  have hb := hc.2.1
  dsimp only [zk_v] at e2
  jvm_step X.here [X.here.top, ↓top_set X.here.top, hx, hb, hd, e2, zk_v, Value.isRef]
  exact a
theorem gz_istore {i : Nat} {x : Int32} (hd : decode I.2.1 pc = .ok (.istore i, 2)) (hi : i < L.length) {L2 : List (Option Value)} (h2 : zk_put L i (.int x) = L2)
    (k : zk_Go l Γ I d kc ks Q (pc + 2) L2 st M F) : zk_Go l Γ I d kc ks Q pc L (.int x :: st) M F := by
  subst h2
  refine zk_Go.loc (st2 := st) (fun p e R s m args below meth c H locs cells slots Qf ρ ls hc hL hw k T hT X => ?_) (fun hw => hw.2) k
  obtain ⟨ls2, e2, hL2⟩ := zk_store hL (i := i) (v := .int x) hw.1 (by simpa [zk_c2] using hi)
  obtain ⟨t, a, b⟩ := k ls2 hL2 T hT X
  refine ⟨t, ?_, b⟩
  have hx := hc.1
  have hb := hc.2.1
  dsimp only [zk_v] at e2
  jvm_step X.here [X.here.top, ↓top_set X.here.top, hx, hb, hd, e2, zk_v, Value.isRef]
  exact a
theorem gz_lstore_n {kk : Fin 4} {x : Int64} (hd : decode I.2.1 pc = .ok (.lstore_n kk, 1)) (hi : (kk : Nat) + 1 < L.length) {L2 : List (Option Value)} (h2 : zk_put L (kk : Nat) (.long x) = L2)
    (k : zk_Go l Γ I d kc ks Q (pc + 1) L2 st M F) : zk_Go l Γ I d kc ks Q pc L (.long x :: st) M F := by
  subst h2
  refine zk_Go.loc (st2 := st) (fun p e R s m args below meth c H locs cells slots Qf ρ ls hc hL hw k T hT X => ?_) (fun hw => hw.2) k
  obtain ⟨ls2, e2, hL2⟩ := zk_store hL (i := (kk : Nat)) (v := .long x) hw.1 (by simpa [zk_c2] using hi)
  obtain ⟨t, a, b⟩ := k ls2 hL2 T hT X
  refine ⟨t, ?_, b⟩
  have hx := hc.1
  have hb := hc.2.1
  dsimp only [zk_v] at e2
  jvm_step X.here [X.here.top, ↓top_set X.here.top, hx, hb, hd, e2, zk_v, Value.isRef]
  exact a
theorem gz_lstore {i : Nat} {x : Int64} (hd : decode I.2.1 pc = .ok (.lstore i, 2)) (hi : i + 1 < L.length) {L2 : List (Option Value)} (h2 : zk_put L i (.long x) = L2)
    (k : zk_Go l Γ I d kc ks Q (pc + 2) L2 st M F) : zk_Go l Γ I d kc ks Q pc L (.long x :: st) M F := by
  subst h2
  refine zk_Go.loc (st2 := st) (fun p e R s m args below meth c H locs cells slots Qf ρ ls hc hL hw k T hT X => ?_) (fun hw => hw.2) k
  obtain ⟨ls2, e2, hL2⟩ := zk_store hL (i := i) (v := .long x) hw.1 (by simpa [zk_c2] using hi)
  obtain ⟨t, a, b⟩ := k ls2 hL2 T hT X
  refine ⟨t, ?_, b⟩
  have hx := hc.1
  have hb := hc.2.1
  dsimp only [zk_v] at e2
  jvm_step X.here [X.here.top, ↓top_set X.here.top, hx, hb, hd, e2, zk_v, Value.isRef]
  exact a
theorem gz_dstore_n {kk : Fin 4} {x : UInt64} (hd : decode I.2.1 pc = .ok (.dstore_n kk, 1)) (hi : (kk : Nat) + 1 < L.length) {L2 : List (Option Value)} (h2 : zk_put L (kk : Nat) (.double x) = L2)
    (k : zk_Go l Γ I d kc ks Q (pc + 1) L2 st M F) : zk_Go l Γ I d kc ks Q pc L (.double x :: st) M F := by
  subst h2
  refine zk_Go.loc (st2 := st) (fun p e R s m args below meth c H locs cells slots Qf ρ ls hc hL hw k T hT X => ?_) (fun hw => hw.2) k
  obtain ⟨ls2, e2, hL2⟩ := zk_store hL (i := (kk : Nat)) (v := .double x) hw.1 (by simpa [zk_c2] using hi)
  obtain ⟨t, a, b⟩ := k ls2 hL2 T hT X
  refine ⟨t, ?_, b⟩
  have hx := hc.1
  have hb := hc.2.1
  dsimp only [zk_v] at e2
  jvm_step X.here [X.here.top, ↓top_set X.here.top, hx, hb, hd, e2, zk_v, Value.isRef]
  exact a
theorem gz_dstore {i : Nat} {x : UInt64} (hd : decode I.2.1 pc = .ok (.dstore i, 2)) (hi : i + 1 < L.length) {L2 : List (Option Value)} (h2 : zk_put L i (.double x) = L2)
    (k : zk_Go l Γ I d kc ks Q (pc + 2) L2 st M F) : zk_Go l Γ I d kc ks Q pc L (.double x :: st) M F := by
  subst h2
  refine zk_Go.loc (st2 := st) (fun p e R s m args below meth c H locs cells slots Qf ρ ls hc hL hw k T hT X => ?_) (fun hw => hw.2) k
  obtain ⟨ls2, e2, hL2⟩ := zk_store hL (i := i) (v := .double x) hw.1 (by simpa [zk_c2] using hi)
  obtain ⟨t, a, b⟩ := k ls2 hL2 T hT X
  refine ⟨t, ?_, b⟩
  have hx := hc.1
  have hb := hc.2.1
  dsimp only [zk_v] at e2
  jvm_step X.here [X.here.top, ↓top_set X.here.top, hx, hb, hd, e2, zk_v, Value.isRef]
  exact a
theorem gz_astore_n {kk : Fin 4} {x : Nat} (hd : decode I.2.1 pc = .ok (.astore_n kk, 1)) (hi : (kk : Nat) < L.length) {L2 : List (Option Value)} (h2 : zk_put L (kk : Nat) (.ref x) = L2)
    (k : zk_Go l Γ I d kc ks Q (pc + 1) L2 st M F) : zk_Go l Γ I d kc ks Q pc L (.ref x :: st) M F := by
  subst h2
  refine zk_Go.loc (st2 := st) (fun p e R s m args below meth c H locs cells slots Qf ρ ls hc hL hw k T hT X => ?_) (fun hw => hw.2) k
  obtain ⟨ls2, e2, hL2⟩ := zk_store hL (i := (kk : Nat)) (v := .ref x) hw.1 (by simpa [zk_c2] using hi)
  obtain ⟨t, a, b⟩ := k ls2 hL2 T hT X
  refine ⟨t, ?_, b⟩
  have hx := hc.1
  have hb := hc.2.1
  dsimp only [zk_v] at e2
  jvm_step X.here [X.here.top, ↓top_set X.here.top, hx, hb, hd, e2, zk_v, Value.isRef]
  exact a
theorem gz_astore {i : Nat} {x : Nat} (hd : decode I.2.1 pc = .ok (.astore i, 2)) (hi : i < L.length) {L2 : List (Option Value)} (h2 : zk_put L i (.ref x) = L2)
    (k : zk_Go l Γ I d kc ks Q (pc + 2) L2 st M F) : zk_Go l Γ I d kc ks Q pc L (.ref x :: st) M F := by
  subst h2
  refine zk_Go.loc (st2 := st) (fun p e R s m args below meth c H locs cells slots Qf ρ ls hc hL hw k T hT X => ?_) (fun hw => hw.2) k
  obtain ⟨ls2, e2, hL2⟩ := zk_store hL (i := i) (v := .ref x) hw.1 (by simpa [zk_c2] using hi)
  obtain ⟨t, a, b⟩ := k ls2 hL2 T hT X
  refine ⟨t, ?_, b⟩
  have hx := hc.1
  have hb := hc.2.1
  dsimp only [zk_v] at e2
  jvm_step X.here [X.here.top, ↓top_set X.here.top, hx, hb, hd, e2, zk_v, Value.isRef]
  exact a
theorem zz_iinc {i : Nat} {n x : Int} (hd : decode I.2.1 pc = .ok (.iinc i n, 3)) (hl : L[i]? = some (some (.int (iZ x)))) {L2 : List (Option Value)} (h2 : zk_put L i (.int (iZ (x + n))) = L2)
    (k : zk_Go l Γ I d kc ks Q (pc + 3) L2 st M F) : zk_Go l Γ I d kc ks Q pc L st M F := by
  subst h2
  refine zk_Go.loc (st2 := st) (fun p e R s m args below meth c H locs cells slots Qf ρ ls hc hL hw k T hT X => ?_) (fun hw => hw) k
  obtain ⟨ls2, e2, hL2⟩ := zk_store hL (i := i) (v := .int (iZ (x + n))) trivial (by simpa [zk_c2] using (List.getElem?_eq_some_iff.mp hl).1)
  have e1 := (hL.2.2.2 _ _ hl).1
  obtain ⟨t, a, b⟩ := k ls2 hL2 T hT X
  refine ⟨t, ?_, b⟩
  have hx := hc.1
  have hb := hc.2.1
  have e3 : iZ x + Int32.ofInt n = iZ (x + n) := iZ_add x n
  dsimp only [zk_v] at e2 e1
  jvm_step X.here [X.here.top, ↓top_set X.here.top, hx, hb, hd, e1, e2, e3, zk_v]
  exact a
theorem gz_if_eq {x : Int32} {off : Int} {tgt : Nat} (hd : decode I.2.1 pc = .ok (.ifCond .eq off, 3)) (ht : (pc : Int) + off = (tgt : Int))
    (kt : x = 0 → zk_Go l Γ I d kc ks Q tgt L st M F) (kf : ¬ x = 0 → zk_Go l Γ I d kc ks Q (pc + 3) L st M F) : zk_Go l Γ I d kc ks Q pc L (.int x :: st) M F := by
  intro p e R s m args below meth c H locs cells slots Qf A ρ ls hc hr hs hR hA hS hL hW hE
  exact lv_if_eq hc.1 hc.2.1 hd ht (fun q => kt q p e R s m args below meth c H locs cells slots Qf A ρ ls hc hr hs hR hA hS hL (hW.2) hE) (fun q => kf q p e R s m args below meth c H locs cells slots Qf A ρ ls hc hr hs hR hA hS hL (hW.2) hE)
theorem zz_if_eq {x : Int} {off : Int} {tgt : Nat} (hd : decode I.2.1 pc = .ok (.ifCond .eq off, 3)) (ht : (pc : Int) + off = (tgt : Int)) (hb : -2147483648 ≤ x ∧ x < 2147483648)
    (kt : x = 0 → zk_Go l Γ I d kc ks Q tgt L st M F) (kf : ¬ x = 0 → zk_Go l Γ I d kc ks Q (pc + 3) L st M F) : zk_Go l Γ I d kc ks Q pc L (.int (iZ x) :: st) M F := by
  have e1 := iZ_lt (x := x) (y := 0) ⟨hb.1, hb.2, by decide, by decide⟩
  have e2 := iZ_le (x := x) (y := 0) ⟨hb.1, hb.2, by decide, by decide⟩
  have e3 := iZ_inj (x := x) (y := 0) ⟨hb.1, hb.2, by decide, by decide⟩
  have e4 := iZ_lt (x := 0) (y := x) ⟨by decide, by decide, hb.1, hb.2⟩
  have e5 := iZ_le (x := 0) (y := x) ⟨by decide, by decide, hb.1, hb.2⟩
  refine gz_if_eq hd ht (fun q => kt ?_) (fun q => kf ?_) <;> (rw [iZ_0] at q; simp only [e1, e2, e3, e4, e5] at q; omega)
theorem gz_icmp_eq {x y : Int32} {off : Int} {tgt : Nat} (hd : decode I.2.1 pc = .ok (.if_icmp .eq off, 3)) (ht : (pc : Int) + off = (tgt : Int))
    (kt : x = y → zk_Go l Γ I d kc ks Q tgt L st M F) (kf : ¬ x = y → zk_Go l Γ I d kc ks Q (pc + 3) L st M F) : zk_Go l Γ I d kc ks Q pc L (.int y :: .int x :: st) M F := by
  intro p e R s m args below meth c H locs cells slots Qf A ρ ls hc hr hs hR hA hS hL hW hE
  exact lv_icmp_eq hc.1 hc.2.1 hd ht (fun q => kt q p e R s m args below meth c H locs cells slots Qf A ρ ls hc hr hs hR hA hS hL (hW.2.2) hE) (fun q => kf q p e R s m args below meth c H locs cells slots Qf A ρ ls hc hr hs hR hA hS hL (hW.2.2) hE)
theorem zz_icmp_eq {x y : Int} {off : Int} {tgt : Nat} (hd : decode I.2.1 pc = .ok (.if_icmp .eq off, 3)) (ht : (pc : Int) + off = (tgt : Int)) (hb : -2147483648 ≤ x ∧ x < 2147483648 ∧ -2147483648 ≤ y ∧ y < 2147483648)
    (kt : x = y → zk_Go l Γ I d kc ks Q tgt L st M F) (kf : ¬ x = y → zk_Go l Γ I d kc ks Q (pc + 3) L st M F) : zk_Go l Γ I d kc ks Q pc L (.int (iZ y) :: .int (iZ x) :: st) M F := by
  have e1 := iZ_lt (x := x) (y := y) hb
  have e2 := iZ_le (x := x) (y := y) hb
  have e3 := iZ_inj (x := x) (y := y) hb
  have e4 := iZ_lt (x := y) (y := x) ⟨hb.2.2.1, hb.2.2.2, hb.1, hb.2.1⟩
  have e5 := iZ_le (x := y) (y := x) ⟨hb.2.2.1, hb.2.2.2, hb.1, hb.2.1⟩
  refine gz_icmp_eq hd ht (fun q => kt ?_) (fun q => kf ?_) <;> (simp only [e1, e2, e3, e4, e5] at q; omega)
theorem gz_if_ne {x : Int32} {off : Int} {tgt : Nat} (hd : decode I.2.1 pc = .ok (.ifCond .ne off, 3)) (ht : (pc : Int) + off = (tgt : Int))
    (kt : ¬ x = 0 → zk_Go l Γ I d kc ks Q tgt L st M F) (kf : x = 0 → zk_Go l Γ I d kc ks Q (pc + 3) L st M F) : zk_Go l Γ I d kc ks Q pc L (.int x :: st) M F := by
  intro p e R s m args below meth c H locs cells slots Qf A ρ ls hc hr hs hR hA hS hL hW hE
  exact lv_if_ne hc.1 hc.2.1 hd ht (fun q => kt q p e R s m args below meth c H locs cells slots Qf A ρ ls hc hr hs hR hA hS hL (hW.2) hE) (fun q => kf q p e R s m args below meth c H locs cells slots Qf A ρ ls hc hr hs hR hA hS hL (hW.2) hE)
theorem zz_if_ne {x : Int} {off : Int} {tgt : Nat} (hd : decode I.2.1 pc = .ok (.ifCond .ne off, 3)) (ht : (pc : Int) + off = (tgt : Int)) (hb : -2147483648 ≤ x ∧ x < 2147483648)
    (kt : ¬ x = 0 → zk_Go l Γ I d kc ks Q tgt L st M F) (kf : x = 0 → zk_Go l Γ I d kc ks Q (pc + 3) L st M F) : zk_Go l Γ I d kc ks Q pc L (.int (iZ x) :: st) M F := by
  have e1 := iZ_lt (x := x) (y := 0) ⟨hb.1, hb.2, by decide, by decide⟩
  have e2 := iZ_le (x := x) (y := 0) ⟨hb.1, hb.2, by decide, by decide⟩
  have e3 := iZ_inj (x := x) (y := 0) ⟨hb.1, hb.2, by decide, by decide⟩
  have e4 := iZ_lt (x := 0) (y := x) ⟨by decide, by decide, hb.1, hb.2⟩
  have e5 := iZ_le (x := 0) (y := x) ⟨by decide, by decide, hb.1, hb.2⟩
  refine gz_if_ne hd ht (fun q => kt ?_) (fun q => kf ?_) <;> (rw [iZ_0] at q; simp only [e1, e2, e3, e4, e5] at q; omega)
theorem gz_icmp_ne {x y : Int32} {off : Int} {tgt : Nat} (hd : decode I.2.1 pc = .ok (.if_icmp .ne off, 3)) (ht : (pc : Int) + off = (tgt : Int))
    (kt : ¬ x = y → zk_Go l Γ I d kc ks Q tgt L st M F) (kf : x = y → zk_Go l Γ I d kc ks Q (pc + 3) L st M F) : zk_Go l Γ I d kc ks Q pc L (.int y :: .int x :: st) M F := by
  intro p e R s m args below meth c H locs cells slots Qf A ρ ls hc hr hs hR hA hS hL hW hE
  exact lv_icmp_ne hc.1 hc.2.1 hd ht (fun q => kt q p e R s m args below meth c H locs cells slots Qf A ρ ls hc hr hs hR hA hS hL (hW.2.2) hE) (fun q => kf q p e R s m args below meth c H locs cells slots Qf A ρ ls hc hr hs hR hA hS hL (hW.2.2) hE)
theorem zz_icmp_ne {x y : Int} {off : Int} {tgt : Nat} (hd : decode I.2.1 pc = .ok (.if_icmp .ne off, 3)) (ht : (pc : Int) + off = (tgt : Int)) (hb : -2147483648 ≤ x ∧ x < 2147483648 ∧ -2147483648 ≤ y ∧ y < 2147483648)
    (kt : ¬ x = y → zk_Go l Γ I d kc ks Q tgt L st M F) (kf : x = y → zk_Go l Γ I d kc ks Q (pc + 3) L st M F) : zk_Go l Γ I d kc ks Q pc L (.int (iZ y) :: .int (iZ x) :: st) M F := by
  have e1 := iZ_lt (x := x) (y := y) hb
  have e2 := iZ_le (x := x) (y := y) hb
  have e3 := iZ_inj (x := x) (y := y) hb
  have e4 := iZ_lt (x := y) (y := x) ⟨hb.2.2.1, hb.2.2.2, hb.1, hb.2.1⟩
  have e5 := iZ_le (x := y) (y := x) ⟨hb.2.2.1, hb.2.2.2, hb.1, hb.2.1⟩
  refine gz_icmp_ne hd ht (fun q => kt ?_) (fun q => kf ?_) <;> (simp only [e1, e2, e3, e4, e5] at q; omega)
theorem gz_if_lt {x : Int32} {off : Int} {tgt : Nat} (hd : decode I.2.1 pc = .ok (.ifCond .lt off, 3)) (ht : (pc : Int) + off = (tgt : Int))
    (kt : x < 0 → zk_Go l Γ I d kc ks Q tgt L st M F) (kf : ¬ x < 0 → zk_Go l Γ I d kc ks Q (pc + 3) L st M F) : zk_Go l Γ I d kc ks Q pc L (.int x :: st) M F := by
  intro p e R s m args below meth c H locs cells slots Qf A ρ ls hc hr hs hR hA hS hL hW hE
  exact lv_if_lt hc.1 hc.2.1 hd ht (fun q => kt q p e R s m args below meth c H locs cells slots Qf A ρ ls hc hr hs hR hA hS hL (hW.2) hE) (fun q => kf q p e R s m args below meth c H locs cells slots Qf A ρ ls hc hr hs hR hA hS hL (hW.2) hE)
theorem zz_if_lt {x : Int} {off : Int} {tgt : Nat} (hd : decode I.2.1 pc = .ok (.ifCond .lt off, 3)) (ht : (pc : Int) + off = (tgt : Int)) (hb : -2147483648 ≤ x ∧ x < 2147483648)
    (kt : x < 0 → zk_Go l Γ I d kc ks Q tgt L st M F) (kf : 0 ≤ x → zk_Go l Γ I d kc ks Q (pc + 3) L st M F) : zk_Go l Γ I d kc ks Q pc L (.int (iZ x) :: st) M F := by
  have e1 := iZ_lt (x := x) (y := 0) ⟨hb.1, hb.2, by decide, by decide⟩
  have e2 := iZ_le (x := x) (y := 0) ⟨hb.1, hb.2, by decide, by decide⟩
  have e3 := iZ_inj (x := x) (y := 0) ⟨hb.1, hb.2, by decide, by decide⟩
  have e4 := iZ_lt (x := 0) (y := x) ⟨by decide, by decide, hb.1, hb.2⟩
  have e5 := iZ_le (x := 0) (y := x) ⟨by decide, by decide, hb.1, hb.2⟩
  refine gz_if_lt hd ht (fun q => kt ?_) (fun q => kf ?_) <;> (rw [iZ_0] at q; simp only [e1, e2, e3, e4, e5] at q; omega)
theorem gz_icmp_lt {x y : Int32} {off : Int} {tgt : Nat} (hd : decode I.2.1 pc = .ok (.if_icmp .lt off, 3)) (ht : (pc : Int) + off = (tgt : Int))
    (kt : x < y → zk_Go l Γ I d kc ks Q tgt L st M F) (kf : ¬ x < y → zk_Go l Γ I d kc ks Q (pc + 3) L st M F) : zk_Go l Γ I d kc ks Q pc L (.int y :: .int x :: st) M F := by
  intro p e R s m args below meth c H locs cells slots Qf A ρ ls hc hr hs hR hA hS hL hW hE
  exact lv_icmp_lt hc.1 hc.2.1 hd ht (fun q => kt q p e R s m args below meth c H locs cells slots Qf A ρ ls hc hr hs hR hA hS hL (hW.2.2) hE) (fun q => kf q p e R s m args below meth c H locs cells slots Qf A ρ ls hc hr hs hR hA hS hL (hW.2.2) hE)
theorem zz_icmp_lt {x y : Int} {off : Int} {tgt : Nat} (hd : decode I.2.1 pc = .ok (.if_icmp .lt off, 3)) (ht : (pc : Int) + off = (tgt : Int)) (hb : -2147483648 ≤ x ∧ x < 2147483648 ∧ -2147483648 ≤ y ∧ y < 2147483648)
    (kt : x < y → zk_Go l Γ I d kc ks Q tgt L st M F) (kf : y ≤ x → zk_Go l Γ I d kc ks Q (pc + 3) L st M F) : zk_Go l Γ I d kc ks Q pc L (.int (iZ y) :: .int (iZ x) :: st) M F := by
  have e1 := iZ_lt (x := x) (y := y) hb
  have e2 := iZ_le (x := x) (y := y) hb
  have e3 := iZ_inj (x := x) (y := y) hb
  have e4 := iZ_lt (x := y) (y := x) ⟨hb.2.2.1, hb.2.2.2, hb.1, hb.2.1⟩
  have e5 := iZ_le (x := y) (y := x) ⟨hb.2.2.1, hb.2.2.2, hb.1, hb.2.1⟩
  refine gz_icmp_lt hd ht (fun q => kt ?_) (fun q => kf ?_) <;> (simp only [e1, e2, e3, e4, e5] at q; omega)
theorem gz_if_ge {x : Int32} {off : Int} {tgt : Nat} (hd : decode I.2.1 pc = .ok (.ifCond .ge off, 3)) (ht : (pc : Int) + off = (tgt : Int))
    (kt : 0 ≤ x → zk_Go l Γ I d kc ks Q tgt L st M F) (kf : ¬ 0 ≤ x → zk_Go l Γ I d kc ks Q (pc + 3) L st M F) : zk_Go l Γ I d kc ks Q pc L (.int x :: st) M F := by
  intro p e R s m args below meth c H locs cells slots Qf A ρ ls hc hr hs hR hA hS hL hW hE
  exact lv_if_ge hc.1 hc.2.1 hd ht (fun q => kt q p e R s m args below meth c H locs cells slots Qf A ρ ls hc hr hs hR hA hS hL (hW.2) hE) (fun q => kf q p e R s m args below meth c H locs cells slots Qf A ρ ls hc hr hs hR hA hS hL (hW.2) hE)
theorem zz_if_ge {x : Int} {off : Int} {tgt : Nat} (hd : decode I.2.1 pc = .ok (.ifCond .ge off, 3)) (ht : (pc : Int) + off = (tgt : Int)) (hb : -2147483648 ≤ x ∧ x < 2147483648)
    (kt : 0 ≤ x → zk_Go l Γ I d kc ks Q tgt L st M F) (kf : x < 0 → zk_Go l Γ I d kc ks Q (pc + 3) L st M F) : zk_Go l Γ I d kc ks Q pc L (.int (iZ x) :: st) M F := by
  have e1 := iZ_lt (x := x) (y := 0) ⟨hb.1, hb.2, by decide, by decide⟩
  have e2 := iZ_le (x := x) (y := 0) ⟨hb.1, hb.2, by decide, by decide⟩
  have e3 := iZ_inj (x := x) (y := 0) ⟨hb.1, hb.2, by decide, by decide⟩
  have e4 := iZ_lt (x := 0) (y := x) ⟨by decide, by decide, hb.1, hb.2⟩
  have e5 := iZ_le (x := 0) (y := x) ⟨by decide, by decide, hb.1, hb.2⟩
  refine gz_if_ge hd ht (fun q => kt ?_) (fun q => kf ?_) <;> (rw [iZ_0] at q; simp only [e1, e2, e3, e4, e5] at q; omega)
theorem gz_icmp_ge {x y : Int32} {off : Int} {tgt : Nat} (hd : decode I.2.1 pc = .ok (.if_icmp .ge off, 3)) (ht : (pc : Int) + off = (tgt : Int))
    (kt : y ≤ x → zk_Go l Γ I d kc ks Q tgt L st M F) (kf : ¬ y ≤ x → zk_Go l Γ I d kc ks Q (pc + 3) L st M F) : zk_Go l Γ I d kc ks Q pc L (.int y :: .int x :: st) M F := by
  intro p e R s m args below meth c H locs cells slots Qf A ρ ls hc hr hs hR hA hS hL hW hE
  exact lv_icmp_ge hc.1 hc.2.1 hd ht (fun q => kt q p e R s m args below meth c H locs cells slots Qf A ρ ls hc hr hs hR hA hS hL (hW.2.2) hE) (fun q => kf q p e R s m args below meth c H locs cells slots Qf A ρ ls hc hr hs hR hA hS hL (hW.2.2) hE)
theorem zz_icmp_ge {x y : Int} {off : Int} {tgt : Nat} (hd : decode I.2.1 pc = .ok (.if_icmp .ge off, 3)) (ht : (pc : Int) + off = (tgt : Int)) (hb : -2147483648 ≤ x ∧ x < 2147483648 ∧ -2147483648 ≤ y ∧ y < 2147483648)
    (kt : y ≤ x → zk_Go l Γ I d kc ks Q tgt L st M F) (kf : x < y → zk_Go l Γ I d kc ks Q (pc + 3) L st M F) : zk_Go l Γ I d kc ks Q pc L (.int (iZ y) :: .int (iZ x) :: st) M F := by
  have e1 := iZ_lt (x := x) (y := y) hb
  have e2 := iZ_le (x := x) (y := y) hb
  have e3 := iZ_inj (x := x) (y := y) hb
  have e4 := iZ_lt (x := y) (y := x) ⟨hb.2.2.1, hb.2.2.2, hb.1, hb.2.1⟩
  have e5 := iZ_le (x := y) (y := x) ⟨hb.2.2.1, hb.2.2.2, hb.1, hb.2.1⟩
  refine gz_icmp_ge hd ht (fun q => kt ?_) (fun q => kf ?_) <;> (simp only [e1, e2, e3, e4, e5] at q; omega)
theorem gz_if_gt {x : Int32} {off : Int} {tgt : Nat} (hd : decode I.2.1 pc = .ok (.ifCond .gt off, 3)) (ht : (pc : Int) + off = (tgt : Int))
    (kt : 0 < x → zk_Go l Γ I d kc ks Q tgt L st M F) (kf : ¬ 0 < x → zk_Go l Γ I d kc ks Q (pc + 3) L st M F) : zk_Go l Γ I d kc ks Q pc L (.int x :: st) M F := by
  intro p e R s m args below meth c H locs cells slots Qf A ρ ls hc hr hs hR hA hS hL hW hE
  exact lv_if_gt hc.1 hc.2.1 hd ht (fun q => kt q p e R s m args below meth c H locs cells slots Qf A ρ ls hc hr hs hR hA hS hL (hW.2) hE) (fun q => kf q p e R s m args below meth c H locs cells slots Qf A ρ ls hc hr hs hR hA hS hL (hW.2) hE)
theorem zz_if_gt {x : Int} {off : Int} {tgt : Nat} (hd : decode I.2.1 pc = .ok (.ifCond .gt off, 3)) (ht : (pc : Int) + off = (tgt : Int)) (hb : -2147483648 ≤ x ∧ x < 2147483648)
    (kt : 0 < x → zk_Go l Γ I d kc ks Q tgt L st M F) (kf : x ≤ 0 → zk_Go l Γ I d kc ks Q (pc + 3) L st M F) : zk_Go l Γ I d kc ks Q pc L (.int (iZ x) :: st) M F := by
  have e1 := iZ_lt (x := x) (y := 0) ⟨hb.1, hb.2, by decide, by decide⟩
  have e2 := iZ_le (x := x) (y := 0) ⟨hb.1, hb.2, by decide, by decide⟩
  have e3 := iZ_inj (x := x) (y := 0) ⟨hb.1, hb.2, by decide, by decide⟩
  have e4 := iZ_lt (x := 0) (y := x) ⟨by decide, by decide, hb.1, hb.2⟩
  have e5 := iZ_le (x := 0) (y := x) ⟨by decide, by decide, hb.1, hb.2⟩
  refine gz_if_gt hd ht (fun q => kt ?_) (fun q => kf ?_) <;> (rw [iZ_0] at q; simp only [e1, e2, e3, e4, e5] at q; omega)
theorem gz_icmp_gt {x y : Int32} {off : Int} {tgt : Nat} (hd : decode I.2.1 pc = .ok (.if_icmp .gt off, 3)) (ht : (pc : Int) + off = (tgt : Int))
    (kt : y < x → zk_Go l Γ I d kc ks Q tgt L st M F) (kf : ¬ y < x → zk_Go l Γ I d kc ks Q (pc + 3) L st M F) : zk_Go l Γ I d kc ks Q pc L (.int y :: .int x :: st) M F := by
  intro p e R s m args below meth c H locs cells slots Qf A ρ ls hc hr hs hR hA hS hL hW hE
  exact lv_icmp_gt hc.1 hc.2.1 hd ht (fun q => kt q p e R s m args below meth c H locs cells slots Qf A ρ ls hc hr hs hR hA hS hL (hW.2.2) hE) (fun q => kf q p e R s m args below meth c H locs cells slots Qf A ρ ls hc hr hs hR hA hS hL (hW.2.2) hE)
theorem zz_icmp_gt {x y : Int} {off : Int} {tgt : Nat} (hd : decode I.2.1 pc = .ok (.if_icmp .gt off, 3)) (ht : (pc : Int) + off = (tgt : Int)) (hb : -2147483648 ≤ x ∧ x < 2147483648 ∧ -2147483648 ≤ y ∧ y < 2147483648)
    (kt : y < x → zk_Go l Γ I d kc ks Q tgt L st M F) (kf : x ≤ y → zk_Go l Γ I d kc ks Q (pc + 3) L st M F) : zk_Go l Γ I d kc ks Q pc L (.int (iZ y) :: .int (iZ x) :: st) M F := by
  have e1 := iZ_lt (x := x) (y := y) hb
  have e2 := iZ_le (x := x) (y := y) hb
  have e3 := iZ_inj (x := x) (y := y) hb
  have e4 := iZ_lt (x := y) (y := x) ⟨hb.2.2.1, hb.2.2.2, hb.1, hb.2.1⟩
  have e5 := iZ_le (x := y) (y := x) ⟨hb.2.2.1, hb.2.2.2, hb.1, hb.2.1⟩
  refine gz_icmp_gt hd ht (fun q => kt ?_) (fun q => kf ?_) <;> (simp only [e1, e2, e3, e4, e5] at q; omega)
theorem gz_if_le {x : Int32} {off : Int} {tgt : Nat} (hd : decode I.2.1 pc = .ok (.ifCond .le off, 3)) (ht : (pc : Int) + off = (tgt : Int))
    (kt : x ≤ 0 → zk_Go l Γ I d kc ks Q tgt L st M F) (kf : ¬ x ≤ 0 → zk_Go l Γ I d kc ks Q (pc + 3) L st M F) : zk_Go l Γ I d kc ks Q pc L (.int x :: st) M F := by
  intro p e R s m args below meth c H locs cells slots Qf A ρ ls hc hr hs hR hA hS hL hW hE
  exact lv_if_le hc.1 hc.2.1 hd ht (fun q => kt q p e R s m args below meth c H locs cells slots Qf A ρ ls hc hr hs hR hA hS hL (hW.2) hE) (fun q => kf q p e R s m args below meth c H locs cells slots Qf A ρ ls hc hr hs hR hA hS hL (hW.2) hE)
theorem zz_if_le {x : Int} {off : Int} {tgt : Nat} (hd : decode I.2.1 pc = .ok (.ifCond .le off, 3)) (ht : (pc : Int) + off = (tgt : Int)) (hb : -2147483648 ≤ x ∧ x < 2147483648)
    (kt : x ≤ 0 → zk_Go l Γ I d kc ks Q tgt L st M F) (kf : 0 < x → zk_Go l Γ I d kc ks Q (pc + 3) L st M F) : zk_Go l Γ I d kc ks Q pc L (.int (iZ x) :: st) M F := by
  have e1 := iZ_lt (x := x) (y := 0) ⟨hb.1, hb.2, by decide, by decide⟩
  have e2 := iZ_le (x := x) (y := 0) ⟨hb.1, hb.2, by decide, by decide⟩
  have e3 := iZ_inj (x := x) (y := 0) ⟨hb.1, hb.2, by decide, by decide⟩
  have e4 := iZ_lt (x := 0) (y := x) ⟨by decide, by decide, hb.1, hb.2⟩
  have e5 := iZ_le (x := 0) (y := x) ⟨by decide, by decide, hb.1, hb.2⟩
  refine gz_if_le hd ht (fun q => kt ?_) (fun q => kf ?_) <;> (rw [iZ_0] at q; simp only [e1, e2, e3, e4, e5] at q; omega)
theorem gz_icmp_le {x y : Int32} {off : Int} {tgt : Nat} (hd : decode I.2.1 pc = .ok (.if_icmp .le off, 3)) (ht : (pc : Int) + off = (tgt : Int))
    (kt : x ≤ y → zk_Go l Γ I d kc ks Q tgt L st M F) (kf : ¬ x ≤ y → zk_Go l Γ I d kc ks Q (pc + 3) L st M F) : zk_Go l Γ I d kc ks Q pc L (.int y :: .int x :: st) M F := by
  intro p e R s m args below meth c H locs cells slots Qf A ρ ls hc hr hs hR hA hS hL hW hE
  exact lv_icmp_le hc.1 hc.2.1 hd ht (fun q => kt q p e R s m args below meth c H locs cells slots Qf A ρ ls hc hr hs hR hA hS hL (hW.2.2) hE) (fun q => kf q p e R s m args below meth c H locs cells slots Qf A ρ ls hc hr hs hR hA hS hL (hW.2.2) hE)
theorem zz_icmp_le {x y : Int} {off : Int} {tgt : Nat} (hd : decode I.2.1 pc = .ok (.if_icmp .le off, 3)) (ht : (pc : Int) + off = (tgt : Int)) (hb : -2147483648 ≤ x ∧ x < 2147483648 ∧ -2147483648 ≤ y ∧ y < 2147483648)
    (kt : x ≤ y → zk_Go l Γ I d kc ks Q tgt L st M F) (kf : y < x → zk_Go l Γ I d kc ks Q (pc + 3) L st M F) : zk_Go l Γ I d kc ks Q pc L (.int (iZ y) :: .int (iZ x) :: st) M F := by
  have e1 := iZ_lt (x := x) (y := y) hb
  have e2 := iZ_le (x := x) (y := y) hb
  have e3 := iZ_inj (x := x) (y := y) hb
  have e4 := iZ_lt (x := y) (y := x) ⟨hb.2.2.1, hb.2.2.2, hb.1, hb.2.1⟩
  have e5 := iZ_le (x := y) (y := x) ⟨hb.2.2.1, hb.2.2.2, hb.1, hb.2.1⟩
  refine gz_icmp_le hd ht (fun q => kt ?_) (fun q => kf ?_) <;> (simp only [e1, e2, e3, e4, e5] at q; omega)
theorem gz_goto {off : Int} {tgt : Nat} (hd : decode I.2.1 pc = .ok (.goto off, 3)) (ht : (pc : Int) + off = (tgt : Int)) (k : zk_Go l Γ I d kc ks Q tgt L st M F) : zk_Go l Γ I d kc ks Q pc L st M F :=
  zk_Go.pure (st2 := st) (fun p e R s m args below meth c H locs cells slots Qf ρ ls hc hL k => lv_goto hc.1 hc.2.1 hd ht k) (fun ρ ls hL hw => hw) k
theorem zz_tsw {x : Int} {dflt lo hi : Int} {offs : Array Int} {len tgt : Nat} {off : Int} (hd : decode I.2.1 pc = .ok (.tableswitch dflt lo hi offs, len)) (hx : -2147483648 ≤ x ∧ x < 2147483648) (h1 : ¬ x < lo) (h2 : ¬ hi < x) (ho : offs[(x - lo).toNat]? = some off) (ht : (pc : Int) + off = (tgt : Int)) (k : zk_Go l Γ I d kc ks Q tgt L st M F) : zk_Go l Γ I d kc ks Q pc L (.int (iZ x) :: st) M F :=
  zk_Go.pure (st2 := st) (fun p e R s m args below meth c H locs cells slots Qf ρ ls hc hL k => lv_tableIn hc.1 hc.2.1 hd (by rw [iZ_toInt hx]; exact h1) (by rw [iZ_toInt hx]; exact h2) (by rw [iZ_toInt hx]; exact ho) ht k) (fun ρ ls hL hw => hw.2) k
theorem zz_tswD {x : Int} {dflt lo hi : Int} {offs : Array Int} {len tgt : Nat} (hd : decode I.2.1 pc = .ok (.tableswitch dflt lo hi offs, len)) (hx : -2147483648 ≤ x ∧ x < 2147483648) (h1 : x < lo ∨ hi < x) (ht : (pc : Int) + dflt = (tgt : Int)) (k : zk_Go l Γ I d kc ks Q tgt L st M F) : zk_Go l Γ I d kc ks Q pc L (.int (iZ x) :: st) M F :=
  zk_Go.pure (st2 := st) (fun p e R s m args below meth c H locs cells slots Qf ρ ls hc hL k => lv_tableOut hc.1 hc.2.1 hd (by rw [iZ_toInt hx]; exact h1) ht k) (fun ρ ls hL hw => hw.2) k
theorem gz_return_  (hd : decode I.2.1 pc = .ok (.return_, 1)) (hr : I.2.2.2 = none) (hq : Q (none) M F) : zk_Go l Γ I d kc ks Q pc L [] M F := by
  intro p e R s m args below meth c H locs cells slots Qf A ρ ls hc hr1 hs hR hA hS hL hW hE
  exact hE.1 (none) M F ρ H locs cells slots pc ls hq hR zk_ext.refl (fun w h => nomatch h) hS (Nat.le_add_right _ _) (Nat.le_add_right _ _) ⟨hd, hr⟩
theorem gz_ireturn {x : Int32} {ty : FieldType} (hd : decode I.2.1 pc = .ok (.ireturn, 1)) (hr : I.2.2.2 = some ty) (hn : narrow ty (.int x) = .int x) (hq : Q (some (.int x)) M F) : zk_Go l Γ I d kc ks Q pc L [.int x] M F := by
  intro p e R s m args below meth c H locs cells slots Qf A ρ ls hc hr1 hs hR hA hS hL hW hE
  exact hE.1 (some (.int x)) M F ρ H locs cells slots pc ls hq hR zk_ext.refl (fun w h => by cases h; trivial) hS (Nat.le_add_right _ _) (Nat.le_add_right _ _) ⟨hd, ⟨ty, hr, hn⟩⟩
theorem gz_lreturn {x : Int64} (hd : decode I.2.1 pc = .ok (.lreturn, 1)) (hr : I.2.2.2 = some .long) (hq : Q (some (.long x)) M F) : zk_Go l Γ I d kc ks Q pc L [.long x] M F := by
  intro p e R s m args below meth c H locs cells slots Qf A ρ ls hc hr1 hs hR hA hS hL hW hE
  exact hE.1 (some (.long x)) M F ρ H locs cells slots pc ls hq hR zk_ext.refl (fun w h => by cases h; trivial) hS (Nat.le_add_right _ _) (Nat.le_add_right _ _) ⟨hd, hr⟩
theorem gz_dreturn {x : UInt64} (hd : decode I.2.1 pc = .ok (.dreturn, 1)) (hr : I.2.2.2 = some .double) (hq : Q (some (.double x)) M F) : zk_Go l Γ I d kc ks Q pc L [.double x] M F := by
  intro p e R s m args below meth c H locs cells slots Qf A ρ ls hc hr1 hs hR hA hS hL hW hE
  exact hE.1 (some (.double x)) M F ρ H locs cells slots pc ls hq hR zk_ext.refl (fun w h => by cases h; trivial) hS (Nat.le_add_right _ _) (Nat.le_add_right _ _) ⟨hd, hr⟩
theorem gz_areturn {x : Nat} {ty : FieldType} (hd : decode I.2.1 pc = .ok (.areturn, 1)) (hr : I.2.2.2 = some ty) (hn : (∃ n, ty = .object n) ∨ ∃ t, ty = .array t) (hq : Q (some (.ref x)) M F) : zk_Go l Γ I d kc ks Q pc L [.ref x] M F := by
  intro p e R s m args below meth c H locs cells slots Qf A ρ ls hc hr1 hs hR hA hS hL hW hE
  exact hE.1 (some (.ref x)) M F ρ H locs cells slots pc ls hq hR zk_ext.refl (fun w h => by cases h; exact hW.1) hS (Nat.le_add_right _ _) (Nat.le_add_right _ _) ⟨hd, ⟨ty, hr, hn⟩⟩
theorem zz_iadd {x y : Int} (hd : decode I.2.1 pc = .ok (.iadd, 1)) (k : zk_Go l Γ I d kc ks Q (pc + 1) L (.int (iZ (x + y)) :: st) M F) : zk_Go l Γ I d kc ks Q pc L (.int (iZ y) :: .int (iZ x) :: st) M F :=
  gz_iadd hd (by rw [iZ_add]; exact k)
theorem zz_isub {x y : Int} (hd : decode I.2.1 pc = .ok (.isub, 1)) (k : zk_Go l Γ I d kc ks Q (pc + 1) L (.int (iZ (x - y)) :: st) M F) : zk_Go l Γ I d kc ks Q pc L (.int (iZ y) :: .int (iZ x) :: st) M F :=
  gz_isub hd (by rw [iZ_sub]; exact k)
theorem zz_imul {x y : Int} (hd : decode I.2.1 pc = .ok (.imul, 1)) (k : zk_Go l Γ I d kc ks Q (pc + 1) L (.int (iZ (x * y)) :: st) M F) : zk_Go l Γ I d kc ks Q pc L (.int (iZ y) :: .int (iZ x) :: st) M F :=
  gz_imul hd (by rw [iZ_mul]; exact k)
theorem zz_ladd {x y : Int} (hd : decode I.2.1 pc = .ok (.ladd, 1)) (k : zk_Go l Γ I d kc ks Q (pc + 1) L (.long (lZ (x + y)) :: st) M F) : zk_Go l Γ I d kc ks Q pc L (.long (lZ y) :: .long (lZ x) :: st) M F :=
  gz_ladd hd (by rw [lZ_add]; exact k)
theorem zz_lmul {x y : Int} (hd : decode I.2.1 pc = .ok (.lmul, 1)) (k : zk_Go l Γ I d kc ks Q (pc + 1) L (.long (lZ (x * y)) :: st) M F) : zk_Go l Γ I d kc ks Q pc L (.long (lZ y) :: .long (lZ x) :: st) M F :=
  gz_lmul hd (by rw [lZ_mul]; exact k)
end RULES
