/-! INDEXES THAT ARE WHOLE NUMBERS -/
section IX
variable {l : Launch} {Γ : zk_G} {I : zk_MI} {d kc ks : Nat} {Q : Option Value → zk_M → (Heap → Prop) → Prop} {pc : Nat} {L : List (Option Value)} {st : List Value} {M : zk_M} {Z : Nat → Nat → Int} {F : Heap → Prop}
theorem gn_iald {a len : Nat} {z : Int} {v : Value} (hd : decode I.2.1 pc = .ok (.iaload, 1)) (hs : M.1 a = (100, len)) (hz : 0 ≤ z ∧ z < (len : Int)) (hv : M.2.2 a z.toNat = v)
    (kk : zk_Go l Γ I d kc ks Q (pc + 1) L (v :: st) M F) : zk_Go l Γ I d kc ks Q pc L (.int (iZ z) :: .ref a :: st) M F :=
  gz_iald (n := z.toNat) hd hs (Int.toNat_of_nonneg hz.1).symm (by omega) hv kk
theorem gn_lald {a len : Nat} {z : Int} {v : Value} (hd : decode I.2.1 pc = .ok (.laload, 1)) (hs : M.1 a = (101, len)) (hz : 0 ≤ z ∧ z < (len : Int)) (hv : M.2.2 a z.toNat = v)
    (kk : zk_Go l Γ I d kc ks Q (pc + 1) L (v :: st) M F) : zk_Go l Γ I d kc ks Q pc L (.int (iZ z) :: .ref a :: st) M F :=
  gz_lald (n := z.toNat) hd hs (Int.toNat_of_nonneg hz.1).symm (by omega) hv kk
theorem gn_zald {a len : Nat} {z : Int} {v : Value} (hd : decode I.2.1 pc = .ok (.baload, 1)) (hs : M.1 a = (102, len)) (hz : 0 ≤ z ∧ z < (len : Int)) (hv : M.2.2 a z.toNat = v)
    (kk : zk_Go l Γ I d kc ks Q (pc + 1) L (v :: st) M F) : zk_Go l Γ I d kc ks Q pc L (.int (iZ z) :: .ref a :: st) M F :=
  gz_zald (n := z.toNat) hd hs (Int.toNat_of_nonneg hz.1).symm (by omega) hv kk
theorem gn_bald {a len : Nat} {z : Int} {v : Value} (hd : decode I.2.1 pc = .ok (.baload, 1)) (hs : M.1 a = (103, len)) (hz : 0 ≤ z ∧ z < (len : Int)) (hv : M.2.2 a z.toNat = v)
    (kk : zk_Go l Γ I d kc ks Q (pc + 1) L (v :: st) M F) : zk_Go l Γ I d kc ks Q pc L (.int (iZ z) :: .ref a :: st) M F :=
  gz_bald (n := z.toNat) hd hs (Int.toNat_of_nonneg hz.1).symm (by omega) hv kk
theorem gn_aald {a k len : Nat} {z : Int} {v : Value} (hd : decode I.2.1 pc = .ok (.aaload, 1)) (hs : M.1 a = (100 + k, len)) (hk : k = 4 ∨ k = 5) (hz : 0 ≤ z ∧ z < (len : Int)) (hv : M.2.2 a z.toNat = v)
    (kk : zk_Go l Γ I d kc ks Q (pc + 1) L (v :: st) M F) : zk_Go l Γ I d kc ks Q pc L (.int (iZ z) :: .ref a :: st) M F :=
  gz_aald (n := z.toNat) hd hs hk (Int.toNat_of_nonneg hz.1).symm (by omega) hv kk
theorem zn_iast {a len : Nat} {z w : Int} {x : Int32} (hd : decode I.2.1 pc = .ok (.iastore, 1)) (hs : zb_s a = (100, len)) (ha : zk_N ≤ a) (hz : 0 ≤ z ∧ z < (len : Int))  (hg : (.int x : Value) = zb_g a z.toNat w)
    (kk : zk_Go l Γ I d kc ks Q (pc + 1) L st (zb_M (zb_u Z a z.toNat w)) F) : zk_Go l Γ I d kc ks Q pc L (.int x :: .int (iZ z) :: .ref a :: st) (zb_M Z) F :=
  zc_iast (n := z.toNat) hd hs ha (Int.toNat_of_nonneg hz.1).symm (by omega) hg kk
theorem zn_last {a len : Nat} {z w : Int} {x : Int64} (hd : decode I.2.1 pc = .ok (.lastore, 1)) (hs : zb_s a = (101, len)) (ha : zk_N ≤ a) (hz : 0 ≤ z ∧ z < (len : Int))  (hg : (.long x : Value) = zb_g a z.toNat w)
    (kk : zk_Go l Γ I d kc ks Q (pc + 1) L st (zb_M (zb_u Z a z.toNat w)) F) : zk_Go l Γ I d kc ks Q pc L (.long x :: .int (iZ z) :: .ref a :: st) (zb_M Z) F :=
  zc_last (n := z.toNat) hd hs ha (Int.toNat_of_nonneg hz.1).symm (by omega) hg kk
theorem zn_zast {a len : Nat} {z w : Int} {x : Int32} (hd : decode I.2.1 pc = .ok (.bastore, 1)) (hs : zb_s a = (102, len)) (ha : zk_N ≤ a) (hz : 0 ≤ z ∧ z < (len : Int)) (hx : narrow .boolean (.int x) = .int x) (hg : (.int x : Value) = zb_g a z.toNat w)
    (kk : zk_Go l Γ I d kc ks Q (pc + 1) L st (zb_M (zb_u Z a z.toNat w)) F) : zk_Go l Γ I d kc ks Q pc L (.int x :: .int (iZ z) :: .ref a :: st) (zb_M Z) F :=
  zc_zast (n := z.toNat) hd hs ha (Int.toNat_of_nonneg hz.1).symm (by omega) hx hg kk
end IX
