/-! THE READER: a list -/
section
variable {l : Launch} {Γ : zk_G} {d : Nat} {Z : Nat → Nat → Int} {F : Heap → Prop}
def pkT (D : zV) : Nat → Nat → List (Nat × Int)
  | _, 0 => []
  | k, m + 1 => (0, 0) :: (44, 619 + (k : Int)) :: (1, 0) :: (2, 0) :: (45, D 1 k) :: (3, 0) :: (45, D 2 k) :: (4, 0) :: (45, D 3 k) :: (33, 0) :: pkT D (k + 1) m
def paT (D : zV) : Nat → Nat → List (Nat × Int)
  | _, 0 => []
  | k, m + 1 => (5, 0) :: (44, 878 + (k : Int)) :: (6, 0) :: (44, 619 + ((D 4 k).toNat : Int)) :: (7, 0) :: (44, 619 + ((D 5 k).toNat : Int)) :: (8, 0) :: (45, D 6 k) :: (33, 0) :: paT D (k + 1) m
def clT (D : zV) : Nat → Nat → List (Nat × Int)
  | _, 0 => []
  | k, m + 1 => (9, 0) :: (10, 0) :: (44, 878 + ((D 11 k).toNat : Int)) :: (11, 0) :: (45, D 12 k) :: (12, 0) :: (45, D 13 k) :: (2, 0) :: (45, D 14 k) :: (33, 0) :: clT D (k + 1) m
def meT (D : zV) : Nat → Nat → List (Nat × Int)
  | _, 0 => []
  | k, m + 1 => (13, 0) :: (44, 508 + (k : Int)) :: (14, 0) :: (45, D 7 k) :: (15, 0) :: (44, 619 + ((D 8 k).toNat : Int)) :: (3, 0) :: (44, 619 + ((D 9 k).toNat : Int)) :: (16, 0) :: (45, D 10 k) :: (33, 0) :: meT D (k + 1) m
/-- orders in tokens: a message, the tokens of its test, the operations -/
abbrev zHT : Type := List (Nat × List (Nat × Int) × List (Int × Int))
def hoT : zHT → List (Nat × Int)
  | [] => []
  | x :: hs => (17, 0) :: (44, 508 + (x.1 : Int)) :: (18, 0) :: (x.2.1 ++ (33, 0) :: hoT hs)
def hoH : zHT → zHs
  | [] => []
  | x :: hs => (x.1, x.2.2) :: hoH hs
theorem hoH_len : ∀ hs : zHT, (hoH hs).length = hs.length
  | [] => rfl
  | x :: hs => by show (hoH hs).length + 1 = hs.length + 1; rw [hoH_len hs]
theorem zs_ph_peak {p nw nc nm : Nat} {D : zV} {hs : zHs} (hp : p = 368 ∨ p = 400) (hd : 6 ≤ d) {Q : Option Value → zk_M → (Heap → Prop) → Prop} : ∀ (m k j i : Nat) (ts : List (Nat × Int)) (Z : zV), j + m < 400 → (∀ x, k ≤ x → x < k + m → x < 8 ∧ (0 ≤ D 1 x ∧ D 1 x ≤ 120) ∧ (0 ≤ D 2 x ∧ D 2 x ≤ 120) ∧ (0 ≤ D 3 x ∧ D 3 x ≤ 4)) → rdA Z p i (pkT D k m ++ ts) D k nw nc nm hs → (∀ (Z' : zV) (i' : Nat), rdA Z' p i' ts D (k + m) nw nc nm hs → zk_Go l Γ mX4_read d 0 0 Q 24 [some (.ref 327), some (.ref p), some (.int (iZ (((j + m : Nat) : Int) : Int)))] [] (zb_M Z') F) → zk_Go l Γ mX4_read d 0 0 Q 24 [some (.ref 327), some (.ref p), some (.int (iZ ((j : Int) : Int)))] [] (zb_M Z) F := by
  intro m
  induction m with
  | zero =>
    intro k j i ts Z hj hy A0 hk
    exact hk Z i A0
  | succ m ih =>
    intro k j i ts Z hj hy A0 hk
    have hp2 := hp
    have hy0 := hy k (Nat.le_refl _) (by omega)
    have A1 := rdA_adv hp A0
    have fin : ∀ (Z2 : zV) (i2 : Nat), rdA Z2 p i2 ((33, 0) :: (pkT D (k + 1) m ++ ts)) D (k + 1) nw nc nm hs → rdS Z2 p i2 (hsLen hs) ((33, 0) :: (pkT D (k + 1) m ++ ts)) ∧ zk_Go l Γ mX4_read d 0 0 Q 24 [some (.ref 327), some (.ref p), some (.int (iZ ((j : Int) + 1 : Int)))] [] (zb_M (zb_u Z2 323 4 ((i2 : Int) + 1))) F := fun Z2 i2 A => by
      refine ⟨A.1, ?_⟩
      rw [show ((j : Int) + 1) = ((j + 1 : Nat) : Int) from by omega]
      refine ih (k + 1) (j + 1) (i2 + 1) ts _ (by omega) (fun x h1 h2 => hy x (by omega) (by omega)) (rdA_adv hp A) (fun Z' i' A' => ?_)
      have q := hk Z' i' (by rw [show k + (m + 1) = k + 1 + m from by omega]; exact A')
      rw [show j + 1 + m = j + (m + 1) from by omega]
      exact q
    rcases hp with rfl | rfl <;> (
      refine gz_iload_n dX4_read_24 rfl ?_
      refine zz_sipush (x := 400) dX4_read_25 rfl ?_
      refine zz_icmp_ge (tgt := 160) dX4_read_28 rfl (by omega) (fun b28 => ?_) (fun b28 => ?_)
      · exact absurd b28 (by omega)
      refine gz_aload_n dX4_read_31 rfl ?_
      refine gz_getf 5 dX4_read_32 rfl rfl wf_Heliographs_Reader_34 (by decide) (zv_i A0.1.2.2.2.2.2.2.1) ?_
      refine zz_iconst dX4_read_35 ?_
      refine zz_icmp_eq (tgt := 160) dX4_read_36 rfl (by omega) (fun b36 => ?_) (fun b36 => ?_)
      · exact absurd b36 (by omega)
      refine gz_aload_n dX4_read_39 rfl ?_
      refine gz_getf 3 dX4_read_40 rfl rfl wf_Heliographs_Reader_21 (by decide) rfl ?_
      refine gv_0 (J := mX6_kind) (d1 := d - 1) dX4_read_43 wm_Heliographs_Reader_41 rfl jzX6_kind (Nat.le_of_ble_eq_true rfl) (Nat.le_of_ble_eq_true rfl) (by omega) ⟨Nat.le_refl _, Nat.le_refl _⟩ (zs_kind A0.1) ?_
      refine gz_gets (v := .ref 46) dX4_read_46 (by decide) wf_Heliographs_Reader_47 (by first | exact True.intro | (show _ < _; decide)) ?_
      refine gz_acmp_eq (tgt := 160) dX4_read_49 rfl (by show (zb_s _).1 < 1000; decide) (by show (zb_s _).1 < 1000; decide) (by decide) (fun b49 => ?_) (fun b49 => ?_)
      · exact absurd b49 (by omega)
      refine gz_aload_n dX4_read_52 rfl ?_
      refine gz_gets (v := .ref 0) dX4_read_53 (by decide) wf_Heliographs_Reader_53 (by first | exact True.intro | (show _ < _; decide)) ?_
      refine gv_1 (J := mX4_accept) (d1 := d - 1) dX4_read_56 wm_Heliographs_Reader_56 rfl jzX4_accept (Nat.le_of_ble_eq_true rfl) (Nat.le_of_ble_eq_true rfl) (by omega) ⟨Nat.le_refl _, Nat.le_refl _⟩ (zs_accept_t A0.1 (by omega)) ?_
      refine zz_if_eq (tgt := 69) dX4_read_59 rfl (by omega) (fun b59 => ?_) (fun b59 => ?_)
      · exact absurd b59 (by omega)
      refine gz_aload_n dX4_read_62 rfl ?_
      refine gq_0 (J := mX4_readPeak) (d1 := d - 1) dX4_read_63 wm_Heliographs_Reader_60 rfl jzX4_readPeak (Nat.le_of_ble_eq_true rfl) (Nat.le_of_ble_eq_true rfl) (by omega) (zs_readPeak (by decide) hy0.1 hy0.2.1 hy0.2.2.1 hy0.2.2.2 A1 (by omega)) (fun Z63 hZ63 => ?_)
      refine gz_goto (tgt := 147) dX4_read_66 rfl ?_
      refine gz_aload_n dX4_read_147 rfl ?_
      refine gz_gets (v := .ref 33) dX4_read_148 (by decide) wf_Heliographs_Reader_90 (by first | exact True.intro | (show _ < _; decide)) ?_
      refine gv_1 (J := mX4_expect) (d1 := d - 1) dX4_read_151 wm_Heliographs_Reader_93 rfl jzX4_expect (Nat.le_of_ble_eq_true rfl) (Nat.le_of_ble_eq_true rfl) (by omega) ⟨Nat.le_refl _, Nat.le_refl _⟩ (zs_expect (fin _ _ hZ63).1 (by omega)) ?_
      refine zz_iinc dX4_read_154 rfl rfl ?_
      refine gz_goto (tgt := 24) dX4_read_157 rfl ?_
      exact (fin _ _ hZ63).2
    )
theorem zs_ph_pass {p np nc nm : Nat} {D : zV} {hs : zHs} (hp : p = 368 ∨ p = 400) (hd : 6 ≤ d) {Q : Option Value → zk_M → (Heap → Prop) → Prop} : ∀ (m k j i : Nat) (ts : List (Nat × Int)) (Z : zV), j + m < 400 → (∀ x, k ≤ x → x < k + m → x < 12 ∧ 0 ≤ D 4 x ∧ 0 ≤ D 5 x ∧ (D 4 x).toNat < np ∧ (D 5 x).toNat < np ∧ (D 5 x).toNat ≠ (D 4 x).toNat ∧ (1 ≤ D 6 x ∧ D 6 x ≤ 20)) → rdA Z p i (paT D k m ++ ts) D np k nc nm hs → (∀ (Z' : zV) (i' : Nat), rdA Z' p i' ts D np (k + m) nc nm hs → zk_Go l Γ mX4_read d 0 0 Q 24 [some (.ref 327), some (.ref p), some (.int (iZ (((j + m : Nat) : Int) : Int)))] [] (zb_M Z') F) → zk_Go l Γ mX4_read d 0 0 Q 24 [some (.ref 327), some (.ref p), some (.int (iZ ((j : Int) : Int)))] [] (zb_M Z) F := by
  intro m
  induction m with
  | zero =>
    intro k j i ts Z hj hy A0 hk
    exact hk Z i A0
  | succ m ih =>
    intro k j i ts Z hj hy A0 hk
    have hp2 := hp
    have hy0 := hy k (Nat.le_refl _) (by omega)
    have A1 := rdA_adv hp A0
    have ex : ((D 4 k).toNat : Int) = D 4 k := Int.toNat_of_nonneg hy0.2.1
    have ey : ((D 5 k).toNat : Int) = D 5 k := Int.toNat_of_nonneg hy0.2.2.1
    have fin : ∀ (Z2 : zV) (i2 : Nat), rdA Z2 p i2 ((33, 0) :: (paT D (k + 1) m ++ ts)) D np (k + 1) nc nm hs → rdS Z2 p i2 (hsLen hs) ((33, 0) :: (paT D (k + 1) m ++ ts)) ∧ zk_Go l Γ mX4_read d 0 0 Q 24 [some (.ref 327), some (.ref p), some (.int (iZ ((j : Int) + 1 : Int)))] [] (zb_M (zb_u Z2 323 4 ((i2 : Int) + 1))) F := fun Z2 i2 A => by
      refine ⟨A.1, ?_⟩
      rw [show ((j : Int) + 1) = ((j + 1 : Nat) : Int) from by omega]
      refine ih (k + 1) (j + 1) (i2 + 1) ts _ (by omega) (fun x h1 h2 => hy x (by omega) (by omega)) (rdA_adv hp A) (fun Z' i' A' => ?_)
      have q := hk Z' i' (by rw [show k + (m + 1) = k + 1 + m from by omega]; exact A')
      rw [show j + 1 + m = j + (m + 1) from by omega]
      exact q
    rcases hp with rfl | rfl <;> (
      refine gz_iload_n dX4_read_24 rfl ?_
      refine zz_sipush (x := 400) dX4_read_25 rfl ?_
      refine zz_icmp_ge (tgt := 160) dX4_read_28 rfl (by omega) (fun b28 => ?_) (fun b28 => ?_)
      · exact absurd b28 (by omega)
      refine gz_aload_n dX4_read_31 rfl ?_
      refine gz_getf 5 dX4_read_32 rfl rfl wf_Heliographs_Reader_34 (by decide) (zv_i A0.1.2.2.2.2.2.2.1) ?_
      refine zz_iconst dX4_read_35 ?_
      refine zz_icmp_eq (tgt := 160) dX4_read_36 rfl (by omega) (fun b36 => ?_) (fun b36 => ?_)
      · exact absurd b36 (by omega)
      refine gz_aload_n dX4_read_39 rfl ?_
      refine gz_getf 3 dX4_read_40 rfl rfl wf_Heliographs_Reader_21 (by decide) rfl ?_
      refine gv_0 (J := mX6_kind) (d1 := d - 1) dX4_read_43 wm_Heliographs_Reader_41 rfl jzX6_kind (Nat.le_of_ble_eq_true rfl) (Nat.le_of_ble_eq_true rfl) (by omega) ⟨Nat.le_refl _, Nat.le_refl _⟩ (zs_kind A0.1) ?_
      refine gz_gets (v := .ref 46) dX4_read_46 (by decide) wf_Heliographs_Reader_47 (by first | exact True.intro | (show _ < _; decide)) ?_
      refine gz_acmp_eq (tgt := 160) dX4_read_49 rfl (by show (zb_s _).1 < 1000; decide) (by show (zb_s _).1 < 1000; decide) (by decide) (fun b49 => ?_) (fun b49 => ?_)
      · exact absurd b49 (by omega)
      refine gz_aload_n dX4_read_52 rfl ?_
      refine gz_gets (v := .ref 0) dX4_read_53 (by decide) wf_Heliographs_Reader_53 (by first | exact True.intro | (show _ < _; decide)) ?_
      refine gv_1 (J := mX4_accept) (d1 := d - 1) dX4_read_56 wm_Heliographs_Reader_56 rfl jzX4_accept (Nat.le_of_ble_eq_true rfl) (Nat.le_of_ble_eq_true rfl) (by omega) ⟨Nat.le_refl _, Nat.le_refl _⟩ (zs_accept_f A0.1 (by decide) (by decide) (by omega)) ?_
      refine zz_if_eq (tgt := 69) dX4_read_59 rfl (by omega) (fun b59 => ?_) (fun b59 => ?_)
      rotate_left
      · exact absurd b59 (by omega)
      refine gz_aload_n dX4_read_69 rfl ?_
      refine gz_gets (v := .ref 5) dX4_read_70 (by decide) wf_Heliographs_Reader_63 (by first | exact True.intro | (show _ < _; decide)) ?_
      refine gv_1 (J := mX4_accept) (d1 := d - 1) dX4_read_73 wm_Heliographs_Reader_56 rfl jzX4_accept (Nat.le_of_ble_eq_true rfl) (Nat.le_of_ble_eq_true rfl) (by omega) ⟨Nat.le_refl _, Nat.le_refl _⟩ (zs_accept_t A0.1 (by omega)) ?_
      refine zz_if_eq (tgt := 86) dX4_read_76 rfl (by omega) (fun b76 => ?_) (fun b76 => ?_)
      · exact absurd b76 (by omega)
      refine gz_aload_n dX4_read_79 rfl ?_
      refine gq_0 (J := mX4_readPass) (d1 := d - 1) dX4_read_80 wm_Heliographs_Reader_66 rfl jzX4_readPass (Nat.le_of_ble_eq_true rfl) (Nat.le_of_ble_eq_true rfl) (by omega) (zs_readPass (by decide) hy0.1 ex ey hy0.2.2.2.1 hy0.2.2.2.2.1 hy0.2.2.2.2.2.1 hy0.2.2.2.2.2.2 A1 (by omega)) (fun Z80 hZ80 => ?_)
      refine gz_goto (tgt := 147) dX4_read_83 rfl ?_
      refine gz_aload_n dX4_read_147 rfl ?_
      refine gz_gets (v := .ref 33) dX4_read_148 (by decide) wf_Heliographs_Reader_90 (by first | exact True.intro | (show _ < _; decide)) ?_
      refine gv_1 (J := mX4_expect) (d1 := d - 1) dX4_read_151 wm_Heliographs_Reader_93 rfl jzX4_expect (Nat.le_of_ble_eq_true rfl) (Nat.le_of_ble_eq_true rfl) (by omega) ⟨Nat.le_refl _, Nat.le_refl _⟩ (zs_expect (fin _ _ hZ80).1 (by omega)) ?_
      refine zz_iinc dX4_read_154 rfl rfl ?_
      refine gz_goto (tgt := 24) dX4_read_157 rfl ?_
      exact (fin _ _ hZ80).2
    )
theorem zs_ph_cloud {p np nw nm : Nat} {D : zV} {hs : zHs} (hp : p = 368 ∨ p = 400) (hd : 6 ≤ d) {Q : Option Value → zk_M → (Heap → Prop) → Prop} : ∀ (m k j i : Nat) (ts : List (Nat × Int)) (Z : zV), j + m < 400 → (∀ x, k ≤ x → x < k + m → x < 8 ∧ 0 ≤ D 11 x ∧ (D 11 x).toNat < nw ∧ (2 ≤ D 12 x ∧ D 12 x ≤ 60) ∧ (1 ≤ D 13 x ∧ D 13 x ≤ D 12 x - 1) ∧ (0 ≤ D 14 x ∧ D 14 x ≤ 59)) → rdA Z p i (clT D k m ++ ts) D np nw k nm hs → (∀ (Z' : zV) (i' : Nat), rdA Z' p i' ts D np nw (k + m) nm hs → zk_Go l Γ mX4_read d 0 0 Q 24 [some (.ref 327), some (.ref p), some (.int (iZ (((j + m : Nat) : Int) : Int)))] [] (zb_M Z') F) → zk_Go l Γ mX4_read d 0 0 Q 24 [some (.ref 327), some (.ref p), some (.int (iZ ((j : Int) : Int)))] [] (zb_M Z) F := by
  intro m
  induction m with
  | zero =>
    intro k j i ts Z hj hy A0 hk
    exact hk Z i A0
  | succ m ih =>
    intro k j i ts Z hj hy A0 hk
    have hp2 := hp
    have hy0 := hy k (Nat.le_refl _) (by omega)
    have ex : ((D 11 k).toNat : Int) = D 11 k := Int.toNat_of_nonneg hy0.2.1
    have fin : ∀ (Z2 : zV) (i2 : Nat), rdA Z2 p i2 ((33, 0) :: (clT D (k + 1) m ++ ts)) D np nw (k + 1) nm hs → rdS Z2 p i2 (hsLen hs) ((33, 0) :: (clT D (k + 1) m ++ ts)) ∧ zk_Go l Γ mX4_read d 0 0 Q 24 [some (.ref 327), some (.ref p), some (.int (iZ ((j : Int) + 1 : Int)))] [] (zb_M (zb_u Z2 323 4 ((i2 : Int) + 1))) F := fun Z2 i2 A => by
      refine ⟨A.1, ?_⟩
      rw [show ((j : Int) + 1) = ((j + 1 : Nat) : Int) from by omega]
      refine ih (k + 1) (j + 1) (i2 + 1) ts _ (by omega) (fun x h1 h2 => hy x (by omega) (by omega)) (rdA_adv hp A) (fun Z' i' A' => ?_)
      have q := hk Z' i' (by rw [show k + (m + 1) = k + 1 + m from by omega]; exact A')
      rw [show j + 1 + m = j + (m + 1) from by omega]
      exact q
    rcases hp with rfl | rfl <;> (
      refine gz_iload_n dX4_read_24 rfl ?_
      refine zz_sipush (x := 400) dX4_read_25 rfl ?_
      refine zz_icmp_ge (tgt := 160) dX4_read_28 rfl (by omega) (fun b28 => ?_) (fun b28 => ?_)
      · exact absurd b28 (by omega)
      refine gz_aload_n dX4_read_31 rfl ?_
      refine gz_getf 5 dX4_read_32 rfl rfl wf_Heliographs_Reader_34 (by decide) (zv_i A0.1.2.2.2.2.2.2.1) ?_
      refine zz_iconst dX4_read_35 ?_
      refine zz_icmp_eq (tgt := 160) dX4_read_36 rfl (by omega) (fun b36 => ?_) (fun b36 => ?_)
      · exact absurd b36 (by omega)
      refine gz_aload_n dX4_read_39 rfl ?_
      refine gz_getf 3 dX4_read_40 rfl rfl wf_Heliographs_Reader_21 (by decide) rfl ?_
      refine gv_0 (J := mX6_kind) (d1 := d - 1) dX4_read_43 wm_Heliographs_Reader_41 rfl jzX6_kind (Nat.le_of_ble_eq_true rfl) (Nat.le_of_ble_eq_true rfl) (by omega) ⟨Nat.le_refl _, Nat.le_refl _⟩ (zs_kind A0.1) ?_
      refine gz_gets (v := .ref 46) dX4_read_46 (by decide) wf_Heliographs_Reader_47 (by first | exact True.intro | (show _ < _; decide)) ?_
      refine gz_acmp_eq (tgt := 160) dX4_read_49 rfl (by show (zb_s _).1 < 1000; decide) (by show (zb_s _).1 < 1000; decide) (by decide) (fun b49 => ?_) (fun b49 => ?_)
      · exact absurd b49 (by omega)
      refine gz_aload_n dX4_read_52 rfl ?_
      refine gz_gets (v := .ref 0) dX4_read_53 (by decide) wf_Heliographs_Reader_53 (by first | exact True.intro | (show _ < _; decide)) ?_
      refine gv_1 (J := mX4_accept) (d1 := d - 1) dX4_read_56 wm_Heliographs_Reader_56 rfl jzX4_accept (Nat.le_of_ble_eq_true rfl) (Nat.le_of_ble_eq_true rfl) (by omega) ⟨Nat.le_refl _, Nat.le_refl _⟩ (zs_accept_f A0.1 (by decide) (by decide) (by omega)) ?_
      refine zz_if_eq (tgt := 69) dX4_read_59 rfl (by omega) (fun b59 => ?_) (fun b59 => ?_)
      rotate_left
      · exact absurd b59 (by omega)
      refine gz_aload_n dX4_read_69 rfl ?_
      refine gz_gets (v := .ref 5) dX4_read_70 (by decide) wf_Heliographs_Reader_63 (by first | exact True.intro | (show _ < _; decide)) ?_
      refine gv_1 (J := mX4_accept) (d1 := d - 1) dX4_read_73 wm_Heliographs_Reader_56 rfl jzX4_accept (Nat.le_of_ble_eq_true rfl) (Nat.le_of_ble_eq_true rfl) (by omega) ⟨Nat.le_refl _, Nat.le_refl _⟩ (zs_accept_f A0.1 (by decide) (by decide) (by omega)) ?_
      refine zz_if_eq (tgt := 86) dX4_read_76 rfl (by omega) (fun b76 => ?_) (fun b76 => ?_)
      rotate_left
      · exact absurd b76 (by omega)
      refine gz_aload_n dX4_read_86 rfl ?_
      refine gz_getf 3 dX4_read_87 rfl rfl wf_Heliographs_Reader_21 (by decide) rfl ?_
      refine gv_0 (J := mX6_kind) (d1 := d - 1) dX4_read_90 wm_Heliographs_Reader_41 rfl jzX6_kind (Nat.le_of_ble_eq_true rfl) (Nat.le_of_ble_eq_true rfl) (by omega) ⟨Nat.le_refl _, Nat.le_refl _⟩ (zs_kind A0.1) ?_
      refine gz_gets (v := .ref 9) dX4_read_93 (by decide) wf_Heliographs_Reader_69 (by first | exact True.intro | (show _ < _; decide)) ?_
      refine gz_acmp_ne (tgt := 106) dX4_read_96 rfl (by show (zb_s _).1 < 1000; decide) (by show (zb_s _).1 < 1000; decide) (by decide) (fun b96 => ?_) (fun b96 => ?_)
      · exact absurd b96 (by omega)
      refine gz_aload_n dX4_read_99 rfl ?_
      refine gq_0 (J := mX4_readCloud) (d1 := d - 1) dX4_read_100 wm_Heliographs_Reader_72 rfl jzX4_readCloud (Nat.le_of_ble_eq_true rfl) (Nat.le_of_ble_eq_true rfl) (by omega) (zs_readCloud (by decide) hy0.1 ex hy0.2.2.1 hy0.2.2.2.1 hy0.2.2.2.2.1 hy0.2.2.2.2.2 A0 (by omega)) (fun Z100 hZ100 => ?_)
      refine gz_goto (tgt := 147) dX4_read_103 rfl ?_
      refine gz_aload_n dX4_read_147 rfl ?_
      refine gz_gets (v := .ref 33) dX4_read_148 (by decide) wf_Heliographs_Reader_90 (by first | exact True.intro | (show _ < _; decide)) ?_
      refine gv_1 (J := mX4_expect) (d1 := d - 1) dX4_read_151 wm_Heliographs_Reader_93 rfl jzX4_expect (Nat.le_of_ble_eq_true rfl) (Nat.le_of_ble_eq_true rfl) (by omega) ⟨Nat.le_refl _, Nat.le_refl _⟩ (zs_expect (fin _ _ hZ100).1 (by omega)) ?_
      refine zz_iinc dX4_read_154 rfl rfl ?_
      refine gz_goto (tgt := 24) dX4_read_157 rfl ?_
      exact (fin _ _ hZ100).2
    )
theorem zs_ph_message {p np nw nc : Nat} {D : zV} {hs : zHs} (hp : p = 368 ∨ p = 400) (hd : 6 ≤ d) {Q : Option Value → zk_M → (Heap → Prop) → Prop} : ∀ (m k j i : Nat) (ts : List (Nat × Int)) (Z : zV), j + m < 400 → (∀ x, k ≤ x → x < k + m → x < 8 ∧ (1 ≤ D 7 x ∧ D 7 x ≤ 40) ∧ 0 ≤ D 8 x ∧ 0 ≤ D 9 x ∧ (D 8 x).toNat < np ∧ (D 9 x).toNat < np ∧ (D 9 x).toNat ≠ (D 8 x).toNat ∧ (0 ≤ D 10 x ∧ D 10 x ≤ 999)) → rdA Z p i (meT D k m ++ ts) D np nw nc k hs → (∀ (Z' : zV) (i' : Nat), rdA Z' p i' ts D np nw nc (k + m) hs → zk_Go l Γ mX4_read d 0 0 Q 24 [some (.ref 327), some (.ref p), some (.int (iZ (((j + m : Nat) : Int) : Int)))] [] (zb_M Z') F) → zk_Go l Γ mX4_read d 0 0 Q 24 [some (.ref 327), some (.ref p), some (.int (iZ ((j : Int) : Int)))] [] (zb_M Z) F := by
  intro m
  induction m with
  | zero =>
    intro k j i ts Z hj hy A0 hk
    exact hk Z i A0
  | succ m ih =>
    intro k j i ts Z hj hy A0 hk
    have hp2 := hp
    have hy0 := hy k (Nat.le_refl _) (by omega)
    have A1 := rdA_adv hp A0
    have ex : ((D 8 k).toNat : Int) = D 8 k := Int.toNat_of_nonneg hy0.2.2.1
    have ey : ((D 9 k).toNat : Int) = D 9 k := Int.toNat_of_nonneg hy0.2.2.2.1
    have fin : ∀ (Z2 : zV) (i2 : Nat), rdA Z2 p i2 ((33, 0) :: (meT D (k + 1) m ++ ts)) D np nw nc (k + 1) hs → rdS Z2 p i2 (hsLen hs) ((33, 0) :: (meT D (k + 1) m ++ ts)) ∧ zk_Go l Γ mX4_read d 0 0 Q 24 [some (.ref 327), some (.ref p), some (.int (iZ ((j : Int) + 1 : Int)))] [] (zb_M (zb_u Z2 323 4 ((i2 : Int) + 1))) F := fun Z2 i2 A => by
      refine ⟨A.1, ?_⟩
      rw [show ((j : Int) + 1) = ((j + 1 : Nat) : Int) from by omega]
      refine ih (k + 1) (j + 1) (i2 + 1) ts _ (by omega) (fun x h1 h2 => hy x (by omega) (by omega)) (rdA_adv hp A) (fun Z' i' A' => ?_)
      have q := hk Z' i' (by rw [show k + (m + 1) = k + 1 + m from by omega]; exact A')
      rw [show j + 1 + m = j + (m + 1) from by omega]
      exact q
    rcases hp with rfl | rfl <;> (
      refine gz_iload_n dX4_read_24 rfl ?_
      refine zz_sipush (x := 400) dX4_read_25 rfl ?_
      refine zz_icmp_ge (tgt := 160) dX4_read_28 rfl (by omega) (fun b28 => ?_) (fun b28 => ?_)
      · exact absurd b28 (by omega)
      refine gz_aload_n dX4_read_31 rfl ?_
      refine gz_getf 5 dX4_read_32 rfl rfl wf_Heliographs_Reader_34 (by decide) (zv_i A0.1.2.2.2.2.2.2.1) ?_
      refine zz_iconst dX4_read_35 ?_
      refine zz_icmp_eq (tgt := 160) dX4_read_36 rfl (by omega) (fun b36 => ?_) (fun b36 => ?_)
      · exact absurd b36 (by omega)
      refine gz_aload_n dX4_read_39 rfl ?_
      refine gz_getf 3 dX4_read_40 rfl rfl wf_Heliographs_Reader_21 (by decide) rfl ?_
      refine gv_0 (J := mX6_kind) (d1 := d - 1) dX4_read_43 wm_Heliographs_Reader_41 rfl jzX6_kind (Nat.le_of_ble_eq_true rfl) (Nat.le_of_ble_eq_true rfl) (by omega) ⟨Nat.le_refl _, Nat.le_refl _⟩ (zs_kind A0.1) ?_
      refine gz_gets (v := .ref 46) dX4_read_46 (by decide) wf_Heliographs_Reader_47 (by first | exact True.intro | (show _ < _; decide)) ?_
      refine gz_acmp_eq (tgt := 160) dX4_read_49 rfl (by show (zb_s _).1 < 1000; decide) (by show (zb_s _).1 < 1000; decide) (by decide) (fun b49 => ?_) (fun b49 => ?_)
      · exact absurd b49 (by omega)
      refine gz_aload_n dX4_read_52 rfl ?_
      refine gz_gets (v := .ref 0) dX4_read_53 (by decide) wf_Heliographs_Reader_53 (by first | exact True.intro | (show _ < _; decide)) ?_
      refine gv_1 (J := mX4_accept) (d1 := d - 1) dX4_read_56 wm_Heliographs_Reader_56 rfl jzX4_accept (Nat.le_of_ble_eq_true rfl) (Nat.le_of_ble_eq_true rfl) (by omega) ⟨Nat.le_refl _, Nat.le_refl _⟩ (zs_accept_f A0.1 (by decide) (by decide) (by omega)) ?_
      refine zz_if_eq (tgt := 69) dX4_read_59 rfl (by omega) (fun b59 => ?_) (fun b59 => ?_)
      rotate_left
      · exact absurd b59 (by omega)
      refine gz_aload_n dX4_read_69 rfl ?_
      refine gz_gets (v := .ref 5) dX4_read_70 (by decide) wf_Heliographs_Reader_63 (by first | exact True.intro | (show _ < _; decide)) ?_
      refine gv_1 (J := mX4_accept) (d1 := d - 1) dX4_read_73 wm_Heliographs_Reader_56 rfl jzX4_accept (Nat.le_of_ble_eq_true rfl) (Nat.le_of_ble_eq_true rfl) (by omega) ⟨Nat.le_refl _, Nat.le_refl _⟩ (zs_accept_f A0.1 (by decide) (by decide) (by omega)) ?_
      refine zz_if_eq (tgt := 86) dX4_read_76 rfl (by omega) (fun b76 => ?_) (fun b76 => ?_)
      rotate_left
      · exact absurd b76 (by omega)
      refine gz_aload_n dX4_read_86 rfl ?_
      refine gz_getf 3 dX4_read_87 rfl rfl wf_Heliographs_Reader_21 (by decide) rfl ?_
      refine gv_0 (J := mX6_kind) (d1 := d - 1) dX4_read_90 wm_Heliographs_Reader_41 rfl jzX6_kind (Nat.le_of_ble_eq_true rfl) (Nat.le_of_ble_eq_true rfl) (by omega) ⟨Nat.le_refl _, Nat.le_refl _⟩ (zs_kind A0.1) ?_
      refine gz_gets (v := .ref 9) dX4_read_93 (by decide) wf_Heliographs_Reader_69 (by first | exact True.intro | (show _ < _; decide)) ?_
      refine gz_acmp_ne (tgt := 106) dX4_read_96 rfl (by show (zb_s _).1 < 1000; decide) (by show (zb_s _).1 < 1000; decide) (by decide) (fun b96 => ?_) (fun b96 => ?_)
      rotate_left
      · exact absurd b96 (by omega)
      refine gz_aload_n dX4_read_106 rfl ?_
      refine gz_gets (v := .ref 13) dX4_read_107 (by decide) wf_Heliographs_Reader_75 (by first | exact True.intro | (show _ < _; decide)) ?_
      refine gv_1 (J := mX4_accept) (d1 := d - 1) dX4_read_110 wm_Heliographs_Reader_56 rfl jzX4_accept (Nat.le_of_ble_eq_true rfl) (Nat.le_of_ble_eq_true rfl) (by omega) ⟨Nat.le_refl _, Nat.le_refl _⟩ (zs_accept_t A0.1 (by omega)) ?_
      refine zz_if_eq (tgt := 123) dX4_read_113 rfl (by omega) (fun b113 => ?_) (fun b113 => ?_)
      · exact absurd b113 (by omega)
      refine gz_aload_n dX4_read_116 rfl ?_
      refine gq_0 (J := mX4_readMessage) (d1 := d - 1) dX4_read_117 wm_Heliographs_Reader_78 rfl jzX4_readMessage (Nat.le_of_ble_eq_true rfl) (Nat.le_of_ble_eq_true rfl) (by omega) (zs_readMessage (by decide) hy0.1 hy0.2.1 ex ey hy0.2.2.2.2.1 hy0.2.2.2.2.2.1 hy0.2.2.2.2.2.2.1 hy0.2.2.2.2.2.2.2 A1 (by omega)) (fun Z117 hZ117 => ?_)
      refine gz_goto (tgt := 147) dX4_read_120 rfl ?_
      refine gz_aload_n dX4_read_147 rfl ?_
      refine gz_gets (v := .ref 33) dX4_read_148 (by decide) wf_Heliographs_Reader_90 (by first | exact True.intro | (show _ < _; decide)) ?_
      refine gv_1 (J := mX4_expect) (d1 := d - 1) dX4_read_151 wm_Heliographs_Reader_93 rfl jzX4_expect (Nat.le_of_ble_eq_true rfl) (Nat.le_of_ble_eq_true rfl) (by omega) ⟨Nat.le_refl _, Nat.le_refl _⟩ (zs_expect (fin _ _ hZ117).1 (by omega)) ?_
      refine zz_iinc dX4_read_154 rfl rfl ?_
      refine gz_goto (tgt := 24) dX4_read_157 rfl ?_
      exact (fin _ _ hZ117).2
    )
theorem zs_ph_hold {p np nw nc nm : Nat} {D : zV} (hp : p = 368 ∨ p = 400) (hd : 6 ≤ d) {Q : Option Value → zk_M → (Heap → Prop) → Prop} : ∀ (m : Nat) (HS : zHT) (hs : zHs) (j i : Nat) (ts : List (Nat × Int)) (Z : zV), HS.length = m → j + m < 400 → hs.length + m ≤ 12 → hsLen hs + hsLen (hoH HS) < 400 → (∀ x, x ∈ HS → x.1 < nm ∧ zRd l Γ F p np nw nm (d - 1 - 1) mX4_readTest 0 [7, 26, 35, 36, 37, 38] x.2.1 x.2.2) → rdA Z p i (hoT HS ++ ts) D np nw nc nm hs → (∀ (Z' : zV) (i' : Nat), rdA Z' p i' ts D np nw nc nm (hs ++ hoH HS) → zk_Go l Γ mX4_read d 0 0 Q 24 [some (.ref 327), some (.ref p), some (.int (iZ (((j + m : Nat) : Int) : Int)))] [] (zb_M Z') F) → zk_Go l Γ mX4_read d 0 0 Q 24 [some (.ref 327), some (.ref p), some (.int (iZ ((j : Int) : Int)))] [] (zb_M Z) F := by
  intro m
  induction m with
  | zero =>
    intro HS hs j i ts Z hm hj hl hn hy A0 hk
    cases HS with
    | cons x HS => exact absurd hm (by show ¬ HS.length + 1 = 0; omega)
    | nil => exact hk Z i (by rw [show hs ++ hoH [] = hs from List.append_nil _]; exact A0)
  | succ m ih =>
    intro HS hs j i ts Z hm hj hl hn hy A0 hk
    cases HS with
    | nil => exact absurd hm (by show ¬ 0 = m + 1; omega)
    | cons x HS =>
    have hp2 := hp
    have hm2 : HS.length = m := by have : (x :: HS).length = HS.length + 1 := rfl; omega
    have hy0 := hy x List.mem_cons_self
    have hn2 : hsLen hs + (x.2.2.length + hsLen (hoH HS)) < 400 := hn
    have B0 : rdA Z p i ((17, 0) :: (44, 508 + (x.1 : Int)) :: (18, 0) :: (x.2.1 ++ (33, 0) :: (hoT HS ++ ts))) D np nw nc nm hs := by
      have e : hoT (x :: HS) ++ ts = (17, 0) :: (44, 508 + (x.1 : Int)) :: (18, 0) :: (x.2.1 ++ (33, 0) :: (hoT HS ++ ts)) := by
        show ((17, 0) :: (44, 508 + (x.1 : Int)) :: (18, 0) :: (x.2.1 ++ (33, 0) :: hoT HS)) ++ ts = _
        simp
      rw [← e]; exact A0
    have fin : ∀ (Z2 : zV) (i2 : Nat), rdA Z2 p i2 ((33, 0) :: (hoT HS ++ ts)) D np nw nc nm (hs ++ [(x.1, x.2.2)]) → rdS Z2 p i2 (hsLen (hs ++ [(x.1, x.2.2)])) ((33, 0) :: (hoT HS ++ ts)) ∧ zk_Go l Γ mX4_read d 0 0 Q 24 [some (.ref 327), some (.ref p), some (.int (iZ ((j : Int) + 1 : Int)))] [] (zb_M (zb_u Z2 323 4 ((i2 : Int) + 1))) F := fun Z2 i2 A => by
      refine ⟨A.1, ?_⟩
      rw [show ((j : Int) + 1) = ((j + 1 : Nat) : Int) from by omega]
      refine ih HS (hs ++ [(x.1, x.2.2)]) (j + 1) (i2 + 1) ts _ hm2 (by omega) (by rw [List.length_append]; show hs.length + 1 + m ≤ 12; omega) (by rw [hsLen_app]; show hsLen hs + (x.2.2.length + 0) + _ < 400; omega) (fun y h1 => hy y (List.mem_cons_of_mem _ h1)) (rdA_adv hp A) (fun Z' i' A' => ?_)
      have q := hk Z' i' (by rw [show hs ++ hoH (x :: HS) = (hs ++ [(x.1, x.2.2)]) ++ hoH HS from by rw [List.append_assoc]; rfl]; exact A')
      rw [show j + 1 + m = j + (m + 1) from by omega]
      exact q
    rcases hp with rfl | rfl <;> (
      refine gz_iload_n dX4_read_24 rfl ?_
      refine zz_sipush (x := 400) dX4_read_25 rfl ?_
      refine zz_icmp_ge (tgt := 160) dX4_read_28 rfl (by omega) (fun b28 => ?_) (fun b28 => ?_)
      · exact absurd b28 (by omega)
      refine gz_aload_n dX4_read_31 rfl ?_
      refine gz_getf 5 dX4_read_32 rfl rfl wf_Heliographs_Reader_34 (by decide) (zv_i B0.1.2.2.2.2.2.2.1) ?_
      refine zz_iconst dX4_read_35 ?_
      refine zz_icmp_eq (tgt := 160) dX4_read_36 rfl (by omega) (fun b36 => ?_) (fun b36 => ?_)
      · exact absurd b36 (by omega)
      refine gz_aload_n dX4_read_39 rfl ?_
      refine gz_getf 3 dX4_read_40 rfl rfl wf_Heliographs_Reader_21 (by decide) rfl ?_
      refine gv_0 (J := mX6_kind) (d1 := d - 1) dX4_read_43 wm_Heliographs_Reader_41 rfl jzX6_kind (Nat.le_of_ble_eq_true rfl) (Nat.le_of_ble_eq_true rfl) (by omega) ⟨Nat.le_refl _, Nat.le_refl _⟩ (zs_kind B0.1) ?_
      refine gz_gets (v := .ref 46) dX4_read_46 (by decide) wf_Heliographs_Reader_47 (by first | exact True.intro | (show _ < _; decide)) ?_
      refine gz_acmp_eq (tgt := 160) dX4_read_49 rfl (by show (zb_s _).1 < 1000; decide) (by show (zb_s _).1 < 1000; decide) (by decide) (fun b49 => ?_) (fun b49 => ?_)
      · exact absurd b49 (by omega)
      refine gz_aload_n dX4_read_52 rfl ?_
      refine gz_gets (v := .ref 0) dX4_read_53 (by decide) wf_Heliographs_Reader_53 (by first | exact True.intro | (show _ < _; decide)) ?_
      refine gv_1 (J := mX4_accept) (d1 := d - 1) dX4_read_56 wm_Heliographs_Reader_56 rfl jzX4_accept (Nat.le_of_ble_eq_true rfl) (Nat.le_of_ble_eq_true rfl) (by omega) ⟨Nat.le_refl _, Nat.le_refl _⟩ (zs_accept_f B0.1 (by decide) (by decide) (by omega)) ?_
      refine zz_if_eq (tgt := 69) dX4_read_59 rfl (by omega) (fun b59 => ?_) (fun b59 => ?_)
      rotate_left
      · exact absurd b59 (by omega)
      refine gz_aload_n dX4_read_69 rfl ?_
      refine gz_gets (v := .ref 5) dX4_read_70 (by decide) wf_Heliographs_Reader_63 (by first | exact True.intro | (show _ < _; decide)) ?_
      refine gv_1 (J := mX4_accept) (d1 := d - 1) dX4_read_73 wm_Heliographs_Reader_56 rfl jzX4_accept (Nat.le_of_ble_eq_true rfl) (Nat.le_of_ble_eq_true rfl) (by omega) ⟨Nat.le_refl _, Nat.le_refl _⟩ (zs_accept_f B0.1 (by decide) (by decide) (by omega)) ?_
      refine zz_if_eq (tgt := 86) dX4_read_76 rfl (by omega) (fun b76 => ?_) (fun b76 => ?_)
      rotate_left
      · exact absurd b76 (by omega)
      refine gz_aload_n dX4_read_86 rfl ?_
      refine gz_getf 3 dX4_read_87 rfl rfl wf_Heliographs_Reader_21 (by decide) rfl ?_
      refine gv_0 (J := mX6_kind) (d1 := d - 1) dX4_read_90 wm_Heliographs_Reader_41 rfl jzX6_kind (Nat.le_of_ble_eq_true rfl) (Nat.le_of_ble_eq_true rfl) (by omega) ⟨Nat.le_refl _, Nat.le_refl _⟩ (zs_kind B0.1) ?_
      refine gz_gets (v := .ref 9) dX4_read_93 (by decide) wf_Heliographs_Reader_69 (by first | exact True.intro | (show _ < _; decide)) ?_
      refine gz_acmp_ne (tgt := 106) dX4_read_96 rfl (by show (zb_s _).1 < 1000; decide) (by show (zb_s _).1 < 1000; decide) (by decide) (fun b96 => ?_) (fun b96 => ?_)
      rotate_left
      · exact absurd b96 (by omega)
      refine gz_aload_n dX4_read_106 rfl ?_
      refine gz_gets (v := .ref 13) dX4_read_107 (by decide) wf_Heliographs_Reader_75 (by first | exact True.intro | (show _ < _; decide)) ?_
      refine gv_1 (J := mX4_accept) (d1 := d - 1) dX4_read_110 wm_Heliographs_Reader_56 rfl jzX4_accept (Nat.le_of_ble_eq_true rfl) (Nat.le_of_ble_eq_true rfl) (by omega) ⟨Nat.le_refl _, Nat.le_refl _⟩ (zs_accept_f B0.1 (by decide) (by decide) (by omega)) ?_
      refine zz_if_eq (tgt := 123) dX4_read_113 rfl (by omega) (fun b113 => ?_) (fun b113 => ?_)
      rotate_left
      · exact absurd b113 (by omega)
      refine gz_aload_n dX4_read_123 rfl ?_
      refine gz_getf 3 dX4_read_124 rfl rfl wf_Heliographs_Reader_21 (by decide) rfl ?_
      refine gv_0 (J := mX6_kind) (d1 := d - 1) dX4_read_127 wm_Heliographs_Reader_41 rfl jzX6_kind (Nat.le_of_ble_eq_true rfl) (Nat.le_of_ble_eq_true rfl) (by omega) ⟨Nat.le_refl _, Nat.le_refl _⟩ (zs_kind B0.1) ?_
      refine gz_gets (v := .ref 17) dX4_read_130 (by decide) wf_Heliographs_Reader_81 (by first | exact True.intro | (show _ < _; decide)) ?_
      refine gz_acmp_ne (tgt := 143) dX4_read_133 rfl (by show (zb_s _).1 < 1000; decide) (by show (zb_s _).1 < 1000; decide) (by decide) (fun b133 => ?_) (fun b133 => ?_)
      · exact absurd b133 (by omega)
      refine gz_aload_n dX4_read_136 rfl ?_
      refine gq_0 (J := mX4_readHold) (d1 := d - 1) dX4_read_137 wm_Heliographs_Reader_84 rfl jzX4_readHold (Nat.le_of_ble_eq_true rfl) (Nat.le_of_ble_eq_true rfl) (by omega) (zs_readHold (by decide) (by omega) hy0.1 (by omega) (by decide) hy0.2 B0 (by omega)) (fun Z137 hZ137 => ?_)
      refine gz_goto (tgt := 147) dX4_read_140 rfl ?_
      refine gz_aload_n dX4_read_147 rfl ?_
      refine gz_gets (v := .ref 33) dX4_read_148 (by decide) wf_Heliographs_Reader_90 (by first | exact True.intro | (show _ < _; decide)) ?_
      refine gv_1 (J := mX4_expect) (d1 := d - 1) dX4_read_151 wm_Heliographs_Reader_93 rfl jzX4_expect (Nat.le_of_ble_eq_true rfl) (Nat.le_of_ble_eq_true rfl) (by omega) ⟨Nat.le_refl _, Nat.le_refl _⟩ (zs_expect (fin _ _ hZ137).1 (by omega)) ?_
      refine zz_iinc dX4_read_154 rfl rfl ?_
      refine gz_goto (tgt := 24) dX4_read_157 rfl ?_
      exact (fin _ _ hZ137).2
    )
theorem zs_clearO {p : Nat} (hp : p = 368 ∨ p = 400) : zk_Does l Γ mX2_clear d 0 0 [.ref (p + 15)] (zb_M Z) F none (zb_M (zb_u (zb_u Z (p + 15) 0 0) (p + 15) 5 0)) F := by
  intro Q hq
  rcases hp with rfl | rfl <;> (
    refine gz_aload_n dX2_clear_0 rfl ?_
    refine zz_iconst dX2_clear_1 ?_
    refine zc_putf 0 dX2_clear_2 rfl rfl wf_Heliographs_Orders_27 (by decide) (by decide) jo_Heliographs_Orders ju_Heliographs_Orders rfl tyX2 tyX2_ok nmX2 rfl (fun _ => ⟨rfl, rfl⟩) rfl ?_
    refine gz_aload_n dX2_clear_5 rfl ?_
    refine zz_iconst dX2_clear_6 ?_
    refine zc_putf 5 dX2_clear_7 rfl rfl wf_Heliographs_Orders_31 (by decide) (by decide) jo_Heliographs_Orders ju_Heliographs_Orders rfl tyX2 tyX2_ok nmX2 rfl (fun _ => ⟨rfl, rfl⟩) rfl ?_
    refine gz_return_ dX2_clear_10 rfl ?_
    exact hq
  )
theorem zs_clearP {p : Nat} (hp : p = 368 ∨ p = 400) (hd : 1 ≤ d) : zk_Does l Γ mX3_clear d 0 0 [.ref p] (zb_M Z) F none (zb_M (zb_u (zb_u (zb_u (zb_u (zb_u (zb_u Z p 0 0) p 1 0) p 2 0) p 3 0) (p + 15) 0 0) (p + 15) 5 0)) F := by
  intro Q hq
  have hp2 := hp
  rcases hp with rfl | rfl <;> (
    refine gz_aload_n dX3_clear_0 rfl ?_
    refine zz_iconst dX3_clear_1 ?_
    refine zc_putf 0 dX3_clear_2 rfl rfl wf_Heliographs_Plan_61 (by decide) (by decide) jo_Heliographs_Plan ju_Heliographs_Plan rfl tyX3 tyX3_ok nmX3 rfl (fun _ => ⟨rfl, rfl⟩) rfl ?_
    refine gz_aload_n dX3_clear_5 rfl ?_
    refine zz_iconst dX3_clear_6 ?_
    refine zc_putf 1 dX3_clear_7 rfl rfl wf_Heliographs_Plan_65 (by decide) (by decide) jo_Heliographs_Plan ju_Heliographs_Plan rfl tyX3 tyX3_ok nmX3 rfl (fun _ => ⟨rfl, rfl⟩) rfl ?_
    refine gz_aload_n dX3_clear_10 rfl ?_
    refine zz_iconst dX3_clear_11 ?_
    refine zc_putf 2 dX3_clear_12 rfl rfl wf_Heliographs_Plan_68 (by decide) (by decide) jo_Heliographs_Plan ju_Heliographs_Plan rfl tyX3 tyX3_ok nmX3 rfl (fun _ => ⟨rfl, rfl⟩) rfl ?_
    refine gz_aload_n dX3_clear_15 rfl ?_
    refine zz_iconst dX3_clear_16 ?_
    refine zc_putf 3 dX3_clear_17 rfl rfl wf_Heliographs_Plan_71 (by decide) (by decide) jo_Heliographs_Plan ju_Heliographs_Plan rfl tyX3 tyX3_ok nmX3 rfl (fun _ => ⟨rfl, rfl⟩) rfl ?_
    refine gz_aload_n dX3_clear_20 rfl ?_
    refine gz_getf 14 dX3_clear_21 rfl rfl wf_Heliographs_Plan_45 (by decide) rfl ?_
    refine gv_0 (J := mX2_clear) (d1 := d - 1) dX3_clear_24 wm_Heliographs_Plan_74 rfl jzX2_clear (Nat.le_of_ble_eq_true rfl) (Nat.le_of_ble_eq_true rfl) (by omega) ⟨Nat.le_refl _, Nat.le_refl _⟩ (zs_clearO hp2) ?_
    refine gz_return_ dX3_clear_27 rfl ?_
    exact hq
  )
/-- a plan that a list can tell -/
def wD (D : zV) (np nw nc nm : Nat) : Prop := (np ≤ 8 ∧ nw ≤ 12 ∧ nc ≤ 8 ∧ nm ≤ 8) ∧ (∀ x, 0 ≤ x → x < 0 + np → x < 8 ∧ (0 ≤ D 1 x ∧ D 1 x ≤ 120) ∧ (0 ≤ D 2 x ∧ D 2 x ≤ 120) ∧ (0 ≤ D 3 x ∧ D 3 x ≤ 4)) ∧ (∀ x, 0 ≤ x → x < 0 + nw → x < 12 ∧ 0 ≤ D 4 x ∧ 0 ≤ D 5 x ∧ (D 4 x).toNat < np ∧ (D 5 x).toNat < np ∧ (D 5 x).toNat ≠ (D 4 x).toNat ∧ (1 ≤ D 6 x ∧ D 6 x ≤ 20)) ∧
  (∀ x, 0 ≤ x → x < 0 + nc → x < 8 ∧ 0 ≤ D 11 x ∧ (D 11 x).toNat < nw ∧ (2 ≤ D 12 x ∧ D 12 x ≤ 60) ∧ (1 ≤ D 13 x ∧ D 13 x ≤ D 12 x - 1) ∧ (0 ≤ D 14 x ∧ D 14 x ≤ 59)) ∧ (∀ x, 0 ≤ x → x < 0 + nm → x < 8 ∧ (1 ≤ D 7 x ∧ D 7 x ≤ 40) ∧ 0 ≤ D 8 x ∧ 0 ≤ D 9 x ∧ (D 8 x).toNat < np ∧ (D 9 x).toNat < np ∧ (D 9 x).toNat ≠ (D 8 x).toNat ∧ (0 ≤ D 10 x ∧ D 10 x ≤ 999))
def alT (D : zV) (np nw nc nm : Nat) (HS : zHT) : List (Nat × Int) := pkT D 0 np ++ (paT D 0 nw ++ (clT D 0 nc ++ (meT D 0 nm ++ (hoT HS ++ [(46, 0)]))))
theorem zs_read {p np nw nc nm : Nat} {D : zV} {HS : zHT} (hp : p = 368 ∨ p = 400) (hw : wD D np nw nc nm) (hm : HS.length ≤ 12) (hl : hsLen (hoH HS) < 400) (hy : ∀ x, x ∈ HS → x.1 < nm ∧ zRd l Γ F p np nw nm (d - 1 - 1) mX4_readTest 0 [7, 26, 35, 36, 37, 38] x.2.1 x.2.2)
    (h4 : Z 323 4 = 0) (h3 : Z 323 3 = ((alT D np nw nc nm HS).length : Int)) (h401 : (alT D np nw nc nm HS).length ≤ 401) (hk : hTk Z 0 (alT D np nw nc nm HS)) (hk48 : ∀ x, x ∈ alT D np nw nc nm HS → x.1 < 48) (hfr : ∀ a j, (a < 323 ∨ (331 ≤ a ∧ a < 368)) → Z a j = D (a + 1000) j) (hd : 6 ≤ d) : zk_DoesR l Γ mX4_read d [.ref 327, .ref p] Z F (some (.int (iZ 0))) (fun Z' => ∃ i, rdA Z' p i [(46, 0)] D np nw nc nm (hoH HS)) := by
  intro Q hq
  have hp2 := hp
  have hz : ∀ Z1 : zV, Z1 = zb_u (zb_u (zb_u (zb_u (zb_u (zb_u (zb_u (zb_u (zb_u Z 327 4 (p : Int)) p 0 0) p 1 0) p 2 0) p 3 0) (p + 15) 0 0) (p + 15) 5 0) 327 5 0) 327 6 (-1) → zk_Go l Γ mX4_read d 0 0 Q 24 [some (.ref 327), some (.ref p), some (.int (iZ (0 : Int)))] [] (zb_M Z1) F := by
    intro Z1 e1
    have o : ∀ a j, a ≠ 327 → a ≠ p → a ≠ p + 15 → Z1 a j = Z a j := fun a j q1 q2 q3 => by rw [e1, zb_u_no _ _ (by omega), zb_u_no _ _ (by omega), zb_u_no _ _ (by omega), zb_u_no _ _ (by omega), zb_u_no _ _ (by omega), zb_u_no _ _ (by omega), zb_u_no _ _ (by omega), zb_u_no _ _ (by omega), zb_u_no _ _ (by omega)]
    have z74 : Z1 327 4 = (p : Int) := by rw [e1, zb_u_no _ _ (by omega), zb_u_no _ _ (by omega), zb_u_no _ _ (by omega), zb_u_no _ _ (by omega), zb_u_no _ _ (by omega), zb_u_no _ _ (by omega), zb_u_no _ _ (by omega), zb_u_no _ _ (by omega), zb_u_at]
    have z75 : Z1 327 5 = 0 := by rw [e1, zb_u_no _ _ (by omega), zb_u_at]
    have zo5 : Z1 (p + 15) 5 = 0 := by rw [e1, zb_u_no _ _ (by omega), zb_u_no _ _ (by omega), zb_u_at]
    have zo0 : Z1 (p + 15) 0 = 0 := by rw [e1, zb_u_no _ _ (by omega), zb_u_no _ _ (by omega), zb_u_no _ _ (by omega), zb_u_at]
    have z3 : Z1 p 3 = 0 := by rw [e1, zb_u_no _ _ (by omega), zb_u_no _ _ (by omega), zb_u_no _ _ (by omega), zb_u_no _ _ (by omega), zb_u_at]
    have z2 : Z1 p 2 = 0 := by rw [e1, zb_u_no _ _ (by omega), zb_u_no _ _ (by omega), zb_u_no _ _ (by omega), zb_u_no _ _ (by omega), zb_u_no _ _ (by omega), zb_u_at]
    have z1 : Z1 p 1 = 0 := by rw [e1, zb_u_no _ _ (by omega), zb_u_no _ _ (by omega), zb_u_no _ _ (by omega), zb_u_no _ _ (by omega), zb_u_no _ _ (by omega), zb_u_no _ _ (by omega), zb_u_at]
    have z0 : Z1 p 0 = 0 := by rw [e1, zb_u_no _ _ (by omega), zb_u_no _ _ (by omega), zb_u_no _ _ (by omega), zb_u_no _ _ (by omega), zb_u_no _ _ (by omega), zb_u_no _ _ (by omega), zb_u_no _ _ (by omega), zb_u_at]
    have n0 : ∀ {r : Nat}, dR Z1 p r D 0 := fun k hk => absurd hk (Nat.not_lt_zero _)
    have A0 : rdA Z1 p 0 (alT D np nw nc nm HS) D 0 0 0 0 [] := by
      refine ⟨⟨(o _ _ (by omega) (by omega) (by omega)).trans h4, (o _ _ (by omega) (by omega) (by omega)).trans (by rw [h3, Nat.zero_add]), by omega, hTk_to (fun a j q1 q2 => o a j (by omega) (by omega) (by omega)) hk, hk48, z74, z75, zo5, by decide⟩, ⟨⟨z0, z1, z3⟩, ⟨by decide, by decide, by decide⟩, fun j hj => absurd hj (Nat.not_lt_zero _), fun j hj => absurd hj (Nat.not_lt_zero _), fun j hj => absurd hj (Nat.not_lt_zero _)⟩, ⟨z2, by decide, fun a j q => (o a j (by omega) (by omega) (by omega)).trans (hfr a j q)⟩, ⟨zo0, by decide⟩, trivial, ⟨n0, n0, n0⟩, ⟨n0, n0, n0⟩, ⟨n0, n0, n0, n0⟩, ⟨n0, n0, n0, n0⟩⟩
    obtain ⟨⟨w1, w2, w3, w4⟩, w5, w6, w7, w8⟩ := hw
    refine zs_ph_peak hp hd np 0 0 0 _ Z1 (by omega) w5 A0 (fun Za ia Aa => ?_)
    rw [Nat.zero_add] at Aa
    refine zs_ph_pass hp hd nw 0 (0 + np) ia _ Za (by omega) w6 Aa (fun Zb ib Ab => ?_)
    rw [Nat.zero_add] at Ab
    refine zs_ph_cloud hp hd nc 0 (0 + np + nw) ib _ Zb (by omega) w7 Ab (fun Zc ic Ac => ?_)
    rw [Nat.zero_add] at Ac
    refine zs_ph_message hp hd nm 0 (0 + np + nw + nc) ic _ Zc (by omega) w8 Ac (fun Zd id Ad => ?_)
    rw [Nat.zero_add] at Ad
    refine zs_ph_hold hp hd HS.length HS [] (0 + np + nw + nc + nm) id _ Zd rfl (by omega) (by show 0 + HS.length ≤ 12; omega) (by show 0 + hsLen (hoH HS) < 400; omega) hy Ad (fun Ze ie Ae => ?_)
    have hgo := hq Ze ⟨ie, Ae⟩
    rcases hp with rfl | rfl <;> (
      refine gz_iload_n dX4_read_24 rfl ?_
      refine zz_sipush (x := 400) dX4_read_25 rfl ?_
      refine zz_icmp_ge (tgt := 160) dX4_read_28 rfl (by omega) (fun b28 => ?_) (fun b28 => ?_)
      · exact absurd b28 (by omega)
      refine gz_aload_n dX4_read_31 rfl ?_
      refine gz_getf 5 dX4_read_32 rfl rfl wf_Heliographs_Reader_34 (by decide) (zv_i Ae.1.2.2.2.2.2.2.1) ?_
      refine zz_iconst dX4_read_35 ?_
      refine zz_icmp_eq (tgt := 160) dX4_read_36 rfl (by omega) (fun b36 => ?_) (fun b36 => ?_)
      · exact absurd b36 (by omega)
      refine gz_aload_n dX4_read_39 rfl ?_
      refine gz_getf 3 dX4_read_40 rfl rfl wf_Heliographs_Reader_21 (by decide) rfl ?_
      refine gv_0 (J := mX6_kind) (d1 := d - 1) dX4_read_43 wm_Heliographs_Reader_41 rfl jzX6_kind (Nat.le_of_ble_eq_true rfl) (Nat.le_of_ble_eq_true rfl) (by omega) ⟨Nat.le_refl _, Nat.le_refl _⟩ (zs_kind Ae.1) ?_
      refine gz_gets (v := .ref 46) dX4_read_46 (by decide) wf_Heliographs_Reader_47 (by first | exact True.intro | (show _ < _; decide)) ?_
      refine gz_acmp_eq (tgt := 160) dX4_read_49 rfl (by show (zb_s _).1 < 1000; decide) (by show (zb_s _).1 < 1000; decide) (by decide) (fun b49 => ?_) (fun b49 => ?_)
      rotate_left
      · exact absurd rfl b49
      refine gz_aload_n dX4_read_160 rfl ?_
      refine gz_getf 5 dX4_read_161 rfl rfl wf_Heliographs_Reader_34 (by decide) (zv_i Ae.1.2.2.2.2.2.2.1) ?_
      refine gz_ireturn dX4_read_164 rfl rfl ?_
      exact hgo
    )
  obtain ⟨zp, hzp⟩ : ∃ z : Int, z = (p : Int) := ⟨_, rfl⟩
  have hzg : Value.ref p = zb_g 327 4 zp := by
    subst hzp
    show Value.ref p = .ref ((p : Int)).toNat
    rw [Int.toNat_natCast]
  rcases hp with rfl | rfl <;> (
    refine gz_aload_n dX4_read_0 rfl ?_
    refine gz_aload_n dX4_read_1 rfl ?_
    refine zc_putf (z := zp) 4 dX4_read_2 rfl rfl wf_Heliographs_Reader_25 (by decide) (by decide) jo_Heliographs_Reader ju_Heliographs_Reader rfl tyX4 tyX4_ok nmX4 rfl (fun _ => ⟨rfl, rfl⟩) hzg ?_
    refine gz_aload_n dX4_read_5 rfl ?_
    refine gz_getf 4 dX4_read_6 rfl rfl wf_Heliographs_Reader_25 (by decide) hzg.symm ?_
    refine gv_0 (J := mX3_clear) (d1 := d - 1) dX4_read_9 wm_Heliographs_Reader_29 rfl jzX3_clear (Nat.le_of_ble_eq_true rfl) (Nat.le_of_ble_eq_true rfl) (by omega) ⟨Nat.le_refl _, Nat.le_refl _⟩ (zs_clearP hp2 (by omega)) ?_
    refine gz_aload_n dX4_read_12 rfl ?_
    refine zz_iconst dX4_read_13 ?_
    refine zc_putf 5 dX4_read_14 rfl rfl wf_Heliographs_Reader_34 (by decide) (by decide) jo_Heliographs_Reader ju_Heliographs_Reader rfl tyX4 tyX4_ok nmX4 rfl (fun _ => ⟨rfl, rfl⟩) rfl ?_
    refine gz_aload_n dX4_read_17 rfl ?_
    refine zz_iconst dX4_read_18 ?_
    refine zc_putf 6 dX4_read_19 rfl rfl wf_Heliographs_Reader_38 (by decide) (by decide) jo_Heliographs_Reader ju_Heliographs_Reader rfl tyX4 tyX4_ok nmX4 rfl (fun _ => ⟨rfl, rfl⟩) rfl ?_
    refine zz_iconst dX4_read_22 ?_
    refine gz_istore_n dX4_read_23 (Nat.le_of_ble_eq_true rfl) rfl ?_
    subst hzp
    exact hz _ rfl
  )
end
