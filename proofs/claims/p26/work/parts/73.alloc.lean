/-! NEW CELLS -/
section
variable {l : Launch} {Γ : zk_G} {d : Nat} {Z : Nat → Nat → Int} {F : Heap → Prop}
/-- a memory with a cell more -/
def zk_add (M : zk_M) (kl : Nat × Nat) (f : Nat → Value) : zk_M := (fun a => if a = M.2.1 then kl else M.1 a, M.2.1 + 1, fun a => if a = M.2.1 then f else M.2.2 a)
theorem zk_v_re {n : Nat} {ρ ρ' : Nat → Nat} (h : ∀ a, a < n → ρ' a = ρ a) {v : Value} (hv : zk_in_n n v) : zk_v ρ' v = zk_v ρ v := by
  cases v with
  | ref x => exact congrArg Value.ref (h x hv)
  | _ => rfl
theorem zk_ok.re {Γ : zk_G} {ρ ρ' : Nat → Nat} {H : Heap} {a : Nat} {kl : Nat × Nat} {f : Nat → Value} (hv : ∀ j, j < kl.2 → zk_v ρ' (f j) = zk_v ρ (f j)) (ha : ρ' a = ρ a) (h : zk_ok Γ ρ H a kl f) : zk_ok Γ ρ' H a kl f := by
  refine ⟨fun h1 => ⟨(h.1 h1).1, ?_⟩, fun h1 h2 => ⟨(h.2 h1 h2).1, (h.2 h1 h2).2.1, (h.2 h1 h2).2.2.1, ?_⟩⟩
  · obtain ⟨cell, c1, c2, c3, c4, c5, c6⟩ := (h.1 h1).2
    exact ⟨cell, by rw [ha]; exact c1, c2, c3, c4, c5, fun j hj => by rw [hv j hj]; exact c6 j hj⟩
  · obtain ⟨cell, c1, c2, c3, c4, c5, c6, c7⟩ := (h.2 h1 h2).2.2.2
    exact ⟨cell, by rw [ha]; exact c1, c2, c3, c4, c5, c6, fun j hj => by rw [hv j hj]; exact c7 j hj⟩
theorem zk_inM {Γ : zk_G} {ρ : Nat → Nat} {M : zk_M} {H : Heap} (h : zk_base Γ ρ M H) {a j : Nat} (ha : a < M.2.1) (hj : j < (M.1 a).2) : zk_in_n M.2.1 (M.2.2 a j) := by
  unfold zk_in_n
  split
  · rename_i x hx
    exact h.2.2.2.2.2.1 a j x ha hj hx
  · trivial
theorem zk_Rl.push {Γ : zk_G} {ρ : Nat → Nat} {M : zk_M} {F : Heap → Prop} {H H1 : Heap} {kl : Nat × Nat} {f : Nat → Value} (h : zk_Rl Γ ρ M F H) (z1 : H1.size = H.size + 1) (o1 : ∀ q : Nat, q < H.size → H1[q]? = H[q]?) (hfr : ∀ j x, f j ≠ .ref x) (hok : ∀ ρ' : Nat → Nat, ρ' M.2.1 = H.size → zk_ok Γ ρ' H1 M.2.1 kl f) :
    ∃ ρ' : Nat → Nat, (∀ a, a < M.2.1 → ρ' a = ρ a) ∧ ρ' M.2.1 = H.size ∧ zk_Rl Γ ρ' (zk_add M kl f) F H1 ∧ zk_ext ρ M H ρ' (zk_add M kl f) H1 := by
  have hg := h.grow (by omega) o1
  obtain ⟨⟨b1, b2, b3, b4, b5, b6, b7⟩, f1, f2, f3, f4⟩ := hg
  have hlt : ∀ a, a < M.2.1 → (M.1 a).1 < 1000 → ρ a < H.size := fun a ha hk => (h.1.1 a ha).lt hk
  obtain ⟨ρ', hρ⟩ : ∃ r : Nat → Nat, r = fun a => if a = M.2.1 then H.size else ρ a := ⟨_, rfl⟩
  have ho : ∀ a, a < M.2.1 → ρ' a = ρ a := fun a ha => by rw [hρ]; exact if_neg (by omega)
  have hn : ρ' M.2.1 = H.size := by rw [hρ]; exact if_pos rfl
  have e1 : ∀ a, a < M.2.1 → (zk_add M kl f).1 a = M.1 a := fun a ha => if_neg (by omega)
  have e2 : ∀ a, a < M.2.1 → (zk_add M kl f).2.2 a = M.2.2 a := fun a ha => if_neg (by omega)
  have e3 : (zk_add M kl f).1 M.2.1 = kl := if_pos rfl
  have e4 : (zk_add M kl f).2.2 M.2.1 = f := if_pos rfl
  have en : (zk_add M kl f).2.1 = M.2.1 + 1 := rfl
  refine ⟨ρ', ho, hn, ⟨⟨fun a ha => ?_, fun a b ha hb ka kb hab e => ?_, b3, fun a h1 h2 h3 => ?_, fun a ha => (ho a (by omega)).trans (b5 a ha), fun a j x ha hj hx => ?_, by rw [en]; omega⟩, f1, f2, f3, fun a h1 h2 h3 => ?_⟩, ⟨fun a ha => ⟨ho a ha, Or.inl (e1 a ha)⟩, by rw [en]; omega, by omega, fun a h1 h2 h3 => ?_⟩⟩
  · by_cases q : a = M.2.1
    · rw [q, e3, e4]; exact hok ρ' hn
    · have ha2 : a < M.2.1 := by rw [en] at ha; omega
      rw [e1 a ha2, e2 a ha2]
      exact (b1 a ha2).re (fun j hj => zk_v_re ho (zk_inM ⟨b1, b2, b3, b4, b5, b6, b7⟩ ha2 hj)) (ho a ha2)
  · rw [en] at ha hb
    by_cases qa : a = M.2.1
    · by_cases qb : b = M.2.1
      · rw [qa, qb]
      · have hb2 : b < M.2.1 := by omega
        rw [e1 b hb2] at kb
        rw [qa, hn, ho b hb2] at e
        have := hlt b hb2 kb
        omega
    · have ha2 : a < M.2.1 := by omega
      rw [e1 a ha2] at ka
      by_cases qb : b = M.2.1
      · rw [qb, hn, ho a ha2] at e
        have := hlt a ha2 ka
        omega
      · have hb2 : b < M.2.1 := by omega
        rw [e1 b hb2] at kb
        rw [ho a ha2, ho b hb2] at e
        exact b2 a b ha2 hb2 ka kb hab e
  · by_cases q : a = M.2.1
    · rw [q, hn]; have := h.1.2.2.1.2; omega
    · have ha2 : a < M.2.1 := by rw [en] at h2; omega
      rw [e1 a ha2] at h3
      rw [ho a ha2]
      exact b4 a h1 ha2 h3
  · by_cases q : a = M.2.1
    · rw [q, e4] at hx
      exact absurd hx (hfr j x)
    · have ha2 : a < M.2.1 := by rw [en] at ha; omega
      rw [e1 a ha2] at hj
      rw [e2 a ha2] at hx
      exact Nat.lt_succ_of_lt (b6 a j x ha2 hj hx)
  · by_cases q : a = M.2.1
    · rw [q, hn]
      intro hf
      have := (h.2.2.2.1 _ hf).1
      omega
    · have ha2 : a < M.2.1 := by rw [en] at h2; omega
      rw [e1 a ha2] at h3
      rw [ho a ha2]
      exact f4 a h1 ha2 h3
  · have q : a = M.2.1 := by rw [en] at h2; omega
    rw [q, hn]
    exact Nat.le_refl _
section
variable {I : zk_MI} {kc ks : Nat} {Q : Option Value → zk_M → (Heap → Prop) → Prop} {pc : Nat} {L : List (Option Value)} {st : List Value} {M : zk_M}
theorem zk_added {kl : Nat × Nat} {f : Nat → Value} {kc1 ks1 pc2 cells1 slots1 : Nat} {p : Program} {e : Env} {R : Room} {s : State} {m : MethodId} {args : Array Value} {below : List Frame} {meth : Method} {c : Code} {H H1 : Heap} {locs : List Loc} {cells slots : Nat} {Qf : State → Prop} {A : Nat → Prop} {ρ : Nat → Nat} {ls : Array Slot}
    (hc : zk_Cx Γ I p s m args meth c) (hr : d ≤ R.frames ∧ 64 * d ≤ R.locals) (hs9 : cells1 + kc1 ≤ R.cells ∧ slots1 + ks1 ≤ R.slots) (hR : zk_Rl Γ ρ M F H) (hA : zk_A Γ ρ M s.heap.size A) (hS : va_S A s.heap H locs) (hL : zk_Lr ρ M.2.1 I.2.2.1 L ls) (hW : zk_wf M.2.1 st) (hE : zk_End l Γ I kc ks Q p e R s m args below meth c Qf A ρ M H cells slots)
    (z1 : H1.size = H.size + 1) (o1 : ∀ q : Nat, q < H.size → H1[q]? = H[q]?) (hfr : ∀ j x, f j ≠ .ref x) (hok : ∀ ρ' : Nat → Nat, ρ' M.2.1 = H.size → zk_ok Γ ρ' H1 M.2.1 kl f) (h1 : cells1 + kc1 ≤ cells + kc) (h2 : slots1 + ks1 ≤ slots + ks)
    (kk : zk_Go l Γ I d kc1 ks1 Q pc2 L (.ref M.2.1 :: st) (zk_add M kl f) F) : W p l e R s m args below meth c H1 locs cells1 slots1 Qf (F0 m pc2 ls (.ref H.size :: st.map (zk_v ρ))) := by
  obtain ⟨ρ', r1, r2, hR', hx⟩ := hR.push z1 o1 hfr hok
  obtain ⟨hW2, hst2⟩ := zk_wf.later hx hW
  have hS' : va_S A s.heap H1 locs := ⟨Nat.le_trans hS.1 (by omega), fun q g1 g2 => (o1 q (Nat.lt_of_lt_of_le g1 hS.1)).trans (hS.2.1 q g1 g2), hS.2.2⟩
  have hgo := kk p e R s m args below meth c H1 locs cells1 slots1 Qf A ρ' ls hc hr hs9 hR' (hA.later hx hS.1) hS' (hL.later hx) ⟨by show M.2.1 < M.2.1 + 1; omega, hW2⟩ (hE.later hx h1 h2)
  rw [List.map_cons, hst2, show zk_v ρ' (.ref M.2.1) = .ref H.size from congrArg Value.ref r2] at hgo
  exact hgo
theorem gz_new {i k N : Nat} {C : String} {T : u_T} {f : Nat → Value} (hd : decode I.2.1 pc = .ok (.new i, 3)) (hk : zk_cs[k]? = some (C, T, N)) (hcl : Cond.classLink I.1.cls i C ∈ zk_tg) (hi : Cond.instantiable C N ∈ zk_tg) (hin : Cond.initialized C ∈ zk_tg) (hws : ∀ w ∈ u_ws C T N, w ∈ zk_tg) (tys : Nat → FieldType) (htys : ∀ k, k < N → parseFieldDescriptor (T k).2.2.1 = some (tys k))
    (hf : ∀ j, j < N → defaultValue (tys j) = f j) (hfr : ∀ j x, f j ≠ .ref x) (hk1 : 1 ≤ kc ∧ N ≤ ks) (kk : zk_Go l Γ I d (kc - 1) (ks - N) Q (pc + 3) L (.ref M.2.1 :: st) (zk_add M (k, N) f) F) : zk_Go l Γ I d kc ks Q pc L st M F := by
  intro p e R s m args below meth c H locs cells slots Qf A ρ ls hc hr hs9 hR hA hS hL hW hE
  obtain ⟨hfc, hsl⟩ := hc.2.2.2.2.2.2.2.2.1 k _ hk
  dsimp only at hfc hsl
  obtain ⟨cC, kC0, q1, q2, q3, -⟩ := Cond.instantiable_spec (hc.2.2.2.2.1 _ hi)
  have ec : cC = Γ.1.1 k := Option.some.inj (q1.symm.trans hfc)
  subst ec
  have hk100 : k < 100 := by
    have := (List.getElem?_eq_some_iff.mp hk).1
    have e : zk_cs.length = 11 := rfl
    omega
  refine W.newcK hc.1 hc.2.1 hc.2.2.2.1 (hc.2.2.2.2.1 _ hcl) (hc.2.2.2.2.1 _ hi) (hc.2.2.2.2.1 _ hin) rfl hd (by omega) (by omega) hfc rfl fun H1 kC hkC e1 z1 o1 => ?_
  have hb := u_born (args := args) tys (fun w hw => hc.2.2.2.2.1 w hw) hws (iS := Γ.1.2 k) ⟨fun j hj => by
    obtain ⟨cf, kf, fi, fd, g1, g2, g3⟩ := hsl j hj
    exact ⟨cf, kf, fi, fd, g1, g3⟩, hfc, kC0, q2, q3⟩ hkC e1 htys
  obtain ⟨cell, b1, b2, b3, b4⟩ := hb
  refine zk_added (kl := (k, N)) (f := f) hc hr ⟨by omega, by omega⟩ hR hA hS hL hW hE z1 o1 hfr (fun ρ' hρ' => ⟨fun _ => ⟨⟨_, hk, Nat.le_refl _⟩, cell, by rw [hρ']; exact b1, b2, by rw [b3]; decide, by rw [b3]; rfl, fun _ => b3, fun j hj => ?_⟩, fun q _ => absurd (show 100 ≤ k from q) (by omega)⟩) (by omega) (by omega) kk
  have e9 : zk_v ρ' (f j) = f j := by
    cases hfj : f j with
    | ref x => exact absurd hfj (hfr j x)
    | _ => rfl
  rw [e9, ← hf j hj]
  exact b4 j hj
theorem gz_newa {atype : ArrayType} {k len : Nat} {z : Int} {v0 : Value} (hd : decode I.2.1 pc = .ok (.newarray atype, 2)) (ht : newarray.typeOf atype = zk_ty k) (hk6 : k < 6) (hw : Cond.arrayClass (newarray.typeOf atype) ∈ zk_tg) (hz : z = (len : Int)) (hlen : len ≤ 1000000) (hcb : componentBytes (newarray.typeOf atype) ≤ 8) (hv0 : defaultValue (newarray.typeOf atype) = v0) (hfr : ∀ x, v0 ≠ .ref x) (hk1 : 1 ≤ kc ∧ len ≤ ks)
    (kk : zk_Go l Γ I d (kc - 1) (ks - len) Q (pc + 2) L (.ref M.2.1 :: st) (zk_add M (100 + k, len) (fun _ => v0)) F) : zk_Go l Γ I d kc ks Q pc L (.int (iZ z) :: st) M F := by
  intro p e R s m args below meth c H locs cells slots Qf A ρ ls hc hr hs9 hR hA hS hL hW hE
  have hn9 : ¬ iZ z < 0 := by rw [iZ_0, iZ_lt ⟨by omega, by omega, by omega, by omega⟩]; omega
  have hN9 : (iZ z).toNatClampNeg = len := by rw [hz, iZ_clamp ⟨by omega, by omega⟩, Int.toNat_natCast]
  refine va_newaK hc.1 hc.2.1 (hc.2.2.2.2.1 _ hw) rfl hd rfl hn9 hN9 (by have : len * componentBytes (newarray.typeOf atype) ≤ 1000000 * 8 := Nat.mul_le_mul hlen hcb; omega) (by omega) (by omega) rfl fun H1 cA e1 z1 o1 hT hfc => ?_
  have hge : zk_N ≤ M.2.1 := hR.1.2.2.2.2.2.2
  have hKa := (hc.2.2.2.2.2.2.2.2.2.1.1 k M.2.1 hk6 hge).1
  rw [ht] at hfc
  have ecA : cA = Γ.2.2.1 k M.2.1 := Option.some.inj (hfc.symm.trans hKa)
  subst ecA
  refine zk_added (kl := (100 + k, len)) (f := fun _ => v0) hc hr ⟨by omega, by omega⟩ hR hA hS hL hW.2 hE z1 o1 (fun _ x => hfr x) (fun ρ' hρ' => ⟨fun q => absurd (show 100 + k < 100 from q) (by omega), fun _ _ => ⟨show 100 + k < 106 by omega, show len < 2 ^ 31 by omega, fun q => absurd q (by omega), arrV (Γ.2.2.1 k M.2.1) len (fun _ => defaultValue (newarray.typeOf atype)), by rw [hρ']; exact e1, ?_, ?_, rfl, fun _ => rfl, arrV_size _ _ _, fun j hj => ?_⟩⟩) (by omega) (by omega) kk
  · show Γ.2.2.1 k M.2.1 = Γ.2.2.1 (100 + k - 100) M.2.1
    rw [Nat.add_sub_cancel_left]
  · exact fun q => by cases q
  · have e9 : zk_v ρ' v0 = v0 := by
      cases hfj : v0 with
      | ref x => exact absurd hfj (hfr x)
      | _ => rfl
    dsimp only
    rw [e9, arrV_read _ _ hj, hv0]
theorem zk_pushed {H : Heap} {cA : ClassId} {n : Nat} : (H.push ({ cls := cA, slots := Array.replicate n .null, vm := .none } : Cell)).size = H.size + 1 ∧ (H.push ({ cls := cA, slots := Array.replicate n .null, vm := .none } : Cell))[H.size]? = some (arrV cA n (fun _ => .null)) ∧ ∀ q : Nat, q < H.size → (H.push ({ cls := cA, slots := Array.replicate n .null, vm := .none } : Cell))[q]? = H[q]? := by
  refine ⟨Array.size_push _, ?_, fun q hq => ?_⟩
  · rw [Array.getElem?_push_size, ← arrV_new]
  · rw [Array.getElem?_push, if_neg (Nat.ne_of_lt hq)]
theorem zk_okNull {Γ : zk_G} {H1 : Heap} {k len n q : Nat} (hk6 : k < 6) (hlen : len < 2 ^ 31) (hge : zk_N ≤ n) {ρ' : Nat → Nat} (hρ : ρ' n = q) (e1 : H1[q]? = some (arrV (Γ.2.2.1 k n) len (fun _ => .null))) : zk_ok Γ ρ' H1 n (100 + k, len) (fun _ => .null) := by
  refine ⟨fun q => absurd (show 100 + k < 100 from q) (by omega), fun _ _ => ⟨show 100 + k < 106 by omega, hlen, fun q => absurd q (by omega), arrV (Γ.2.2.1 k n) len (fun _ => .null), by rw [hρ]; exact e1, ?_, ?_, rfl, fun _ => rfl, arrV_size _ _ _, fun j hj => ?_⟩⟩
  · show Γ.2.2.1 k n = Γ.2.2.1 (100 + k - 100) n
    rw [Nat.add_sub_cancel_left]
  · exact fun q => by cases q
  · exact arrV_read _ _ hj
theorem gz_anewK {i len : Nat} {z : Int} (hd : decode I.2.1 pc = .ok (.anewarray i, 3)) (hw : Cond.classLink I.1.cls i "Heliographs$Kind" ∈ zk_tg) (hz : z = (len : Int)) (hlen : len ≤ 1000000) (hk1 : 1 ≤ kc ∧ len ≤ ks)
    (kk : zk_Go l Γ I d (kc - 1) (ks - len) Q (pc + 3) L (.ref M.2.1 :: st) (zk_add M (104, len) (fun _ => .null)) F) : zk_Go l Γ I d kc ks Q pc L (.int (iZ z) :: st) M F := by
  intro p e R s m args below meth c H locs cells slots Qf A ρ ls hc hr hs9 hR hA hS hL hW hE
  have hn9 : ¬ iZ z < 0 := by rw [iZ_0, iZ_lt ⟨by omega, by omega, by omega, by omega⟩]; omega
  have hN9 : (iZ z).toNatClampNeg = len := by rw [hz, iZ_clamp ⟨by omega, by omega⟩, Int.toNat_natCast]
  refine W.anew hc.1 hc.2.1 hc.2.2.2.1 (hc.2.2.2.2.1 _ hw) (hc.2.2.2.2.2.2.2.2.2.2.2.2.2.2.2.1.use) rfl hd rfl hn9 (by rw [hN9]; omega) (by omega) (by rw [hN9]; omega) fun cA kA comp f1 f2 f3 f4 => ?_
  rw [hN9]
  have hge : zk_N ≤ M.2.1 := hR.1.2.2.2.2.2.2
  have ecA : cA = Γ.2.2.1 4 M.2.1 := Option.some.inj (f1.symm.trans (hc.2.2.2.2.2.2.2.2.2.1.1 4 M.2.1 (by omega) hge).1)
  subst ecA
  obtain ⟨z1, e1, o1⟩ := @zk_pushed H (Γ.2.2.1 4 M.2.1) len
  exact zk_added (kl := (104, len)) (f := fun _ => .null) hc hr ⟨by omega, by omega⟩ hR hA hS hL hW.2 hE z1 o1 (fun _ x q => by cases q) (fun ρ' hρ' => zk_okNull (k := 4) (by omega) (by omega) hge hρ' e1) (by omega) (by omega) kk
theorem gz_anewI {i len : Nat} {z : Int} (hd : decode I.2.1 pc = .ok (.anewarray i, 3)) (hw : Cond.classLink I.1.cls i "[I" ∈ zk_tg) (hz : z = (len : Int)) (hlen : len ≤ 1000000) (hk1 : 1 ≤ kc ∧ len ≤ ks)
    (kk : zk_Go l Γ I d (kc - 1) (ks - len) Q (pc + 3) L (.ref M.2.1 :: st) (zk_add M (105, len) (fun _ => .null)) F) : zk_Go l Γ I d kc ks Q pc L (.int (iZ z) :: st) M F := by
  intro p e R s m args below meth c H locs cells slots Qf A ρ ls hc hr hs9 hR hA hS hL hW hE
  have hn9 : ¬ iZ z < 0 := by rw [iZ_0, iZ_lt ⟨by omega, by omega, by omega, by omega⟩]; omega
  have hN9 : (iZ z).toNatClampNeg = len := by rw [hz, iZ_clamp ⟨by omega, by omega⟩, Int.toNat_natCast]
  refine W.anewA (t := .int) hc.1 hc.2.1 hc.2.2.2.1 (hc.2.2.2.2.1 _ hw) (hc.2.2.2.2.2.2.2.2.2.2.2.2.2.2.2.2.1) rfl hd rfl hn9 (by rw [hN9]; omega) (by omega) (by rw [hN9]; omega) fun cA kA comp f1 f2 f3 f4 => ?_
  rw [hN9]
  have hge : zk_N ≤ M.2.1 := hR.1.2.2.2.2.2.2
  have ecA : cA = Γ.2.2.1 5 M.2.1 := Option.some.inj (f1.symm.trans (hc.2.2.2.2.2.2.2.2.2.1.1 5 M.2.1 (by omega) hge).1)
  subst ecA
  obtain ⟨z1, e1, o1⟩ := @zk_pushed H (Γ.2.2.1 5 M.2.1) len
  exact zk_added (kl := (105, len)) (f := fun _ => .null) hc hr ⟨by omega, by omega⟩ hR hA hS hL hW.2 hE z1 o1 (fun _ x q => by cases q) (fun ρ' hρ' => zk_okNull (k := 5) (by omega) (by omega) hge hρ' e1) (by omega) (by omega) kk
/-- a row put into a row of rows -/
theorem gz_aastI {a len n x l2 : Nat} {z : Int} (hd : decode I.2.1 pc = .ok (.aastore, 1)) (hs : M.1 a = (105, len)) (ha : zk_N ≤ a) (hz : z = (n : Int)) (hn : n < len) (hx : M.1 x = (100, l2)) (hx2 : zk_N ≤ x)
    (kk : zk_Go l Γ I d kc ks Q (pc + 1) L st (M.1, M.2.1, zk_up M.2.2 a n (.ref x)) F) : zk_Go l Γ I d kc ks Q pc L (.ref x :: .int (iZ z) :: .ref a :: st) M F := by
  intro p e R s m args below meth c H locs cells slots Qf A ρ ls hc hr hs9 hR hA hS hL hW hE
  obtain ⟨h1, h2, h3, cell, h4, h5, h6, h7, h8, h9, h10⟩ := hR.arr (k := 5) hW.2.2.1 hs (by omega)
  obtain ⟨i1, i2⟩ := zk_ix (j := iZ z) (by rw [hz]) hn h2
  obtain ⟨-, -, -, cv, v1, v2, v3, v4, -⟩ := hR.arr (k := 0) hW.1 hx (by omega)
  have hK := hc.2.2.2.2.2.2.2.2
  obtain ⟨hf5, ho5, -⟩ := hK.2.1.1 5 a (by omega) ha
  obtain ⟨hf0, ho0, -⟩ := hK.2.1.1 0 x (by omega) hx2
  obtain ⟨comp, c5, k5, g1, -, g2, g3, g4⟩ := arrayOverA_spec (t := .int) (hc.2.2.2.2.2.2.2.2.2.2.2.2.2.2.2.2.1)
  have ec5 : c5 = Γ.2.2.1 5 a := Option.some.inj (g4.symm.trans hf5)
  subst ec5
  have ec0 : comp = Γ.2.2.1 0 x := Option.some.inj (g1.symm.trans hf0)
  subst ec0
  obtain ⟨kC, hkC, -⟩ := Vm.findClass_spec g1
  refine W.aast hc.1 hc.2.1 h4 (zk_vs h7) h6 (by rw [h5]; exact g2) g3 rfl hkC ⟨fun q => i1 (Or.inl q), by rw [h9, i2]; exact hn⟩ v1 (zk_vs v4) (by rw [v2]; exact hkC) (by rw [v2]; exact as_self _ _) rfl rfl hd fun H' e1 e2 e3 => ?_
  have hR' := zk_stored hR (v := .ref x) ha hW.2.2.1 hs h1 h2 hW.1 hn h4 h5 h6 h7 h8 h9 h10 (by rw [i2] at e1; exact e1) e2 e3
  exact kk p e R s m args below meth c H' _ cells slots Qf A ρ ls hc hr hs9 hR' hA (hS.put e2 e3 (hA.1 a ha hW.2.2.1 (by rw [hs]; exact Nat.le_of_ble_eq_true rfl))) hL hW.2.2.2 (hE.put e2)
theorem jo_init : Cond.instanceMethod Lib.objectInit ∈ zk_tg := zk_in 34 (by decide +kernel) rfl
theorem jc_init : Cond.code Lib.objectInit ⟨#[0xb1]⟩ 1 none ∈ zk_tg := zk_in 35 (by decide +kernel) rfl
theorem gz_objInit {idx a : Nat} (hd : decode I.2.1 pc = .ok (.invokespecial idx, 3)) (hw : Cond.methodLink I.1.cls idx Lib.objectInit ∈ zk_tg) (hsum : (st.map fun v => v.category).sum ≤ 8) (hd1 : 1 ≤ d) (kk : zk_Go l Γ I d kc ks Q (pc + 3) L st M F) : zk_Go l Γ I d kc ks Q pc L (.ref a :: st) M F := by
  intro p e R s m args below meth c H locs cells slots Qf A ρ ls hc hr hs9 hR hA hS hL hW hE
  refine W.objInit hc.1 hc.2.1 hc.2.2.2.1 (hc.2.2.2.2.1 _ hw) (hc.2.2.2.2.1 _ jo_init) (hc.2.2.2.2.1 _ jc_init) rfl (hL.1.trans hc.2.2.1.symm) rfl hd (by omega) ?_ ?_
  · have e9 : ((st.map (zk_v ρ)).map fun v => v.category) = st.map fun v => v.category := by
      rw [List.map_map]
      congr 1
      funext v
      exact zk_v_cat ρ v
    show 2 * 0 + ((st.map (zk_v ρ)).map fun v => v.category).sum + 12 ≤ R.locals
    rw [e9]
    omega
  · exact kk p e R s m args below meth c H locs cells slots Qf A ρ ls hc hr hs9 hR hA hS hL hW.2 hE
/-- a constructor, linked as any method or as a nest mate's -/
theorem gz_invi {J : zk_MI} {d1 kc1 ks1 : Nat} {Q1 : Option Value → zk_M → (Heap → Prop) → Prop} {idx b n : Nat} (As st : List Value) {st0 : List Value} (hd : decode I.2.1 pc = .ok (.invokespecial idx, 3)) (hst : st0 = As.reverse ++ .ref b :: st)
    (hw : Cond.methodLink I.1.cls idx J.1 ∈ zk_tg ∨ ∃ host, (I.1.cls, idx, J.1, host) ∈ zk_nm) (hin : Cond.instanceMethod J.1 ∈ zk_tg) (hini : Cond.initialized J.1.cls ∈ zk_tg) (hcode : Cond.code J.1 J.2.1 J.2.2.1 none ∈ zk_tg) (hret : J.2.2.2 = none) (hy1 : J.1.name = "<init>")
    (hpl : plainName J.1.cls = true ∧ J.1.cls ≠ "java/lang/invoke/MethodHandle" ∧ J.1.cls ≠ "java/lang/invoke/VarHandle" ∧ (parseMethodDescriptor J.1.desc).map (fun d => d.parameters.length) = some n) (hn : As.length = n) (hm : J.2.2.1 ≤ 45 ∧ (zk_es (.ref b :: As)).length ≤ J.2.2.1) (hsum : (st.map fun v => v.category).sum ≤ 8)
    (hd1 : d1 + 1 ≤ d) (hkk : kc1 ≤ kc ∧ ks1 ≤ ks) (hgo : zk_Go l Γ J d1 kc1 ks1 Q1 0 (zk_ent J.2.2.1 (.ref b :: As)) [] M F)
    (kk : ∀ v M' F', Q1 v M' F' → zk_Go l Γ I d (kc - kc1) (ks - ks1) Q (pc + 3) L (v.toList ++ st) M' F') : zk_Go l Γ I d kc ks Q pc L st0 M F := by
  intro p e R s m args below meth c H locs cells slots Qf A ρ ls hc hr hs9 hR hA hS hL hW hE
  subst hst
  obtain ⟨y, bytes, maxL, ret⟩ := J
  dsimp only at hret hy1 hw hin hini hcode hpl hm
  subst hret
  obtain ⟨hW1, hW2⟩ := zk_wf_app hW
  have hwAs : zk_wf M.2.1 (.ref b :: As) := ⟨hW2.1, zk_wf_of fun v hv => zk_wf_mem hW1 (List.mem_reverse.mpr hv)⟩
  have hM := zk_met (ρ := ρ) (sz := H.size) hpl.1 hm.2 hwAs (by rw [hy1]; decide) hgo
  have hG : GoodIn zk_tg (zk_ws (y, bytes, maxL, none)) := zk_ws_good _ hcode
  have hst9 : (F0 m pc ls ((As.reverse ++ Value.ref b :: st).map (zk_v ρ))).stack = (As.map (zk_v ρ)).reverse ++ .ref (ρ b) :: st.map (zk_v ρ) := by
    show ((As.reverse ++ Value.ref b :: st).map (zk_v ρ)) = _
    rw [List.map_append, List.map_reverse]
    rfl
  have hsum9 : 2 * (F0 m pc ls ((As.reverse ++ Value.ref b :: st).map (zk_v ρ))).monitorRoom + ((st.map (zk_v ρ)).map fun v => v.category).sum ≤ 8 := lv_room (by rw [List.map_map]; have e : ((fun v : Value => v.category) ∘ zk_v ρ) = fun v : Value => v.category := funext fun v => zk_v_cat ρ v; rw [e]; exact hsum)
  have hpre : PreS s H (zk_Pc Γ ρ (.ref b :: As) M F H.size) (.ref (ρ b) :: As.map (zk_v ρ)) := ⟨zk_Pc_blind, fun U hU hW9 => ⟨rfl, by rw [hU], hc.2.2.2.2.2.2.2.2.warm hW9, by rw [hU]; exact hR⟩⟩
  have hfit := zk_fits (J := (y, bytes, maxL, none)) hr hd1 hm.1
  rcases hw with hw | ⟨host, hw⟩
  · have hrun := va_runI (e := e) (below := below) (meth := meth) (As := As.map (zk_v ρ)) (rest := st.map (zk_v ρ)) (g := F0 m pc ls ((As.reverse ++ Value.ref b :: st).map (zk_v ρ))) (H := H) (locs := locs) (cells := cells) (slots := slots) (b := ρ b) ⟨hc.1, hc.2.1, hc.2.2.1, hc.2.2.2.1, hc.2.2.2.2.1⟩ hM (cwI n hc.2.2.2.2.1 hG rfl rfl rfl (hc.2.2.2.2.1 _ hini) (hc.2.2.2.2.1 _ hw) (hc.2.2.2.2.1 _ hin) hy1 hpl.2 hfit)
      hpre rfl (by rw [List.length_map]; exact hn) hL.1 hst9 hsum9 hd ⟨by omega, by omega⟩
    exact zk_called (J := (y, bytes, maxL, none)) (d1 := d1) (st0 := []) hrun hc hr hs9 hA hS hL hW2.2 hE hkk kk
  · have hrun := va_runIN (e := e) (below := below) (meth := meth) (As := As.map (zk_v ρ)) (rest := st.map (zk_v ρ)) (g := F0 m pc ls ((As.reverse ++ Value.ref b :: st).map (zk_v ρ))) (H := H) (locs := locs) (cells := cells) (slots := slots) (b := ρ b) ⟨hc.1, hc.2.1, hc.2.2.1, hc.2.2.2.1, hc.2.2.2.2.1⟩ hM ⟨va_cnB n hc.2.2.2.2.1 hG rfl rfl rfl (hc.2.2.2.2.2.2.2.2.2.2.2.2.2.2.1 _ hw) (hc.2.2.2.2.1 _ hini) hpl.2 hfit, hy1, hc.2.2.2.2.1 _ hin⟩
      hpre rfl (by rw [List.length_map]; exact hn) hL.1 hst9 hsum9 hd ⟨by omega, by omega⟩
    exact zk_called (J := (y, bytes, maxL, none)) (d1 := d1) (st0 := []) hrun hc hr hs9 hA hS hL hW2.2 hE hkk kk
end
end
