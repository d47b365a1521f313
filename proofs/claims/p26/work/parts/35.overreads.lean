/-! READS OF A CHAIN WRITTEN OVER -/
section
variable {l : Launch} {Γ : zk_G} {d : Nat} {Z : Nat → Nat → Int} {F : Heap → Prop}
theorem zw_isPassableN {c p : Nat} (hcs : c = 336 ∨ c = 352) (hp : p = 368 ∨ p = 400) {σ : zV} (hcp : σ 0 0 = (p : Int)) (hw : wP (vP Z p)) {N : Int} (hc : wC (vP Z p) σ N) {w : Nat} {m : Int} (hx : (w : Int) < Z p 1) (hm : 0 ≤ m ∧ m < 100000) (hd : 2 ≤ d) : zk_Does l Γ mX0_isPassable d 0 0 [.ref c, .int (iZ (w : Int)), .int (iZ m)] (zb_M (zW Z c σ)) F (some (.int (iZ (bI (sPass (vP Z p) σ w m))))) (zb_M (zW Z c σ)) F := by
  have hcs2 := hcs
  have hp2 := hp
  rcases hcs with rfl | rfl <;> rcases hp with rfl | rfl <;> exact zk_Does.to (zs_isPassableN hcs2 hp2 (by exact hcp) (by simp only [zq_368_336, zq_368_352, zq_400_336, zq_400_352, vC_W]; exact hw) (by simp only [zq_368_336, zq_368_352, zq_400_336, zq_400_352, vC_W]; exact hc) (by exact hx) hm hd) (by first | rfl | (simp only [zq_368_336, zq_368_352, zq_400_336, zq_400_352, vC_W]; rfl))
theorem zw_messagesAt {c p : Nat} (hcs : c = 336 ∨ c = 352) (hp : p = 368 ∨ p = 400) {σ : zV} (hcp : σ 0 0 = (p : Int)) (hw : wP (vP Z p)) {N : Int} (hc : wC (vP Z p) σ N) {x y : Int} (hx : -2147483648 ≤ x ∧ x < 2147483648) (hy : -2147483648 ≤ y ∧ y < 2147483648) : zk_Does l Γ mX0_messagesAt d 0 0 [.ref c, .int (iZ x), .int (iZ y)] (zb_M (zW Z c σ)) F (some (.int (iZ (sNum (sAt σ x y) 0 (Z p 3).toNat)))) (zb_M (zW Z c σ)) F := by
  have hcs2 := hcs
  have hp2 := hp
  rcases hcs with rfl | rfl <;> rcases hp with rfl | rfl <;> exact zk_Does.to (zs_messagesAt hcs2 hp2 (by exact hcp) (by simp only [zq_368_336, zq_368_352, zq_400_336, zq_400_352, vC_W]; exact hw) (by simp only [zq_368_336, zq_368_352, zq_400_336, zq_400_352, vC_W]; exact hc) hx hy) (by first | rfl | (simp only [zq_368_336, zq_368_352, zq_400_336, zq_400_352, vC_W]; rfl))
theorem zw_messagesIn {c p : Nat} (hcs : c = 336 ∨ c = 352) (hp : p = 368 ∨ p = 400) {σ : zV} (hcp : σ 0 0 = (p : Int)) (hw : wP (vP Z p)) {N : Int} (hc : wC (vP Z p) σ N) {y : Int} (hy : -2147483648 ≤ y ∧ y < 2147483648) : zk_Does l Γ mX0_messagesIn d 0 0 [.ref c, .int (iZ y)] (zb_M (zW Z c σ)) F (some (.int (iZ (sNum (sIn σ y) 0 (Z p 3).toNat)))) (zb_M (zW Z c σ)) F := by
  have hcs2 := hcs
  have hp2 := hp
  rcases hcs with rfl | rfl <;> rcases hp with rfl | rfl <;> exact zk_Does.to (zs_messagesIn hcs2 hp2 (by exact hcp) (by simp only [zq_368_336, zq_368_352, zq_400_336, zq_400_352, vC_W]; exact hw) (by simp only [zq_368_336, zq_368_352, zq_400_336, zq_400_352, vC_W]; exact hc) hy) (by first | rfl | (simp only [zq_368_336, zq_368_352, zq_400_336, zq_400_352, vC_W]; rfl))
theorem zw_messageOver {c p : Nat} (hcs : c = 336 ∨ c = 352) (hp : p = 368 ∨ p = 400) {σ : zV} (hcp : σ 0 0 = (p : Int)) (hw : wP (vP Z p)) {N : Int} (hc : wC (vP Z p) σ N) {x : Int} (hx : -2147483648 ≤ x ∧ x < 2147483648) : zk_Does l Γ mX0_messageOver d 0 0 [.ref c, .int (iZ x)] (zb_M (zW Z c σ)) F (some (.int (iZ (sFind (fun m => decide (σ 7 m = x)) 0 (Z p 3).toNat)))) (zb_M (zW Z c σ)) F := by
  have hcs2 := hcs
  have hp2 := hp
  rcases hcs with rfl | rfl <;> rcases hp with rfl | rfl <;> exact zk_Does.to (zs_messageOver hcs2 hp2 (by exact hcp) (by simp only [zq_368_336, zq_368_352, zq_400_336, zq_400_352, vC_W]; exact hw) (by simp only [zq_368_336, zq_368_352, zq_400_336, zq_400_352, vC_W]; exact hc) hx) (by first | rfl | (simp only [zq_368_336, zq_368_352, zq_400_336, zq_400_352, vC_W]; rfl))
theorem zw_freeMirrors {c p : Nat} (hcs : c = 336 ∨ c = 352) (hp : p = 368 ∨ p = 400) {σ : zV} (hcp : σ 0 0 = (p : Int)) (hw : wP (vP Z p)) {N : Int} (hc : wC (vP Z p) σ N) {x : Int} (hx : 0 ≤ x ∧ x < Z p 0) (hd : 2 ≤ d) : zk_Does l Γ mX0_freeMirrors d 0 0 [.ref c, .int (iZ x)] (zb_M (zW Z c σ)) F (some (.int (iZ (sFree (vP Z p) σ x)))) (zb_M (zW Z c σ)) F := by
  have hcs2 := hcs
  have hp2 := hp
  rcases hcs with rfl | rfl <;> rcases hp with rfl | rfl <;> exact zk_Does.to (zs_freeMirrors hcs2 hp2 (by exact hcp) (by simp only [zq_368_336, zq_368_352, zq_400_336, zq_400_352, vC_W]; exact hw) (by simp only [zq_368_336, zq_368_352, zq_400_336, zq_400_352, vC_W]; exact hc) (by exact hx) hd) (by first | rfl | (simp only [zq_368_336, zq_368_352, zq_400_336, zq_400_352, vC_W]; rfl))
theorem zw_isCarried {c p : Nat} (hcs : c = 336 ∨ c = 352) (hp : p = 368 ∨ p = 400) {σ : zV} (hcp : σ 0 0 = (p : Int)) (hw : wP (vP Z p)) {N : Int} (hc : wC (vP Z p) σ N) {x : Int} (hx : 0 ≤ x ∧ x < Z p 3) (hd : 1 ≤ d) : zk_Does l Γ mX0_isCarried d 0 0 [.ref c, .int (iZ x)] (zb_M (zW Z c σ)) F (some (.int (iZ (bI (decide (σ 4 x.toNat = 1)))))) (zb_M (zW Z c σ)) F := by
  have hcs2 := hcs
  have hp2 := hp
  rcases hcs with rfl | rfl <;> rcases hp with rfl | rfl <;> exact zk_Does.to (zs_isCarried hcs2 hp2 (by exact hcp) (by simp only [zq_368_336, zq_368_352, zq_400_336, zq_400_352, vC_W]; exact hw) (by simp only [zq_368_336, zq_368_352, zq_400_336, zq_400_352, vC_W]; exact hc) (by exact hx) hd) (by first | rfl | (simp only [zq_368_336, zq_368_352, zq_400_336, zq_400_352, vC_W]; rfl))
theorem zw_leftOf {c p : Nat} (hcs : c = 336 ∨ c = 352) (hp : p = 368 ∨ p = 400) {σ : zV} (hcp : σ 0 0 = (p : Int)) (hw : wP (vP Z p)) {N : Int} (hc : wC (vP Z p) σ N) {x : Int} (hx : 0 ≤ x ∧ x < Z p 3) (hd : 1 ≤ d) : zk_Does l Γ mX0_leftOf d 0 0 [.ref c, .int (iZ x)] (zb_M (zW Z c σ)) F (some (.int (iZ (σ 5 x.toNat)))) (zb_M (zW Z c σ)) F := by
  have hcs2 := hcs
  have hp2 := hp
  rcases hcs with rfl | rfl <;> rcases hp with rfl | rfl <;> exact zk_Does.to (zs_leftOf hcs2 hp2 (by exact hcp) (by simp only [zq_368_336, zq_368_352, zq_400_336, zq_400_352, vC_W]; exact hw) (by simp only [zq_368_336, zq_368_352, zq_400_336, zq_400_352, vC_W]; exact hc) (by exact hx) hd) (by first | rfl | (simp only [zq_368_336, zq_368_352, zq_400_336, zq_400_352, vC_W]; rfl))
theorem zw_breaksOf {c p : Nat} (hcs : c = 336 ∨ c = 352) (hp : p = 368 ∨ p = 400) {σ : zV} (hcp : σ 0 0 = (p : Int)) (hw : wP (vP Z p)) {N : Int} (hc : wC (vP Z p) σ N) {x : Int} (hx : 0 ≤ x ∧ x < Z p 3) (hd : 1 ≤ d) : zk_Does l Γ mX0_breaksOf d 0 0 [.ref c, .int (iZ x)] (zb_M (zW Z c σ)) F (some (.int (iZ (σ 8 x.toNat)))) (zb_M (zW Z c σ)) F := by
  have hcs2 := hcs
  have hp2 := hp
  rcases hcs with rfl | rfl <;> rcases hp with rfl | rfl <;> exact zk_Does.to (zs_breaksOf hcs2 hp2 (by exact hcp) (by simp only [zq_368_336, zq_368_352, zq_400_336, zq_400_352, vC_W]; exact hw) (by simp only [zq_368_336, zq_368_352, zq_400_336, zq_400_352, vC_W]; exact hc) (by exact hx) hd) (by first | rfl | (simp only [zq_368_336, zq_368_352, zq_400_336, zq_400_352, vC_W]; rfl))
theorem zw_tally {c p : Nat} (hcs : c = 336 ∨ c = 352) (hp : p = 368 ∨ p = 400) {σ : zV} (hcp : σ 0 0 = (p : Int)) (hw : wP (vP Z p)) {N : Int} (hc : wC (vP Z p) σ N) {y : Int} (hy : 8 ≤ y ∧ y ≤ 12) (hd : 1 ≤ d) : zk_Does l Γ mX0_tally d 0 0 [.ref c, .int (iZ y)] (zb_M (zW Z c σ)) F (some (.int (iZ (sTally (vP Z p) σ y)))) (zb_M (zW Z c σ)) F := by
  have hcs2 := hcs
  have hp2 := hp
  rcases hcs with rfl | rfl <;> rcases hp with rfl | rfl <;> exact zk_Does.to (zs_tally hcs2 hp2 (by exact hcp) (by simp only [zq_368_336, zq_368_352, zq_400_336, zq_400_352, vC_W]; exact hw) (by simp only [zq_368_336, zq_368_352, zq_400_336, zq_400_352, vC_W]; exact hc) hy hd) (by first | rfl | (simp only [zq_368_336, zq_368_352, zq_400_336, zq_400_352, vC_W]; rfl))
theorem zw_hasPass {c p : Nat} (hcs : c = 336 ∨ c = 352) (hp : p = 368 ∨ p = 400) {σ : zV} (hw : wP (vP Z p)) {x : Int} (hx : -2147483648 ≤ x ∧ x < 2147483648) : zk_Does l Γ mX3_hasPass d 0 0 [.ref p, .int (iZ x)] (zb_M (zW Z c σ)) F (some (.int (iZ (bI (decide (0 ≤ x ∧ x < Z p 1)))))) (zb_M (zW Z c σ)) F := by
  have h0 := wP_n hw
  simp only [vP_ap, vC_ap, Nat.reduceAdd, Nat.reduceLT, Nat.add_zero, ↓reduceIte] at h0
  have hp2 := hp
  rcases hcs with rfl | rfl <;> rcases hp with rfl | rfl <;> exact zs_hasPass hp2 hx h0.2.1
theorem zw_hasMessage {c p : Nat} (hcs : c = 336 ∨ c = 352) (hp : p = 368 ∨ p = 400) {σ : zV} (hw : wP (vP Z p)) {x : Int} (hx : -2147483648 ≤ x ∧ x < 2147483648) : zk_Does l Γ mX3_hasMessage d 0 0 [.ref p, .int (iZ x)] (zb_M (zW Z c σ)) F (some (.int (iZ (bI (decide (0 ≤ x ∧ x < Z p 3)))))) (zb_M (zW Z c σ)) F := by
  have h0 := wP_n hw
  simp only [vP_ap, vC_ap, Nat.reduceAdd, Nat.reduceLT, Nat.add_zero, ↓reduceIte] at h0
  have hp2 := hp
  rcases hcs with rfl | rfl <;> rcases hp with rfl | rfl <;> exact zs_hasMessage hp2 hx h0.2.2.2
theorem zw_hasPeak {c p : Nat} (hcs : c = 336 ∨ c = 352) (hp : p = 368 ∨ p = 400) {σ : zV} (hw : wP (vP Z p)) {x : Int} (hx : -2147483648 ≤ x ∧ x < 2147483648) : zk_Does l Γ mX3_hasPeak d 0 0 [.ref p, .int (iZ x)] (zb_M (zW Z c σ)) F (some (.int (iZ (bI (decide (0 ≤ x ∧ x < Z p 0)))))) (zb_M (zW Z c σ)) F := by
  have h0 := wP_n hw
  simp only [vP_ap, vC_ap, Nat.reduceAdd, Nat.reduceLT, Nat.add_zero, ↓reduceIte] at h0
  have hp2 := hp
  rcases hcs with rfl | rfl <;> rcases hp with rfl | rfl <;> exact zs_hasPeak hp2 hx h0.1
theorem zw_isEndN {c p : Nat} (hcs : c = 336 ∨ c = 352) (hp : p = 368 ∨ p = 400) {σ : zV} (hw : wP (vP Z p)) {w : Nat} {y : Int} (hx : (w : Int) < Z p 1) (hy : -2147483648 ≤ y ∧ y < 2147483648) (hd : 1 ≤ d) : zk_Does l Γ mX3_isEnd d 0 0 [.ref p, .int (iZ (w : Int)), .int (iZ y)] (zb_M (zW Z c σ)) F (some (.int (iZ (bI (sEnd (vP Z p) y w))))) (zb_M (zW Z c σ)) F := by
  have hp2 := hp
  rcases hcs with rfl | rfl <;> rcases hp with rfl | rfl <;> exact zk_Does.to (zs_isEndN hp2 (by simp only [zq_368_336, zq_368_352, zq_400_336, zq_400_352, vC_W]; exact hw) (by exact hx) hy hd) (by simp only [zq_368_336, zq_368_352, zq_400_336, zq_400_352, vC_W])
theorem zw_acrossN {c p : Nat} (hcs : c = 336 ∨ c = 352) (hp : p = 368 ∨ p = 400) {σ : zV} (hw : wP (vP Z p)) {w : Nat} {y : Int} (hx : (w : Int) < Z p 1) (hy : -2147483648 ≤ y ∧ y < 2147483648) (hd : 1 ≤ d) : zk_Does l Γ mX3_across d 0 0 [.ref p, .int (iZ (w : Int)), .int (iZ y)] (zb_M (zW Z c σ)) F (some (.int (iZ (sAcross (vP Z p) w y)))) (zb_M (zW Z c σ)) F := by
  have hp2 := hp
  rcases hcs with rfl | rfl <;> rcases hp with rfl | rfl <;> exact zk_Does.to (zs_across hp2 (by simp only [zq_368_336, zq_368_352, zq_400_336, zq_400_352, vC_W]; exact hw) (x := (w : Int)) ⟨by omega, by exact hx⟩ hy hd) (by simp only [zq_368_336, zq_368_352, zq_400_336, zq_400_352, vC_W, Int.toNat_natCast])
end
