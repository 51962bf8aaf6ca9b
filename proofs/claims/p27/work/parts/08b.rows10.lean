/-! p27: ranges, counts -/
theorem zaQ {Γ : zG} {σ : zS} {a t j : Nat} {lo hi i m : Int} (hS : zSK Γ σ) (ht : gT Γ a = t) (h : aq t j = some (lo, hi)) (hm : (gN Γ a : Int) = m) (h0 : 0 ≤ i) (h1 : i < m) (hj : i.toNat = j) : lo ≤ σ a j ∧ σ a j ≤ hi := hS.2.1 a j (lo, hi) (by omega) (by rw [ht]; exact h)
theorem zSK_cq {Γ : zG} {σ σd : zS} {a b k j2 t t2 : Nat} {v : Int} (hS : zSK Γ σ) (hSd : zSK Γ σd) (ht : gT Γ a = t) (hb : gT Γ b = t2) (h1 : ∀ j, fq t j = none) (h2 : dq t = none) (h3 : aq t k = aq t2 j2) (hk : j2 < gN Γ b) (hv : v = σd b j2) : zSK Γ (zU σ a k v) := by
  subst hv
  refine ⟨fun c j r hr => ?_, fun c j r hj hr => ?_, fun c j r hj hr => ?_⟩
  · by_cases hc : c = a
    · subst hc; rw [ht, h1] at hr; cases hr
    · rw [zU_ne hc]; exact hS.1 c j r hr
  · by_cases hc : c = a ∧ j = k
    · obtain ⟨rfl, rfl⟩ := hc
      rw [zU_eq]
      exact hSd.2.1 b j2 r hk (by rw [hb, ← h3, ← ht]; exact hr)
    · rw [zU_at (by omega)]; exact hS.2.1 c j r hj hr
  · by_cases hc : c = a
    · subst hc; rw [ht, h2] at hr; cases hr
    · rw [zU_ne hc]; exact hS.2.2 c j r hj hr
/-- the cards of all rows, heaps, the pool -/
def zc (f : Nat → Int) : Int := f 480 + f 481 + f 482 + f 483 + f 484 + f 485 + f 486
theorem zc_o {σ : zS} {a k : Nat} {v : Int} (h : k < 480 ∨ 486 < k) : zc (zU σ a k v a) = zc (σ a) := by
  unfold zc
  rw [zU_nk (show 480 ≠ k by omega), zU_nk (show 481 ≠ k by omega), zU_nk (show 482 ≠ k by omega), zU_nk (show 483 ≠ k by omega), zU_nk (show 484 ≠ k by omega), zU_nk (show 485 ≠ k by omega), zU_nk (show 486 ≠ k by omega)]
theorem zc_w {σ : zS} {a k : Nat} {v : Int} (h1 : 480 ≤ k) (h2 : k ≤ 486) : zc (zU σ a k v a) = zc (σ a) - σ a k + v := by
  have h : ∀ j, zU σ a k v a j = if j = k then v else σ a j := fun j => by
    by_cases e : j = k
    · rw [e, zU_eq, if_pos rfl]
    · rw [zU_nk e, if_neg e]
  unfold zc
  simp only [h]
  rcases (show k = 480 ∨ k = 481 ∨ k = 482 ∨ k = 483 ∨ k = 484 ∨ k = 485 ∨ k = 486 by omega) with rfl | rfl | rfl | rfl | rfl | rfl | rfl
  all_goals (simp <;> omega)
theorem zc_1 {Γ : zG} {σ : zS} {a j : Nat} (hS : zSK Γ σ) (ht : gT Γ a = 84) (hn : gN Γ a = 515) (h1 : 480 ≤ j) (h2 : j ≤ 486) : 0 ≤ σ a j ∧ σ a j ≤ zc (σ a) := by
  have h : ∀ i, 480 ≤ i → i ≤ 486 → 0 ≤ σ a i := fun i h3 h4 => (hS.2.1 a i (0, 60) (by omega) (by rw [ht]; exact congrArg some (axS_2 i ⟨h3, h4⟩))).1
  have g0 := h 480 (by omega) (by omega); have g1 := h 481 (by omega) (by omega); have g2 := h 482 (by omega) (by omega); have g3 := h 483 (by omega) (by omega); have g4 := h 484 (by omega) (by omega); have g5 := h 485 (by omega) (by omega); have g6 := h 486 (by omega) (by omega)
  unfold zc
  rcases (show j = 480 ∨ j = 481 ∨ j = 482 ∨ j = 483 ∨ j = 484 ∨ j = 485 ∨ j = 486 by omega) with rfl | rfl | rfl | rfl | rfl | rfl | rfl
  all_goals omega
theorem zc_2 {Γ : zG} {σ : zS} {a i j : Nat} (hS : zSK Γ σ) (ht : gT Γ a = 84) (hn : gN Γ a = 515) (h1 : 480 ≤ j) (h2 : j ≤ 486) (h3 : 480 ≤ i) (h4 : i ≤ 486) (hij : i ≠ j) : σ a i + σ a j ≤ zc (σ a) := by
  have h : ∀ i, 480 ≤ i → i ≤ 486 → 0 ≤ σ a i := fun i h3 h4 => (hS.2.1 a i (0, 60) (by omega) (by rw [ht]; exact congrArg some (axS_2 i ⟨h3, h4⟩))).1
  have g0 := h 480 (by omega) (by omega); have g1 := h 481 (by omega) (by omega); have g2 := h 482 (by omega) (by omega); have g3 := h 483 (by omega) (by omega); have g4 := h 484 (by omega) (by omega); have g5 := h 485 (by omega) (by omega); have g6 := h 486 (by omega) (by omega)
  unfold zc
  rcases (show j = 480 ∨ j = 481 ∨ j = 482 ∨ j = 483 ∨ j = 484 ∨ j = 485 ∨ j = 486 by omega) with rfl | rfl | rfl | rfl | rfl | rfl | rfl
  all_goals (rcases (show i = 480 ∨ i = 481 ∨ i = 482 ∨ i = 483 ∨ i = 484 ∨ i = 485 ∨ i = 486 by omega) with rfl | rfl | rfl | rfl | rfl | rfl | rfl)
  all_goals omega
/-- from a place on nothing has changed, but at some places -/
def zHi (n : Nat) (xs : List Nat) (f g : Nat → Int) : Prop := ∀ j, n ≤ j → j ∉ xs → g j = f j
theorem zHi_rf {n : Nat} {xs : List Nat} {f : Nat → Int} : zHi n xs f f := fun _ _ _ => rfl
theorem zHi_t {n : Nat} {xs : List Nat} {f g h : Nat → Int} (h1 : zHi n xs f g) (h2 : zHi n xs g h) : zHi n xs f h := fun j hj hx => (h2 j hj hx).trans (h1 j hj hx)
theorem zHi_w {n : Nat} {xs ys : List Nat} {f g : Nat → Int} (h1 : zHi n xs f g) (h : ∀ j, n ≤ j → j ∉ ys → j ∉ xs) : zHi n ys f g := fun j hj hx => h1 j hj (h j hj hx)
theorem zHi_u {n : Nat} {xs : List Nat} {σ : zS} {a k : Nat} {v : Int} {f : Nat → Int} (h1 : zHi n xs f (σ a)) (h : k < n ∨ k ∈ xs) : zHi n xs f (zU σ a k v a) := fun j hj hx => by
  have e : j ≠ k := fun e => by
    rcases h with h | h
    · omega
    · exact hx (e ▸ h)
  rw [zU_nk e]; exact h1 j hj hx
theorem zHi_zc {f g : Nat → Int} (h : zHi 420 [] f g) : zc g = zc f := by
  unfold zc
  rw [h 480 (by omega) (by simp), h 481 (by omega) (by simp), h 482 (by omega) (by simp), h 483 (by omega) (by simp), h 484 (by omega) (by simp), h 485 (by omega) (by simp), h 486 (by omega) (by simp)]
/-! plans: how deep the stack stands -/
def zRp (f : Nat → Int) (o : Int) : Nat → Int
  | 0 => 0
  | n + 1 => if f (o + n).toNat = 20 then zRp f o n else if 20 < f (o + n).toNat then zRp f o n - 1 else zRp f o n + 1
theorem zRp_le (f : Nat → Int) (o : Int) (n : Nat) : zRp f o n ≤ n := by
  induction n with
  | zero => exact Int.le_refl _
  | succ n ih =>
    rw [zRp]
    split
    · omega
    · split <;> omega
def zRv (f g : Nat → Int) (o n : Int) : Prop := ∀ q : Int, o ≤ q → q < o + n → (f q.toNat = 20 → 1 ≤ zRp f o (q - o).toNat) ∧ (20 < f q.toNat → 2 ≤ zRp f o (q - o).toNat) ∧ (f q.toNat < 20 → f q.toNat < 1 ∨ 10 < f q.toNat → 1 ≤ g q.toNat)
theorem zRv_at {f g : Nat → Int} {o n q : Int} (h : zRv f g o n) (h0 : o ≤ q) (h1 : q < o + n) : (f q.toNat = 20 → 1 ≤ zRp f o (q - o).toNat ∧ zRp f o (q + 1 - o).toNat = zRp f o (q - o).toNat) ∧ (20 < f q.toNat → 2 ≤ zRp f o (q - o).toNat ∧ zRp f o (q + 1 - o).toNat = zRp f o (q - o).toNat - 1) ∧ (f q.toNat < 20 → zRp f o (q + 1 - o).toNat = zRp f o (q - o).toNat + 1) ∧ (f q.toNat < 20 → f q.toNat < 1 ∨ 10 < f q.toNat → 1 ≤ g q.toNat) ∧ zRp f o (q - o).toNat ≤ q - o := by
  obtain ⟨a1, a2, a3⟩ := h q h0 h1
  have e : (q + 1 - o).toNat = (q - o).toNat + 1 := by omega
  have e2 : o + ((q - o).toNat : Int) = q := by omega
  have e3 := zRp_le f o (q - o).toNat
  refine ⟨fun hf => ⟨a1 hf, ?_⟩, fun hf => ⟨a2 hf, ?_⟩, fun hf => ?_, a3, by omega⟩
  · rw [e, zRp, e2, if_pos hf]
  · rw [e, zRp, e2, if_neg (by omega), if_pos hf]
  · rw [e, zRp, e2, if_neg (by omega), if_neg (by omega)]
theorem zRp_cg {f f2 : Nat → Int} {o o2 : Int} (n : Nat) (h : ∀ i : Nat, i < n → f2 (o2 + i).toNat = f (o + i).toNat) : zRp f2 o2 n = zRp f o n := by
  induction n with
  | zero => rfl
  | succ n ih =>
    rw [zRp, zRp, h n (Nat.lt_succ_self n), ih (fun i hi => h i (Nat.lt_succ_of_lt hi))]
theorem zRv_cg {f g f2 g2 : Nat → Int} {o o2 n : Int} (h : zRv f g o n) (ho : 0 ≤ o) (ho2 : 0 ≤ o2) (e1 : ∀ i : Nat, (i : Int) < n → f2 (o2 + i).toNat = f (o + i).toNat) (e2 : ∀ i : Nat, (i : Int) < n → g2 (o2 + i).toNat = g (o + i).toNat) : zRv f2 g2 o2 n := by
  intro q h0 h1
  have hi : ((q - o2).toNat : Int) < n := by omega
  have h3 := h (o + (q - o2).toNat) (by omega) (by omega)
  have e3 := e1 _ hi
  have e4 := e2 _ hi
  have e5 : o2 + ((q - o2).toNat : Int) = q := by omega
  have e6 : (o + ((q - o2).toNat : Int) - o).toNat = (q - o2).toNat := by omega
  rw [e5] at e3 e4
  rw [e6] at h3
  rw [e3, e4, zRp_cg (q - o2).toNat (fun i hi2 => e1 i (by omega))]
  exact h3
theorem zRv_0 {f g : Nat → Int} {o : Int} : zRv f g o 0 := fun q h0 h1 => by omega
/-- the first places of two rows are alike -/
def zEq (n : Nat) (f g : Nat → Int) : Prop := ∀ j, j < n → f j = g j
theorem zEq_0 {n : Int} {f g : Nat → Int} (h : n ≤ 0) : zEq n.toNat f g := fun j hj => by omega
theorem zEq_s {σ σ2 : zS} {a : Nat} {v w : Int} {g : Nat → Int} (h : zEq v.toNat (σ a) g) (e : σ2 = zU σ a v.toNat w) (h0 : 0 ≤ v) (hw : w = g v.toNat) : zEq (v + 1).toNat (σ2 a) g := by
  intro j hj
  by_cases e2 : j = v.toNat
  · rw [e, e2, zU_eq]; exact hw
  · rw [e, zU_nk e2]; exact h j (by omega)
theorem zEq_zc {n : Int} {f g : Nat → Int} (h : zEq n.toNat f g) (hn : 515 ≤ n) : zc f = zc g ∧ f 488 = g 488 := by
  unfold zc
  exact ⟨by rw [h 480 (by omega), h 481 (by omega), h 482 (by omega), h 483 (by omega), h 484 (by omega), h 485 (by omega), h 486 (by omega)], h 488 (by omega)⟩
def zRva (f g c : Nat → Int) : Prop := ∀ t : Int, 0 ≤ t → t ≤ 5 → zRv f g (150 * t) (c t.toNat)
/-! the states of a game that is played to its end, in chains -/
def zCh (c b : Nat → Int) (n : Int) : Prop := (∀ k : Int, 0 ≤ k → k < n → -1 ≤ c k.toNat ∧ c k.toNat < k) ∧ ∀ h : Int, 0 ≤ h → h < 8192 → -1 ≤ b h.toNat ∧ b h.toNat < n
theorem zCh_n {c b : Nat → Int} {n m : Int} (h : zCh c b n) (e : n = m) : zCh c b m := e ▸ h
theorem zCh_c {c b : Nat → Int} {n k : Int} (h : zCh c b n) (h0 : 0 ≤ k) (h1 : k < n) : -1 ≤ c k.toNat ∧ c k.toNat < k := h.1 k h0 h1
theorem zCh_b {c b : Nat → Int} {n h : Int} (hc : zCh c b n) (h0 : 0 ≤ h) (h1 : h < 8192) : -1 ≤ b h.toNat ∧ b h.toNat < n := hc.2 h h0 h1
theorem zCh_0 {σ : zS} {b : Nat} {n : Int} {c : Nat → Int} (h : zAll σ b n.toNat (-1)) (hn : 8192 ≤ n) : zCh c (σ b) 0 := ⟨fun k h0 h1 => by omega, fun j h0 h1 => by
  have := h j.toNat (by omega)
  omega⟩
theorem zCh_w {σ σ1 σ2 : zS} {A B : Nat} {n h : Int} (hc : zCh (σ A) (σ B) n) (e1 : σ1 = zU σ A n.toNat (σ B h.toNat)) (e2 : σ2 = zU σ1 B h.toNat n) (hAB : A ≠ B) (hn : 0 ≤ n) (h0 : 0 ≤ h) (h1 : h < 8192) : zCh (σ2 A) (σ2 B) (n + 1) := by
  obtain ⟨c1, c2⟩ := hc
  have eA : σ2 A = σ1 A := by rw [e2]; exact zU_ne hAB
  have eB : σ1 B = σ B := by rw [e1]; exact zU_ne (fun e => hAB e.symm)
  have hb := c2 h h0 h1
  refine ⟨fun k k0 k1 => ?_, fun j j0 j1 => ?_⟩
  · rw [eA, e1]
    by_cases e : k.toNat = n.toNat
    · rw [e, zU_eq]; omega
    · rw [zU_nk e]; exact c1 k k0 (by omega)
  · rw [e2]
    by_cases e : j.toNat = h.toNat
    · rw [e, zU_eq]; omega
    · rw [zU_nk e, eB]
      have := c2 j j0 j1
      omega
theorem zAll_zc {σ : zS} {b : Nat} {n : Int} (h : zAll σ b n.toNat 0) (hn : 515 ≤ n) : zc (σ b) = 0 ∧ σ b 480 = 0 ∧ σ b 481 = 0 ∧ σ b 482 = 0 ∧ σ b 483 = 0 ∧ σ b 484 = 0 ∧ σ b 485 = 0 ∧ σ b 486 = 0 ∧ σ b 488 = 0 := by
  have g : ∀ j, j < 515 → σ b j = 0 := fun j hj => h j (by omega)
  unfold zc
  rw [g 480 (by decide), g 481 (by decide), g 482 (by decide), g 483 (by decide), g 484 (by decide), g 485 (by decide), g 486 (by decide), g 488 (by decide)]
  decide
/-! texts: a text's number stands for its address -/
abbrev zTa (E : zE) (i : Nat) : Nat := E.2.2.2.1 i
abbrev zTb (E : zE) (i : Nat) : Nat := E.2.2.2.2 i
def tL (i : Nat) : Int := (tLen.getD i 0 : Nat)
def txC (i j : Nat) : Int := ((tByt.getD i []).getD j 0).toInt
def tOfn (i : Nat) : Nat → Int
  | 0 => 0
  | n + 1 => (zI ((zI (tOfn i n) <<< (zI 5 &&& 31)).toInt) ||| zI (txC i n - 96)).toInt
def tOf (i : Nat) : Int := tOfn i (tLen.getD i 0)
theorem tOf_ne : ∀ i, i < txN → tOf i ≠ 0 := by decide +kernel
theorem tOf_L (i : Nat) : tOfn i (tL i).toNat = tOf i := rfl
theorem tOfn_s {i : Nat} {n v w : Int} (h0 : 0 ≤ n) (hv : v = (zI (tOfn i n.toNat) <<< (zI 5 &&& 31)).toInt) (hw : w = (zI v ||| zI (txC i n.toNat - 96)).toInt) : w = tOfn i (n + 1).toNat := by
  rw [show (n + 1).toNat = n.toNat + 1 by omega, tOfn, ← hv]; exact hw
theorem tL_b : ∀ i, i < txN → 2 ≤ tL i ∧ tL i ≤ 6 := by decide
theorem tB_b : ∀ i, i < txN → ∀ j, j < tLen.getD i 0 → 97 ≤ ((tByt.getD i []).getD j 0).toInt ∧ ((tByt.getD i []).getD j 0).toInt ≤ 122 := by decide +kernel
section JTX
variable {X : zX} {E : zE} {own : String} {y : MethodName} {cc : ByteArray} {nL : Nat} {ret : Option FieldType} {R : Room} {Γ : zG} {σ : zS} {k n : Nat} {L : List (Nat × Value)} {pc pc2 i : Nat} {st : List Value}
theorem hxT (hx : CX X E own y cc nL ret R) : zTx E (xs X) (xs X).heap := hx.2.2.2.2.2.1.2.2.1.2
theorem j_ldcT (hx : CX X E own y cc nL ret R) {idx i : Nat} (c : Nat) (hi : c < tK9) (ho : tOwn c = own) (hk : tIdx c = idx) (hm : tMap c = i) (d : Dc cc pc (.ldc idx) 2 pc2) (kk : JJ X E nL Γ σ k n L pc2 (.ref (zTa E i) :: st)) : JJ X E nL Γ σ k n L pc st := by
  intro H locs ls hR hS hl
  obtain ⟨d1, rfl⟩ := d
  have h := (hxT hx).2.1 c hi
  rw [ho, hk, hm] at h
  exact va_ldcS hx.1 hx.2.1 hx.2.2.2.1 h d1 (kk H locs ls hR hS hl)
theorem j_ldcwT (hx : CX X E own y cc nL ret R) {idx i : Nat} (c : Nat) (hi : c < tK9) (ho : tOwn c = own) (hk : tIdx c = idx) (hm : tMap c = i) (d : Dc cc pc (.ldc_w idx) 3 pc2) (kk : JJ X E nL Γ σ k n L pc2 (.ref (zTa E i) :: st)) : JJ X E nL Γ σ k n L pc st := by
  intro H locs ls hR hS hl
  obtain ⟨d1, rfl⟩ := d
  have h := (hxT hx).2.1 c hi
  rw [ho, hk, hm] at h
  have k2 := kk H locs ls hR hS hl
  unfold WX at k2 ⊢
  intro T hT X1
  obtain ⟨t, a1, b1⟩ := k2 T hT X1
  exact ⟨t, X1.ldcStringW hx.1 hx.2.2.2.1 (text := tTxt c) (a := zTa E i) h.1 h.2 (g := F0 (xm X) pc ls st) rfl (by rw [hx.2.1]; exact d1) t a1, b1⟩
theorem j_getTv (hx : CX X E own y cc nL ret R) {idx : Nat} (hi : i < txN) (hw : Cond.fieldLink own idx "java/lang/String" "value" "[B" ∈ tblG) (d : Dc cc pc (.getfield idx) 3 pc2) (kk : JJ X E nL Γ σ k n L pc2 (.ref (zTb E i) :: st)) : JJ X E nL Γ σ k n L pc (.ref (zTa E i) :: st) := by
  intro H locs ls hR hS hl
  obtain ⟨d1, rfl⟩ := d
  exact vk_getf hx.1 hx.2.1 ((hxT hx).1.1 i hi).2.2.1 hS hx.2.2.2.1 (hx.2.2.2.2.1 _ hw) (fun _ h => h) d1 (kk H locs ls hR hS hl)
theorem j_getTc (hx : CX X E own y cc nL ret R) {idx : Nat} (hi : i < txN) (hw : Cond.fieldLink own idx "java/lang/String" "coder" "B" ∈ tblG) (d : Dc cc pc (.getfield idx) 3 pc2) (kk : JJ X E nL Γ σ k n L pc2 (.int (zI 0) :: st)) : JJ X E nL Γ σ k n L pc (.ref (zTa E i) :: st) := by
  intro H locs ls hR hS hl
  obtain ⟨d1, rfl⟩ := d
  exact vk_getf hx.1 hx.2.1 ((hxT hx).1.1 i hi).2.1 hS hx.2.2.2.1 (hx.2.2.2.2.1 _ hw) (fun _ h => h) d1 (kk H locs ls hR hS hl)
theorem j_getsC (hx : CX X E own y cc nL ret R) {idx : Nat} (hw : Cond.fieldLink own idx "java/lang/String" "COMPACT_STRINGS" "Z" ∈ tblG) (d : Dc cc pc (.getstatic idx) 3 pc2) (kk : JJ X E nL Γ σ k n L pc2 (.int (zI 1) :: st)) : JJ X E nL Γ σ k n L pc st := by
  intro H locs ls hR hS hl
  obtain ⟨d1, rfl⟩ := d
  exact va_gets hx.1 hx.2.1 (hxT hx).2.2.1 hS hx.2.2.2.1 (hx.2.2.2.2.1 _ hw) (fun _ h => h) d1 (kk H locs ls hR hS hl)
theorem j_getsF (hx : CX X E own y cc nL ret R) {idx : Nat} (hw : Cond.fieldLink own idx "jdk/internal/util/Preconditions" "SIOOBE_FORMATTER" "Ljava/util/function/BiFunction;" ∈ tblG) (d : Dc cc pc (.getstatic idx) 3 pc2) (kk : ∀ o : Option Nat, JJ X E nL Γ σ k n L pc2 (va_rf o :: st)) : JJ X E nL Γ σ k n L pc st := by
  intro H locs ls hR hS hl
  obtain ⟨d1, rfl⟩ := d
  rcases (hxT hx).2.2.2 with h | ⟨t, h⟩
  · exact va_gets hx.1 hx.2.1 h hS hx.2.2.2.1 (hx.2.2.2.2.1 _ hw) (fun _ h => h) d1 (kk none H locs ls hR hS hl)
  · exact va_gets hx.1 hx.2.1 h hS hx.2.2.2.1 (hx.2.2.2.2.1 _ hw) (fun _ h => h) d1 (kk (some t) H locs ls hR hS hl)
theorem j_alenT (hx : CX X E own y cc nL ret R) (hi : i < txN) (d : Dc cc pc .arraylength 1 pc2) (kk : JJ X E nL Γ σ k n L pc2 (.int (zI (tL i)) :: st)) : JJ X E nL Γ σ k n L pc (.ref (zTb E i) :: st) := by
  intro H locs ls hR hS hl
  obtain ⟨d1, rfl⟩ := d
  exact va_tlen hx.1 hx.2.1 ((hxT hx).1.1 i hi).2.2.2 hS (v := zI (tL i)) rfl d1 (kk H locs ls hR hS hl)
theorem j_baldT (hx : CX X E own y cc nL ret R) (hi : i < txN) {j : Int} (h0 : 0 ≤ j) (h1 : j < tL i) (d : Dc cc pc .baload 1 pc2) (kk : ∀ v : Int, 97 ≤ v → v ≤ 122 → v = txC i j.toNat → JJ X E nL Γ σ k n L pc2 (.int (zI v) :: st)) : JJ X E nL Γ σ k n L pc (.int (zI j) :: .ref (zTb E i) :: st) := by
  intro H locs ls hR hS hl
  obtain ⟨d1, rfl⟩ := d
  have hb := tL_b i hi
  have hj : j.toNat < tLen.getD i 0 := by unfold tL at h1; omega
  have hv := tB_b i hi j.toNat hj
  have hn : (zI j).toNatClampNeg = j.toNat := zI_nat h0 (by omega)
  have k2 := kk _ hv.1 hv.2 rfl H locs ls hR hS hl
  rw [zI_self] at k2
  exact va_tb hx.1 hx.2.1 ((hxT hx).1.1 i hi).2.2.2 hS (zI_in h0 (by unfold tL at h1; omega) (by unfold tL at hb; omega)) (v := .int ((tByt.getD i []).getD j.toNat 0)) (by rw [hn]) d1 k2
theorem j_iorE (hx : CX X E own y cc nL ret R) {a b : Int} (d : Dc cc pc .ior 1 pc2) (kk : ∀ v : Int, -2147483648 ≤ v → v ≤ 2147483647 → v = (zI a ||| zI b).toInt → JJ X E nL Γ σ k n L pc2 (.int (zI v) :: st)) : JJ X E nL Γ σ k n L pc (.int (zI b) :: .int (zI a) :: st) := by
  intro H locs ls hR hS hl
  obtain ⟨d1, rfl⟩ := d
  exact lv_ior hx.1 hx.2.1 d1 (j_any (fun v h1 h2 h3 => kk v h1 h2 h3) H locs ls hR hS hl)
theorem j_ishlE (hx : CX X E own y cc nL ret R) {a b : Int} (d : Dc cc pc .ishl 1 pc2) (kk : ∀ v : Int, -2147483648 ≤ v → v ≤ 2147483647 → v = (zI a <<< (zI b &&& 31)).toInt → JJ X E nL Γ σ k n L pc2 (.int (zI v) :: st)) : JJ X E nL Γ σ k n L pc (.int (zI b) :: .int (zI a) :: st) := by
  intro H locs ls hR hS hl
  obtain ⟨d1, rfl⟩ := d
  exact lv_ishl hx.1 hx.2.1 d1 (j_any (fun v h1 h2 h3 => kk v h1 h2 h3) H locs ls hR hS hl)
theorem zi2c : ∀ m : Nat, m < 256 → ((zI (m : Int)).toUInt32 % 65536).toInt32 = zI (m : Int) := by decide +kernel
theorem j_i2c (hx : CX X E own y cc nL ret R) {a : Int} (h0 : 0 ≤ a) (h1 : a ≤ 255) (d : Dc cc pc .i2c 1 pc2) (kk : JJ X E nL Γ σ k n L pc2 (.int (zI a) :: st)) : JJ X E nL Γ σ k n L pc (.int (zI a) :: st) := by
  intro H locs ls hR hS hl
  obtain ⟨d1, rfl⟩ := d
  have h := zi2c a.toNat (by omega)
  rw [show ((a.toNat : Nat) : Int) = a by omega] at h
  exact lv_i2c hx.1 hx.2.1 d1 h (kk H locs ls hR hS hl)
theorem j_bret (hx : CX X E own y cc nL ret R) {rm : Room} {PP : Option Value → zG → zS → Prop} (hq : CR X E rm PP) {ty : FieldType} (hret : ret = some ty) (hk : k ≤ rm.cells) (hn : n ≤ rm.slots) (d : Dc cc pc .ireturn 1 pc2) {v : Int} (hv : narrow ty (.int (zI v)) = .int (zI v)) (hp : PP (some (.int (zI v))) Γ σ) : JJ X E nL Γ σ k n L pc [.int (zI v)] := by
  intro H locs ls hR hS hl
  exact j_end hq hk hn (W.zret hx.1 hx.2.1 (hx.2.2.2.2.2.2.2.1.trans hret) hv (fun t ht _ => ⟨⟨_, Γ, σ, rfl, hp, by rw [ht]; exact hR⟩, hS.F ht⟩) hS.2.2 d.1 hx.2.2.2.2.2.2.1)
/-- a call on a text -/
theorem zrecvT (hx : CX X E own y cc nL ret R) (hi : i < txN) {H : Heap} {locs : List Loc} (hS : va_S (zA E) (xs X).heap H locs) : ∃ cell : Cell, H[zTa E i]? = some cell ∧ cell.vm.isStatics = false ∧ (xs X).vm.findClass "java/lang/String" = some cell.cls := vk_recv (hxT hx).1 hi hS
theorem j_callVT (hx : CX X E own y cc nL ret R) {rest : List Value} {idx na nLb : Nat} {yb : MethodName} {ccb : ByteArray} {retb : Option FieldType} {rmb : Room} {Pre : zG → zS → List Value → Prop} {Post : zG → zS → List Value → Option Value → zG → zS → Prop} (con : Con E (xl X) yb ccb nLb retb rmb Pre Post) (lk : LkV own idx "java/lang/String" yb ccb nLb retb na) (hi : i < txN) (vs : List Value) (hpre : Pre Γ σ (.ref (zTa E i) :: vs)) (hna : vs.length = na) (hst : st = vs.reverse ++ .ref (zTa E i) :: rest) (hrm : rmb.frames + 1 ≤ R.frames ∧ 8 + (nLb + 11) + rmb.locals ≤ R.locals) (hf : k + rmb.cells ≤ R.cells ∧ n + rmb.slots ≤ R.slots) {k2 n2 : Nat} (hk2 : k + rmb.cells = k2) (hn2 : n + rmb.slots = n2) (hw : (rest.map fun v => v.category).sum ≤ 8) (d : Dc cc pc (.invokevirtual idx) 3 pc2) (kk : ∀ v Γ2 σ2, Post Γ σ (.ref (zTa E i) :: vs) v Γ2 σ2 → JJ X E nL Γ2 σ2 k2 n2 L pc2 (v.toList ++ rest)) : JJ X E nL Γ σ k n L pc st := by
  obtain ⟨l1, l2, l3, l4, l5, l6, l7, l8, l9⟩ := lk
  obtain ⟨rfl⟩ : xR X = R := hx.2.2.2.2.2.2.2.2.2.1
  have ok := hx.2.2.2.2.1
  refine j_run hk2 hn2 (PP := Post Γ σ (.ref (zTa E i) :: vs)) (a := (Value.ref (zTa E i) :: vs).toArray) d.2 (fun H locs ls hR hS hl => ?_) kk
  exact va_runV ⟨hx.1, hx.2.1, hx.2.2.1, hx.2.2.2.1, ok⟩ (con Γ σ _ hpre) ⟨callB_of na ok (zcode l5) rfl rfl rfl (ok _ (l6 ▸ l4)) (ok _ l1) ⟨l7, l8, l9⟩ hrm, ok _ l2, ok _ (l6 ▸ l3)⟩ ⟨zblind, l6 ▸ zrecvT hx hi hS, zcallee hx hR hS (.ref (zTa E i) :: vs)⟩ rfl hna hl.1 hst (lv_room hw) d.1 hf
end JTX
