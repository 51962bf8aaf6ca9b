/-! p27: ranges, counts -/
theorem zaQ {Γ : zG} {σ : zS} {a t j : Nat} {lo hi i m : Int} (hS : zSK Γ σ) (ht : gT Γ a = t) (h : aq t j = some (lo, hi)) (hm : (gN Γ a : Int) = m) (h0 : 0 ≤ i) (h1 : i < m) (hj : i.toNat = j) : lo ≤ σ a j ∧ σ a j ≤ hi := hS.2.1 a j (lo, hi) (by omega) (by rw [ht]; exact h)
theorem zSK_cq {Γ : zG} {σ σd : zS} {a b k j2 t t2 : Nat} {v : Int} (hS : zSK Γ σ) (hSd : zSK Γ σd) (ht : gT Γ a = t) (hb : gT Γ b = t2) (h1 : ∀ j, fq t j = none) (h2 : dq t = none) (h3 : aq t k = aq t2 j2) (hk : j2 < gN Γ b) (hv : v = σd b j2) : zSK Γ (zU σ a k v) := by
  subst hv
  refine ⟨fun c j r hr => ?_, fun c j r hj hr => ?_, fun c j r hj hr => ?_⟩
  · by_cases hc : c = a
    · subst hc; rw [ht, h1] at hr; cases hr
    · rw [zU_ne hc]; exact hS.1 c j r hr
  · by_cases hc : c = a ∧ j = k
    · obtain ⟨rfl, rfl⟩ := hc
      rw [zU_eq]
      exact hSd.2.1 b j2 r hk (by rw [hb, ← h3, ← ht]; exact hr)
    · rw [zU_at (by omega)]; exact hS.2.1 c j r hj hr
  · by_cases hc : c = a
    · subst hc; rw [ht, h2] at hr; cases hr
    · rw [zU_ne hc]; exact hS.2.2 c j r hj hr
/-- the cards of all rows, heaps, the pool -/
def zc (f : Nat → Int) : Int := f 480 + f 481 + f 482 + f 483 + f 484 + f 485 + f 486
theorem zc_o {σ : zS} {a k : Nat} {v : Int} (h : k < 480 ∨ 486 < k) : zc (zU σ a k v a) = zc (σ a) := by
  unfold zc
  rw [zU_nk (show 480 ≠ k by omega), zU_nk (show 481 ≠ k by omega), zU_nk (show 482 ≠ k by omega), zU_nk (show 483 ≠ k by omega), zU_nk (show 484 ≠ k by omega), zU_nk (show 485 ≠ k by omega), zU_nk (show 486 ≠ k by omega)]
theorem zc_w {σ : zS} {a k : Nat} {v : Int} (h1 : 480 ≤ k) (h2 : k ≤ 486) : zc (zU σ a k v a) = zc (σ a) - σ a k + v := by
  have h : ∀ j, zU σ a k v a j = if j = k then v else σ a j := fun j => by
    by_cases e : j = k
    · rw [e, zU_eq, if_pos rfl]
    · rw [zU_nk e, if_neg e]
  unfold zc
  simp only [h]
  rcases (show k = 480 ∨ k = 481 ∨ k = 482 ∨ k = 483 ∨ k = 484 ∨ k = 485 ∨ k = 486 by omega) with rfl | rfl | rfl | rfl | rfl | rfl | rfl
  all_goals (simp <;> omega)
theorem zc_1 {Γ : zG} {σ : zS} {a j : Nat} (hS : zSK Γ σ) (ht : gT Γ a = 84) (hn : gN Γ a = 515) (h1 : 480 ≤ j) (h2 : j ≤ 486) : 0 ≤ σ a j ∧ σ a j ≤ zc (σ a) := by
  have h : ∀ i, 480 ≤ i → i ≤ 486 → 0 ≤ σ a i := fun i h3 h4 => (hS.2.1 a i (0, 60) (by omega) (by rw [ht]; exact congrArg some (axS_2 i ⟨h3, h4⟩))).1
  have g0 := h 480 (by omega) (by omega); have g1 := h 481 (by omega) (by omega); have g2 := h 482 (by omega) (by omega); have g3 := h 483 (by omega) (by omega); have g4 := h 484 (by omega) (by omega); have g5 := h 485 (by omega) (by omega); have g6 := h 486 (by omega) (by omega)
  unfold zc
  rcases (show j = 480 ∨ j = 481 ∨ j = 482 ∨ j = 483 ∨ j = 484 ∨ j = 485 ∨ j = 486 by omega) with rfl | rfl | rfl | rfl | rfl | rfl | rfl
  all_goals omega
theorem zc_2 {Γ : zG} {σ : zS} {a i j : Nat} (hS : zSK Γ σ) (ht : gT Γ a = 84) (hn : gN Γ a = 515) (h1 : 480 ≤ j) (h2 : j ≤ 486) (h3 : 480 ≤ i) (h4 : i ≤ 486) (hij : i ≠ j) : σ a i + σ a j ≤ zc (σ a) := by
  have h : ∀ i, 480 ≤ i → i ≤ 486 → 0 ≤ σ a i := fun i h3 h4 => (hS.2.1 a i (0, 60) (by omega) (by rw [ht]; exact congrArg some (axS_2 i ⟨h3, h4⟩))).1
  have g0 := h 480 (by omega) (by omega); have g1 := h 481 (by omega) (by omega); have g2 := h 482 (by omega) (by omega); have g3 := h 483 (by omega) (by omega); have g4 := h 484 (by omega) (by omega); have g5 := h 485 (by omega) (by omega); have g6 := h 486 (by omega) (by omega)
  unfold zc
  rcases (show j = 480 ∨ j = 481 ∨ j = 482 ∨ j = 483 ∨ j = 484 ∨ j = 485 ∨ j = 486 by omega) with rfl | rfl | rfl | rfl | rfl | rfl | rfl
  all_goals (rcases (show i = 480 ∨ i = 481 ∨ i = 482 ∨ i = 483 ∨ i = 484 ∨ i = 485 ∨ i = 486 by omega) with rfl | rfl | rfl | rfl | rfl | rfl | rfl)
  all_goals omega
/-- from a place on nothing has changed, but at some places -/
def zHi (n : Nat) (xs : List Nat) (f g : Nat → Int) : Prop := ∀ j, n ≤ j → j ∉ xs → g j = f j
theorem zHi_rf {n : Nat} {xs : List Nat} {f : Nat → Int} : zHi n xs f f := fun _ _ _ => rfl
theorem zHi_t {n : Nat} {xs : List Nat} {f g h : Nat → Int} (h1 : zHi n xs f g) (h2 : zHi n xs g h) : zHi n xs f h := fun j hj hx => (h2 j hj hx).trans (h1 j hj hx)
theorem zHi_w {n : Nat} {xs ys : List Nat} {f g : Nat → Int} (h1 : zHi n xs f g) (h : ∀ j, n ≤ j → j ∉ ys → j ∉ xs) : zHi n ys f g := fun j hj hx => h1 j hj (h j hj hx)
theorem zHi_u {n : Nat} {xs : List Nat} {σ : zS} {a k : Nat} {v : Int} {f : Nat → Int} (h1 : zHi n xs f (σ a)) (h : k < n ∨ k ∈ xs) : zHi n xs f (zU σ a k v a) := fun j hj hx => by
  have e : j ≠ k := fun e => by
    rcases h with h | h
    · omega
    · exact hx (e ▸ h)
  rw [zU_nk e]; exact h1 j hj hx
theorem zHi_zc {f g : Nat → Int} (h : zHi 420 [] f g) : zc g = zc f := by
  unfold zc
  rw [h 480 (by omega) (by simp), h 481 (by omega) (by simp), h 482 (by omega) (by simp), h 483 (by omega) (by simp), h 484 (by omega) (by simp), h 485 (by omega) (by simp), h 486 (by omega) (by simp)]
/-! plans: how deep the stack stands -/
def zRp (f : Nat → Int) (o : Int) : Nat → Int
  | 0 => 0
  | n + 1 => if f (o + n).toNat = 20 then zRp f o n else if 20 < f (o + n).toNat then zRp f o n - 1 else zRp f o n + 1
theorem zRp_le (f : Nat → Int) (o : Int) (n : Nat) : zRp f o n ≤ n := by
  induction n with
  | zero => exact Int.le_refl _
  | succ n ih =>
    rw [zRp]
    split
    · omega
    · split <;> omega
def zRv (f g : Nat → Int) (o n : Int) : Prop := ∀ q : Int, o ≤ q → q < o + n → (f q.toNat = 20 → 1 ≤ zRp f o (q - o).toNat) ∧ (20 < f q.toNat → 2 ≤ zRp f o (q - o).toNat) ∧ (f q.toNat < 20 → f q.toNat < 1 ∨ 10 < f q.toNat → 1 ≤ g q.toNat)
theorem zRv_at {f g : Nat → Int} {o n q : Int} (h : zRv f g o n) (h0 : o ≤ q) (h1 : q < o + n) : (f q.toNat = 20 → 1 ≤ zRp f o (q - o).toNat ∧ zRp f o (q + 1 - o).toNat = zRp f o (q - o).toNat) ∧ (20 < f q.toNat → 2 ≤ zRp f o (q - o).toNat ∧ zRp f o (q + 1 - o).toNat = zRp f o (q - o).toNat - 1) ∧ (f q.toNat < 20 → zRp f o (q + 1 - o).toNat = zRp f o (q - o).toNat + 1) ∧ (f q.toNat < 20 → f q.toNat < 1 ∨ 10 < f q.toNat → 1 ≤ g q.toNat) ∧ zRp f o (q - o).toNat ≤ q - o := by
  obtain ⟨a1, a2, a3⟩ := h q h0 h1
  have e : (q + 1 - o).toNat = (q - o).toNat + 1 := by omega
  have e2 : o + ((q - o).toNat : Int) = q := by omega
  have e3 := zRp_le f o (q - o).toNat
  refine ⟨fun hf => ⟨a1 hf, ?_⟩, fun hf => ⟨a2 hf, ?_⟩, fun hf => ?_, a3, by omega⟩
  · rw [e, zRp, e2, if_pos hf]
  · rw [e, zRp, e2, if_neg (by omega), if_pos hf]
  · rw [e, zRp, e2, if_neg (by omega), if_neg (by omega)]
theorem zRp_cg {f f2 : Nat → Int} {o o2 : Int} (n : Nat) (h : ∀ i : Nat, i < n → f2 (o2 + i).toNat = f (o + i).toNat) : zRp f2 o2 n = zRp f o n := by
  induction n with
  | zero => rfl
  | succ n ih =>
    rw [zRp, zRp, h n (Nat.lt_succ_self n), ih (fun i hi => h i (Nat.lt_succ_of_lt hi))]
theorem zRv_cg {f g f2 g2 : Nat → Int} {o o2 n : Int} (h : zRv f g o n) (ho : 0 ≤ o) (ho2 : 0 ≤ o2) (e1 : ∀ i : Nat, (i : Int) < n → f2 (o2 + i).toNat = f (o + i).toNat) (e2 : ∀ i : Nat, (i : Int) < n → g2 (o2 + i).toNat = g (o + i).toNat) : zRv f2 g2 o2 n := by
  intro q h0 h1
  have hi : ((q - o2).toNat : Int) < n := by omega
  have h3 := h (o + (q - o2).toNat) (by omega) (by omega)
  have e3 := e1 _ hi
  have e4 := e2 _ hi
  have e5 : o2 + ((q - o2).toNat : Int) = q := by omega
  have e6 : (o + ((q - o2).toNat : Int) - o).toNat = (q - o2).toNat := by omega
  rw [e5] at e3 e4
  rw [e6] at h3
  rw [e3, e4, zRp_cg (q - o2).toNat (fun i hi2 => e1 i (by omega))]
  exact h3
theorem zRv_0 {f g : Nat → Int} {o : Int} : zRv f g o 0 := fun q h0 h1 => by omega
/-- the first places of two rows are alike -/
def zEq (n : Nat) (f g : Nat → Int) : Prop := ∀ j, j < n → f j = g j
theorem zEq_0 {n : Int} {f g : Nat → Int} (h : n ≤ 0) : zEq n.toNat f g := fun j hj => by omega
theorem zEq_s {σ σ2 : zS} {a : Nat} {v w : Int} {g : Nat → Int} (h : zEq v.toNat (σ a) g) (e : σ2 = zU σ a v.toNat w) (h0 : 0 ≤ v) (hw : w = g v.toNat) : zEq (v + 1).toNat (σ2 a) g := by
  intro j hj
  by_cases e2 : j = v.toNat
  · rw [e, e2, zU_eq]; exact hw
  · rw [e, zU_nk e2]; exact h j (by omega)
theorem zEq_zc {n : Int} {f g : Nat → Int} (h : zEq n.toNat f g) (hn : 515 ≤ n) : zc f = zc g ∧ f 488 = g 488 := by
  unfold zc
  exact ⟨by rw [h 480 (by omega), h 481 (by omega), h 482 (by omega), h 483 (by omega), h 484 (by omega), h 485 (by omega), h 486 (by omega)], h 488 (by omega)⟩
def zRva (f g c : Nat → Int) : Prop := ∀ t : Int, 0 ≤ t → t ≤ 5 → zRv f g (150 * t) (c t.toNat)
/-! the states of a game that is played to its end, in chains -/
def zCh (c b : Nat → Int) (n : Int) : Prop := (∀ k : Int, 0 ≤ k → k < n → -1 ≤ c k.toNat ∧ c k.toNat < k) ∧ ∀ h : Int, 0 ≤ h → h < 8192 → -1 ≤ b h.toNat ∧ b h.toNat < n
theorem zCh_n {c b : Nat → Int} {n m : Int} (h : zCh c b n) (e : n = m) : zCh c b m := e ▸ h
theorem zCh_c {c b : Nat → Int} {n k : Int} (h : zCh c b n) (h0 : 0 ≤ k) (h1 : k < n) : -1 ≤ c k.toNat ∧ c k.toNat < k := h.1 k h0 h1
theorem zCh_b {c b : Nat → Int} {n h : Int} (hc : zCh c b n) (h0 : 0 ≤ h) (h1 : h < 8192) : -1 ≤ b h.toNat ∧ b h.toNat < n := hc.2 h h0 h1
theorem zCh_0 {σ : zS} {b : Nat} {n : Int} {c : Nat → Int} (h : zAll σ b n.toNat (-1)) (hn : 8192 ≤ n) : zCh c (σ b) 0 := ⟨fun k h0 h1 => by omega, fun j h0 h1 => by
  have := h j.toNat (by omega)
  omega⟩
theorem zCh_w {σ σ1 σ2 : zS} {A B : Nat} {n h : Int} (hc : zCh (σ A) (σ B) n) (e1 : σ1 = zU σ A n.toNat (σ B h.toNat)) (e2 : σ2 = zU σ1 B h.toNat n) (hAB : A ≠ B) (hn : 0 ≤ n) (h0 : 0 ≤ h) (h1 : h < 8192) : zCh (σ2 A) (σ2 B) (n + 1) := by
  obtain ⟨c1, c2⟩ := hc
  have eA : σ2 A = σ1 A := by rw [e2]; exact zU_ne hAB
  have eB : σ1 B = σ B := by rw [e1]; exact zU_ne (fun e => hAB e.symm)
  have hb := c2 h h0 h1
  refine ⟨fun k k0 k1 => ?_, fun j j0 j1 => ?_⟩
  · rw [eA, e1]
    by_cases e : k.toNat = n.toNat
    · rw [e, zU_eq]; omega
    · rw [zU_nk e]; exact c1 k k0 (by omega)
  · rw [e2]
    by_cases e : j.toNat = h.toNat
    · rw [e, zU_eq]; omega
    · rw [zU_nk e, eB]
      have := c2 j j0 j1
      omega
theorem zAll_zc {σ : zS} {b : Nat} {n : Int} (h : zAll σ b n.toNat 0) (hn : 515 ≤ n) : zc (σ b) = 0 ∧ σ b 480 = 0 ∧ σ b 481 = 0 ∧ σ b 482 = 0 ∧ σ b 483 = 0 ∧ σ b 484 = 0 ∧ σ b 485 = 0 ∧ σ b 486 = 0 ∧ σ b 488 = 0 := by
  have g : ∀ j, j < 515 → σ b j = 0 := fun j hj => h j (by omega)
  unfold zc
  rw [g 480 (by decide), g 481 (by decide), g 482 (by decide), g 483 (by decide), g 484 (by decide), g 485 (by decide), g 486 (by decide), g 488 (by decide)]
  decide
/-! boards that are laid aside, one for each turn ahead -/
def zcs (f : Nat → Int) (i : Nat) : Int := zc (fun j => f (515 * i + j))
def zDp (f : Nat → Int) : Prop := ∀ i : Nat, i < 13 → zcs f i ≤ 60 ∧ f (515 * i + 488) ≤ 590000 + i
def zDx (L : Nat) (f : Nat → Int) : Prop := ∀ i : Nat, i < 13 → i ≠ L → zcs f i ≤ 60 ∧ f (515 * i + 488) ≤ 590000 + i
def zEo (n : Nat) (f g : Nat → Int) (o : Int) : Prop := ∀ j : Nat, j < n → f (j + o).toNat = g j
def zEp (n : Nat) (f g : Nat → Int) (o : Int) : Prop := ∀ j : Nat, j < n → f j = g (j + o).toNat
theorem zDx_of {L : Nat} {f : Nat → Int} (h : zDp f) : zDx L f := fun i hi _ => h i hi
theorem zDx_s {L : Nat} {σ σ2 : zS} {a k : Nat} {w : Int} (h : zDx L (σ a)) (e : σ2 = zU σ a k w) (hk : 515 * L ≤ k ∧ k < 515 * L + 515) : zDx L (σ2 a) := by
  intro i hi hL
  obtain ⟨h1, h2⟩ := h i hi hL
  have hne : ∀ j, j < 515 → 515 * i + j ≠ k := fun j hj => by omega
  have g : ∀ j, j < 515 → σ2 a (515 * i + j) = σ a (515 * i + j) := fun j hj => by rw [e]; exact zU_nk (hne j hj)
  refine ⟨?_, by rw [g 488 (by decide)]; exact h2⟩
  unfold zcs zc at h1 ⊢
  dsimp only at h1 ⊢
  rw [g 480 (by decide), g 481 (by decide), g 482 (by decide), g 483 (by decide), g 484 (by decide), g 485 (by decide), g 486 (by decide)]
  exact h1
theorem zEo_0 {n o : Int} {f g : Nat → Int} (h : n ≤ 0) : zEo n.toNat f g o := fun j hj => by omega
theorem zEp_0 {n o : Int} {f g : Nat → Int} (h : n ≤ 0) : zEp n.toNat f g o := fun j hj => by omega
theorem zEo_s {σ σ2 : zS} {a k : Nat} {v w o : Int} {g : Nat → Int} (h : zEo v.toNat (σ a) g o) (e : σ2 = zU σ a k w) (h0 : 0 ≤ v ∧ 0 ≤ o) (hk : k = (v + o).toNat) (hw : w = g v.toNat) : zEo (v + 1).toNat (σ2 a) g o := by
  intro j hj
  by_cases e2 : j = v.toNat
  · rw [e, show ((j : Int) + o).toNat = k by omega, zU_eq, e2]; exact hw
  · rw [e, zU_nk (by omega)]; exact h j (by omega)
theorem zEp_s {σ σ2 : zS} {a k : Nat} {v w o : Int} {g : Nat → Int} (h : zEp v.toNat (σ a) g o) (e : σ2 = zU σ a v.toNat w) (h0 : 0 ≤ v ∧ 0 ≤ o) (hk : k = (v + o).toNat) (hw : w = g k) : zEp (v + 1).toNat (σ2 a) g o := by
  intro j hj
  by_cases e2 : j = v.toNat
  · rw [e, e2, zU_eq, hw, hk]; congr 1; omega
  · rw [e, zU_nk e2]; exact h j (by omega)
theorem zDp_in {L : Nat} {f g : Nat → Int} {n o : Int} (h : zDx L f) (h2 : zEo n.toNat f g o) (hn : 515 ≤ n ∧ o = 515 * L) (hz : zc g ≤ 60) (ht : g 488 ≤ 590000 + L) : zDp f := by
  intro i hi
  by_cases e : i = L
  · subst e
    have q : ∀ j, j < 515 → f (515 * i + j) = g j := fun j hj => by
      have := h2 j (by omega)
      rw [show ((j : Int) + o).toNat = 515 * i + j by omega] at this
      exact this
    refine ⟨?_, by rw [q 488 (by decide)]; exact ht⟩
    unfold zcs zc
    unfold zc at hz
    dsimp only
    rw [q 480 (by decide), q 481 (by decide), q 482 (by decide), q 483 (by decide), q 484 (by decide), q 485 (by decide), q 486 (by decide)]
    exact hz
  · exact h i hi e
theorem zEp_zc {L : Nat} {f g : Nat → Int} {n : Int} (h : zEp n.toNat f g (515 * L : Nat)) (hn : 515 ≤ n) (hD : zDp g) (hL : L < 13) : zc f ≤ 60 ∧ f 488 ≤ 590000 + L := by
  obtain ⟨h1, h2⟩ := hD L hL
  have q : ∀ j, j < 515 → f j = g (515 * L + j) := fun j hj => by
    have := h j (by omega)
    rw [show ((j : Int) + ((515 * L : Nat) : Int)).toNat = 515 * L + j by omega] at this
    exact this
  refine ⟨?_, by rw [q 488 (by decide)]; exact h2⟩
  unfold zcs zc at h1
  dsimp only at h1
  unfold zc
  rw [q 480 (by decide), q 481 (by decide), q 482 (by decide), q 483 (by decide), q 484 (by decide), q 485 (by decide), q 486 (by decide)]
  exact h1
/-! a row laid into another one at a place; a row taken out of another one -/
def zPut (f g : Nat → Int) (q n : Int) : Nat → Int := fun j => if q ≤ j ∧ (j : Int) < q + n then g (j - q).toNat else f j
def zPt (h f g : Nat → Int) (q n : Int) : Prop := h = zPut f g q n
def zGet (f g : Nat → Int) (q n : Int) : Nat → Int := fun j => if (j : Int) < n then g (j + q).toNat else f j
def zPg (h f g : Nat → Int) (q n : Int) : Prop := h = zGet f g q n
theorem zPt_0 {h f g : Nat → Int} {q n : Int} (e : h = f) (hn : n ≤ 0) : zPt h f g q n := by
  funext j
  rw [e, zPut, if_neg (by omega)]
theorem zPt_n {h f g : Nat → Int} {q n m : Int} (e : zPt h f g q n) (hn : n = m) : zPt h f g q m := hn ▸ e
theorem zPt_s {σ σ2 : zS} {a k : Nat} {f g : Nat → Int} {q n w : Int} (h : zPt (σ a) f g q n) (e : σ2 = zU σ a k w) (h0 : 0 ≤ n) (hq : 0 ≤ q) (hk : k = (q + n).toNat) (hw : w = g n.toNat) : zPt (σ2 a) f g q (n + 1) := by
  funext j
  have hj := congrFun h j
  by_cases e2 : j = k
  · rw [e, e2, zU_eq, zPut, if_pos (by omega), hw]; congr 1; omega
  · rw [e, zU_nk e2, hj, zPut, zPut]
    by_cases e3 : q ≤ j ∧ (j : Int) < q + n
    · rw [if_pos e3, if_pos (by omega)]
    · rw [if_neg e3, if_neg (by omega)]
theorem zPg_0 {h f g : Nat → Int} {q n : Int} (e : h = f) (hn : n ≤ 0) : zPg h f g q n := by
  funext j
  rw [e, zGet, if_neg (by omega)]
theorem zPg_n {h f g : Nat → Int} {q n m : Int} (e : zPg h f g q n) (hn : n = m) : zPg h f g q m := hn ▸ e
theorem zPg_s {σ σ2 : zS} {a k : Nat} {f g : Nat → Int} {q n w : Int} (h : zPg (σ a) f g q n) (e : σ2 = zU σ a n.toNat w) (h0 : 0 ≤ n ∧ 0 ≤ q) (hk : k = (n + q).toNat) (hw : w = g k) : zPg (σ2 a) f g q (n + 1) := by
  funext j
  have hj := congrFun h j
  by_cases e2 : j = n.toNat
  · rw [e, e2, zU_eq, zGet, if_pos (by omega), hw, hk]; congr 1; omega
  · rw [e, zU_nk e2, hj, zGet, zGet]
    by_cases e3 : (j : Int) < n
    · rw [if_pos e3, if_pos (by omega)]
    · rw [if_neg e3, if_neg (by omega)]
/-! a plan while it is read -/
def zNv (b : Int) (f g : Nat → Int) (n : Int) : Prop := b = -1 → zRv f g 0 n
theorem zNv_k {b b2 n n2 : Int} {f g : Nat → Int} (h : zNv b f g n) (hb : b2 = -1 → b = -1) (hn : b2 = -1 → n2 = n) : zNv b2 f g n2 := fun e => by rw [hn e]; exact h (hb e)
theorem zRp_up {f f2 : Nat → Int} {n : Nat} (h : ∀ i, i < n → f2 i = f i) : zRp f2 0 n = zRp f 0 n := zRp_cg n (fun i hi => by
  rw [show ((0 : Int) + (i : Int)).toNat = i by omega]; exact h i hi)
theorem zNv_e {σ σ1 σ2 : zS} {A B : Nat} {n w x : Int} (h : zRv (σ A) (σ B) 0 n) (e1 : σ1 = zU σ A n.toNat w) (e2 : σ2 = zU σ1 B n.toNat x) (hAB : A ≠ B) (h0 : 0 ≤ n) (c1 : w = 20 → 1 ≤ zRp (σ A) 0 n.toNat) (c2 : 20 < w → 2 ≤ zRp (σ A) 0 n.toNat) (c3 : w < 20 → w < 1 ∨ 10 < w → 1 ≤ x) : zRv (σ2 A) (σ2 B) 0 (n + 1) ∧ (w = 20 → zRp (σ2 A) 0 (n + 1).toNat = zRp (σ A) 0 n.toNat) ∧ (20 < w → zRp (σ2 A) 0 (n + 1).toNat = zRp (σ A) 0 n.toNat - 1) ∧ (w < 20 → zRp (σ2 A) 0 (n + 1).toNat = zRp (σ A) 0 n.toNat + 1) := by
  have eA : σ2 A = zU σ A n.toNat w A := by rw [e2, zU_ne hAB, e1]
  have eB : ∀ j, j ≠ n.toNat → σ2 B j = σ B j := fun j hj => by rw [e2, zU_nk hj, e1, zU_ne (fun e => hAB e.symm)]
  have eBn : σ2 B n.toNat = x := by rw [e2, zU_eq]
  have a1 : ∀ j, j ≠ n.toNat → σ2 A j = σ A j := fun j hj => by rw [eA, zU_nk hj]
  have a2 : σ2 A n.toNat = w := by rw [eA, zU_eq]
  have up : ∀ m : Nat, m ≤ n.toNat → zRp (σ2 A) 0 m = zRp (σ A) 0 m := fun m hm => zRp_up (fun i hi => a1 i (by omega))
  have en : (n + 1).toNat = n.toNat + 1 := by omega
  have e0 : ((0 : Int) + (n.toNat : Int)).toNat = n.toNat := by omega
  refine ⟨fun q q0 q1 => ?_, fun hw => ?_, fun hw => ?_, fun hw => ?_⟩
  · have eq : (q - 0).toNat = q.toNat := by omega
    rw [eq, up q.toNat (by omega)]
    by_cases hq : q.toNat = n.toNat
    · rw [hq, a2, eBn]; exact ⟨c1, c2, c3⟩
    · rw [a1 _ hq, eB _ hq]
      have := h q q0 (by omega)
      rw [eq] at this
      exact this
  · rw [en, zRp, e0, a2, if_pos hw, up _ (Nat.le_refl _)]
  · rw [en, zRp, e0, a2, if_neg (by omega), if_pos hw, up _ (Nat.le_refl _)]
  · rw [en, zRp, e0, a2, if_neg (by omega), if_neg (by omega), up _ (Nat.le_refl _)]
theorem zPt_nn {h f g : Nat → Int} {q n q2 n2 : Int} (e : zPt h f g q n) (e1 : q = q2) (e2 : n = n2) : zPt h f g q2 n2 := e1 ▸ e2 ▸ e
theorem zPg_nn {h f g : Nat → Int} {q n q2 n2 : Int} (e : zPg h f g q n) (e1 : q = q2) (e2 : n = n2) : zPg h f g q2 n2 := e1 ▸ e2 ▸ e
theorem zRv_n0 {f g : Nat → Int} {n : Int} (h : n = 0) : zRv f g 0 n := fun q h0 h1 => by omega
def zUc (c2 c : Nat → Int) (t n : Int) : Prop := c2 = fun j => if j = t.toNat then n else c j
theorem zUc_nn {c2 c : Nat → Int} {t n t2 n2 : Int} (e : zUc c2 c t n) (e1 : t = t2) (e2 : n = n2) : zUc c2 c t2 n2 := e1 ▸ e2 ▸ e
theorem zUc_of {σ σ2 : zS} {a : Nat} {c : Nat → Int} {t n : Int} (e : σ2 = zU σ a t.toNat n) (h : σ a = c) : zUc (σ2 a) c t n := by
  funext j
  rw [e]
  by_cases e2 : j = t.toNat
  · rw [e2, zU_eq, if_pos rfl]
  · rw [zU_nk e2, h, if_neg e2]
theorem zRva_in {f g f2 g2 c c2 N O : Nat → Int} {t n q m : Int} (h : zRva f g c) (p1 : zPt f2 f N q m) (p2 : zPt g2 g O q m) (hu : zUc c2 c t n) (hv : zRv N O 0 n) (hb : ∀ j, j < 6 → c j ≤ 150) (hq : q = 150 * t ∧ m = n ∧ 0 ≤ t ∧ 0 ≤ n ∧ n ≤ 150) : zRva f2 g2 c2 := by
  obtain ⟨rfl, rfl, t0, n0, n1⟩ := hq
  intro u u0 u1
  by_cases e : u = t
  · subst e
    rw [show c2 u.toNat = m by rw [show c2 = _ from hu]; exact if_pos rfl]
    refine zRv_cg hv (Int.le_refl _) (by omega) (fun i hi => ?_) (fun i hi => ?_)
    · rw [show f2 = _ from p1, zPut, if_pos (by omega)]; congr 1; omega
    · rw [show g2 = _ from p2, zPut, if_pos (by omega)]; congr 1; omega
  · rw [show c2 u.toNat = c u.toNat by rw [show c2 = _ from hu]; exact if_neg (by omega)]
    have h3 := h u u0 u1
    have hb2 := hb u.toNat (by omega)
    refine zRv_cg h3 (by omega) (by omega) (fun i hi => ?_) (fun i hi => ?_)
    · rw [show f2 = _ from p1, zPut, if_neg (by omega)]
    · rw [show g2 = _ from p2, zPut, if_neg (by omega)]
/-! the quickness of each player -/
def zQn (f : Nat → Int) (n : Int) : Prop := ∀ p : Int, 0 ≤ p → p < n → 1 ≤ f (4 * p).toNat ∧ f (4 * p).toNat ≤ 9
def zQi (b : Int) (f : Nat → Int) (n : Int) : Prop := b = -1 → zQn f n
theorem zQn_nn {f : Nat → Int} {n m : Int} (h : zQn f n) (e : n = m) : zQn f m := e ▸ h
theorem zQn_0 {f : Nat → Int} {n : Int} (h : n ≤ 0) : zQn f n := fun p h0 h1 => by omega
theorem zQn_eq {f g : Nat → Int} {n m : Int} (h : zQn g n) (e : zEq m.toNat f g) (hn : 4 * n ≤ m) : zQn f n := fun p h0 h1 => by
  rw [e _ (by omega)]; exact h p h0 h1
theorem zQi_k {b b2 n n2 : Int} {f : Nat → Int} (h : zQi b f n) (hb : b2 = -1 → b = -1) (hn : b2 = -1 → n2 = n) : zQi b2 f n2 := fun e => by rw [hn e]; exact h (hb e)
theorem zQi_a {σ σ2 : zS} {a : Nat} {b b2 n v : Int} (h : zQi b (σ a) n) (e : σ2 = zU σ a (4 * n).toNat v) (hb : b2 = -1 → b = -1 ∧ 1 ≤ v ∧ v ≤ 9) (h0 : 0 ≤ n) : zQi b2 (σ2 a) (n + 1) := by
  intro hb2 p p0 p1
  obtain ⟨h1, h2⟩ := hb hb2
  by_cases hp : p = n
  · rw [hp, e, zU_eq]; exact h2
  · rw [e, zU_nk (by omega)]; exact h h1 p p0 (by omega)
theorem zQi_o {σ σ2 : zS} {a k : Nat} {b n v : Int} (h : zQi b (σ a) n) (e : σ2 = zU σ a k v) (hk : k % 4 ≠ 0) : zQi b (σ2 a) n := by
  intro hb2 p p0 p1
  rw [e, zU_nk (by omega)]; exact h hb2 p p0 p1
/-! plans of a new game -/
theorem zRva_st {f g c : Nat → Int} (h0 : f 0 = 1) (h1 : f 150 = 1) (h2 : f 300 = 1) (c0 : c 0 = 1) (c1 : c 1 = 1) (c2 : c 2 = 1) (c3 : c 3 = 0) (c4 : c 4 = 0) (c5 : c 5 = 0) : zRva f g c := by
  intro t t0 t1 q q0 q1
  rcases (show t = 0 ∨ t = 1 ∨ t = 2 ∨ t = 3 ∨ t = 4 ∨ t = 5 by omega) with rfl | rfl | rfl | rfl | rfl | rfl
  · rw [show (0 : Int).toNat = 0 from rfl, c0] at q1
    obtain rfl : q = 0 := by omega
    rw [show (0 : Int).toNat = 0 from rfl, h0]
    exact ⟨fun h => by omega, fun h => by omega, fun _ h => by omega⟩
  · rw [show (1 : Int).toNat = 1 from rfl, c1] at q1
    obtain rfl : q = 150 := by omega
    rw [show (150 : Int).toNat = 150 from rfl, h1]
    exact ⟨fun h => by omega, fun h => by omega, fun _ h => by omega⟩
  · rw [show (2 : Int).toNat = 2 from rfl, c2] at q1
    obtain rfl : q = 300 := by omega
    rw [show (300 : Int).toNat = 300 from rfl, h2]
    exact ⟨fun h => by omega, fun h => by omega, fun _ h => by omega⟩
  · rw [show (3 : Int).toNat = 3 from rfl, c3] at q1; omega
  · rw [show (4 : Int).toNat = 4 from rfl, c4] at q1; omega
  · rw [show (5 : Int).toNat = 5 from rfl, c5] at q1; omega
theorem zRva_eq {f g c f2 g2 c2 : Nat → Int} (h : zRva f g c) (e1 : ∀ j, j < 900 → f2 j = f j) (e2 : ∀ j, j < 900 → g2 j = g j) (e3 : ∀ j, j < 6 → c2 j = c j) (hb : ∀ j, j < 6 → c2 j ≤ 150) : zRva f2 g2 c2 := by
  intro t t0 t1
  have h3 := h t t0 t1
  have hb2 := hb t.toNat (by omega)
  rw [← e3 t.toNat (by omega)] at h3
  exact zRv_cg h3 (by omega) (by omega) (fun i hi => e1 _ (by omega)) (fun i hi => e2 _ (by omega))
/-! images: three places, 13221 apart -/
def zIq (f : Nat → Int) (q : Nat) : Prop := zc (fun j => f (q + j)) ≤ 60 ∧ zRva (fun j => f (q + 10515 + j)) (fun j => f (q + 11415 + j)) (fun j => f (q + 13215 + j)) ∧ ∀ j, j < 6 → f (q + 13215 + j) ≤ 150
def zIm (f : Nat → Int) : Prop := ∀ q : Nat, q = 0 ∨ q = 13221 ∨ q = 26442 → zIq f q
theorem zc_cg {f g : Nat → Int} (h : ∀ j, j < 515 → f j = g j) : zc f = zc g := by
  unfold zc
  rw [h 480 (by decide), h 481 (by decide), h 482 (by decide), h 483 (by decide), h 484 (by decide), h 485 (by decide), h 486 (by decide)]
theorem zPut_in {f g : Nat → Int} {q n : Int} {j i : Nat} (h : (j : Int) = q + i) (h0 : 0 ≤ q) (hi : (i : Int) < n) : zPut f g q n j = g i := by
  rw [zPut, if_pos (by omega)]; congr 1; omega
theorem zPut_no {f g : Nat → Int} {q n : Int} {j : Nat} (h : (j : Int) < q ∨ q + n ≤ j) : zPut f g q n j = f j := by
  rw [zPut, if_neg (by omega)]
theorem zIm_0 {f : Nat → Int} (h : ∀ j, f j = 0) : zIm f := by
  intro q hq
  refine ⟨?_, fun t t0 t1 p p0 p1 => ?_, fun j hj => ?_⟩
  · unfold zc; simp only [h]; decide
  · simp only [h] at p1; omega
  · rw [h]; decide
theorem zIm_put {f0 f1 f2 f3 f4 f5 f6 S W C O R K : Nat → Int} {q q1 q2 q3 q4 q5 : Int} (h : zIm f0) (p1 : zPt f1 f0 S q 515) (p2 : zPt f2 f1 W q1 10000) (p3 : zPt f3 f2 C q2 900) (p4 : zPt f4 f3 O q3 900) (p5 : zPt f5 f4 R q4 900) (p6 : zPt f6 f5 K q5 6) (hq : q = 0 ∨ q = 13221 ∨ q = 26442) (hqs : q1 = q + 515 ∧ q2 = q + 10515 ∧ q3 = q + 11415 ∧ q4 = q + 12315 ∧ q5 = q + 13215) (hz : zc S ≤ 60) (hr : zRva C O K) (hb : ∀ j, j < 6 → K j ≤ 150) : zIm f6 ∧ (f6 488 = f0 488 ∨ f6 488 = S 488) ∧ (f6 13709 = f0 13709 ∨ f6 13709 = S 488) ∧ (f6 26930 = f0 26930 ∨ f6 26930 = S 488) := by
  obtain ⟨rfl, rfl, rfl, rfl, rfl⟩ := hqs
  have out : ∀ j : Nat, (j : Int) < q ∨ q + 13221 ≤ j → f6 j = f0 j := fun j hj => by
    rw [show f6 = _ from p6, zPut_no (by omega), show f5 = _ from p5, zPut_no (by omega), show f4 = _ from p4, zPut_no (by omega), show f3 = _ from p3, zPut_no (by omega), show f2 = _ from p2, zPut_no (by omega), show f1 = _ from p1, zPut_no (by omega)]
  have iS : ∀ j i : Nat, (j : Int) = q + i → i < 515 → f6 j = S i := fun j i e hi => by
    rw [show f6 = _ from p6, zPut_no (by omega), show f5 = _ from p5, zPut_no (by omega), show f4 = _ from p4, zPut_no (by omega), show f3 = _ from p3, zPut_no (by omega), show f2 = _ from p2, zPut_no (by omega), show f1 = _ from p1, zPut_in e (by omega) (by omega)]
  have iC : ∀ j i : Nat, (j : Int) = q + 10515 + i → i < 900 → f6 j = C i := fun j i e hi => by
    rw [show f6 = _ from p6, zPut_no (by omega), show f5 = _ from p5, zPut_no (by omega), show f4 = _ from p4, zPut_no (by omega), show f3 = _ from p3, zPut_in e (by omega) (by omega)]
  have iO : ∀ j i : Nat, (j : Int) = q + 11415 + i → i < 900 → f6 j = O i := fun j i e hi => by
    rw [show f6 = _ from p6, zPut_no (by omega), show f5 = _ from p5, zPut_no (by omega), show f4 = _ from p4, zPut_in e (by omega) (by omega)]
  have iK : ∀ j i : Nat, (j : Int) = q + 13215 + i → i < 6 → f6 j = K i := fun j i e hi => by
    rw [show f6 = _ from p6, zPut_in e (by omega) (by omega)]
  refine ⟨fun u hu => ?_, ?_, ?_, ?_⟩
  · by_cases e : (u : Int) = q
    · refine ⟨?_, ?_, ?_⟩
      · rw [zc_cg (g := S) (fun j hj => iS (u + j) j (by omega) hj)]; exact hz
      · exact zRva_eq hr (fun j hj => iC _ j (by omega) hj) (fun j hj => iO _ j (by omega) hj) (fun j hj => iK _ j (by omega) hj) (fun j hj => by rw [iK _ j (by omega) hj]; exact hb j hj)
      · intro j hj; rw [iK _ j (by omega) hj]; exact hb j hj
    · obtain ⟨g1, g2, g3⟩ := h u hu
      have o2 : ∀ j : Nat, u ≤ j → j < u + 13221 → f6 j = f0 j := fun j h1 h2 => out j (by omega)
      refine ⟨?_, ?_, ?_⟩
      · rw [zc_cg (f := fun j => f6 (u + j)) (g := fun j => f0 (u + j)) (fun j hj => o2 (u + j) (by omega) (by omega))]; exact g1
      · exact zRva_eq g2 (fun j hj => o2 _ (by omega) (by omega)) (fun j hj => o2 _ (by omega) (by omega)) (fun j hj => o2 _ (by omega) (by omega)) (fun j hj => by rw [o2 _ (by omega) (by omega)]; exact g3 j hj)
      · intro j hj; rw [o2 _ (by omega) (by omega)]; exact g3 j hj
  · rcases hq with rfl | rfl | rfl
    · exact Or.inr (iS 488 488 (by omega) (by omega))
    · exact Or.inl (out 488 (by omega))
    · exact Or.inl (out 488 (by omega))
  · rcases hq with rfl | rfl | rfl
    · exact Or.inl (out 13709 (by omega))
    · exact Or.inr (iS 13709 488 (by omega) (by omega))
    · exact Or.inl (out 13709 (by omega))
  · rcases hq with rfl | rfl | rfl
    · exact Or.inl (out 26930 (by omega))
    · exact Or.inl (out 26930 (by omega))
    · exact Or.inr (iS 26930 488 (by omega) (by omega))
theorem zGet_at {h f g : Nat → Int} {q n : Int} (e : zPg h f g q n) {j i : Nat} (hj : (j : Int) < n) (hi : (i : Int) = j + q) : h j = g i := by
  rw [show h = _ from e, zGet, if_pos hj]; congr 1; omega
theorem zIm_get {f f3 f4 f6 S S2 C C2 O O2 K K2 : Nat → Int} {q q2 q3 q5 : Int} (h : zIm f) (p1 : zPg S2 S f q 515) (p3 : zPg C2 C f3 q2 900) (p4 : zPg O2 O f4 q3 900) (p6 : zPg K2 K f6 q5 6) (e3 : f3 = f) (e4 : f4 = f) (e6 : f6 = f) (hq : q = 0 ∨ q = 13221 ∨ q = 26442) (hqs : q2 = q + 10515 ∧ q3 = q + 11415 ∧ q5 = q + 13215) : zc S2 ≤ 60 ∧ zRva C2 O2 K2 ∧ (S2 488 = f 488 ∨ S2 488 = f 13709 ∨ S2 488 = f 26930) := by
  subst e3 e4 e6
  obtain ⟨rfl, rfl, rfl⟩ := hqs
  obtain ⟨g1, g2, g3⟩ := h q.toNat (by omega)
  have iK : ∀ j, j < 6 → K2 j = f6 (q.toNat + 13215 + j) := fun j hj => zGet_at p6 (by omega) (by omega)
  refine ⟨?_, ?_, ?_⟩
  · rw [zc_cg (g := fun j => f6 (q.toNat + j)) (fun j hj => zGet_at p1 (by omega) (by omega))]; exact g1
  · exact zRva_eq g2 (fun j hj => zGet_at p3 (by omega) (by omega)) (fun j hj => zGet_at p4 (by omega) (by omega)) iK (fun j hj => by rw [iK j hj]; exact g3 j hj)
  · rcases hq with rfl | rfl | rfl
    · exact Or.inl (zGet_at p1 (by omega) (by omega))
    · exact Or.inr (Or.inl (zGet_at p1 (by omega) (by omega)))
    · exact Or.inr (Or.inr (zGet_at p1 (by omega) (by omega)))
/-! texts: a text's number stands for its address -/
abbrev zTa (E : zE) (i : Nat) : Nat := E.2.2.2.1 i
abbrev zTb (E : zE) (i : Nat) : Nat := E.2.2.2.2 i
def tL (i : Nat) : Int := (tLen.getD i 0 : Nat)
def txC (i j : Nat) : Int := ((tByt.getD i []).getD j 0).toInt
def tOfn (i : Nat) : Nat → Int
  | 0 => 0
  | n + 1 => (zI ((zI (tOfn i n) <<< (zI 5 &&& 31)).toInt) ||| zI (txC i n - 96)).toInt
def tOf (i : Nat) : Int := tOfn i (tLen.getD i 0)
theorem tOf_ne : ∀ i, i < txN → tOf i ≠ 0 := by decide +kernel
theorem tOf_L (i : Nat) : tOfn i (tL i).toNat = tOf i := rfl
theorem tOfn_s {i : Nat} {n v w : Int} (h0 : 0 ≤ n) (hv : v = (zI (tOfn i n.toNat) <<< (zI 5 &&& 31)).toInt) (hw : w = (zI v ||| zI (txC i n.toNat - 96)).toInt) : w = tOfn i (n + 1).toNat := by
  rw [show (n + 1).toNat = n.toNat + 1 by omega, tOfn, ← hv]; exact hw
theorem tL_b : ∀ i, i < txN → 2 ≤ tL i ∧ tL i ≤ 6 := by decide
theorem tB_b : ∀ i, i < txN → ∀ j, j < tLen.getD i 0 → 97 ≤ ((tByt.getD i []).getD j 0).toInt ∧ ((tByt.getD i []).getD j 0).toInt ≤ 122 := by decide +kernel
section JTX
variable {X : zX} {E : zE} {own : String} {y : MethodName} {cc : ByteArray} {nL : Nat} {ret : Option FieldType} {R : Room} {Γ : zG} {σ : zS} {k n : Nat} {L : List (Nat × Value)} {pc pc2 i : Nat} {st : List Value}
theorem hxT (hx : CX X E own y cc nL ret R) : zTx E (xs X) (xs X).heap := hx.2.2.2.2.2.1.2.2.1.2
theorem j_ldcT (hx : CX X E own y cc nL ret R) {idx i : Nat} (c : Nat) (hi : c < tK9) (ho : tOwn c = own) (hk : tIdx c = idx) (hm : tMap c = i) (d : Dc cc pc (.ldc idx) 2 pc2) (kk : JJ X E nL Γ σ k n L pc2 (.ref (zTa E i) :: st)) : JJ X E nL Γ σ k n L pc st := by
  intro H locs ls hR hS hl
  obtain ⟨d1, rfl⟩ := d
  have h := (hxT hx).2.1 c hi
  rw [ho, hk, hm] at h
  exact va_ldcS hx.1 hx.2.1 hx.2.2.2.1 h d1 (kk H locs ls hR hS hl)
theorem j_ldcwT (hx : CX X E own y cc nL ret R) {idx i : Nat} (c : Nat) (hi : c < tK9) (ho : tOwn c = own) (hk : tIdx c = idx) (hm : tMap c = i) (d : Dc cc pc (.ldc_w idx) 3 pc2) (kk : JJ X E nL Γ σ k n L pc2 (.ref (zTa E i) :: st)) : JJ X E nL Γ σ k n L pc st := by
  intro H locs ls hR hS hl
  obtain ⟨d1, rfl⟩ := d
  have h := (hxT hx).2.1 c hi
  rw [ho, hk, hm] at h
  have k2 := kk H locs ls hR hS hl
  unfold WX at k2 ⊢
  intro T hT X1
  obtain ⟨t, a1, b1⟩ := k2 T hT X1
  exact ⟨t, X1.ldcStringW hx.1 hx.2.2.2.1 (text := tTxt c) (a := zTa E i) h.1 h.2 (g := F0 (xm X) pc ls st) rfl (by rw [hx.2.1]; exact d1) t a1, b1⟩
theorem j_getTv (hx : CX X E own y cc nL ret R) {idx : Nat} (hi : i < txN) (hw : Cond.fieldLink own idx "java/lang/String" "value" "[B" ∈ tblG) (d : Dc cc pc (.getfield idx) 3 pc2) (kk : JJ X E nL Γ σ k n L pc2 (.ref (zTb E i) :: st)) : JJ X E nL Γ σ k n L pc (.ref (zTa E i) :: st) := by
  intro H locs ls hR hS hl
  obtain ⟨d1, rfl⟩ := d
  exact vk_getf hx.1 hx.2.1 ((hxT hx).1.1 i hi).2.2.1 hS hx.2.2.2.1 (hx.2.2.2.2.1 _ hw) (fun _ h => h) d1 (kk H locs ls hR hS hl)
theorem j_getTc (hx : CX X E own y cc nL ret R) {idx : Nat} (hi : i < txN) (hw : Cond.fieldLink own idx "java/lang/String" "coder" "B" ∈ tblG) (d : Dc cc pc (.getfield idx) 3 pc2) (kk : JJ X E nL Γ σ k n L pc2 (.int (zI 0) :: st)) : JJ X E nL Γ σ k n L pc (.ref (zTa E i) :: st) := by
  intro H locs ls hR hS hl
  obtain ⟨d1, rfl⟩ := d
  exact vk_getf hx.1 hx.2.1 ((hxT hx).1.1 i hi).2.1 hS hx.2.2.2.1 (hx.2.2.2.2.1 _ hw) (fun _ h => h) d1 (kk H locs ls hR hS hl)
theorem j_getsC (hx : CX X E own y cc nL ret R) {idx : Nat} (hw : Cond.fieldLink own idx "java/lang/String" "COMPACT_STRINGS" "Z" ∈ tblG) (d : Dc cc pc (.getstatic idx) 3 pc2) (kk : JJ X E nL Γ σ k n L pc2 (.int (zI 1) :: st)) : JJ X E nL Γ σ k n L pc st := by
  intro H locs ls hR hS hl
  obtain ⟨d1, rfl⟩ := d
  exact va_gets hx.1 hx.2.1 (hxT hx).2.2.1 hS hx.2.2.2.1 (hx.2.2.2.2.1 _ hw) (fun _ h => h) d1 (kk H locs ls hR hS hl)
theorem j_getsF (hx : CX X E own y cc nL ret R) {idx : Nat} (hw : Cond.fieldLink own idx "jdk/internal/util/Preconditions" "SIOOBE_FORMATTER" "Ljava/util/function/BiFunction;" ∈ tblG) (d : Dc cc pc (.getstatic idx) 3 pc2) (kk : ∀ o : Option Nat, JJ X E nL Γ σ k n L pc2 (va_rf o :: st)) : JJ X E nL Γ σ k n L pc st := by
  intro H locs ls hR hS hl
  obtain ⟨d1, rfl⟩ := d
  rcases (hxT hx).2.2.2 with h | ⟨t, h⟩
  · exact va_gets hx.1 hx.2.1 h hS hx.2.2.2.1 (hx.2.2.2.2.1 _ hw) (fun _ h => h) d1 (kk none H locs ls hR hS hl)
  · exact va_gets hx.1 hx.2.1 h hS hx.2.2.2.1 (hx.2.2.2.2.1 _ hw) (fun _ h => h) d1 (kk (some t) H locs ls hR hS hl)
theorem j_alenT (hx : CX X E own y cc nL ret R) (hi : i < txN) (d : Dc cc pc .arraylength 1 pc2) (kk : JJ X E nL Γ σ k n L pc2 (.int (zI (tL i)) :: st)) : JJ X E nL Γ σ k n L pc (.ref (zTb E i) :: st) := by
  intro H locs ls hR hS hl
  obtain ⟨d1, rfl⟩ := d
  exact va_tlen hx.1 hx.2.1 ((hxT hx).1.1 i hi).2.2.2 hS (v := zI (tL i)) rfl d1 (kk H locs ls hR hS hl)
theorem j_baldT (hx : CX X E own y cc nL ret R) (hi : i < txN) {j : Int} (h0 : 0 ≤ j) (h1 : j < tL i) (d : Dc cc pc .baload 1 pc2) (kk : ∀ v : Int, 97 ≤ v → v ≤ 122 → v = txC i j.toNat → JJ X E nL Γ σ k n L pc2 (.int (zI v) :: st)) : JJ X E nL Γ σ k n L pc (.int (zI j) :: .ref (zTb E i) :: st) := by
  intro H locs ls hR hS hl
  obtain ⟨d1, rfl⟩ := d
  have hb := tL_b i hi
  have hj : j.toNat < tLen.getD i 0 := by unfold tL at h1; omega
  have hv := tB_b i hi j.toNat hj
  have hn : (zI j).toNatClampNeg = j.toNat := zI_nat h0 (by omega)
  have k2 := kk _ hv.1 hv.2 rfl H locs ls hR hS hl
  rw [zI_self] at k2
  exact va_tb hx.1 hx.2.1 ((hxT hx).1.1 i hi).2.2.2 hS (zI_in h0 (by unfold tL at h1; omega) (by unfold tL at hb; omega)) (v := .int ((tByt.getD i []).getD j.toNat 0)) (by rw [hn]) d1 k2
theorem j_iorE (hx : CX X E own y cc nL ret R) {a b : Int} (d : Dc cc pc .ior 1 pc2) (kk : ∀ v : Int, -2147483648 ≤ v → v ≤ 2147483647 → v = (zI a ||| zI b).toInt → JJ X E nL Γ σ k n L pc2 (.int (zI v) :: st)) : JJ X E nL Γ σ k n L pc (.int (zI b) :: .int (zI a) :: st) := by
  intro H locs ls hR hS hl
  obtain ⟨d1, rfl⟩ := d
  exact lv_ior hx.1 hx.2.1 d1 (j_any (fun v h1 h2 h3 => kk v h1 h2 h3) H locs ls hR hS hl)
theorem j_ishlE (hx : CX X E own y cc nL ret R) {a b : Int} (d : Dc cc pc .ishl 1 pc2) (kk : ∀ v : Int, -2147483648 ≤ v → v ≤ 2147483647 → v = (zI a <<< (zI b &&& 31)).toInt → JJ X E nL Γ σ k n L pc2 (.int (zI v) :: st)) : JJ X E nL Γ σ k n L pc (.int (zI b) :: .int (zI a) :: st) := by
  intro H locs ls hR hS hl
  obtain ⟨d1, rfl⟩ := d
  exact lv_ishl hx.1 hx.2.1 d1 (j_any (fun v h1 h2 h3 => kk v h1 h2 h3) H locs ls hR hS hl)
theorem j_lremE (hx : CX X E own y cc nL ret R) {x : Int64} {b : Int} (d : Dc cc pc .lrem 1 pc2) (hb : -9223372036854775808 ≤ b ∧ b ≤ 9223372036854775807) (h0 : b ≠ 0) (kk : ∀ v : Int, -9223372036854775808 ≤ v → v ≤ 9223372036854775807 → ((0 < b → -b < v ∧ v < b) ∧ (b < 0 → b < v ∧ v < -b)) → JJ X E nL Γ σ k n L pc2 (.long (zL v) :: st)) : JJ X E nL Γ σ k n L pc (.long (zL b) :: .long x :: st) := by
  intro H locs ls hR hS hl
  obtain ⟨d1, rfl⟩ := d
  refine lv_lrem hx.1 hx.2.1 d1 (fun z => h0 ((zL_eq hb (by omega)).mp z)) ?_
  refine j_anyl (E := E) (nL := nL) (Γ := Γ) (σ := σ) (L := L) (pc := pc + 1) (st := st) (x := x - x / zL b * zL b) (fun v h1 h2 h3 => ?_) H locs ls hR hS hl
  rw [Jvm.Kit.i64_rem, zL_int hb.1 hb.2] at h3
  refine kk v h1 h2 ⟨fun z => by rw [h3]; exact tmod_bounds z, fun z => ?_⟩
  have h4 := tmod_bounds (a := x.toInt) (M := -b) (by omega)
  rw [Int.tmod_neg, ← h3] at h4
  omega
theorem j_lmulP (hx : CX X E own y cc nL ret R) {a b : Int} (A B : Int) (d : Dc cc pc .lmul 1 pc2) (ha : 1 ≤ a ∧ a ≤ A) (hb : 1 ≤ b ∧ b ≤ B) (kk : ∀ v : Int, 1 ≤ v → v ≤ A * B → JJ X E nL Γ σ k n L pc2 (.long (zL v) :: st)) : JJ X E nL Γ σ k n L pc (.long (zL b) :: .long (zL a) :: st) := by
  intro H locs ls hR hS hl
  obtain ⟨d1, rfl⟩ := d
  refine lv_lmul hx.1 hx.2.1 d1 ?_
  have h1 : 0 < a * b := Int.mul_pos (by omega) (by omega)
  have h2 : a * b ≤ A * B := Int.mul_le_mul ha.2 hb.2 (by omega) (by omega)
  have e : zL a * zL b = zL (a * b) := (Int64.ofInt_mul a b).symm
  rw [e]
  exact kk _ (by omega) h2 H locs ls hR hS hl
theorem kst_minL : Cond.static Lib.MathLoose.min_long.x ∈ tblG := kst_yJ9_min_f86c9
theorem kc_minL : Cond.code Lib.MathLoose.min_long.x Lib.MathLoose.min_long.code 4 (some .long) ∈ tblG := kc_yJ9_min_f86c9
theorem j_mminL (hx : CX X E own y cc nL ret R) {idx : Nat} {a b : Int} (hm : Cond.methodLink own idx Lib.MathLoose.min_long.x ∈ tblG) (ha : -9223372036854775808 ≤ a ∧ a ≤ 9223372036854775807) (hb : -9223372036854775808 ≤ b ∧ b ≤ 9223372036854775807) (hf : 1 ≤ R.frames ∧ (st.map fun v => v.category).sum + 15 ≤ R.locals) (hck : k ≤ R.cells ∧ n ≤ R.slots) (d : Dc cc pc (.invokestatic idx) 3 pc2) (kk : ∀ v : Int, v ≤ a → v ≤ b → (v = a ∨ v = b) → JJ X E nL Γ σ k n L pc2 (.long (zL v) :: st)) : JJ X E nL Γ σ k n L pc (.long (zL b) :: .long (zL a) :: st) := by
  intro H locs ls hR hS hl
  obtain ⟨d1, rfl⟩ := d
  obtain ⟨rfl⟩ : xR X = R := hx.2.2.2.2.2.2.2.2.2.1
  have ok := hx.2.2.2.2.1
  refine va_mmin_long hx.1 hx.2.1 (hx.2.2.1.trans hl.1.symm) hx.2.2.2.1 (ok _ hm) (ok _ kst_minL) (ok _ kn_RJ9) (ok _ kc_minL) hf.1 hf.2 hck.1 hck.2 d1 ?_
  have e : (if zL b < zL a then zL b else zL a) = zL (if b < a then b else a) := by
    simp only [zL_lt hb ha]
    split <;> rfl
  rw [e]
  exact kk _ (by split <;> omega) (by split <;> omega) (by split <;> omega) H locs ls hR hS hl
theorem zi2c : ∀ m : Nat, m < 256 → ((zI (m : Int)).toUInt32 % 65536).toInt32 = zI (m : Int) := by decide +kernel
theorem j_i2c (hx : CX X E own y cc nL ret R) {a : Int} (h0 : 0 ≤ a) (h1 : a ≤ 255) (d : Dc cc pc .i2c 1 pc2) (kk : JJ X E nL Γ σ k n L pc2 (.int (zI a) :: st)) : JJ X E nL Γ σ k n L pc (.int (zI a) :: st) := by
  intro H locs ls hR hS hl
  obtain ⟨d1, rfl⟩ := d
  have h := zi2c a.toNat (by omega)
  rw [show ((a.toNat : Nat) : Int) = a by omega] at h
  exact lv_i2c hx.1 hx.2.1 d1 h (kk H locs ls hR hS hl)
theorem j_bret (hx : CX X E own y cc nL ret R) {rm : Room} {PP : Option Value → zG → zS → Prop} (hq : CR X E rm PP) {ty : FieldType} (hret : ret = some ty) (hk : k ≤ rm.cells) (hn : n ≤ rm.slots) (d : Dc cc pc .ireturn 1 pc2) {v : Int} (hv : narrow ty (.int (zI v)) = .int (zI v)) (hp : PP (some (.int (zI v))) Γ σ) : JJ X E nL Γ σ k n L pc [.int (zI v)] := by
  intro H locs ls hR hS hl
  exact j_end hq hk hn (W.zret hx.1 hx.2.1 (hx.2.2.2.2.2.2.2.1.trans hret) hv (fun t ht _ => ⟨⟨_, Γ, σ, rfl, hp, by rw [ht]; exact hR⟩, hS.F ht⟩) hS.2.2 d.1 hx.2.2.2.2.2.2.1)
/-- a call on a text -/
theorem zrecvT (hx : CX X E own y cc nL ret R) (hi : i < txN) {H : Heap} {locs : List Loc} (hS : va_S (zA E) (xs X).heap H locs) : ∃ cell : Cell, H[zTa E i]? = some cell ∧ cell.vm.isStatics = false ∧ (xs X).vm.findClass "java/lang/String" = some cell.cls := vk_recv (hxT hx).1 hi hS
theorem j_callVT (hx : CX X E own y cc nL ret R) {rest : List Value} {idx na nLb : Nat} {yb : MethodName} {ccb : ByteArray} {retb : Option FieldType} {rmb : Room} {Pre : zG → zS → List Value → Prop} {Post : zG → zS → List Value → Option Value → zG → zS → Prop} (con : Con E (xl X) yb ccb nLb retb rmb Pre Post) (lk : LkV own idx "java/lang/String" yb ccb nLb retb na) (hi : i < txN) (vs : List Value) (hpre : Pre Γ σ (.ref (zTa E i) :: vs)) (hna : vs.length = na) (hst : st = vs.reverse ++ .ref (zTa E i) :: rest) (hrm : rmb.frames + 1 ≤ R.frames ∧ 8 + (nLb + 11) + rmb.locals ≤ R.locals) (hf : k + rmb.cells ≤ R.cells ∧ n + rmb.slots ≤ R.slots) {k2 n2 : Nat} (hk2 : k + rmb.cells = k2) (hn2 : n + rmb.slots = n2) (hw : (rest.map fun v => v.category).sum ≤ 8) (d : Dc cc pc (.invokevirtual idx) 3 pc2) (kk : ∀ v Γ2 σ2, Post Γ σ (.ref (zTa E i) :: vs) v Γ2 σ2 → JJ X E nL Γ2 σ2 k2 n2 L pc2 (v.toList ++ rest)) : JJ X E nL Γ σ k n L pc st := by
  obtain ⟨l1, l2, l3, l4, l5, l6, l7, l8, l9⟩ := lk
  obtain ⟨rfl⟩ : xR X = R := hx.2.2.2.2.2.2.2.2.2.1
  have ok := hx.2.2.2.2.1
  refine j_run hk2 hn2 (PP := Post Γ σ (.ref (zTa E i) :: vs)) (a := (Value.ref (zTa E i) :: vs).toArray) d.2 (fun H locs ls hR hS hl => ?_) kk
  exact va_runV ⟨hx.1, hx.2.1, hx.2.2.1, hx.2.2.2.1, ok⟩ (con Γ σ _ hpre) ⟨callB_of na ok (zcode l5) rfl rfl rfl (ok _ (l6 ▸ l4)) (ok _ l1) ⟨l7, l8, l9⟩ hrm, ok _ l2, ok _ (l6 ▸ l3)⟩ ⟨zblind, l6 ▸ zrecvT hx hi hS, zcallee hx hR hS (.ref (zTa E i) :: vs)⟩ rfl hna hl.1 hst (lv_room hw) d.1 hf
end JTX
