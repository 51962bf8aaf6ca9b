/-! throwing -/
theorem zlw_at {X : zX} {E : zE} {own : String} {y : MethodName} {cc : ByteArray} {nL : Nat} {ret : Option FieldType} {R : Room} (hx : CX X E own y cc nL ret R) {w : Cond} (h : w ∈ lw_tbl ∧ (goodWord w = true ∨ isMore w = true)) : w.before (xa X) (xs X) = true := by
  obtain ⟨h1, h2 | h2⟩ := h
  · exact hx.2.2.2.2.1 w (tg h1 h2)
  · exact zMore_use h2 (hx.2.2.2.2.2.1.2.2.2.2.2.2.1 w (List.mem_filter.mpr ⟨h1, h2⟩))
theorem zR_keep {E : zE} {Γ : zG} {σ : zS} {H H1 : Heap} (hR : zR E Γ σ H) (h : ∀ q : Nat, q < H.size → H1[q]? = H[q]?) : zR E Γ σ H1 := ⟨hR.1.kept (fun k x hk => h x.1 ((hR.1 k x hk).lt)), hR.2⟩
section JT
variable {X : zX} {E : zE} {own : String} {y : MethodName} {cc : ByteArray} {nL : Nat} {ret : Option FieldType} {R : Room} {Γ : zG} {σ : zS} {k n : Nat} {L : List (Nat × Value)} {pc : Nat} {st : List Value} {rm : Room} {PP : Option Value → zG → zS → Prop} {PX : String → zG → zS → Prop}
theorem j_throw {cls text : String} {names : List String} {ik is ic sa ix : Nat} {rx : ByteArray} {p3 p4 p7 p10 p11 : Nat} (hx : CX X E own y cc nL ret R) (hq : CT X E rm PP PX) (x0 : decode rx 0 = .ok (.aload_n 0, 1)) (x1 : decode rx 1 = .ok (.aload_n 1, 1)) (x2 : decode rx 2 = .ok (.invokespecial ix, 3)) (x5 : decode rx 5 = .ok (.return_, 1)) (hcls : Bundle.fit cls = true) (hnames : ∀ n ∈ names, Bundle.fit n = true)
    (hall : ∀ w ∈ Cond.classLink own ik cls :: Cond.initialized cls :: zx_atS own ic cls ix rx names, (w ∈ lw_tbl ∧ (goodWord w = true ∨ isMore w = true)) ∧ vx_ot w = true)
    (hstr : vk_R own is text sa (xs X))
    (hf : names.length + 3 < R.frames ∧ (st.map fun v => v.category).sum + (13 * (names.length + 1) + 43) ≤ R.locals) (hc : k + 1 ≤ R.cells ∧ n + 6 ≤ R.slots) (hm : k + 1 ≤ rm.cells ∧ n + 6 ≤ rm.slots)
    (d0 : Dc cc pc (.new ik) 3 p3) (d3 : Dc cc p3 .dup 1 p4) (d4 : Dc cc p4 (.ldc_w is) 3 p7) (d7 : Dc cc p7 (.invokespecial ic) 3 p10) (d10 : Dc cc p10 .athrow 1 p11) (hp : PX cls Γ σ) : JJ X E nL Γ σ k n L pc st := by
  intro H locs ls hR hS hl
  obtain ⟨e0, rfl⟩ := d0
  obtain ⟨e3, rfl⟩ := d3
  obtain ⟨e4, rfl⟩ := d4
  obtain ⟨e7, rfl⟩ := d7
  obtain ⟨rfl⟩ : xR X = R := hx.2.2.2.2.2.2.2.2.2.1
  have hO := hx.2.2.2.2.2.1
  have hw : ∀ w ∈ Cond.classLink own ik cls :: Cond.initialized cls :: zx_atS own ic cls ix rx names, w.before (xa X) (xs X) = true := fun w h => zlw_at hx (hall w h).1
  refine zx_makeW hx.1 hx.2.1 hx.2.2.2.2.2.2.2.2.2.2.2 x0 x1 x2 x5 hx.2.2.2.1 hcls hnames (hw _ List.mem_cons_self) (hw _ (List.mem_cons_of_mem _ List.mem_cons_self)) hstr (fun w h => hw w (List.mem_cons_of_mem _ (List.mem_cons_of_mem _ h))) (fun w h => (hall w h).2) hO.2.2.2.2.1 hO.2.2.2.2.2.1 hS (hl.1.trans hx.2.2.1.symm) e0 e3 e4 e7 hf.1 hf.2 hc.1 hc.2 (fun q hq9 => Nat.le_trans hx.2.2.2.2.2.2.2.2.1 hq9) ?_
  intro q H1 ce hce hvm hcid hsz hkeep hS1
  refine zx_athrow hx.1 hx.2.1 (by exact d10.1) ?_
  rw [hq.1]
  have hR1 := zR_keep hR hkeep
  exact vx_out (E := cls) (ce := ce) (fun x hx2 => absurd (hq.2 x hx2) id) hx.2.2.2.2.2.2.1 hce hvm hcid (fun u hu _ => ⟨⟨Γ, σ, hp, by rw [hu]; exact hR1⟩, hS1.F hu⟩) hS1.2.2 hm.1 hm.2
end JT
theorem thr_IAE2 : ∀ w ∈ Cond.classLink RX11 349 "java/lang/IllegalArgumentException" :: Cond.initialized "java/lang/IllegalArgumentException" :: zx_atS RX11 353 "java/lang/IllegalArgumentException" 7 (ByteArray.mk #[0x2a, 0x2b, 0xb7, 0x00, 0x07, 0xb1]) ["java/lang/RuntimeException", "java/lang/Exception"], (w ∈ lw_tbl ∧ (goodWord w = true ∨ isMore w = true)) ∧ vx_ot w = true := by decide +kernel
theorem thr_NSE2 : ∀ w ∈ Cond.classLink RX11 342 "java/util/NoSuchElementException" :: Cond.initialized "java/util/NoSuchElementException" :: zx_atS RX11 346 "java/util/NoSuchElementException" 13 (ByteArray.mk #[0x2a, 0x2b, 0xb7, 0x00, 0x0d, 0xb1]) ["java/lang/RuntimeException", "java/lang/Exception"], (w ∈ lw_tbl ∧ (goodWord w = true ∨ isMore w = true)) ∧ vx_ot w = true := by decide +kernel
section JT2
variable {X : zX} {E : zE} {y : MethodName} {cc : ByteArray} {nL : Nat} {ret : Option FieldType} {R : Room} {Γ : zG} {σ : zS} {k n : Nat} {L : List (Nat × Value)} {pc : Nat} {st : List Value} {rm : Room} {PP : Option Value → zG → zS → Prop} {PX : String → zG → zS → Prop}
theorem j_throwI {p3 p4 p7 p10 p11 : Nat} (hx : CX X E RX11 y cc nL ret R) (hq : CT X E rm PP PX) (hf : 5 < R.frames ∧ (st.map fun v => v.category).sum + 82 ≤ R.locals) (hc : k + 1 ≤ R.cells ∧ n + 6 ≤ R.slots) (hm : k + 1 ≤ rm.cells ∧ n + 6 ≤ rm.slots) (d0 : Dc cc pc (.new 349) 3 p3) (d3 : Dc cc p3 .dup 1 p4) (d4 : Dc cc p4 (.ldc_w 351) 3 p7) (d7 : Dc cc p7 (.invokespecial 353) 3 p10) (d10 : Dc cc p10 .athrow 1 p11) (hp : PX "java/lang/IllegalArgumentException" Γ σ) : JJ X E nL Γ σ k n L pc st :=
  j_throw (rx := ByteArray.mk #[0x2a, 0x2b, 0xb7, 0x00, 0x07, 0xb1]) (ix := 7) (names := ["java/lang/RuntimeException", "java/lang/Exception"]) hx hq (by decide +kernel) (by decide +kernel) (by decide +kernel) (by decide +kernel) (by decide +kernel) (by decide +kernel) thr_IAE2 hx.2.2.2.2.2.1.2.2.1.1 hf hc hm d0 d3 d4 d7 d10 hp
theorem j_throwN {p3 p4 p7 p10 p11 : Nat} (hx : CX X E RX11 y cc nL ret R) (hq : CT X E rm PP PX) (hf : 5 < R.frames ∧ (st.map fun v => v.category).sum + 82 ≤ R.locals) (hc : k + 1 ≤ R.cells ∧ n + 6 ≤ R.slots) (hm : k + 1 ≤ rm.cells ∧ n + 6 ≤ rm.slots) (d0 : Dc cc pc (.new 342) 3 p3) (d3 : Dc cc p3 .dup 1 p4) (d4 : Dc cc p4 (.ldc_w 344) 3 p7) (d7 : Dc cc p7 (.invokespecial 346) 3 p10) (d10 : Dc cc p10 .athrow 1 p11) (hp : PX "java/util/NoSuchElementException" Γ σ) : JJ X E nL Γ σ k n L pc st :=
  j_throw (rx := ByteArray.mk #[0x2a, 0x2b, 0xb7, 0x00, 0x0d, 0xb1]) (ix := 13) (names := ["java/lang/RuntimeException", "java/lang/Exception"]) hx hq (by decide +kernel) (by decide +kernel) (by decide +kernel) (by decide +kernel) (by decide +kernel) (by decide +kernel) thr_NSE2 hx.2.2.2.2.2.1.2.2.2.1 hf hc hm d0 d3 d4 d7 d10 hp
end JT2
theorem zSK_0 {Γ : zG} {σ : zS} {a k t : Nat} (hS : zSK Γ σ) (ht : gT Γ a = t) (h1 : ∀ j, fq t j = none) (h2 : ∀ j, aq t j = some (0, 0)) : zSK Γ (zU σ a k 0) := by
  refine ⟨fun b j r hr => ?_, fun b j r hj hr => ?_, fun b j r hj hr => ?_⟩
  · by_cases hb : b = a
    · subst hb; rw [ht, h1] at hr; cases hr
    · rw [zU_ne hb]; exact hS.1 b j r hr
  · by_cases hb : b = a ∧ j = k
    · obtain ⟨rfl, rfl⟩ := hb
      rw [ht, h2] at hr; cases hr
      rw [zU_eq]; exact ⟨Int.le_refl _, Int.le_refl _⟩
    · rw [zU_at (by omega)]; exact hS.2.1 b j r hj hr
  · by_cases hb : b = a ∧ j = k
    · obtain ⟨rfl, rfl⟩ := hb
      exact Or.inl (zU_eq _ _ _ _)
    · rw [zU_at (by omega)]; exact hS.2.2 b j r hj hr
/-! film -/
def zFE (a c d : Int) : Nat → Int
  | 0 => 0
  | n + 1 => zFE a c d n + max 0 (d + 1 - max c (a + n + 1))
def zFB (a c d : Int) : Nat → Int
  | 0 => 0
  | n + 1 => zFB a c d n + max 0 (min 1 (min (d + 1 - (a + n)) (a + n - c + 1)))
theorem zFE_s (a c d x : Int) (h : a ≤ x) : zFE a c d (x + 1 - a).toNat = zFE a c d (x - a).toNat + max 0 (d + 1 - max c (x + 1)) := by
  have e : (x + 1 - a).toNat = (x - a).toNat + 1 := by omega
  have e2 : a + ((x - a).toNat : Int) = x := by omega
  rw [e, zFE, e2]
theorem zFB_s (a c d x : Int) (h : a ≤ x) : zFB a c d (x + 1 - a).toNat = zFB a c d (x - a).toNat + max 0 (min 1 (min (d + 1 - x) (x - c + 1))) := by
  have e : (x + 1 - a).toNat = (x - a).toNat + 1 := by omega
  have e2 : a + ((x - a).toNat : Int) = x := by omega
  rw [e, zFB, e2]
theorem zFE_b (a c d : Int) (hc : 0 ≤ c) (hd : d ≤ 99) (n : Nat) : 0 ≤ zFE a c d n ∧ zFE a c d n ≤ 100 * n := by
  induction n with
  | zero => exact ⟨Int.le_refl _, Int.le_refl _⟩
  | succ n ih => rw [zFE]; omega
theorem zFB_b (a c d : Int) (n : Nat) : 0 ≤ zFB a c d n ∧ zFB a c d n ≤ n := by
  induction n with
  | zero => exact ⟨Int.le_refl _, Int.le_refl _⟩
  | succ n ih => rw [zFB]; omega
/-! arrays whose places differ; all the same -/
theorem zah {Γ : zG} {σ : zS} {a t j : Nat} {lo hi i m : Int} (hS : zSK Γ σ) (ht : gT Γ a = t) (h : ∀ k, ∃ q, aq t k = some q ∧ lo ≤ q.1 ∧ q.2 ≤ hi) (hm : (gN Γ a : Int) = m) (h0 : 0 ≤ i) (h1 : i < m) (hj : i.toNat = j) : lo ≤ σ a j ∧ σ a j ≤ hi := by
  obtain ⟨q, hq, h2, h3⟩ := h j
  have := hS.2.1 a j q (by omega) (by rw [ht]; exact hq)
  omega
theorem zSK_c {Γ : zG} {σ σd : zS} {a b k t t2 : Nat} {v : Int} (hS : zSK Γ σ) (hSd : zSK Γ σd) (ht : gT Γ a = t) (hb : gT Γ b = t2) (h1 : ∀ j, fq t j = none) (h2 : dq t = none) (h3 : aq t = aq t2) (hk : k < gN Γ b) (hv : v = σd b k) : zSK Γ (zU σ a k v) := by
  subst hv
  refine ⟨fun c j r hr => ?_, fun c j r hj hr => ?_, fun c j r hj hr => ?_⟩
  · by_cases hc : c = a
    · subst hc; rw [ht, h1] at hr; cases hr
    · rw [zU_ne hc]; exact hS.1 c j r hr
  · by_cases hc : c = a ∧ j = k
    · obtain ⟨rfl, rfl⟩ := hc
      rw [zU_eq]
      exact hSd.2.1 b j r hk (by rw [hb, ← h3, ← ht]; exact hr)
    · rw [zU_at (by omega)]; exact hS.2.1 c j r hj hr
  · by_cases hc : c = a
    · subst hc; rw [ht, h2] at hr; cases hr
    · rw [zU_ne hc]; exact hS.2.2 c j r hj hr
def zAll (σ : zS) (b n : Nat) (c : Int) : Prop := ∀ j, j < n → σ b j = c
theorem zAll_s {σ σ2 : zS} {b : Nat} {v c : Int} (h : zAll σ b v.toNat c) (e : σ2 = zU σ b v.toNat c) (h0 : 0 ≤ v) : zAll σ2 b (v + 1).toNat c := by
  intro j hj
  by_cases hv : j = v.toNat
  · rw [e, hv, zU_eq]
  · rw [e, zU_nk hv]; exact h j (by omega)
theorem zAll_le {σ : zS} {b n m : Nat} {c : Int} (h : zAll σ b n c) (hm : m ≤ n) : zAll σ b m c := fun j hj => h j (by omega)
theorem zAll_u {σ σ2 : zS} {a k b n : Nat} {v c : Int} (h : zAll σ b n c) (e : σ2 = zU σ a k v) (hb : b ≠ a) : zAll σ2 b n c := fun j hj => by rw [e, zU_ne hb]; exact h j hj
theorem zAll_f {ts : List Nat} {G : zG} {σ σ2 : zS} {b n t : Nat} {c : Int} (h : zAll σ b n c) (hf : zFr ts G σ σ2) (ht : gT G b = t) (hn : t ∉ ts) : zAll σ2 b n c := fun j hj => by rw [hf b (by rw [ht]; exact hn)]; exact h j hj
section JSV
variable {X : zX} {E : zE} {own : String} {y : MethodName} {cc : ByteArray} {nL : Nat} {ret : Option FieldType} {R : Room} {Γ : zG} {σ : zS} {k n : Nat} {L : List (Nat × Value)} {pc pc2 : Nat} {st : List Value}
theorem j_ishrV (hx : CX X E own y cc nL ret R) {x y2 : Int32} (d : Dc cc pc .ishr 1 pc2) (kk : ∀ v : Int, -2147483648 ≤ v → v ≤ 2147483647 → JJ X E nL Γ σ k n L pc2 (.int (zI v) :: st)) : JJ X E nL Γ σ k n L pc (.int y2 :: .int x :: st) := by
  intro H locs ls hR hS hl
  obtain ⟨d1, rfl⟩ := d
  exact lv_ishr hx.1 hx.2.1 d1 (j_any (fun v h1 h2 _ => kk v h1 h2) H locs ls hR hS hl)
end JSV
theorem zSK_z {Γ : zG} {σ : zS} {a k t : Nat} {v : Int} (hS : zSK Γ σ) (ht : gT Γ a = t) (h1 : ∀ j, fq t j = none) (h2 : dq t = none) (h : ∀ k, ∃ q, aq t k = some q ∧ q.1 ≤ 0 ∧ 0 ≤ q.2) (hv : v = 0) : zSK Γ (zU σ a k v) := by
  obtain ⟨q, e1, e2, e3⟩ := h k
  exact zSK_a hS ht (h1 k) h2 e1 (by omega)
/-! all but one place -/
def zAe (σ : zS) (b n : Nat) (c : Int) (j0 : Nat) : Prop := ∀ j, j < n → j ≠ j0 → σ b j = c
theorem zAe_f {ts : List Nat} {G : zG} {σ σ2 : zS} {b n t j0 : Nat} {c : Int} (h : zAe σ b n c j0) (hf : zFr ts G σ σ2) (ht : gT G b = t) (hn : t ∉ ts) : zAe σ2 b n c j0 := fun j hj h0 => by rw [hf b (by rw [ht]; exact hn)]; exact h j hj h0
theorem zAe_u {σ σ2 : zS} {a k b n j0 : Nat} {v c : Int} (h : zAe σ b n c j0) (e : σ2 = zU σ a k v) (hb : b ≠ a) : zAe σ2 b n c j0 := fun j hj h0 => by rw [e, zU_ne hb]; exact h j hj h0
theorem zAe_k {σ σ2 : zS} {k b n j0 : Nat} {v c : Int} (h : zAe σ b n c j0) (e : σ2 = zU σ b k v) (hv : v = c) : zAe σ2 b n c j0 := fun j hj h0 => by
  by_cases hk : j = k
  · rw [e, hk, zU_eq]; exact hv
  · rw [e, zU_nk hk]; exact h j hj h0
theorem zAe_j {σ σ2 : zS} {k b n j0 : Nat} {v c : Int} (h : zAe σ b n c j0) (e : σ2 = zU σ b k v) (hk : k = j0) : zAe σ2 b n c j0 := fun j hj h0 => by rw [e, zU_nk (fun z => h0 (by rw [z, hk]))]; exact h j hj h0
theorem zAe_c {σ σ2 σd : zS} {k b d n j0 : Nat} {c : Int} (h : zAe σ b n c j0) (h2 : zAe σd d n c j0) (e : σ2 = zU σ b k (σd d k)) (hk : k < n) : zAe σ2 b n c j0 := fun j hj h0 => by
  by_cases e2 : j = k
  · rw [e, e2, zU_eq]; exact h2 k hk (by rw [← e2]; exact h0)
  · rw [e, zU_nk e2]; exact h j hj h0
theorem zst {σ σ2 σd : zS} {b d j : Nat} {k c : Int} (h : k ≤ j ∨ σ b j = c) (e : σ2 = zU σ b k.toNat (σd d k.toNat)) (hc : σd d j = c) (hk : 0 ≤ k) : k + 1 ≤ j ∨ σ2 b j = c := by
  by_cases hj : j = k.toNat
  · right; rw [e, ← hj, zU_eq]; exact hc
  · rcases h with h | h
    · left; omega
    · right; rw [e, zU_nk hj]; exact h
