/-! NEW OBJECTS: pushing a cell onto the world; objects under construction; publishing -/
theorem rq_ne {t k t2 : Nat} (h : rq t k = some t2) : t2 ≠ 0 := by
  unfold rq at h
  split at h <;> first | (cases h; done) | (dsimp only at h; split at h <;> first | (cases h; done) | (cases h; decide))
theorem dq_ne {t t2 : Nat} (h : dq t = some t2) : t2 ≠ 0 := by
  unfold dq at h
  split at h <;> first | (cases h; done) | (cases h; decide)
theorem rq_lt {t k t2 : Nat} (h : rq t k = some t2) : t2 < 21 ∨ 40 < t2 := by
  unfold rq at h
  split at h <;> first | (cases h; done) | (dsimp only at h; split at h <;> first | (cases h; done) | (cases h; decide))
theorem dq_lt {t t2 : Nat} (h : dq t = some t2) : t2 < 21 := by
  unfold dq at h
  split at h <;> first | (cases h; done) | (cases h; decide)
def zPush (Γ : zG) (q t n : Nat) : zG := (Γ.1 ++ [q], fun b => if b = q then t else gT Γ b, fun b => if b = q then n else gN Γ b, fun b k => gP Γ b k)
def zZero (σ : zS) (q : Nat) : zS := fun b => if b = q then (fun _ => 0) else σ b
theorem gT_eq {Γ : zG} {q t n : Nat} : gT (zPush Γ q t n) q = t := by simp [zPush, gT]
theorem gT_ne {Γ : zG} {q t n b : Nat} (h : b ≠ q) : gT (zPush Γ q t n) b = gT Γ b := by simp [zPush, gT, h]
theorem gN_eq {Γ : zG} {q t n : Nat} : gN (zPush Γ q t n) q = n := by simp [zPush, gN]
theorem gN_ne {Γ : zG} {q t n b : Nat} (h : b ≠ q) : gN (zPush Γ q t n) b = gN Γ b := by simp [zPush, gN, h]
theorem gP_all {Γ : zG} {q t n b k : Nat} : gP (zPush Γ q t n) b k = gP Γ b k := rfl
theorem zZ_eq {σ : zS} {q : Nat} : zZero σ q q = fun _ => 0 := by simp [zZero]
theorem zZ_ne {σ : zS} {q b : Nat} (h : b ≠ q) : zZero σ q b = σ b := by simp [zZero, h]
theorem gT_put {Γ : zG} {q t n b u : Nat} (hq : gT Γ q = 0) (h : gT Γ b = u) (hu : u ≠ 0) : gT (zPush Γ q t n) b = u := by
  rw [gT_ne (fun e => hu (by rw [← h, e, hq]))]
  exact h
/-- an array's tag, or a raw one: what is all zero may bear it -/
def zTz : List Nat := [74, 81, 84, 85, 87, 94]
def a1 (t k : Nat) : Option Int := if t ∈ zTz then some 0 else a0 t k
def zS1 (Γ : zG) (σ : zS) : Prop := (∀ a k v, f0 (gT Γ a) k = some v → σ a k = v) ∧ (∀ a k v, k < gN Γ a → a1 (gT Γ a) k = some v → σ a k = v)
def zOK (Γ : zG) (σ : zS) : Prop := zGK Γ ∧ zSK Γ σ ∧ zS1 Γ σ
def zArr (t n : Nat) : Prop := t ≠ 0 ∧ (∀ k, rq t k = none) ∧ (∀ m, lq t = some m → n = m) ∧ (n ≤ 1000000 ∧ (t = 46 → n ≤ 150)) ∧ (∀ k, fq t k = none) ∧ (∀ k r, aq t k = some r → r.1 ≤ 0 ∧ 0 ≤ r.2) ∧ (∀ k, f0 t k = none) ∧ (∀ k v, a1 t k = some v → v = 0)
theorem zGK_push {Γ : zG} {q t n : Nat} (hG : zGK Γ) (hq : gT Γ q = 0) (hA : zArr t n) : zGK (zPush Γ q t n) := by
  obtain ⟨h1, h2, h3, h4, -, -, -, -⟩ := hA
  refine ⟨fun a ha => ?_, fun a k u hu => ?_, fun a m hm => ?_, fun a => ?_⟩
  · by_cases hb : a = q
    · subst hb; exact List.mem_append_right _ (List.mem_singleton.mpr rfl)
    · rw [gT_ne hb] at ha; exact List.mem_append_left _ (hG.1 a ha)
  · by_cases hb : a = q
    · subst hb; rw [gT_eq, h2] at hu; cases hu
    · rw [gT_ne hb] at hu
      have h := hG.2.1 a k u hu
      rw [gP_all]
      exact gT_put hq h (rq_ne hu)
  · by_cases hb : a = q
    · subst hb; rw [gT_eq] at hm; rw [gN_eq]; exact h3 m hm
    · rw [gT_ne hb] at hm; rw [gN_ne hb]; exact hG.2.2.1 a m hm
  · by_cases hb : a = q
    · subst hb; rw [gN_eq, gT_eq]; exact h4
    · rw [gN_ne hb, gT_ne hb]; exact hG.2.2.2 a
theorem zSK_push {Γ : zG} {σ : zS} {q t n : Nat} (hS : zSK Γ σ) (hq : gT Γ q = 0) (hA : zArr t n) : zSK (zPush Γ q t n) (zZero σ q) := by
  obtain ⟨-, -, -, -, h5, h6, -, -⟩ := hA
  refine ⟨fun a k r hr => ?_, fun a k r hk hr => ?_, fun a k u hk hu => ?_⟩
  · by_cases hb : a = q
    · subst hb; rw [gT_eq, h5] at hr; cases hr
    · rw [gT_ne hb] at hr; rw [zZ_ne hb]; exact hS.1 a k r hr
  · by_cases hb : a = q
    · subst hb; rw [gT_eq] at hr; rw [zZ_eq]; exact h6 k r hr
    · rw [gT_ne hb] at hr; rw [gN_ne hb] at hk; rw [zZ_ne hb]; exact hS.2.1 a k r hk hr
  · by_cases hb : a = q
    · subst hb; rw [zZ_eq]; exact Or.inl rfl
    · rw [gT_ne hb] at hu; rw [gN_ne hb] at hk; rw [zZ_ne hb]
      rcases hS.2.2 a k u hk hu with h | ⟨h, h9⟩
      · exact Or.inl h
      · exact Or.inr ⟨h, gT_put hq h9 (dq_ne hu)⟩
theorem zS1_push {Γ : zG} {σ : zS} {q t n : Nat} (hS : zS1 Γ σ) (hA : zArr t n) : zS1 (zPush Γ q t n) (zZero σ q) := by
  obtain ⟨-, -, -, -, -, -, h7, h8⟩ := hA
  refine ⟨fun a k v hv => ?_, fun a k v hk hv => ?_⟩
  · by_cases hb : a = q
    · subst hb; rw [gT_eq, h7] at hv; cases hv
    · rw [gT_ne hb] at hv; rw [zZ_ne hb]; exact hS.1 a k v hv
  · by_cases hb : a = q
    · subst hb; rw [gT_eq] at hv; rw [zZ_eq]; exact (h8 k v hv).symm
    · rw [gT_ne hb] at hv; rw [gN_ne hb] at hk; rw [zZ_ne hb]; exact hS.2 a k v hk hv
theorem zOK_push {Γ : zG} {σ : zS} {q t n : Nat} (h : zOK Γ σ) (hq : gT Γ q = 0) (hA : zArr t n) : zOK (zPush Γ q t n) (zZero σ q) := ⟨zGK_push h.1 hq hA, zSK_push h.2.1 hq hA, zS1_push h.2.2 hA⟩
theorem zW_push {E : zE} {Γ : zG} {σ : zS} {q t N : Nat} {e : va_E} (hq : q ∉ Γ.1) (he : ∀ r : Nat → Nat, zC E t N r (fun _ => 0) = e) : zW E Γ σ ++ [(q, e)] = zW E (zPush Γ q t N) (zZero σ q) := by
  unfold zW
  rw [va_pl_push hq]
  show va_pl (Γ.1 ++ [q]) _ = va_pl (Γ.1 ++ [q]) _
  apply va_pl_congr
  intro b
  by_cases hb : b = q
  · subst hb
    rw [va_up_self]
    unfold zF
    rw [gT_eq, gN_eq, zZ_eq]
    exact (he _).symm
  · rw [va_up_ne _ _ hb]
    unfold zF
    rw [gT_ne hb, gN_ne hb, zZ_ne hb]
    rfl
theorem zfree {Γ : zG} {q : Nat} (hG : zGK Γ) (hq : q ∉ Γ.1) : gT Γ q = 0 := Decidable.byContradiction (fun h => hq (hG.1 q h))
section NW
variable {X : zX} {E : zE} {own : String} {y : MethodName} {cc : ByteArray} {nL : Nat} {ret : Option FieldType} {R : Room} {Γ : zG} {σ : zS} {k n : Nat} {L : List (Nat × Value)} {pc pc2 : Nat} {st : List Value}
theorem j_newA (hx : CX X E own y cc nL ret R) (hG : zGK Γ) {atype : ArrayType} {ty : FieldType} {kd t N : Nat} {nn : Int} (hty : newarray.typeOf atype = ty) (harr : Cond.arrayClass ty ∈ tblG) (hz : (zTy E)[kd - 2]? = some (E.2.1 kd, ty)) (hprim : ∀ (U : State) (cA : ClassId), va_RA U cA ty → U.vm.findClass ("[" ++ ty.toString) = some cA) {a : vp_A} (ha : ∀ cA : ClassId, vp_cell cA a = arrV cA N (fun _ => defaultValue ty)) (he : ∀ r : Nat → Nat, zC E t N r (fun _ => 0) = .inl (E.2.1 kd, a)) (hn : nn = N) (hN1 : N ≤ 1000000) (hb : N * componentBytes ty ≤ 536870912) (hC : k + 1 ≤ R.cells ∧ n + N ≤ R.slots) (d : Dc cc pc (.newarray atype) 2 pc2) (kk : ∀ q, gT Γ q = 0 → JJ X E nL (zPush Γ q t N) (zZero σ q) (k + 1) (n + N) L pc2 (.ref q :: st)) : JJ X E nL Γ σ k n L pc (.int (zI nn) :: st) := by
  intro H locs ls hR hS hl
  obtain ⟨d1, rfl⟩ := d
  obtain ⟨rfl⟩ : xR X = R := hx.2.2.2.2.2.2.2.2.2.1
  have hK := hx.2.2.2.2.2.1.1
  refine va_newa hx.1 hx.2.1 (by rw [hty]; exact hx.2.2.2.2.1 _ harr) hty hK hR.1 hR.2 hS (fun q hq => Nat.le_trans hx.2.2.2.2.2.2.2.2.1 hq) ha (n := zI nn) (by rw [show (0 : Int32) = zI 0 from rfl, zI_lt (by omega) (by omega)]; omega) (by rw [zI_nat (by omega) (by omega)]; omega) hb hC.1 hC.2 d1 ?_
  intro q cA H1 hK1 hP1 hD1 hS1
  have e1 := hprim _ _ (hK1.2 6 (cA, ty) rfl).2
  have e2 := hprim _ _ (hK.2 (kd - 2) _ hz).2
  have e3 : cA = E.2.1 kd := Option.some.inj (e1.symm.trans e2)
  subst e3
  have hq : q ∉ Γ.1 := va_pl_fresh2 (X := []) hD1
  rw [zW_push hq he] at hP1 hD1
  exact kk q (zfree hG hq) H1 locs ls ⟨hP1, hD1⟩ hS1 hl
theorem j_newQ (hx : CX X E own y cc nL ret R) (hG : zGK Γ) {C : String} {index kd t N : Nat} {nn : Int} (hcl : Cond.classLink own index C ∈ tblG) (hov : va_AO C (xs X)) (hz : (zTy E)[kd - 2]? = some (E.2.1 kd, .object C)) (he : ∀ r : Nat → Nat, zC E t N r (fun _ => 0) = .inl (E.2.1 kd, N, .inr (.inr (.inr (.inr (fun _ => none)))))) (hn : nn = N) (hN1 : N ≤ 1000000) (hC : k + 1 ≤ R.cells ∧ n + N ≤ R.slots) (d : Dc cc pc (.anewarray index) 3 pc2) (kk : ∀ q, gT Γ q = 0 → JJ X E nL (zPush Γ q t N) (zZero σ q) (k + 1) (n + N) L pc2 (.ref q :: st)) : JJ X E nL Γ σ k n L pc (.int (zI nn) :: st) := by
  intro H locs ls hR hS hl
  obtain ⟨d1, rfl⟩ := d
  obtain ⟨rfl⟩ : xR X = R := hx.2.2.2.2.2.2.2.2.2.1
  have hK := hx.2.2.2.2.2.1.1
  refine va_newq hx.1 hx.2.1 hx.2.2.2.1 (hx.2.2.2.2.1 _ hcl) hov hK hR.1 hR.2 hS (fun q hq => Nat.le_trans hx.2.2.2.2.2.2.2.2.1 hq) (n := zI nn) (N' := N) (by rw [show (0 : Int32) = zI 0 from rfl, zI_lt (by omega) (by omega)]; omega) (by rw [zI_nat (by omega) (by omega)]; omega) (by omega) hC.1 hC.2 d1 ?_
  intro q cA H1 hK1 hP1 hD1 hS1
  obtain ⟨-, -, -, -, -, e1⟩ := (hK1.2 6 (cA, .object C) rfl).2
  obtain ⟨-, -, -, -, -, e2⟩ := (hK.2 (kd - 2) _ hz).2
  have e3 : cA = E.2.1 kd := Option.some.inj (e1.symm.trans e2)
  subst e3
  have hq : q ∉ Γ.1 := va_pl_fresh2 (X := []) hD1
  rw [zW_push hq he] at hP1 hD1
  exact kk q (zfree hG hq) H1 locs ls ⟨hP1, hD1⟩ hS1 hl
theorem j_newO (hx : CX X E own y cc nL ret R) (hG : zGK Γ) {C : String} {T : u_T} {N ci index t : Nat} {ty0 : Nat → FieldType} {fs : List Value} (hin : ∀ w ∈ u_ws C T N, w ∈ tblG) (hty : ∀ k, k < N → parseFieldDescriptor (T k).2.2.1 = some (ty0 k)) (hcl : Cond.classLink own index C ∈ tblG) (hinst : Cond.instantiable C N ∈ tblG) (hini : Cond.initialized C ∈ tblG) (hc : vwCl[ci]? = some (C, T, N)) (hfs : ∀ j, j < N → defaultValue (ty0 j) = vp_V fs j) (he : ∀ r : Nat → Nat, zC E t 0 r (fun _ => 0) = .inr (ci, fs)) (hC : k + 1 ≤ R.cells ∧ n + N ≤ R.slots) (d : Dc cc pc (.new index) 3 pc2) (kk : ∀ q, gT Γ q = 0 → JJ X E nL (zPush Γ q t 0) (zZero σ q) (k + 1) (n + N) L pc2 (.ref q :: st)) : JJ X E nL Γ σ k n L pc st := by
  intro H locs ls hR hS hl
  obtain ⟨d1, rfl⟩ := d
  obtain ⟨rfl⟩ : xR X = R := hx.2.2.2.2.2.2.2.2.2.1
  have hK := hx.2.2.2.2.2.1.1
  have ok := hx.2.2.2.2.1
  refine va_new hx.1 hx.2.1 ok hin ty0 hty hx.2.2.2.1 (ok _ hcl) (ok _ hinst) (ok _ hini) hK hR.1 hR.2 hS (fun q hq => Nat.le_trans hx.2.2.2.2.2.2.2.2.1 hq) hc hfs hC.1 hC.2 d1 ?_
  intro q H1 hP1 hD1 hS1
  have hq : q ∉ Γ.1 := va_pl_fresh2 (X := []) hD1
  rw [zW_push hq he] at hP1 hD1
  exact kk q (zfree hG hq) H1 locs ls ⟨hP1, hD1⟩ hS1 hl
theorem j_objI (hx : CX X E own y cc nL ret R) {idx a : Nat} (hm : Cond.methodLink own idx objectInit ∈ tblG) (hf : 1 ≤ R.frames ∧ (st.map fun v => v.category).sum + 12 ≤ R.locals) (d : Dc cc pc (.invokespecial idx) 3 pc2) (kk : JJ X E nL Γ σ k n L pc2 st) : JJ X E nL Γ σ k n L pc (.ref a :: st) := by
  intro H locs ls hR hS hl
  obtain ⟨d1, rfl⟩ := d
  obtain ⟨rfl⟩ : xR X = R := hx.2.2.2.2.2.2.2.2.2.1
  have ok := hx.2.2.2.2.1
  refine W.objInit hx.1 hx.2.1 hx.2.2.2.1 (ok _ hm) (ok _ ki_objectInit) (ok _ kc_objectInit) rfl (hl.1.trans hx.2.2.1.symm) rfl d1 hf.1 ?_ ?_
  · show 2 * 0 + _ + 12 ≤ _
    omega
  · exact kk H locs ls hR hS hl
end NW
/-! under construction -/
def zDn (Γ : zG) (σ : zS) (a : Nat) (d : Nat × Nat × Int) : Prop := if d.2.1 = 0 then σ a d.1 = d.2.2 else ∃ q : Nat, σ a d.1 = (q : Int) + 1 ∧ gT Γ q = d.2.1
def zRaw (Γ : zG) (σ : zS) (a t : Nat) (D : List (Nat × Nat × Int)) : Prop := gT Γ a = t + 20 ∧ (∀ k, (∀ d ∈ D, d.1 ≠ k) → σ a k = 0) ∧ ∀ d ∈ D, zDn Γ σ a d
def zYa (a : Nat) (Γ : zG) (σ : zS) (Γ2 : zG) (σ2 : zS) : Prop := ∀ b, b ≠ a → gT Γ b ≠ 0 → gT Γ2 b = gT Γ b ∧ gN Γ2 b = gN Γ b ∧ (∀ k, gP Γ2 b k = gP Γ b k) ∧ (gT Γ b ≠ 56 → σ2 b = σ b)
abbrev zCl (t : Nat) : Prop := t < 61 ∧ t ≠ 13 ∧ t ≠ 33
def zNw (a : Nat) (D : List (Nat × Nat × Int)) (Γ Γ2 : zG) (σ2 : zS) : Prop := ∀ b, b ≠ a → gT Γ b = 0 → gT Γ2 b ≠ 0 → zCl (gT Γ2 b) ∨ ∃ d ∈ D, d.2.1 = gT Γ2 b ∧ σ2 a d.1 = (b : Int) + 1
def zNc (a : Nat) (Γ Γ2 : zG) : Prop := ∀ b, b ≠ a → gT Γ b = 0 → gT Γ2 b ≠ 0 → zCl (gT Γ2 b)
def zB (G0 : zG) (s0 : zS) (a t : Nat) (D : List (Nat × Nat × Int)) (Γ : zG) (σ : zS) : Prop := zOK Γ σ ∧ zRaw Γ σ a t D ∧ zYa a G0 s0 Γ σ ∧ zNw a D G0 Γ σ ∧ t ≠ 0 ∧ t < 21
def rawT (t : Nat) : Prop := (∀ k, fq t k = none) ∧ (∀ k, aq t k = none) ∧ dq t = none ∧ (∀ k, f0 t k = none) ∧ (∀ k, a1 t k = none)
section ZB
variable {G0 Γ : zG} {s0 σ : zS} {a t : Nat} {D : List (Nat × Nat × Int)}
theorem zB_a (h : zB G0 s0 a t D Γ σ) : gT Γ a = t + 20 := h.2.1.1
theorem zB_K (h : zB G0 s0 a t D Γ σ) : zGK Γ := h.1.1
theorem zB_0 (h : zOK Γ σ) (ha : gT Γ a = t + 20) (hz : ∀ k, σ a k = 0) (ht : t ≠ 0 ∧ t < 21) : zB Γ σ a t [] Γ σ := ⟨h, ⟨ha, fun k _ => hz k, fun d hd => absurd hd List.not_mem_nil⟩, fun b _ _ => ⟨rfl, rfl, fun _ => rfl, fun _ => rfl⟩, fun b _ h1 h2 => absurd h1 h2, ht.1, ht.2⟩
theorem zB_q (h : zB G0 s0 a t D Γ σ) {q : Nat} (hq : gT Γ q = 0) : q ≠ a ∧ gT G0 q = 0 := by
  have h1 : q ≠ a := fun e => by
    have := h.2.1.1
    rw [e] at hq; omega
  refine ⟨h1, Decidable.byContradiction fun h2 => ?_⟩
  have := (h.2.2.1 q h1 h2).1
  exact h2 (by rw [← this]; exact hq)
theorem zDn_go {Γ2 : zG} {σ2 : zS} {d : Nat × Nat × Int} (h : zDn Γ σ a d) (hs : σ2 a d.1 = σ a d.1) (hT : ∀ b, gT Γ b = d.2.1 → d.2.1 ≠ 0 → gT Γ2 b = gT Γ b) : zDn Γ2 σ2 a d := by
  unfold zDn at h ⊢
  by_cases h0 : d.2.1 = 0
  · rw [if_pos h0] at h ⊢; rw [hs]; exact h
  · rw [if_neg h0] at h ⊢
    obtain ⟨q, h1, h2⟩ := h
    exact ⟨q, by rw [hs]; exact h1, by rw [hT q h2 h0]; exact h2⟩
/-- a store into the raw object -/
theorem zOK_raw {v : Int} {k : Nat} (h : zOK Γ σ) (hr : rawT (gT Γ a)) : zOK Γ (zU σ a k v) := by
  obtain ⟨r1, r2, r3, r4, r5⟩ := hr
  refine ⟨h.1, ⟨fun b j r hr => ?_, fun b j r hj hr => ?_, fun b j r hj hr => ?_⟩, fun b j r hr => ?_, fun b j r hj hr => ?_⟩
  · by_cases hb : b = a
    · subst hb; rw [r1] at hr; cases hr
    · rw [zU_ne hb]; exact h.2.1.1 b j r hr
  · by_cases hb : b = a
    · subst hb; rw [r2] at hr; cases hr
    · rw [zU_ne hb]; exact h.2.1.2.1 b j r hj hr
  · by_cases hb : b = a
    · subst hb; rw [r3] at hr; cases hr
    · rw [zU_ne hb]; exact h.2.1.2.2 b j r hj hr
  · by_cases hb : b = a
    · subst hb; rw [r4] at hr; cases hr
    · rw [zU_ne hb]; exact h.2.2.1 b j r hr
  · by_cases hb : b = a
    · subst hb; rw [r5] at hr; cases hr
    · rw [zU_ne hb]; exact h.2.2.2 b j r hj hr
theorem zB_put (h : zB G0 s0 a t D Γ σ) {k u : Nat} {v w : Int} (hr : rawT (t + 20)) (hk : ∀ d ∈ D, d.1 ≠ k) (hd : zDn Γ (zU σ a k v) a (k, u, w)) : zB G0 s0 a t ((k, u, w) :: D) Γ (zU σ a k v) := by
  obtain ⟨hO, ⟨ha, hz, hD⟩, hy, hn, ht⟩ := h
  refine ⟨zOK_raw hO (by rw [ha]; exact hr), ⟨ha, fun j hj => ?_, fun d hd2 => ?_⟩, fun b hb h0 => ?_, fun b hb h0 h1 => ?_, ht⟩
  · have hjk : j ≠ k := fun e => hj _ List.mem_cons_self e.symm
    rw [zU_nk hjk]
    exact hz j (fun d hd2 => hj d (List.mem_cons_of_mem _ hd2))
  · rcases List.mem_cons.mp hd2 with rfl | hd2
    · exact hd
    · exact zDn_go (hD d hd2) (zU_nk (hk d hd2)) (fun _ _ _ => rfl)
  · obtain ⟨e1, e2, e3, e4⟩ := hy b hb h0
    exact ⟨e1, e2, e3, fun h6 => by rw [zU_ne hb]; exact e4 h6⟩
  · rcases hn b hb h0 h1 with h2 | ⟨d, hd2, e1, e2⟩
    · exact Or.inl h2
    · exact Or.inr ⟨d, List.mem_cons_of_mem _ hd2, e1, by rw [zU_nk (hk d hd2)]; exact e2⟩
theorem zB_int (h : zB G0 s0 a t D Γ σ) {k : Nat} {v : Int} (hr : rawT (t + 20)) (hk : ∀ d ∈ D, d.1 ≠ k) : zB G0 s0 a t ((k, 0, v) :: D) Γ (zU σ a k v) := zB_put h hr hk (by unfold zDn; rw [if_pos rfl]; exact zU_eq _ _ _ _)
theorem zB_ref (h : zB G0 s0 a t D Γ σ) {k u q : Nat} (hr : rawT (t + 20)) (hk : ∀ d ∈ D, d.1 ≠ k) (hu : u ≠ 0) (hq : gT Γ q = u) : zB G0 s0 a t ((k, u, 0) :: D) Γ (zU σ a k ((q : Int) + 1)) := zB_put h hr hk (by unfold zDn; rw [if_neg hu]; exact ⟨q, zU_eq _ _ _ _, hq⟩)
/-- a new array goes into its field -/
theorem zB_arr (h : zB G0 s0 a t D Γ σ) {k u q N : Nat} (hr : rawT (t + 20)) (hk : ∀ d ∈ D, d.1 ≠ k) (hq : gT Γ q = 0) (hA : zArr u N) : zB G0 s0 a t ((k, u, 0) :: D) (zPush Γ q u N) (zU (zZero σ q) a k ((q : Int) + 1)) := by
  obtain ⟨hqa, hq0⟩ := zB_q h hq
  obtain ⟨hO, ⟨ha, hz, hD⟩, hy, hn, ht⟩ := h
  have hu := hA.1
  have hqa2 : a ≠ q := fun e => hqa e.symm
  have ha2 : gT (zPush Γ q u N) a = t + 20 := by rw [gT_ne hqa2]; exact ha
  refine ⟨zOK_raw (zOK_push hO hq hA) (by rw [ha2]; exact hr), ⟨ha2, fun j hj => ?_, fun d hd2 => ?_⟩, fun b hb h0 => ?_, fun b hb h0 h1 => ?_, ht⟩
  · have hjk : j ≠ k := fun e => hj _ List.mem_cons_self e.symm
    rw [zU_nk hjk, zZ_ne hqa2]
    exact hz j (fun d hd2 => hj d (List.mem_cons_of_mem _ hd2))
  · rcases List.mem_cons.mp hd2 with rfl | hd2
    · unfold zDn; rw [if_neg hu]; exact ⟨q, zU_eq _ _ _ _, gT_eq⟩
    · exact zDn_go (hD d hd2) (by rw [zU_nk (hk d hd2), zZ_ne hqa2]) (fun b hb h0 => gT_ne (fun e => h0 (by rw [← hb, e, hq])))
  · have hbq : b ≠ q := fun e => h0 (by rw [e]; exact hq0)
    obtain ⟨e1, e2, e3, e4⟩ := hy b hb h0
    exact ⟨by rw [gT_ne hbq]; exact e1, by rw [gN_ne hbq]; exact e2, e3, fun h6 => by rw [zU_ne hb, zZ_ne hbq]; exact e4 h6⟩
  · by_cases hbq : b = q
    · subst hbq
      exact Or.inr ⟨_, List.mem_cons_self, gT_eq.symm, zU_eq _ _ _ _⟩
    · rw [gT_ne hbq] at h1 ⊢
      rcases hn b hb h0 h1 with h2 | ⟨d, hd2, e1, e2⟩
      · exact Or.inl h2
      · exact Or.inr ⟨d, List.mem_cons_of_mem _ hd2, e1, by rw [zU_nk (hk d hd2), zZ_ne hqa2]; exact e2⟩
/-- a new object, made by its constructor -/
theorem zB_obj (h : zB G0 s0 a t D Γ σ) {u q : Nat} {Γ3 : zG} {σ3 : zS} (hq : gT Γ q = 0) (hO3 : zOK Γ3 σ3) (h3 : gT Γ3 q = u) (hy3 : zYa q (zPush Γ q (u + 20) 0) (zZero σ q) Γ3 σ3) (hn3 : zNc q (zPush Γ q (u + 20) 0) Γ3) (hu : zCl u) : zB G0 s0 a t D Γ3 σ3 := by
  obtain ⟨hqa, hq0⟩ := zB_q h hq
  obtain ⟨hO, ⟨ha, hz, hD⟩, hy, hn, ht⟩ := h
  have hqa2 : a ≠ q := fun e => hqa e.symm
  have go : ∀ b, gT Γ b ≠ 0 → gT Γ3 b = gT Γ b ∧ gN Γ3 b = gN Γ b ∧ (∀ k, gP Γ3 b k = gP Γ b k) ∧ (gT Γ b ≠ 56 → σ3 b = σ b) := fun b hb => by
    have hbq : b ≠ q := fun e => hb (by rw [e]; exact hq)
    obtain ⟨e1, e2, e3, e4⟩ := hy3 b hbq (by rw [gT_ne hbq]; exact hb)
    exact ⟨by rw [e1, gT_ne hbq], by rw [e2, gN_ne hbq], e3, fun h6 => by rw [e4 (by rw [gT_ne hbq]; exact h6), zZ_ne hbq]⟩
  have ga := go a (by rw [ha]; omega)
  have gs := ga.2.2.2 (by rw [ha]; omega)
  refine ⟨hO3, ⟨by rw [ga.1]; exact ha, fun j hj => by rw [gs]; exact hz j hj, fun d hd2 => zDn_go (hD d hd2) (by rw [gs]) (fun b hb h0 => (go b (by rw [hb]; exact h0)).1)⟩, fun b hb h0 => ?_, fun b hb h0 h1 => ?_, ht⟩
  · obtain ⟨e1, e2, e3, e4⟩ := hy b hb h0
    obtain ⟨g1, g2, g3, g4⟩ := go b (by rw [e1]; exact h0)
    exact ⟨g1.trans e1, g2.trans e2, fun k => (g3 k).trans (e3 k), fun h6 => (g4 (by rw [e1]; exact h6)).trans (e4 h6)⟩
  · by_cases hbq : b = q
    · subst hbq; exact Or.inl (by rw [h3]; exact hu)
    · by_cases hb2 : gT Γ b = 0
      · exact Or.inl (hn3 b hbq (by rw [gT_ne hbq]; exact hb2) h1)
      · obtain ⟨g1, g2, g3, g4⟩ := go b hb2
        rw [g1, gs]
        exact hn b hb h0 hb2
theorem zObj_T {q u b v : Nat} {Γ3 : zG} {σ3 : zS} (hq : gT Γ q = 0) (hy3 : zYa q (zPush Γ q (u + 20) 0) (zZero σ q) Γ3 σ3) (hb : gT Γ b = v) (hv : v ≠ 0) : gT Γ3 b = v := by
  have hbq : b ≠ q := fun e => hv (by rw [← hb, e]; exact hq)
  rw [(hy3 b hbq (by rw [gT_ne hbq, hb]; exact hv)).1, gT_ne hbq]
  exact hb
theorem zB_ast (h : zB G0 s0 a t D Γ σ) {p u j : Nat} {v : Int} (hp : gT Γ p = 56) (hv : v = 0 ∨ (0 < v ∧ gT Γ (v.toNat - 1) = 1)) : zB G0 s0 a t D Γ (zU σ p j v) := by
  obtain ⟨hO, ⟨ha, hz, hD⟩, hy, hn, ht⟩ := h
  have hpa : a ≠ p := fun e => by rw [← e, ha] at hp; omega
  refine ⟨⟨hO.1, zSK_d hO.2.1 hp (fun _ => rfl) (fun _ => rfl) rfl hv, fun b k w hw => ?_, fun b k w hk hw => ?_⟩, ⟨ha, fun k hk => by rw [zU_ne hpa]; exact hz k hk, fun d hd => zDn_go (hD d hd) (by rw [zU_ne hpa]) (fun _ _ _ => rfl)⟩, fun b hb h0 => ?_, fun b hb h0 h1 => by rw [zU_ne hpa]; exact hn b hb h0 h1, ht⟩
  · by_cases e : b = p
    · subst e; rw [hp] at hw; cases hw
    · rw [zU_ne e]; exact hO.2.2.1 b k w hw
  · by_cases e : b = p
    · subst e; rw [hp] at hw; cases hw
    · rw [zU_ne e]; exact hO.2.2.2 b k w hk hw
  · obtain ⟨e1, e2, e3, e4⟩ := hy b hb h0
    refine ⟨e1, e2, e3, fun h6 => ?_⟩
    rw [zU_ne (fun e => h6 (by rw [← e1, e]; exact hp))]
    exact e4 h6
/-- what a new object's constructor may build on -/
theorem zB_new (h : zB G0 s0 a t D Γ σ) {u q : Nat} (hq : gT Γ q = 0) (hA : zArr (u + 20) 0) : zOK (zPush Γ q (u + 20) 0) (zZero σ q) ∧ gT (zPush Γ q (u + 20) 0) q = u + 20 ∧ ∀ k, zZero σ q q k = 0 := ⟨zOK_push h.1 hq hA, gT_eq, fun k => by rw [zZ_eq]⟩
theorem zB_get (h : zB G0 s0 a t D Γ σ) {k u : Nat} (hd : (k, u, (0 : Int)) ∈ D) (hu : u ≠ 0) : ∃ q : Nat, σ a k = (q : Int) + 1 ∧ gT Γ q = u := by
  have := h.2.1.2.2 _ hd
  unfold zDn at this
  rw [if_neg hu] at this
  exact this
theorem zB_old (h : zB G0 s0 a t D Γ σ) {b u : Nat} (hb : gT G0 b = u) (hu : u ≠ 0) (hba : b ≠ a) : gT Γ b = u := (h.2.2.1 b hba (by rw [hb]; exact hu)).1.trans hb
/-- publishing -/
def zFits (q : Option (Int × Int)) (v : Int) : Bool := match q with | none => true | some r => decide (r.1 ≤ v) && decide (v ≤ r.2)
def zIs (q : Option Int) (v : Int) : Bool := match q with | none => true | some r => decide (v = r)
def zChk (t : Nat) (D : List (Nat × Nat × Int)) : Bool := (List.range (tN t)).all fun k => match D.find? (fun d => d.1 == k) with
  | some d => if d.2.1 = 0 then (rq t k).isNone && zFits (fq t k) d.2.2 && zIs (f0 t k) d.2.2 && sK (t + 20) k == sK t k && decide (sK t k < 2) else rq t k == some d.2.1 && (fq t k).isNone && (f0 t k).isNone && sK (t + 20) k == 3 && sK t k == 2
  | none => (rq t k).isNone && zFits (fq t k) 0 && zIs (f0 t k) 0 && sK (t + 20) k == sK t k && decide (sK t k < 2)
def zPubG (Γ : zG) (a t : Nat) (σ : zS) : zG := (Γ.1, fun b => if b = a then t else gT Γ b, fun b => gN Γ b, fun b k => if b = a then (σ a k).toNat - 1 else gP Γ b k)
theorem pT_eq : gT (zPubG Γ a t σ) a = t := by simp [zPubG, gT]
theorem pT_ne {b : Nat} (h : b ≠ a) : gT (zPubG Γ a t σ) b = gT Γ b := by simp [zPubG, gT, h]
theorem pN_all {b : Nat} : gN (zPubG Γ a t σ) b = gN Γ b := rfl
theorem pP_eq {k : Nat} : gP (zPubG Γ a t σ) a k = (σ a k).toNat - 1 := by simp [zPubG, gP]
theorem pP_ne {b k : Nat} (h : b ≠ a) : gP (zPubG Γ a t σ) b k = gP Γ b k := by simp [zPubG, gP, h]
def zCls (t : Nat) : Prop := (∀ k, tN t ≤ k → rq t k = none ∧ fq t k = none ∧ f0 t k = none) ∧ dq t = none ∧ (∀ k, aq t k = none) ∧ (∀ k, a1 t k = none) ∧ lq t = none ∧ tK t = 1 ∧ tK (t + 20) = 1 ∧ tC (t + 20) = tC t ∧ tN (t + 20) = tN t
/-- what one field comes to -/
theorem zChk_k (h : zRaw Γ σ a t D) (hc : zChk t D = true) {k : Nat} (hk : k < tN t) : (∃ u q : Nat, rq t k = some u ∧ fq t k = none ∧ f0 t k = none ∧ sK (t + 20) k = 3 ∧ sK t k = 2 ∧ σ a k = (q : Int) + 1 ∧ gT Γ q = u ∧ (k, u, (0 : Int)).2.1 = u) ∨ (rq t k = none ∧ (∀ r, fq t k = some r → r.1 ≤ σ a k ∧ σ a k ≤ r.2) ∧ (∀ v, f0 t k = some v → σ a k = v) ∧ sK (t + 20) k = sK t k ∧ sK t k < 2) := by
  have h1 := List.all_eq_true.mp hc k (List.mem_range.mpr hk)
  have fin : ∀ v : Int, σ a k = v → ((rq t k).isNone && zFits (fq t k) v && zIs (f0 t k) v && sK (t + 20) k == sK t k && decide (sK t k < 2)) = true → (rq t k = none ∧ (∀ r, fq t k = some r → r.1 ≤ σ a k ∧ σ a k ≤ r.2) ∧ (∀ v, f0 t k = some v → σ a k = v) ∧ sK (t + 20) k = sK t k ∧ sK t k < 2) := by
    intro v hv hh
    simp only [Bool.and_eq_true, beq_iff_eq, decide_eq_true_eq, Option.isNone_iff_eq_none] at hh
    obtain ⟨⟨⟨⟨g1, g2⟩, g3⟩, g4⟩, g5⟩ := hh
    refine ⟨g1, fun r hr => ?_, fun w hw => ?_, g4, g5⟩
    · rw [hr] at g2
      simp only [zFits, Bool.and_eq_true, decide_eq_true_eq] at g2
      omega
    · rw [hw] at g3
      simp only [zIs, decide_eq_true_eq] at g3
      omega
  cases hf : D.find? (fun d => d.1 == k) with
  | none =>
    rw [hf] at h1
    refine Or.inr (fin 0 (h.2.1 k fun d hd e => ?_) h1)
    have := List.find?_eq_none.mp hf d hd
    simp [e] at this
  | some d =>
    rw [hf] at h1
    have hm := List.mem_of_find?_eq_some hf
    have hk2 : d.1 = k := by simpa using List.find?_some hf
    have hd := h.2.2 d hm
    unfold zDn at hd
    by_cases h0 : d.2.1 = 0
    · simp only [h0, if_true] at h1
      rw [if_pos h0, hk2] at hd
      exact Or.inr (fin _ hd h1)
    · simp only [h0, if_false] at h1
      rw [if_neg h0, hk2] at hd
      simp only [Bool.and_eq_true, beq_iff_eq, Option.isNone_iff_eq_none] at h1
      obtain ⟨⟨⟨⟨g1, g2⟩, g3⟩, g4⟩, g5⟩ := h1
      obtain ⟨q, e1, e2⟩ := hd
      exact Or.inl ⟨_, q, g1, g2, g3, g4, g5, e1, e2, rfl⟩
theorem zPub_OK (h : zB G0 s0 a t D Γ σ) (hc : zChk t D = true) (hz : zCls t) : zOK (zPubG Γ a t σ) σ := by
  obtain ⟨hO, hr, hy, hn, ht⟩ := h
  obtain ⟨z1, z2, z3, z4, z5, -⟩ := hz
  have ha := hr.1
  have hup : ∀ b u, gT Γ b = u → u ≠ t + 20 → gT (zPubG Γ a t σ) b = u := fun b u hb hu => by
    rw [pT_ne (fun e => hu (by rw [← hb, e, ha]))]; exact hb
  have key : ∀ k, (∀ u, rq t k = some u → gT (zPubG Γ a t σ) ((σ a k).toNat - 1) = u) ∧ (∀ r, fq t k = some r → r.1 ≤ σ a k ∧ σ a k ≤ r.2) ∧ (∀ v, f0 t k = some v → σ a k = v) := fun k => by
    by_cases hk : k < tN t
    · rcases zChk_k hr hc hk with ⟨u, q, g1, g2, g3, -, -, g4, g5, -⟩ | ⟨g1, g2, g3, -, -⟩
      · refine ⟨fun v hv => ?_, fun r h => (by rw [g2] at h; cases h), fun r h => (by rw [g3] at h; cases h)⟩
        rw [g1] at hv; cases hv
        have e : (σ a k).toNat - 1 = q := by omega
        rw [e]
        refine hup q u g5 (fun e2 => ?_)
        have := rq_lt g1
        omega
      · exact ⟨fun u hu => (by rw [g1] at hu; cases hu), g2, g3⟩
    · obtain ⟨g1, g2, g3⟩ := z1 k (by omega)
      exact ⟨fun v h => (by rw [g1] at h; cases h), fun v h => (by rw [g2] at h; cases h), fun v h => (by rw [g3] at h; cases h)⟩
  refine ⟨⟨fun b hb => ?_, fun b k u hu => ?_, fun b m hm => ?_, fun b => ⟨(hO.1.2.2.2 b).1, fun h => ?_⟩⟩, ⟨fun b k r hr2 => ?_, fun b k r hk hr2 => ?_, fun b k u hk hu => ?_⟩, fun b k v hv => ?_, fun b k v hk hv => ?_⟩
  · by_cases e : b = a
    · subst e; exact hO.1.1 b (by rw [ha]; omega)
    · rw [pT_ne e] at hb; exact hO.1.1 b hb
  · by_cases e : b = a
    · subst e; rw [pT_eq] at hu; rw [pP_eq]; exact (key k).1 u hu
    · rw [pT_ne e] at hu; rw [pP_ne e]
      refine hup _ u (hO.1.2.1 b k u hu) (fun e2 => ?_)
      have := rq_lt hu
      omega
  · by_cases e : b = a
    · subst e; rw [pT_eq, z5] at hm; cases hm
    · rw [pT_ne e] at hm; exact hO.1.2.2.1 b m hm
  · by_cases e : b = a
    · subst e; rw [pT_eq] at h; omega
    · rw [pT_ne e] at h; exact (hO.1.2.2.2 b).2 h
  · by_cases e : b = a
    · subst e; rw [pT_eq] at hr2; exact (key k).2.1 r hr2
    · rw [pT_ne e] at hr2; exact hO.2.1.1 b k r hr2
  · by_cases e : b = a
    · subst e; rw [pT_eq, z3] at hr2; cases hr2
    · rw [pT_ne e] at hr2; exact hO.2.1.2.1 b k r hk hr2
  · by_cases e : b = a
    · subst e; rw [pT_eq, z2] at hu; cases hu
    · rw [pT_ne e] at hu
      rcases hO.2.1.2.2 b k u hk hu with g | ⟨g, g2⟩
      · exact Or.inl g
      · refine Or.inr ⟨g, hup _ u g2 (fun e2 => ?_)⟩
        have := dq_lt hu
        omega
  · by_cases e : b = a
    · subst e; rw [pT_eq] at hv; exact (key k).2.2 v hv
    · rw [pT_ne e] at hv; exact hO.2.2.1 b k v hv
  · by_cases e : b = a
    · subst e; rw [pT_eq, z4] at hv; cases hv
    · rw [pT_ne e] at hv; exact hO.2.2.2 b k v hk hv
theorem zPub_Y (h : zB G0 s0 a t D Γ σ) : zYa a G0 s0 (zPubG Γ a t σ) σ := fun b hb h0 => by
  obtain ⟨e1, e2, e3, e4⟩ := h.2.2.1 b hb h0
  exact ⟨by rw [pT_ne hb]; exact e1, e2, fun k => by rw [pP_ne hb]; exact e3 k, e4⟩
theorem zPub_c (h : zB G0 s0 a t D Γ σ) (hD : ∀ d ∈ D, d.2.1 = 0 ∨ zCl d.2.1) : zNc a G0 (zPubG Γ a t σ) := fun b hb h0 h1 => by
  rw [pT_ne hb] at h1 ⊢
  rcases h.2.2.2.1 b hb h0 h1 with h2 | ⟨d, hd, e1, e2⟩
  · exact h2
  · rcases hD d hd with h3 | h3
    · exact absurd (by rw [← e1]; exact h3) h1
    · rw [← e1]; exact h3
theorem zPub_u (h : zB G0 s0 a t D Γ σ) : ∀ b, b ≠ a → gT G0 b = 0 → gT (zPubG Γ a t σ) b ≠ 0 → zCl (gT (zPubG Γ a t σ) b) ∨ ∃ d ∈ D, d.2.1 = gT (zPubG Γ a t σ) b ∧ gP (zPubG Γ a t σ) a d.1 = b := fun b hb h0 h1 => by
  rw [pT_ne hb] at h1 ⊢
  rcases h.2.2.2.1 b hb h0 h1 with h2 | ⟨d, hd, e1, e2⟩
  · exact Or.inl h2
  · exact Or.inr ⟨d, hd, e1, by rw [pP_eq, e2]; omega⟩
theorem zPub_R {E : zE} {H : Heap} (h : zB G0 s0 a t D Γ σ) (hc : zChk t D = true) (hz : zCls t) (hR : zR E Γ σ H) : zR E (zPubG Γ a t σ) σ H := by
  have hr := h.2.1
  obtain ⟨-, -, -, -, -, k1, k2, k3, k4⟩ := hz
  have e : zW E Γ σ = zW E (zPubG Γ a t σ) σ := by
    unfold zW
    show va_pl Γ.1 _ = va_pl Γ.1 _
    apply va_pl_congr
    intro b
    by_cases hb : b = a
    · subst hb
      rw [zF_obj hr.1 k2 k3 k4, zF_obj pT_eq k1 rfl rfl]
      congr 2
      apply List.map_congr_left
      intro k hk
      rcases zChk_k hr hc (List.mem_range.mp hk) with ⟨u, q, -, -, -, g1, g2, g3, -, -⟩ | ⟨-, -, -, g1, g2⟩
      · rw [g1, g2, g3, pP_eq, g3]
        have a3 : ∀ (r : Nat) (x : Int), zV 3 r x = va_rf (zQ x) := fun _ _ => rfl
        have a2 : ∀ (r : Nat) (x : Int), zV 2 r x = Value.ref r := fun _ _ => rfl
        rw [a3, a2]
        have e1 : zQ ((q : Int) + 1) = some q := by
          unfold zQ
          rw [if_neg (by omega)]
          congr 1
        have e2 : ((q : Int) + 1).toNat - 1 = q := by omega
        rw [e1, e2]
        rfl
      · rw [g1]
        rcases (show sK t k = 0 ∨ sK t k = 1 by omega) with g3 | g3
        · rw [g3]; rfl
        · rw [g3]; rfl
    · unfold zF
      rw [pT_ne hb, pN_all]
      congr 1
      funext k
      exact (pP_ne hb).symm
  unfold zR at hR ⊢
  rw [← e]
  exact hR
end ZB
section PB
variable {X : zX} {E : zE} {nL : Nat} {G0 Γ : zG} {s0 σ : zS} {a t k n : Nat} {D : List (Nat × Nat × Int)} {L : List (Nat × Value)} {pc : Nat} {st : List Value}
theorem j_pub (h : zB G0 s0 a t D Γ σ) (hc : zChk t D = true) (hz : zCls t) (kk : JJ X E nL (zPubG Γ a t σ) σ k n L pc st) : JJ X E nL Γ σ k n L pc st := fun H locs ls hR hS hl => kk H locs ls (zPub_R h hc hz hR) hS hl
theorem j_ren {Γ : zG} {σ : zS} {P : zG → zS → Prop} (h : P Γ σ) (kk : ∀ G s, P G s → JJ X E nL G s k n L pc st) : JJ X E nL Γ σ k n L pc st := kk Γ σ h
end PB
