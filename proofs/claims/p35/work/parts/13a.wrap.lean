/-! methods with a table of their own, never throwing; calls of what may throw inside them -/
def ConH (E : zE) (l : Launch) (y : MethodName) (cc : ByteArray) (nL : Nat) (ret : Option FieldType) (hh : List (Nat × Nat × Nat × Nat)) (rm : Room) (Pre : zG → zS → List Value → Prop) (Post : zG → zS → List Value → Option Value → zG → zS → Prop) : Prop :=
  ∀ Γ σ vs, Pre Γ σ vs → Met l y (.codeWith y cc nL ret hh :: tblG) rm (zPc E Γ σ vs) (zQc E (Post Γ σ vs)) rm.cells rm.slots (zA E)
theorem zMetH {l : Launch} {y : MethodName} {ws ws' : List Cond} {rm : Room} {Pc : Array Value → State → Prop} {Qc : Array Value → State → Outcome → State → Prop} {mc ms : Nat} {free : Addr → Prop} {cc : ByteArray} {maxL : Nat} {ret : Option FieldType} {hh : List (Nat × Nat × Nat × Nat)}
    (hy : plainName y.cls = true) (hw : ws = Cond.codeWith y cc maxL ret hh :: ws')
    (body : ∀ p e s m args below meth c s₁, BodyLoose p l y (headSpec ws rm) cc maxL ret e s m args below meth c s₁ → c.maxLocals = maxL → Pc args s →
      W p l e (headSpec ws rm).room s m args below meth c s.heap [] 0 0 (MQ below Qc args s mc ms free) (entryFrame m args maxL)) : Met l y ws rm Pc Qc mc ms free := by
  refine MetFree.of_bodyS (code := cc) (maxLocals := maxL) (ret := ret) hy ?_ ?_
  · intro args s m h hn
    obtain ⟨m9, meth, c, hn9, h1, h2, h3, h4, -, h5, h6, -⟩ := Cond.codeWith_spec (atoms_spec (ws := ws) h _ (by rw [hw]; exact List.mem_cons_self))
    cases hn.symm.trans hn9
    exact ⟨meth, c, h1, h2, h3, h4, h5, h6⟩
  · intro p e s m args below meth c s₁ B hml hP _
    have hh0 : s₁.heap = s.heap := by rw [B.state]; rfl
    obtain ⟨t, a1, o, b1, b2, b3⟩ := body p e s m args below meth c s₁ B hml hP s₁ hh0 (Stand.of_body B)
    exact ⟨t, o, a1, b1, b2, b3⟩
theorem zcodeH {y : MethodName} {cc : ByteArray} {nL : Nat} {ret : Option FieldType} {hh : List (Nat × Nat × Nat × Nat)} (h : Cond.codeWith y cc nL ret hh ∈ tblG) : GoodIn tblG (.codeWith y cc nL ret hh :: tblG) := by
  intro w hw
  rcases List.mem_cons.mp hw with rfl | hw
  · exact ⟨h, good_of_word (tblG_good _ h)⟩
  · exact ⟨hw, good_of_word (tblG_good _ hw)⟩
theorem ConH.mk {E : zE} {l : Launch} {y : MethodName} {cc : ByteArray} {nL : Nat} {ret : Option FieldType} {hh : List (Nat × Nat × Nat × Nat)} {rm : Room} {Pre : zG → zS → List Value → Prop} {Post : zG → zS → List Value → Option Value → zG → zS → Prop} (hst : l.stackTraces = false) (hy : plainName y.cls = true) (hlen : ∀ Γ σ vs, Pre Γ σ vs → (lg_sl vs).length ≤ nL)
    (h : ∀ X Γ σ vs, Pre Γ σ vs → xl X = l → CX X E y.cls y cc nL ret rm → (xc X).exceptionTable.toList = tableOf hh → CR X E rm (Post Γ σ vs) → JJ X E nL Γ σ 0 0 (lv_args 0 vs) 0 []) : ConH E l y cc nL ret hh rm Pre Post := by
  intro Γ σ vs hpre
  refine zMetH hy rfl ?_
  intro p e s m args below meth c s₁ B hml hv
  obtain ⟨rfl, hb, hR, hO⟩ := hv
  have hts : ∀ w ∈ (Cond.codeWith y cc nL ret hh :: tblG), w.before vs.toArray s = true := atoms_spec (ws := Cond.codeWith y cc nL ret hh :: tblG) B.pre
  have hJ := h (p, l, e, rm, s, m, vs.toArray, below, meth, c, MQ below (zQc E (Post Γ σ vs)) vs.toArray s rm.cells rm.slots (zA E)) Γ σ vs hpre rfl ⟨B.exec, B.bytes, hml, findClass_of_methodNamed B.named, fun w hw => hts w (List.mem_cons_of_mem _ hw), hO, B.notSynchronized, B.returns, hb, rfl, (name_of_methodNamed B.named B.method).1, hst⟩ (vx_table (x := y) B (hts _ List.mem_cons_self)) (Or.inl rfl)
  have hl := lv_entry vs (hlen Γ σ vs hpre)
  rw [lg_entry_eq]
  exact hJ s.heap [] _ hR va_S.rf hl
/-- where an exception is caught -/
def ZH (X : zX) (own Ex : String) (pc hpc : Nat) : Prop := ∃ (pre : List ExceptionTableEntry) (x : ExceptionTableEntry) (suf : List ExceptionTableEntry) (name : String), (xc X).exceptionTable.toList = pre ++ x :: suf ∧ (∀ z ∈ pre, covers z pc = false ∨ (z.catchType ≠ 0 ∧ ∃ nm : String, (Cond.classLink own z.catchType nm).before (xa X) (xs X) = true ∧ va_Nc Ex nm (xs X))) ∧ covers x pc = true ∧ x.catchType ≠ 0 ∧ (Cond.classLink own x.catchType name).before (xa X) (xs X) = true ∧ (Cond.castable Ex name).before (xa X) (xs X) = true ∧ x.handlerPc = hpc
section JH9
variable {X : zX} {E : zE} {own : String} {y : MethodName} {cc : ByteArray} {nL : Nat} {ret : Option FieldType} {R : Room} {Γ : zG} {σ : zS} {k n : Nat} {L : List (Nat × Value)} {pc pc2 : Nat} {st rest : List Value}
theorem j_runH {PP : Option Value → zG → zS → Prop} {PX : String → zG → zS → Prop} {a : Array Value} {mc ms k2 n2 : Nat} (hk2 : k + mc = k2) (hn2 : n + ms = n2) (hx : CX X E own y cc nL ret R) (hpc : pc + 3 = pc2) (hrun : ∀ (H : Heap) (locs : List Loc) (ls : Array Slot), zR E Γ σ H → va_S (zA E) (xs X).heap H locs → lv_has ls nL L → vx_Run (xp X) (xl X) (xe X) (xR X) (xs X) (xm X) (xa X) (xb X) (xh X) (xc X) H locs k n mc ms (F0 (xm X) pc ls st) rest (zQc E PP a) (zXc E PX) (zA E)) (kx : ∀ Ex Γ2 σ2, PX Ex Γ2 σ2 → ∃ hpc, ZH X own Ex pc hpc ∧ ∀ q, JJ X E nL Γ2 σ2 k2 n2 L hpc [.ref q]) (kk : ∀ v Γ2 σ2, PP v Γ2 σ2 → JJ X E nL Γ2 σ2 k2 n2 L pc2 (v.toList ++ rest)) : JJ X E nL Γ σ k n L pc st := by
  subst hk2 hn2
  intro H locs ls hR hS hl T hT Xst
  rcases hrun H locs ls hR hS hl T hT Xst with ⟨v, st₀, t, T', L1, h0, X', hL, e1, e2, ⟨⟨v1, Γ2, σ2, hv, hp, hR2⟩, hF⟩, stp⟩ | ⟨q, st₀, t, T', L1, Ex, ce, h0, X', hL, e1, e2, ⟨⟨Γ2, σ2, hp, hR2⟩, hF⟩, hce, hcv, hcl, stp⟩
  · cases hv
    obtain ⟨k1, k2, k3⟩ := vx_keep h0 e1 hS (fun q _ h => h) (fun q h => h) hL hF
    obtain ⟨t2, a1, b1⟩ := kk v Γ2 σ2 hp T'.heap (locs ++ L1) ls (by rw [e1]; exact hR2) k3 hl T' rfl X'
    subst hpc
    exact ⟨t2, stp t2 a1, b1⟩
  · obtain ⟨k1, k2, k3⟩ := vx_keep h0 e1 hS (fun q _ h => h) (fun q h => h) hL hF
    obtain ⟨hpc9, ⟨pre, x, suf, name, z1, z2, z3, z4, z5, z6, rfl⟩, hJ⟩ := kx Ex Γ2 σ2 hp
    have hw : vx_W (xp X) (xl X) (xe X) (xR X) (xs X) (xm X) (xa X) (xb X) (xh X) (xc X) T'.heap (locs ++ L1) (k + mc) (n + ms) (xQ X) (F0 (xm X) pc ls rest) q :=
      vx_catch hx.2.2.2.1 pre x suf z1 z2 z3 z4 z5 z6 (by rw [e1]; exact hce) hcv hcl (hJ q T'.heap (locs ++ L1) ls (by rw [e1]; exact hR2) k3 hl)
    obtain ⟨t2, a1, b1⟩ := hw T' rfl X'
    exact ⟨t2, stp.trans a1, b1⟩
theorem j_callVH (hx : CX X E own y cc nL ret R) (hG : zGK Γ) {idx na nLb t ci N a : Nat} {C : String} {yb : MethodName} {ccb : ByteArray} {retb : Option FieldType} {rmb : Room} {Pre : zG → zS → List Value → Prop} {Post : zG → zS → List Value → Option Value → zG → zS → Prop} {PXb : zG → zS → List Value → String → zG → zS → Prop} {T : u_T} (con : ConX E (xl X) yb ccb nLb retb rmb Pre Post PXb) (lk : LkV own idx C yb ccb nLb retb na) (ht : gT Γ a = t) (ht0 : t ≠ 0) (hk : tK t = 1) (hc : tC t = ci) (hN : tN t = N) (hcl : vwCl[ci]? = some (C, T, N)) (vs : List Value) (hpre : Pre Γ σ (.ref a :: vs)) (hna : vs.length = na) (hst : st = vs.reverse ++ .ref a :: rest) (hrm : rmb.frames + 1 ≤ R.frames ∧ 8 + (nLb + 11) + rmb.locals ≤ R.locals) (hf : k + rmb.cells ≤ R.cells ∧ n + rmb.slots ≤ R.slots) {k2 n2 : Nat} (hk2 : k + rmb.cells = k2) (hn2 : n + rmb.slots = n2) (hw : (rest.map fun v => v.category).sum ≤ 8) (d : Dc cc pc (.invokevirtual idx) 3 pc2) (kx : ∀ Ex Γ2 σ2, PXb Γ σ (.ref a :: vs) Ex Γ2 σ2 → ∃ hpc, ZH X own Ex pc hpc ∧ ∀ q, JJ X E nL Γ2 σ2 k2 n2 L hpc [.ref q]) (kk : ∀ v Γ2 σ2, Post Γ σ (.ref a :: vs) v Γ2 σ2 → JJ X E nL Γ2 σ2 k2 n2 L pc2 (v.toList ++ rest)) : JJ X E nL Γ σ k n L pc st := by
  obtain ⟨l1, l2, l3, l4, l5, l6, l7, l8, l9⟩ := lk
  subst l6
  obtain ⟨rfl⟩ : xR X = R := hx.2.2.2.2.2.2.2.2.2.1
  have ok := hx.2.2.2.2.1
  refine j_runH hk2 hn2 (PP := Post Γ σ (.ref a :: vs)) (PX := PXb Γ σ (.ref a :: vs)) (a := (Value.ref a :: vs).toArray) hx d.2 (fun H locs ls hR hS hl => ?_) kx kk
  exact vx_runV ⟨hx.1, hx.2.1, hx.2.2.1, hx.2.2.2.1, ok⟩ (con Γ σ _ hpre) ⟨callB_of na ok (zcode l5) rfl rfl rfl (ok _ l4) (ok _ l1) ⟨l7, l8, l9⟩ hrm, ok _ l2, ok _ l3⟩ ⟨zblind, zrecv hx hG ht ht0 hk hc hN hcl hR, zcallee hx hR hS (.ref a :: vs)⟩ rfl hna hl.1 hst (lv_room hw) d.1 hf
def LkSH (own : String) (idx : Nat) (yb : MethodName) (ccb : ByteArray) (nLb : Nat) (retb : Option FieldType) (hh : List (Nat × Nat × Nat × Nat)) (na : Nat) : Prop := Cond.methodLink own idx yb ∈ tblG ∧ Cond.static yb ∈ tblG ∧ Cond.initialized yb.cls ∈ tblG ∧ Cond.codeWith yb ccb nLb retb hh ∈ tblG ∧ yb.cls ≠ "java/lang/invoke/MethodHandle" ∧ yb.cls ≠ "java/lang/invoke/VarHandle" ∧ (parseMethodDescriptor yb.desc).map (fun d => d.parameters.length) = some na
theorem j_callSH (hx : CX X E own y cc nL ret R) {idx na nLb : Nat} {yb : MethodName} {ccb : ByteArray} {retb : Option FieldType} {hh : List (Nat × Nat × Nat × Nat)} {rmb : Room} {Pre : zG → zS → List Value → Prop} {Post : zG → zS → List Value → Option Value → zG → zS → Prop} (con : ConH E (xl X) yb ccb nLb retb hh rmb Pre Post) (lk : LkSH own idx yb ccb nLb retb hh na) (vs : List Value) (hpre : Pre Γ σ vs) (hna : vs.length = na) (hst : st = vs.reverse ++ rest) (hrm : rmb.frames + 1 ≤ R.frames ∧ 8 + (nLb + 11) + rmb.locals ≤ R.locals) (hf : k + rmb.cells ≤ R.cells ∧ n + rmb.slots ≤ R.slots) {k2 n2 : Nat} (hk2 : k + rmb.cells = k2) (hn2 : n + rmb.slots = n2) (hw : (rest.map fun v => v.category).sum ≤ 8) (d : Dc cc pc (.invokestatic idx) 3 pc2) (kk : ∀ v Γ2 σ2, Post Γ σ vs v Γ2 σ2 → JJ X E nL Γ2 σ2 k2 n2 L pc2 (v.toList ++ rest)) : JJ X E nL Γ σ k n L pc st := by
  obtain ⟨l1, l2, l4, l5, l7, l8, l9⟩ := lk
  obtain ⟨rfl⟩ : xR X = R := hx.2.2.2.2.2.2.2.2.2.1
  have ok := hx.2.2.2.2.1
  refine j_run hk2 hn2 (PP := Post Γ σ vs) (a := vs.toArray) d.2 (fun H locs ls hR hS hl => ?_) kk
  exact vx_runSW ⟨hx.1, hx.2.1, hx.2.2.1, hx.2.2.2.1, ok⟩ (con Γ σ _ hpre) ⟨⟨rfl, rfl, hrm.1, hrm.2, pay_in ok (zcodeH l5), List.mem_cons_self⟩, ok _ l5, ok _ l4, ⟨l7, l8⟩, fun sig h => by rw [h] at l9; exact (Option.some.inj l9).symm, ok _ l1, ok _ l2⟩ ⟨zblind, zcallee hx hR hS vs⟩ rfl hna hl.1 hst (lv_room hw) d.1 hf
end JH9
/-- the one row, or the second of two -/
theorem ZH1 {X : zX} {E : zE} {own : String} {y : MethodName} {cc : ByteArray} {nL : Nat} {ret : Option FieldType} {R : Room} {Ex : String} {pc : Nat} {x : ExceptionTableEntry} {suf : List ExceptionTableEntry} (hx : CX X E own y cc nL ret R) (ht : (xc X).exceptionTable.toList = x :: suf) (hc : covers x pc = true) (h0 : x.catchType ≠ 0) (hl : Cond.classLink own x.catchType Ex ∈ tblG) (hm : Cond.castable Ex Ex ∈ tblM) : ZH X own Ex pc x.handlerPc := ⟨[], x, suf, Ex, ht, fun z hz => absurd hz List.not_mem_nil, hc, h0, hx.2.2.2.2.1 _ hl, zMore_use (tblM_is _ hm) (hx.2.2.2.2.2.1.2.2.2.2.2.2.1 _ hm), rfl⟩
theorem ZH2 {X : zX} {E : zE} {own : String} {y : MethodName} {cc : ByteArray} {nL : Nat} {ret : Option FieldType} {R : Room} {Ex nm : String} {pc : Nat} {x1 x : ExceptionTableEntry} {suf : List ExceptionTableEntry} (hx : CX X E own y cc nL ret R) (ht : (xc X).exceptionTable.toList = x1 :: x :: suf) (h1 : x1.catchType ≠ 0) (hl1 : Cond.classLink own x1.catchType nm ∈ tblG) (hn : va_Nc Ex nm (xs X)) (hc : covers x pc = true) (h0 : x.catchType ≠ 0) (hl : Cond.classLink own x.catchType Ex ∈ tblG) (hm : Cond.castable Ex Ex ∈ tblM) : ZH X own Ex pc x.handlerPc := ⟨[x1], x, suf, Ex, ht, fun z hz => by rw [List.mem_singleton.mp hz]; exact Or.inr ⟨h1, nm, hx.2.2.2.2.1 _ hl1, hn⟩, hc, h0, hx.2.2.2.2.1 _ hl, zMore_use (tblM_is _ hm) (hx.2.2.2.2.2.1.2.2.2.2.2.2.1 _ hm), rfl⟩
/-! the script -/
def ZS (X : zX) (E : zE) (b L : Nat) (ys : Nat → Int) : Prop := va_X b L (fun j => zI (ys j)) (xs X) (xs X).heap ∧ b < (xs X).heap.size ∧ ¬ zA E b
section JS9
variable {X : zX} {E : zE} {own : String} {y : MethodName} {cc : ByteArray} {nL : Nat} {ret : Option FieldType} {R : Room} {Γ : zG} {σ : zS} {k n : Nat} {L : List (Nat × Value)} {pc pc2 : Nat} {st : List Value}
theorem j_sld (hx : CX X E own y cc nL ret R) {b L0 j : Nat} {ys : Nat → Int} {i : Int} (hs : ZS X E b L0 ys) (hi : i = j) (hj : j < L0) (hj2 : L0 ≤ 1000000) (d : Dc cc pc .iaload 1 pc2) (kk : JJ X E nL Γ σ k n L pc2 (.int (zI (ys j)) :: st)) : JJ X E nL Γ σ k n L pc (.int (zI i) :: .ref b :: st) := by
  intro H locs ls hR hS hl
  obtain ⟨d1, rfl⟩ := d
  subst hi
  refine va_sld hx.1 hx.2.1 hs.1 hs.2.1 hs.2.2 hS (i := zI (j : Int)) (zI_in (by omega) (by omega) (by omega)) d1 ?_
  have e : (zI (j : Int)).toNatClampNeg = j := by rw [zI_nat (by omega) (by omega)]; omega
  rw [e]
  exact kk H locs ls hR hS hl
theorem j_slen (hx : CX X E own y cc nL ret R) {b L0 : Nat} {ys : Nat → Int} {m : Int} (hs : ZS X E b L0 ys) (hm : m = L0) (d : Dc cc pc .arraylength 1 pc2) (kk : JJ X E nL Γ σ k n L pc2 (.int (zI m) :: st)) : JJ X E nL Γ σ k n L pc (.ref b :: st) := by
  intro H locs ls hR hS hl
  obtain ⟨d1, rfl⟩ := d
  subst hm
  exact va_slen hx.1 hx.2.1 hs.1 hs.2.1 hs.2.2 hS d1 (kk H locs ls hR hS hl)
end JS9
/-- one number fits -/
theorem zuniq {W D r b : Int} (hW : 0 ≤ W) (hr : 0 ≤ r ∧ r ≤ 17) (hb : 0 ≤ b ∧ b ≤ 17) (r1 : r ≤ 16 → 16 * D ≤ r * W) (r2 : 1 ≤ r → (r - 1) * W < 16 * D) (b1 : b ≤ 16 → 16 * D ≤ b * W) (b2 : 1 ≤ b → (b - 1) * W < 16 * D) : r = b := by
  rcases Int.lt_trichotomy r b with h | h | h
  · have h1 := r1 (by omega)
    have h2 := b2 (by omega)
    have h3 : r * W ≤ (b - 1) * W := Int.mul_le_mul_of_nonneg_right (by omega) hW
    omega
  · exact h
  · have h1 := b1 (by omega)
    have h2 := r2 (by omega)
    have h3 : b * W ≤ (r - 1) * W := Int.mul_le_mul_of_nonneg_right (by omega) hW
    omega
theorem zS0m_of {Γ : zG} {σ : zS} (h : zS0 Γ σ) : zS0m Γ σ := ⟨fun a k v _ hv => h.1 a k v hv, fun a k v _ hk hv => h.2 a k v hk hv⟩
theorem zS0m_fr {Γ : zG} {σ σ2 : zS} {ts : List Nat} (h : zS0m Γ σ) (hf : zFr ts Γ σ σ2) (hn : ∀ t ∈ ts, ¬ isM t) : zS0m Γ σ2 := ⟨fun a k v hm hv => by rw [hf a (fun e => hn _ e hm)]; exact h.1 a k v hm hv, fun a k v hm hk hv => by rw [hf a (fun e => hn _ e hm)]; exact h.2 a k v hm hk hv⟩
theorem cast_I : Cond.castable "java/lang/IllegalArgumentException" "java/lang/IllegalArgumentException" ∈ tblM := List.mem_filter.mpr ⟨List.mem_of_getElem? (i := 762) (by decide +kernel), rfl⟩
theorem cast_N : Cond.castable "java/util/NoSuchElementException" "java/util/NoSuchElementException" ∈ tblM := List.mem_filter.mpr ⟨List.mem_of_getElem? (i := 1010) (by decide +kernel), rfl⟩
set_option maxHeartbeats 4000000 in
set_option maxRecDepth 20000 in
theorem c_X11_needRange_x {E : zE} {l : Launch} (hst : l.stackTraces = false) (a : Nat) (x1 : Int) (x2 : Int) (x3 : Int) : ConX E l yX11_needRange cX11_needRange 4 none { frames := 6, cells := 1, slots := 6, locals := 90 } (fun G s vs => vs = [.ref a, .int (zI x1), .int (zI x2), .int (zI x3)] ∧ zGK G ∧ zSK G s ∧ (gT G a = 12) ∧ ((-2147483648) ≤ x1 ∧ x1 ≤ 2147483647) ∧ ((-2147483648) ≤ x2 ∧ x2 ≤ 2147483647) ∧ ((-2147483648) ≤ x3 ∧ x3 ≤ 2147483647)) (fun G s _ => pV (fun G2 s2 => G2 = G ∧ s2 = s ∧ (x2 ≤ x1 ∧ x1 ≤ x3))) (fun G s _ Ex G2 s2 => G2 = G ∧ zSK G s2 ∧ zFr [12] G s s2 ∧ ((Ex = "java/lang/IllegalArgumentException" ∧ (x1 < x2 ∨ x3 < x1)))) := by
  refine ConX.mk hst (by decide) (fun G s vs h => by rw [h.1]; exact Nat.le_of_ble_eq_true rfl) ?_
  rintro X G s0 vs ⟨rfl, hG, hS0, ha, hx1, hx2, hx3⟩ rfl hx hq
  show JJ X E 4 G s0 0 0 [(0, .ref a), (1, .int (zI x1)), (2, .int (zI x2)), (3, .int (zI x3))] 0 []
  refine j_iload_n hx 1 dX11_needRange_0 rfl ?_
  refine j_iload_n hx 2 dX11_needRange_1 rfl ?_
  refine j_icmp_lt hx 10 dX11_needRange_2 rfl (by omega) (by omega) (fun h1 => ?_) (fun h1 => ?_)
  · skip
    refine j_aload_n hx 0 dX11_needRange_10 rfl ?_
    refine j_dup hx dX11_needRange_11 rfl ?_
    have f2 := zf hS0 ha (k := 15) rfl
    refine g12_15 hx hG ha kf_RX11_336 rfl dX11_needRange_12 ?_
    refine j_iconst hx dX11_needRange_15 ?_
    refine j_iadd hx (r := (s0 a 15) + 1) dX11_needRange_16 (by omega) ?_
    refine j_norm (fun v3 f4 f5 f6 => ?_)
    refine p12_15 hx hG ha kf_RX11_336 dX11_needRange_17 ?_
    obtain ⟨s1, e_s1⟩ : ∃ z, z = zU s0 a 15 v3 := ⟨_, rfl⟩
    rw [← e_s1]
    have hS_s1 : zSK G s1 := by rw [e_s1]; exact zSK_F hS0 ha rfl rfl rfl (by omega)
    exact j_throwI hx hq ⟨by decide, Nat.le_of_ble_eq_true rfl⟩ ⟨by decide, by decide⟩ ⟨by decide, by decide⟩ dX11_needRange_20 dX11_needRange_23 dX11_needRange_24 dX11_needRange_27 dX11_needRange_30 ⟨rfl, hS_s1, (zFr_u zFr_rf e_s1 ha (by decide)), ⟨rfl, by first | trivial | omega⟩⟩
  · skip
    refine j_iload_n hx 1 dX11_needRange_5 rfl ?_
    refine j_iload_n hx 3 dX11_needRange_6 rfl ?_
    refine j_icmp_le hx 31 dX11_needRange_7 rfl (by omega) (by omega) (fun h7 => ?_) (fun h7 => ?_)
    · skip
      exact j_vret hx hq.r rfl (by decide) (by decide) dX11_needRange_31 ⟨rfl, rfl, rfl, by omega⟩
    · skip
      refine j_aload_n hx 0 dX11_needRange_10 rfl ?_
      refine j_dup hx dX11_needRange_11 rfl ?_
      have f8 := zf hS0 ha (k := 15) rfl
      refine g12_15 hx hG ha kf_RX11_336 rfl dX11_needRange_12 ?_
      refine j_iconst hx dX11_needRange_15 ?_
      refine j_iadd hx (r := (s0 a 15) + 1) dX11_needRange_16 (by omega) ?_
      refine j_norm (fun v9 f10 f11 f12 => ?_)
      refine p12_15 hx hG ha kf_RX11_336 dX11_needRange_17 ?_
      obtain ⟨s2, e_s2⟩ : ∃ z, z = zU s0 a 15 v9 := ⟨_, rfl⟩
      rw [← e_s2]
      have hS_s2 : zSK G s2 := by rw [e_s2]; exact zSK_F hS0 ha rfl rfl rfl (by omega)
      exact j_throwI hx hq ⟨by decide, Nat.le_of_ble_eq_true rfl⟩ ⟨by decide, by decide⟩ ⟨by decide, by decide⟩ dX11_needRange_20 dX11_needRange_23 dX11_needRange_24 dX11_needRange_27 dX11_needRange_30 ⟨rfl, hS_s2, (zFr_u zFr_rf e_s2 ha (by decide)), ⟨rfl, by first | trivial | omega⟩⟩

set_option maxHeartbeats 4000000 in
set_option maxRecDepth 20000 in
theorem c_X11_needWager_x {E : zE} {l : Launch} (hst : l.stackTraces = false) (a : Nat) (x1 : Int) (x2 : Int) (x3 : Int) (x4 : Int) : ConX E l yX11_needWager cX11_needWager 5 none { frames := 7, cells := 4, slots := 24, locals := 113 } (fun G s vs => vs = [.ref a, .int (zI x1), .int (zI x2), .int (zI x3), .int (zI x4)] ∧ zGK G ∧ zSK G s ∧ (gT G a = 12) ∧ ((-2147483648) ≤ x1 ∧ x1 ≤ 2147483647) ∧ ((-2147483648) ≤ x2 ∧ x2 ≤ 2147483647) ∧ ((-2147483648) ≤ x3 ∧ x3 ≤ 2147483647) ∧ ((-2147483648) ≤ x4 ∧ x4 ≤ 2147483647)) (fun G s _ => pV (fun G2 s2 => G2 = G ∧ s2 = s ∧ (1 ≤ x2 ∧ x2 ≤ 99 ∧ 0 ≤ x1 ∧ x1 ≤ x2 ∧ 0 ≤ x3 ∧ x3 ≤ 99 ∧ 0 ≤ x4 ∧ x4 ≤ 99))) (fun G s _ Ex G2 s2 => G2 = G ∧ zSK G s2 ∧ zFr [12] G s s2 ∧ ((Ex = "java/lang/IllegalArgumentException" ∧ (¬ (1 ≤ x2 ∧ x2 ≤ 99 ∧ 0 ≤ x1 ∧ x1 ≤ x2 ∧ 0 ≤ x3 ∧ x3 ≤ 99 ∧ 0 ≤ x4 ∧ x4 ≤ 99))))) := by
  refine ConX.mk hst (by decide) (fun G s vs h => by rw [h.1]; exact Nat.le_of_ble_eq_true rfl) ?_
  rintro X G s0 vs ⟨rfl, hG, hS0, ha, hx1, hx2, hx3, hx4⟩ rfl hx hq
  show JJ X E 5 G s0 0 0 [(0, .ref a), (1, .int (zI x1)), (2, .int (zI x2)), (3, .int (zI x3)), (4, .int (zI x4))] 0 []
  refine j_aload_n hx 0 dX11_needWager_0 rfl ?_
  refine j_iload_n hx 2 dX11_needWager_1 rfl ?_
  refine j_iconst hx dX11_needWager_2 ?_
  refine j_bipush hx dX11_needWager_3 rfl ?_
  refine j_callVX hx hq hG (c_X11_needRange_x hst a x2 1 99) lk_RX11_98 ha (by decide) rfl rfl rfl rfl [.int (zI x2), .int (zI 1), .int (zI 99)] ⟨rfl, hG, hS0, ha, (by omega), (by omega), (by omega)⟩ rfl rfl ⟨by decide, by decide⟩ ⟨by decide, by decide⟩ (k2 := 1) (n2 := 6) rfl rfl (Nat.le_of_ble_eq_true rfl) ⟨by decide, by decide⟩ dX11_needWager_5 (by rintro Ex9 G9 s9 ⟨rfl, hS9, hF9, e9, c9⟩; exact ⟨rfl, hS9, (zFr_t zFr_rf hF9 (by decide)), ⟨e9, by first | trivial | omega⟩⟩) (kVP (fun q2 => ?_))
  refine j_aload_n hx 0 dX11_needWager_8 rfl ?_
  refine j_iload_n hx 1 dX11_needWager_9 rfl ?_
  refine j_iconst hx dX11_needWager_10 ?_
  refine j_iload_n hx 2 dX11_needWager_11 rfl ?_
  refine j_callVX hx hq hG (c_X11_needRange_x hst a x1 0 x2) lk_RX11_98 ha (by decide) rfl rfl rfl rfl [.int (zI x1), .int (zI 0), .int (zI x2)] ⟨rfl, hG, hS0, ha, (by omega), (by omega), (by omega)⟩ rfl rfl ⟨by decide, by decide⟩ ⟨by decide, by decide⟩ (k2 := 2) (n2 := 12) rfl rfl (Nat.le_of_ble_eq_true rfl) ⟨by decide, by decide⟩ dX11_needWager_12 (by rintro Ex9 G9 s9 ⟨rfl, hS9, hF9, e9, c9⟩; exact ⟨rfl, hS9, (zFr_t zFr_rf hF9 (by decide)), ⟨e9, by first | trivial | omega⟩⟩) (kVP (fun q4 => ?_))
  refine j_aload_n hx 0 dX11_needWager_15 rfl ?_
  refine j_iload_n hx 3 dX11_needWager_16 rfl ?_
  refine j_iconst hx dX11_needWager_17 ?_
  refine j_bipush hx dX11_needWager_18 rfl ?_
  refine j_callVX hx hq hG (c_X11_needRange_x hst a x3 0 99) lk_RX11_98 ha (by decide) rfl rfl rfl rfl [.int (zI x3), .int (zI 0), .int (zI 99)] ⟨rfl, hG, hS0, ha, (by omega), (by omega), (by omega)⟩ rfl rfl ⟨by decide, by decide⟩ ⟨by decide, by decide⟩ (k2 := 3) (n2 := 18) rfl rfl (Nat.le_of_ble_eq_true rfl) ⟨by decide, by decide⟩ dX11_needWager_20 (by rintro Ex9 G9 s9 ⟨rfl, hS9, hF9, e9, c9⟩; exact ⟨rfl, hS9, (zFr_t zFr_rf hF9 (by decide)), ⟨e9, by first | trivial | omega⟩⟩) (kVP (fun q6 => ?_))
  refine j_aload_n hx 0 dX11_needWager_23 rfl ?_
  refine j_iload hx 4 dX11_needWager_24 rfl ?_
  refine j_iconst hx dX11_needWager_26 ?_
  refine j_bipush hx dX11_needWager_27 rfl ?_
  refine j_callVX hx hq hG (c_X11_needRange_x hst a x4 0 99) lk_RX11_98 ha (by decide) rfl rfl rfl rfl [.int (zI x4), .int (zI 0), .int (zI 99)] ⟨rfl, hG, hS0, ha, (by omega), (by omega), (by omega)⟩ rfl rfl ⟨by decide, by decide⟩ ⟨by decide, by decide⟩ (k2 := 4) (n2 := 24) rfl rfl (Nat.le_of_ble_eq_true rfl) ⟨by decide, by decide⟩ dX11_needWager_29 (by rintro Ex9 G9 s9 ⟨rfl, hS9, hF9, e9, c9⟩; exact ⟨rfl, hS9, (zFr_t zFr_rf hF9 (by decide)), ⟨e9, by first | trivial | omega⟩⟩) (kVP (fun q8 => ?_))
  exact j_vret hx hq.r rfl (by decide) (by decide) dX11_needWager_32 ⟨rfl, rfl, rfl, by omega⟩

set_option maxHeartbeats 4000000 in
set_option maxRecDepth 20000 in
theorem c_X11_waits_x {E : zE} {l : Launch} (hst : l.stackTraces = false) (a : Nat) (x1 : Int) (x2 : Int) (x3 : Int) (x4 : Int) : ConX E l yX11_waits cX11_waits 7 (some .int) { frames := 8, cells := 4, slots := 24, locals := 137 } (fun G s vs => vs = [.ref a, .int (zI x1), .int (zI x2), .int (zI x3), .int (zI x4)] ∧ zGK G ∧ zSK G s ∧ (gT G a = 12) ∧ ((-2147483648) ≤ x1 ∧ x1 ≤ 2147483647) ∧ ((-2147483648) ≤ x2 ∧ x2 ≤ 2147483647) ∧ ((-2147483648) ≤ x3 ∧ x3 ≤ 2147483647) ∧ ((-2147483648) ≤ x4 ∧ x4 ≤ 2147483647)) (fun G s _ => pI (fun r G2 s2 => G2 = G ∧ s2 = s ∧ (0 ≤ r ∧ r ≤ 17) ∧ ((r ≤ 16 → 16 * (x1 * x3 - (x2 - x1) * x4) ≤ r * (x1 * x3))) ∧ ((1 ≤ r → (r - 1) * (x1 * x3) < 16 * (x1 * x3 - (x2 - x1) * x4))) ∧ (1 ≤ x2 ∧ x2 ≤ 99 ∧ 0 ≤ x1 ∧ x1 ≤ x2 ∧ 0 ≤ x3 ∧ x3 ≤ 99 ∧ 0 ≤ x4 ∧ x4 ≤ 99))) (fun G s _ Ex G2 s2 => G2 = G ∧ zSK G s2 ∧ zFr [12] G s s2 ∧ ((Ex = "java/lang/IllegalArgumentException" ∧ (¬ (1 ≤ x2 ∧ x2 ≤ 99 ∧ 0 ≤ x1 ∧ x1 ≤ x2 ∧ 0 ≤ x3 ∧ x3 ≤ 99 ∧ 0 ≤ x4 ∧ x4 ≤ 99))))) := by
  refine ConX.mk hst (by decide) (fun G s vs h => by rw [h.1]; exact Nat.le_of_ble_eq_true rfl) ?_
  rintro X G s0 vs ⟨rfl, hG, hS0, ha, hx1, hx2, hx3, hx4⟩ rfl hx hq
  show JJ X E 7 G s0 0 0 [(0, .ref a), (1, .int (zI x1)), (2, .int (zI x2)), (3, .int (zI x3)), (4, .int (zI x4))] 0 []
  refine j_aload_n hx 0 dX11_waits_0 rfl ?_
  refine j_iload_n hx 1 dX11_waits_1 rfl ?_
  refine j_iload_n hx 2 dX11_waits_2 rfl ?_
  refine j_iload_n hx 3 dX11_waits_3 rfl ?_
  refine j_iload hx 4 dX11_waits_4 rfl ?_
  refine j_callVX hx hq hG (c_X11_needWager_x hst a x1 x2 x3 x4) lk_RX11_272 ha (by decide) rfl rfl rfl rfl [.int (zI x1), .int (zI x2), .int (zI x3), .int (zI x4)] ⟨rfl, hG, hS0, ha, (by omega), (by omega), (by omega), (by omega)⟩ rfl rfl ⟨by decide, by decide⟩ ⟨by decide, by decide⟩ (k2 := 4) (n2 := 24) rfl rfl (Nat.le_of_ble_eq_true rfl) ⟨by decide, by decide⟩ dX11_waits_6 (by rintro Ex9 G9 s9 ⟨rfl, hS9, hF9, e9, c9⟩; exact ⟨rfl, hS9, (zFr_t zFr_rf hF9 (by decide)), ⟨e9, by first | trivial | omega⟩⟩) (kVP (fun q2 => ?_))
  refine j_iload_n hx 1 dX11_waits_9 rfl ?_
  refine j_iload_n hx 3 dX11_waits_10 rfl ?_
  refine j_imul hx (r := (x1 * x3)) dX11_waits_11 rfl ?_
  have f3 : 0 ≤ (x1 * x3) ∧ (x1 * x3) ≤ 99 * 99 := zmulnn (by omega) (by omega)
  refine j_iload_n hx 2 dX11_waits_12 rfl ?_
  refine j_iload_n hx 1 dX11_waits_13 rfl ?_
  refine j_isub hx (r := x2 - x1) dX11_waits_14 rfl ?_
  refine j_iload hx 4 dX11_waits_15 rfl ?_
  refine j_imul hx (r := ((x2 - x1) * x4)) dX11_waits_17 rfl ?_
  have f4 : 0 ≤ ((x2 - x1) * x4) ∧ ((x2 - x1) * x4) ≤ 99 * 99 := zmulnn (by omega) (by omega)
  refine j_isub hx (r := (x1 * x3) - ((x2 - x1) * x4)) dX11_waits_18 (by omega) ?_
  refine j_istore hx [(5, .int (zI ((x1 * x3) - ((x2 - x1) * x4)))), (0, .ref a), (1, .int (zI x1)), (2, .int (zI x2)), (3, .int (zI x3)), (4, .int (zI x4))] dX11_waits_19 (by decide) rfl ?_
  refine j_iconst hx dX11_waits_21 ?_
  refine j_istore hx [(6, .int (zI 0)), (5, .int (zI ((x1 * x3) - ((x2 - x1) * x4)))), (0, .ref a), (1, .int (zI x1)), (2, .int (zI x2)), (3, .int (zI x3)), (4, .int (zI x4))] dX11_waits_22 (by decide) rfl ?_
  refine j_iload hx 0 dX11_waits_24 rfl ?_
  refine j_bipush hx dX11_waits_26 rfl ?_
  refine j_icmp_gt hx 54 dX11_waits_28 rfl ⟨by decide, by decide⟩ ⟨by decide, by decide⟩ (fun h5 => absurd h5 (by omega)) (fun h5 => ?_)
  refine j_iload hx 0 dX11_waits_31 rfl ?_
  refine j_iload_n hx 3 dX11_waits_33 rfl ?_
  refine j_imul hx (r := 0) dX11_waits_34 (by omega) ?_
  refine j_iload_n hx 5 dX11_waits_35 rfl ?_
  refine j_imul hx (r := 0) dX11_waits_36 (by omega) ?_
  refine j_bipush hx dX11_waits_37 rfl ?_
  refine j_iload hx 1 dX11_waits_39 rfl ?_
  refine j_imul hx (r := 16 * (x1 * x3) - 16 * ((x2 - x1) * x4)) dX11_waits_41 (by omega) ?_
  refine j_icmp_lt hx 48 dX11_waits_42 rfl ⟨by decide, by decide⟩ (by omega) (fun h6 => ?_) (fun h6 => ?_)
  · skip
    refine j_iinc hx 0 [(6, .int (zI 1)), (5, .int (zI ((x1 * x3) - ((x2 - x1) * x4)))), (0, .ref a), (1, .int (zI x1)), (2, .int (zI x2)), (3, .int (zI x3)), (4, .int (zI x4))] dX11_waits_48 rfl (by omega) (by decide) rfl ?_
    refine j_goto hx 24 dX11_waits_51 rfl ?_
    refine j_iload hx 0 dX11_waits_24 rfl ?_
    refine j_bipush hx dX11_waits_26 rfl ?_
    refine j_icmp_gt hx 54 dX11_waits_28 rfl ⟨by decide, by decide⟩ ⟨by decide, by decide⟩ (fun h7 => absurd h7 (by omega)) (fun h7 => ?_)
    refine j_iload hx 0 dX11_waits_31 rfl ?_
    refine j_iload_n hx 3 dX11_waits_33 rfl ?_
    refine j_imul hx (r := x1) dX11_waits_34 (by omega) ?_
    refine j_iload_n hx 5 dX11_waits_35 rfl ?_
    refine j_imul hx (r := (x1 * x3)) dX11_waits_36 rfl ?_
    refine j_bipush hx dX11_waits_37 rfl ?_
    refine j_iload hx 1 dX11_waits_39 rfl ?_
    refine j_imul hx (r := 16 * (x1 * x3) - 16 * ((x2 - x1) * x4)) dX11_waits_41 (by omega) ?_
    refine j_icmp_lt hx 48 dX11_waits_42 rfl (by omega) (by omega) (fun h8 => ?_) (fun h8 => ?_)
    · skip
      refine j_iinc hx 0 [(6, .int (zI 2)), (5, .int (zI ((x1 * x3) - ((x2 - x1) * x4)))), (0, .ref a), (1, .int (zI x1)), (2, .int (zI x2)), (3, .int (zI x3)), (4, .int (zI x4))] dX11_waits_48 rfl (by omega) (by decide) rfl ?_
      refine j_goto hx 24 dX11_waits_51 rfl ?_
      refine j_iload hx 0 dX11_waits_24 rfl ?_
      refine j_bipush hx dX11_waits_26 rfl ?_
      refine j_icmp_gt hx 54 dX11_waits_28 rfl ⟨by decide, by decide⟩ ⟨by decide, by decide⟩ (fun h9 => absurd h9 (by omega)) (fun h9 => ?_)
      refine j_iload hx 0 dX11_waits_31 rfl ?_
      refine j_iload_n hx 3 dX11_waits_33 rfl ?_
      refine j_imul hx (r := 2 * x1) dX11_waits_34 rfl ?_
      refine j_iload_n hx 5 dX11_waits_35 rfl ?_
      refine j_imul hx (r := 2 * (x1 * x3)) dX11_waits_36 (by rw [Int.mul_assoc]) ?_
      refine j_bipush hx dX11_waits_37 rfl ?_
      refine j_iload hx 1 dX11_waits_39 rfl ?_
      refine j_imul hx (r := 16 * (x1 * x3) - 16 * ((x2 - x1) * x4)) dX11_waits_41 (by omega) ?_
      refine j_icmp_lt hx 48 dX11_waits_42 rfl (by omega) (by omega) (fun h10 => ?_) (fun h10 => ?_)
      · skip
        refine j_iinc hx 0 [(6, .int (zI 3)), (5, .int (zI ((x1 * x3) - ((x2 - x1) * x4)))), (0, .ref a), (1, .int (zI x1)), (2, .int (zI x2)), (3, .int (zI x3)), (4, .int (zI x4))] dX11_waits_48 rfl (by omega) (by decide) rfl ?_
        refine j_goto hx 24 dX11_waits_51 rfl ?_
        refine j_iload hx 0 dX11_waits_24 rfl ?_
        refine j_bipush hx dX11_waits_26 rfl ?_
        refine j_icmp_gt hx 54 dX11_waits_28 rfl ⟨by decide, by decide⟩ ⟨by decide, by decide⟩ (fun h11 => absurd h11 (by omega)) (fun h11 => ?_)
        refine j_iload hx 0 dX11_waits_31 rfl ?_
        refine j_iload_n hx 3 dX11_waits_33 rfl ?_
        refine j_imul hx (r := 3 * x1) dX11_waits_34 rfl ?_
        refine j_iload_n hx 5 dX11_waits_35 rfl ?_
        refine j_imul hx (r := 3 * (x1 * x3)) dX11_waits_36 (by rw [Int.mul_assoc]) ?_
        refine j_bipush hx dX11_waits_37 rfl ?_
        refine j_iload hx 1 dX11_waits_39 rfl ?_
        refine j_imul hx (r := 16 * (x1 * x3) - 16 * ((x2 - x1) * x4)) dX11_waits_41 (by omega) ?_
        refine j_icmp_lt hx 48 dX11_waits_42 rfl (by omega) (by omega) (fun h12 => ?_) (fun h12 => ?_)
        · skip
          refine j_iinc hx 0 [(6, .int (zI 4)), (5, .int (zI ((x1 * x3) - ((x2 - x1) * x4)))), (0, .ref a), (1, .int (zI x1)), (2, .int (zI x2)), (3, .int (zI x3)), (4, .int (zI x4))] dX11_waits_48 rfl (by omega) (by decide) rfl ?_
          refine j_goto hx 24 dX11_waits_51 rfl ?_
          refine j_iload hx 0 dX11_waits_24 rfl ?_
          refine j_bipush hx dX11_waits_26 rfl ?_
          refine j_icmp_gt hx 54 dX11_waits_28 rfl ⟨by decide, by decide⟩ ⟨by decide, by decide⟩ (fun h13 => absurd h13 (by omega)) (fun h13 => ?_)
          refine j_iload hx 0 dX11_waits_31 rfl ?_
          refine j_iload_n hx 3 dX11_waits_33 rfl ?_
          refine j_imul hx (r := 4 * x1) dX11_waits_34 rfl ?_
          refine j_iload_n hx 5 dX11_waits_35 rfl ?_
          refine j_imul hx (r := 4 * (x1 * x3)) dX11_waits_36 (by rw [Int.mul_assoc]) ?_
          refine j_bipush hx dX11_waits_37 rfl ?_
          refine j_iload hx 1 dX11_waits_39 rfl ?_
          refine j_imul hx (r := 16 * (x1 * x3) - 16 * ((x2 - x1) * x4)) dX11_waits_41 (by omega) ?_
          refine j_icmp_lt hx 48 dX11_waits_42 rfl (by omega) (by omega) (fun h14 => ?_) (fun h14 => ?_)
          · skip
            refine j_iinc hx 0 [(6, .int (zI 5)), (5, .int (zI ((x1 * x3) - ((x2 - x1) * x4)))), (0, .ref a), (1, .int (zI x1)), (2, .int (zI x2)), (3, .int (zI x3)), (4, .int (zI x4))] dX11_waits_48 rfl (by omega) (by decide) rfl ?_
            refine j_goto hx 24 dX11_waits_51 rfl ?_
            refine j_iload hx 0 dX11_waits_24 rfl ?_
            refine j_bipush hx dX11_waits_26 rfl ?_
            refine j_icmp_gt hx 54 dX11_waits_28 rfl ⟨by decide, by decide⟩ ⟨by decide, by decide⟩ (fun h15 => absurd h15 (by omega)) (fun h15 => ?_)
            refine j_iload hx 0 dX11_waits_31 rfl ?_
            refine j_iload_n hx 3 dX11_waits_33 rfl ?_
            refine j_imul hx (r := 5 * x1) dX11_waits_34 rfl ?_
            refine j_iload_n hx 5 dX11_waits_35 rfl ?_
            refine j_imul hx (r := 5 * (x1 * x3)) dX11_waits_36 (by rw [Int.mul_assoc]) ?_
            refine j_bipush hx dX11_waits_37 rfl ?_
            refine j_iload hx 1 dX11_waits_39 rfl ?_
            refine j_imul hx (r := 16 * (x1 * x3) - 16 * ((x2 - x1) * x4)) dX11_waits_41 (by omega) ?_
            refine j_icmp_lt hx 48 dX11_waits_42 rfl (by omega) (by omega) (fun h16 => ?_) (fun h16 => ?_)
            · skip
              refine j_iinc hx 0 [(6, .int (zI 6)), (5, .int (zI ((x1 * x3) - ((x2 - x1) * x4)))), (0, .ref a), (1, .int (zI x1)), (2, .int (zI x2)), (3, .int (zI x3)), (4, .int (zI x4))] dX11_waits_48 rfl (by omega) (by decide) rfl ?_
              refine j_goto hx 24 dX11_waits_51 rfl ?_
              refine j_iload hx 0 dX11_waits_24 rfl ?_
              refine j_bipush hx dX11_waits_26 rfl ?_
              refine j_icmp_gt hx 54 dX11_waits_28 rfl ⟨by decide, by decide⟩ ⟨by decide, by decide⟩ (fun h17 => absurd h17 (by omega)) (fun h17 => ?_)
              refine j_iload hx 0 dX11_waits_31 rfl ?_
              refine j_iload_n hx 3 dX11_waits_33 rfl ?_
              refine j_imul hx (r := 6 * x1) dX11_waits_34 rfl ?_
              refine j_iload_n hx 5 dX11_waits_35 rfl ?_
              refine j_imul hx (r := 6 * (x1 * x3)) dX11_waits_36 (by rw [Int.mul_assoc]) ?_
              refine j_bipush hx dX11_waits_37 rfl ?_
              refine j_iload hx 1 dX11_waits_39 rfl ?_
              refine j_imul hx (r := 16 * (x1 * x3) - 16 * ((x2 - x1) * x4)) dX11_waits_41 (by omega) ?_
              refine j_icmp_lt hx 48 dX11_waits_42 rfl (by omega) (by omega) (fun h18 => ?_) (fun h18 => ?_)
              · skip
                refine j_iinc hx 0 [(6, .int (zI 7)), (5, .int (zI ((x1 * x3) - ((x2 - x1) * x4)))), (0, .ref a), (1, .int (zI x1)), (2, .int (zI x2)), (3, .int (zI x3)), (4, .int (zI x4))] dX11_waits_48 rfl (by omega) (by decide) rfl ?_
                refine j_goto hx 24 dX11_waits_51 rfl ?_
                refine j_iload hx 0 dX11_waits_24 rfl ?_
                refine j_bipush hx dX11_waits_26 rfl ?_
                refine j_icmp_gt hx 54 dX11_waits_28 rfl ⟨by decide, by decide⟩ ⟨by decide, by decide⟩ (fun h19 => absurd h19 (by omega)) (fun h19 => ?_)
                refine j_iload hx 0 dX11_waits_31 rfl ?_
                refine j_iload_n hx 3 dX11_waits_33 rfl ?_
                refine j_imul hx (r := 7 * x1) dX11_waits_34 rfl ?_
                refine j_iload_n hx 5 dX11_waits_35 rfl ?_
                refine j_imul hx (r := 7 * (x1 * x3)) dX11_waits_36 (by rw [Int.mul_assoc]) ?_
                refine j_bipush hx dX11_waits_37 rfl ?_
                refine j_iload hx 1 dX11_waits_39 rfl ?_
                refine j_imul hx (r := 16 * (x1 * x3) - 16 * ((x2 - x1) * x4)) dX11_waits_41 (by omega) ?_
                refine j_icmp_lt hx 48 dX11_waits_42 rfl (by omega) (by omega) (fun h20 => ?_) (fun h20 => ?_)
                · skip
                  refine j_iinc hx 0 [(6, .int (zI 8)), (5, .int (zI ((x1 * x3) - ((x2 - x1) * x4)))), (0, .ref a), (1, .int (zI x1)), (2, .int (zI x2)), (3, .int (zI x3)), (4, .int (zI x4))] dX11_waits_48 rfl (by omega) (by decide) rfl ?_
                  refine j_goto hx 24 dX11_waits_51 rfl ?_
                  refine j_iload hx 0 dX11_waits_24 rfl ?_
                  refine j_bipush hx dX11_waits_26 rfl ?_
                  refine j_icmp_gt hx 54 dX11_waits_28 rfl ⟨by decide, by decide⟩ ⟨by decide, by decide⟩ (fun h21 => absurd h21 (by omega)) (fun h21 => ?_)
                  refine j_iload hx 0 dX11_waits_31 rfl ?_
                  refine j_iload_n hx 3 dX11_waits_33 rfl ?_
                  refine j_imul hx (r := 8 * x1) dX11_waits_34 rfl ?_
                  refine j_iload_n hx 5 dX11_waits_35 rfl ?_
                  refine j_imul hx (r := 8 * (x1 * x3)) dX11_waits_36 (by rw [Int.mul_assoc]) ?_
                  refine j_bipush hx dX11_waits_37 rfl ?_
                  refine j_iload hx 1 dX11_waits_39 rfl ?_
                  refine j_imul hx (r := 16 * (x1 * x3) - 16 * ((x2 - x1) * x4)) dX11_waits_41 (by omega) ?_
                  refine j_icmp_lt hx 48 dX11_waits_42 rfl (by omega) (by omega) (fun h22 => ?_) (fun h22 => ?_)
                  · skip
                    refine j_iinc hx 0 [(6, .int (zI 9)), (5, .int (zI ((x1 * x3) - ((x2 - x1) * x4)))), (0, .ref a), (1, .int (zI x1)), (2, .int (zI x2)), (3, .int (zI x3)), (4, .int (zI x4))] dX11_waits_48 rfl (by omega) (by decide) rfl ?_
                    refine j_goto hx 24 dX11_waits_51 rfl ?_
                    refine j_iload hx 0 dX11_waits_24 rfl ?_
                    refine j_bipush hx dX11_waits_26 rfl ?_
                    refine j_icmp_gt hx 54 dX11_waits_28 rfl ⟨by decide, by decide⟩ ⟨by decide, by decide⟩ (fun h23 => absurd h23 (by omega)) (fun h23 => ?_)
                    refine j_iload hx 0 dX11_waits_31 rfl ?_
                    refine j_iload_n hx 3 dX11_waits_33 rfl ?_
                    refine j_imul hx (r := 9 * x1) dX11_waits_34 rfl ?_
                    refine j_iload_n hx 5 dX11_waits_35 rfl ?_
                    refine j_imul hx (r := 9 * (x1 * x3)) dX11_waits_36 (by rw [Int.mul_assoc]) ?_
                    refine j_bipush hx dX11_waits_37 rfl ?_
                    refine j_iload hx 1 dX11_waits_39 rfl ?_
                    refine j_imul hx (r := 16 * (x1 * x3) - 16 * ((x2 - x1) * x4)) dX11_waits_41 (by omega) ?_
                    refine j_icmp_lt hx 48 dX11_waits_42 rfl (by omega) (by omega) (fun h24 => ?_) (fun h24 => ?_)
                    · skip
                      refine j_iinc hx 0 [(6, .int (zI 10)), (5, .int (zI ((x1 * x3) - ((x2 - x1) * x4)))), (0, .ref a), (1, .int (zI x1)), (2, .int (zI x2)), (3, .int (zI x3)), (4, .int (zI x4))] dX11_waits_48 rfl (by omega) (by decide) rfl ?_
                      refine j_goto hx 24 dX11_waits_51 rfl ?_
                      refine j_iload hx 0 dX11_waits_24 rfl ?_
                      refine j_bipush hx dX11_waits_26 rfl ?_
                      refine j_icmp_gt hx 54 dX11_waits_28 rfl ⟨by decide, by decide⟩ ⟨by decide, by decide⟩ (fun h25 => absurd h25 (by omega)) (fun h25 => ?_)
                      refine j_iload hx 0 dX11_waits_31 rfl ?_
                      refine j_iload_n hx 3 dX11_waits_33 rfl ?_
                      refine j_imul hx (r := 10 * x1) dX11_waits_34 rfl ?_
                      refine j_iload_n hx 5 dX11_waits_35 rfl ?_
                      refine j_imul hx (r := 10 * (x1 * x3)) dX11_waits_36 (by rw [Int.mul_assoc]) ?_
                      refine j_bipush hx dX11_waits_37 rfl ?_
                      refine j_iload hx 1 dX11_waits_39 rfl ?_
                      refine j_imul hx (r := 16 * (x1 * x3) - 16 * ((x2 - x1) * x4)) dX11_waits_41 (by omega) ?_
                      refine j_icmp_lt hx 48 dX11_waits_42 rfl (by omega) (by omega) (fun h26 => ?_) (fun h26 => ?_)
                      · skip
                        refine j_iinc hx 0 [(6, .int (zI 11)), (5, .int (zI ((x1 * x3) - ((x2 - x1) * x4)))), (0, .ref a), (1, .int (zI x1)), (2, .int (zI x2)), (3, .int (zI x3)), (4, .int (zI x4))] dX11_waits_48 rfl (by omega) (by decide) rfl ?_
                        refine j_goto hx 24 dX11_waits_51 rfl ?_
                        refine j_iload hx 0 dX11_waits_24 rfl ?_
                        refine j_bipush hx dX11_waits_26 rfl ?_
                        refine j_icmp_gt hx 54 dX11_waits_28 rfl ⟨by decide, by decide⟩ ⟨by decide, by decide⟩ (fun h27 => absurd h27 (by omega)) (fun h27 => ?_)
                        refine j_iload hx 0 dX11_waits_31 rfl ?_
                        refine j_iload_n hx 3 dX11_waits_33 rfl ?_
                        refine j_imul hx (r := 11 * x1) dX11_waits_34 rfl ?_
                        refine j_iload_n hx 5 dX11_waits_35 rfl ?_
                        refine j_imul hx (r := 11 * (x1 * x3)) dX11_waits_36 (by rw [Int.mul_assoc]) ?_
                        refine j_bipush hx dX11_waits_37 rfl ?_
                        refine j_iload hx 1 dX11_waits_39 rfl ?_
                        refine j_imul hx (r := 16 * (x1 * x3) - 16 * ((x2 - x1) * x4)) dX11_waits_41 (by omega) ?_
                        refine j_icmp_lt hx 48 dX11_waits_42 rfl (by omega) (by omega) (fun h28 => ?_) (fun h28 => ?_)
                        · skip
                          refine j_iinc hx 0 [(6, .int (zI 12)), (5, .int (zI ((x1 * x3) - ((x2 - x1) * x4)))), (0, .ref a), (1, .int (zI x1)), (2, .int (zI x2)), (3, .int (zI x3)), (4, .int (zI x4))] dX11_waits_48 rfl (by omega) (by decide) rfl ?_
                          refine j_goto hx 24 dX11_waits_51 rfl ?_
                          refine j_iload hx 0 dX11_waits_24 rfl ?_
                          refine j_bipush hx dX11_waits_26 rfl ?_
                          refine j_icmp_gt hx 54 dX11_waits_28 rfl ⟨by decide, by decide⟩ ⟨by decide, by decide⟩ (fun h29 => absurd h29 (by omega)) (fun h29 => ?_)
                          refine j_iload hx 0 dX11_waits_31 rfl ?_
                          refine j_iload_n hx 3 dX11_waits_33 rfl ?_
                          refine j_imul hx (r := 12 * x1) dX11_waits_34 rfl ?_
                          refine j_iload_n hx 5 dX11_waits_35 rfl ?_
                          refine j_imul hx (r := 12 * (x1 * x3)) dX11_waits_36 (by rw [Int.mul_assoc]) ?_
                          refine j_bipush hx dX11_waits_37 rfl ?_
                          refine j_iload hx 1 dX11_waits_39 rfl ?_
                          refine j_imul hx (r := 16 * (x1 * x3) - 16 * ((x2 - x1) * x4)) dX11_waits_41 (by omega) ?_
                          refine j_icmp_lt hx 48 dX11_waits_42 rfl (by omega) (by omega) (fun h30 => ?_) (fun h30 => ?_)
                          · skip
                            refine j_iinc hx 0 [(6, .int (zI 13)), (5, .int (zI ((x1 * x3) - ((x2 - x1) * x4)))), (0, .ref a), (1, .int (zI x1)), (2, .int (zI x2)), (3, .int (zI x3)), (4, .int (zI x4))] dX11_waits_48 rfl (by omega) (by decide) rfl ?_
                            refine j_goto hx 24 dX11_waits_51 rfl ?_
                            refine j_iload hx 0 dX11_waits_24 rfl ?_
                            refine j_bipush hx dX11_waits_26 rfl ?_
                            refine j_icmp_gt hx 54 dX11_waits_28 rfl ⟨by decide, by decide⟩ ⟨by decide, by decide⟩ (fun h31 => absurd h31 (by omega)) (fun h31 => ?_)
                            refine j_iload hx 0 dX11_waits_31 rfl ?_
                            refine j_iload_n hx 3 dX11_waits_33 rfl ?_
                            refine j_imul hx (r := 13 * x1) dX11_waits_34 rfl ?_
                            refine j_iload_n hx 5 dX11_waits_35 rfl ?_
                            refine j_imul hx (r := 13 * (x1 * x3)) dX11_waits_36 (by rw [Int.mul_assoc]) ?_
                            refine j_bipush hx dX11_waits_37 rfl ?_
                            refine j_iload hx 1 dX11_waits_39 rfl ?_
                            refine j_imul hx (r := 16 * (x1 * x3) - 16 * ((x2 - x1) * x4)) dX11_waits_41 (by omega) ?_
                            refine j_icmp_lt hx 48 dX11_waits_42 rfl (by omega) (by omega) (fun h32 => ?_) (fun h32 => ?_)
                            · skip
                              refine j_iinc hx 0 [(6, .int (zI 14)), (5, .int (zI ((x1 * x3) - ((x2 - x1) * x4)))), (0, .ref a), (1, .int (zI x1)), (2, .int (zI x2)), (3, .int (zI x3)), (4, .int (zI x4))] dX11_waits_48 rfl (by omega) (by decide) rfl ?_
                              refine j_goto hx 24 dX11_waits_51 rfl ?_
                              refine j_iload hx 0 dX11_waits_24 rfl ?_
                              refine j_bipush hx dX11_waits_26 rfl ?_
                              refine j_icmp_gt hx 54 dX11_waits_28 rfl ⟨by decide, by decide⟩ ⟨by decide, by decide⟩ (fun h33 => absurd h33 (by omega)) (fun h33 => ?_)
                              refine j_iload hx 0 dX11_waits_31 rfl ?_
                              refine j_iload_n hx 3 dX11_waits_33 rfl ?_
                              refine j_imul hx (r := 14 * x1) dX11_waits_34 rfl ?_
                              refine j_iload_n hx 5 dX11_waits_35 rfl ?_
                              refine j_imul hx (r := 14 * (x1 * x3)) dX11_waits_36 (by rw [Int.mul_assoc]) ?_
                              refine j_bipush hx dX11_waits_37 rfl ?_
                              refine j_iload hx 1 dX11_waits_39 rfl ?_
                              refine j_imul hx (r := 16 * (x1 * x3) - 16 * ((x2 - x1) * x4)) dX11_waits_41 (by omega) ?_
                              refine j_icmp_lt hx 48 dX11_waits_42 rfl (by omega) (by omega) (fun h34 => ?_) (fun h34 => ?_)
                              · skip
                                refine j_iinc hx 0 [(6, .int (zI 15)), (5, .int (zI ((x1 * x3) - ((x2 - x1) * x4)))), (0, .ref a), (1, .int (zI x1)), (2, .int (zI x2)), (3, .int (zI x3)), (4, .int (zI x4))] dX11_waits_48 rfl (by omega) (by decide) rfl ?_
                                refine j_goto hx 24 dX11_waits_51 rfl ?_
                                refine j_iload hx 0 dX11_waits_24 rfl ?_
                                refine j_bipush hx dX11_waits_26 rfl ?_
                                refine j_icmp_gt hx 54 dX11_waits_28 rfl ⟨by decide, by decide⟩ ⟨by decide, by decide⟩ (fun h35 => absurd h35 (by omega)) (fun h35 => ?_)
                                refine j_iload hx 0 dX11_waits_31 rfl ?_
                                refine j_iload_n hx 3 dX11_waits_33 rfl ?_
                                refine j_imul hx (r := 15 * x1) dX11_waits_34 rfl ?_
                                refine j_iload_n hx 5 dX11_waits_35 rfl ?_
                                refine j_imul hx (r := 15 * (x1 * x3)) dX11_waits_36 (by rw [Int.mul_assoc]) ?_
                                refine j_bipush hx dX11_waits_37 rfl ?_
                                refine j_iload hx 1 dX11_waits_39 rfl ?_
                                refine j_imul hx (r := 16 * (x1 * x3) - 16 * ((x2 - x1) * x4)) dX11_waits_41 (by omega) ?_
                                refine j_icmp_lt hx 48 dX11_waits_42 rfl (by omega) (by omega) (fun h36 => ?_) (fun h36 => ?_)
                                · skip
                                  refine j_iinc hx 0 [(6, .int (zI 16)), (5, .int (zI ((x1 * x3) - ((x2 - x1) * x4)))), (0, .ref a), (1, .int (zI x1)), (2, .int (zI x2)), (3, .int (zI x3)), (4, .int (zI x4))] dX11_waits_48 rfl (by omega) (by decide) rfl ?_
                                  refine j_goto hx 24 dX11_waits_51 rfl ?_
                                  refine j_iload hx 0 dX11_waits_24 rfl ?_
                                  refine j_bipush hx dX11_waits_26 rfl ?_
                                  refine j_icmp_gt hx 54 dX11_waits_28 rfl ⟨by decide, by decide⟩ ⟨by decide, by decide⟩ (fun h37 => absurd h37 (by omega)) (fun h37 => ?_)
                                  refine j_iload hx 0 dX11_waits_31 rfl ?_
                                  refine j_iload_n hx 3 dX11_waits_33 rfl ?_
                                  refine j_imul hx (r := 16 * x1) dX11_waits_34 rfl ?_
                                  refine j_iload_n hx 5 dX11_waits_35 rfl ?_
                                  refine j_imul hx (r := 16 * (x1 * x3)) dX11_waits_36 (by rw [Int.mul_assoc]) ?_
                                  refine j_bipush hx dX11_waits_37 rfl ?_
                                  refine j_iload hx 1 dX11_waits_39 rfl ?_
                                  refine j_imul hx (r := 16 * (x1 * x3) - 16 * ((x2 - x1) * x4)) dX11_waits_41 (by omega) ?_
                                  refine j_icmp_lt hx 48 dX11_waits_42 rfl (by omega) (by omega) (fun h38 => ?_) (fun h38 => ?_)
                                  · skip
                                    refine j_iinc hx 0 [(6, .int (zI 17)), (5, .int (zI ((x1 * x3) - ((x2 - x1) * x4)))), (0, .ref a), (1, .int (zI x1)), (2, .int (zI x2)), (3, .int (zI x3)), (4, .int (zI x4))] dX11_waits_48 rfl (by omega) (by decide) rfl ?_
                                    refine j_goto hx 24 dX11_waits_51 rfl ?_
                                    refine j_iload hx 0 dX11_waits_24 rfl ?_
                                    refine j_bipush hx dX11_waits_26 rfl ?_
                                    refine j_icmp_gt hx 54 dX11_waits_28 rfl ⟨by decide, by decide⟩ ⟨by decide, by decide⟩ (fun h39 => ?_) (fun h39 => absurd h39 (by omega))
                                    refine j_bipush hx dX11_waits_54 rfl ?_
                                    exact j_iret hx hq.r rfl (by decide) (by decide) dX11_waits_56 ⟨17, rfl, rfl, rfl, ⟨(by omega), by omega, by omega, by omega⟩⟩
                                  · skip
                                    refine j_iload hx 0 dX11_waits_45 rfl ?_
                                    exact j_iret hx hq.r rfl (by decide) (by decide) dX11_waits_47 ⟨16, rfl, rfl, rfl, ⟨(by omega), by omega, by omega, by omega⟩⟩
                                · skip
                                  refine j_iload hx 0 dX11_waits_45 rfl ?_
                                  exact j_iret hx hq.r rfl (by decide) (by decide) dX11_waits_47 ⟨15, rfl, rfl, rfl, ⟨(by omega), by omega, by omega, by omega⟩⟩
                              · skip
                                refine j_iload hx 0 dX11_waits_45 rfl ?_
                                exact j_iret hx hq.r rfl (by decide) (by decide) dX11_waits_47 ⟨14, rfl, rfl, rfl, ⟨(by omega), by omega, by omega, by omega⟩⟩
                            · skip
                              refine j_iload hx 0 dX11_waits_45 rfl ?_
                              exact j_iret hx hq.r rfl (by decide) (by decide) dX11_waits_47 ⟨13, rfl, rfl, rfl, ⟨(by omega), by omega, by omega, by omega⟩⟩
                          · skip
                            refine j_iload hx 0 dX11_waits_45 rfl ?_
                            exact j_iret hx hq.r rfl (by decide) (by decide) dX11_waits_47 ⟨12, rfl, rfl, rfl, ⟨(by omega), by omega, by omega, by omega⟩⟩
                        · skip
                          refine j_iload hx 0 dX11_waits_45 rfl ?_
                          exact j_iret hx hq.r rfl (by decide) (by decide) dX11_waits_47 ⟨11, rfl, rfl, rfl, ⟨(by omega), by omega, by omega, by omega⟩⟩
                      · skip
                        refine j_iload hx 0 dX11_waits_45 rfl ?_
                        exact j_iret hx hq.r rfl (by decide) (by decide) dX11_waits_47 ⟨10, rfl, rfl, rfl, ⟨(by omega), by omega, by omega, by omega⟩⟩
                    · skip
                      refine j_iload hx 0 dX11_waits_45 rfl ?_
                      exact j_iret hx hq.r rfl (by decide) (by decide) dX11_waits_47 ⟨9, rfl, rfl, rfl, ⟨(by omega), by omega, by omega, by omega⟩⟩
                  · skip
                    refine j_iload hx 0 dX11_waits_45 rfl ?_
                    exact j_iret hx hq.r rfl (by decide) (by decide) dX11_waits_47 ⟨8, rfl, rfl, rfl, ⟨(by omega), by omega, by omega, by omega⟩⟩
                · skip
                  refine j_iload hx 0 dX11_waits_45 rfl ?_
                  exact j_iret hx hq.r rfl (by decide) (by decide) dX11_waits_47 ⟨7, rfl, rfl, rfl, ⟨(by omega), by omega, by omega, by omega⟩⟩
              · skip
                refine j_iload hx 0 dX11_waits_45 rfl ?_
                exact j_iret hx hq.r rfl (by decide) (by decide) dX11_waits_47 ⟨6, rfl, rfl, rfl, ⟨(by omega), by omega, by omega, by omega⟩⟩
            · skip
              refine j_iload hx 0 dX11_waits_45 rfl ?_
              exact j_iret hx hq.r rfl (by decide) (by decide) dX11_waits_47 ⟨5, rfl, rfl, rfl, ⟨(by omega), by omega, by omega, by omega⟩⟩
          · skip
            refine j_iload hx 0 dX11_waits_45 rfl ?_
            exact j_iret hx hq.r rfl (by decide) (by decide) dX11_waits_47 ⟨4, rfl, rfl, rfl, ⟨(by omega), by omega, by omega, by omega⟩⟩
        · skip
          refine j_iload hx 0 dX11_waits_45 rfl ?_
          exact j_iret hx hq.r rfl (by decide) (by decide) dX11_waits_47 ⟨3, rfl, rfl, rfl, ⟨(by omega), by omega, by omega, by omega⟩⟩
      · skip
        refine j_iload hx 0 dX11_waits_45 rfl ?_
        exact j_iret hx hq.r rfl (by decide) (by decide) dX11_waits_47 ⟨2, rfl, rfl, rfl, ⟨(by omega), by omega, by omega, by omega⟩⟩
    · skip
      refine j_iload hx 0 dX11_waits_45 rfl ?_
      exact j_iret hx hq.r rfl (by decide) (by decide) dX11_waits_47 ⟨1, rfl, rfl, rfl, ⟨(by omega), by omega, by omega, by omega⟩⟩
  · skip
    refine j_iload hx 0 dX11_waits_45 rfl ?_
    exact j_iret hx hq.r rfl (by decide) (by decide) dX11_waits_47 ⟨0, rfl, rfl, rfl, ⟨(by omega), by omega, by omega, by omega⟩⟩

set_option maxHeartbeats 4000000 in
set_option maxRecDepth 20000 in
theorem c_X11_ahead_x {E : zE} {l : Launch} (hst : l.stackTraces = false) (a : Nat) (x1 : Int) (x2 : Int) (x3 : Int) (x4 : Int) : ConX E l yX11_ahead cX11_ahead 5 (some .int) { frames := 8, cells := 4, slots := 24, locals := 137 } (fun G s vs => vs = [.ref a, .int (zI x1), .int (zI x2), .int (zI x3), .int (zI x4)] ∧ zGK G ∧ zSK G s ∧ (gT G a = 12) ∧ ((-2147483648) ≤ x1 ∧ x1 ≤ 2147483647) ∧ ((-2147483648) ≤ x2 ∧ x2 ≤ 2147483647) ∧ ((-2147483648) ≤ x3 ∧ x3 ≤ 2147483647) ∧ ((-2147483648) ≤ x4 ∧ x4 ≤ 2147483647)) (fun G s _ => pI (fun r G2 s2 => G2 = G ∧ s2 = s ∧ ((-9801) ≤ r ∧ r ≤ 9801) ∧ r = x1 * x3 - (x2 - x1) * x4 ∧ (1 ≤ x2 ∧ x2 ≤ 99 ∧ 0 ≤ x1 ∧ x1 ≤ x2 ∧ 0 ≤ x3 ∧ x3 ≤ 99 ∧ 0 ≤ x4 ∧ x4 ≤ 99))) (fun G s _ Ex G2 s2 => G2 = G ∧ zSK G s2 ∧ zFr [12] G s s2 ∧ ((Ex = "java/lang/IllegalArgumentException" ∧ (¬ (1 ≤ x2 ∧ x2 ≤ 99 ∧ 0 ≤ x1 ∧ x1 ≤ x2 ∧ 0 ≤ x3 ∧ x3 ≤ 99 ∧ 0 ≤ x4 ∧ x4 ≤ 99))))) := by
  refine ConX.mk hst (by decide) (fun G s vs h => by rw [h.1]; exact Nat.le_of_ble_eq_true rfl) ?_
  rintro X G s0 vs ⟨rfl, hG, hS0, ha, hx1, hx2, hx3, hx4⟩ rfl hx hq
  show JJ X E 5 G s0 0 0 [(0, .ref a), (1, .int (zI x1)), (2, .int (zI x2)), (3, .int (zI x3)), (4, .int (zI x4))] 0 []
  refine j_aload_n hx 0 dX11_ahead_0 rfl ?_
  refine j_iload_n hx 1 dX11_ahead_1 rfl ?_
  refine j_iload_n hx 2 dX11_ahead_2 rfl ?_
  refine j_iload_n hx 3 dX11_ahead_3 rfl ?_
  refine j_iload hx 4 dX11_ahead_4 rfl ?_
  refine j_callVX hx hq hG (c_X11_needWager_x hst a x1 x2 x3 x4) lk_RX11_272 ha (by decide) rfl rfl rfl rfl [.int (zI x1), .int (zI x2), .int (zI x3), .int (zI x4)] ⟨rfl, hG, hS0, ha, (by omega), (by omega), (by omega), (by omega)⟩ rfl rfl ⟨by decide, by decide⟩ ⟨by decide, by decide⟩ (k2 := 4) (n2 := 24) rfl rfl (Nat.le_of_ble_eq_true rfl) ⟨by decide, by decide⟩ dX11_ahead_6 (by rintro Ex9 G9 s9 ⟨rfl, hS9, hF9, e9, c9⟩; exact ⟨rfl, hS9, (zFr_t zFr_rf hF9 (by decide)), ⟨e9, by first | trivial | omega⟩⟩) (kVP (fun q2 => ?_))
  refine j_iload_n hx 1 dX11_ahead_9 rfl ?_
  refine j_iload_n hx 3 dX11_ahead_10 rfl ?_
  refine j_imul hx (r := (x1 * x3)) dX11_ahead_11 rfl ?_
  have f3 : 0 ≤ (x1 * x3) ∧ (x1 * x3) ≤ 99 * 99 := zmulnn (by omega) (by omega)
  refine j_iload_n hx 2 dX11_ahead_12 rfl ?_
  refine j_iload_n hx 1 dX11_ahead_13 rfl ?_
  refine j_isub hx (r := x2 - x1) dX11_ahead_14 rfl ?_
  refine j_iload hx 4 dX11_ahead_15 rfl ?_
  refine j_imul hx (r := ((x2 - x1) * x4)) dX11_ahead_17 rfl ?_
  have f4 : 0 ≤ ((x2 - x1) * x4) ∧ ((x2 - x1) * x4) ≤ 99 * 99 := zmulnn (by omega) (by omega)
  refine j_isub hx (r := (x1 * x3) - ((x2 - x1) * x4)) dX11_ahead_18 (by omega) ?_
  exact j_iret hx hq.r rfl (by decide) (by decide) dX11_ahead_19 ⟨(x1 * x3) - ((x2 - x1) * x4), rfl, rfl, rfl, ⟨(by omega), by omega, by omega⟩⟩

set_option maxHeartbeats 4000000 in
set_option maxRecDepth 20000 in
theorem c_X11_film_x {E : zE} {l : Launch} (hst : l.stackTraces = false) (a : Nat) (x1 : Int) (x2 : Int) (x3 : Int) (x4 : Int) (x5 : Int) : ConX E l yX11_film cX11_film 10 (some .int) { frames := 7, cells := 5, slots := 30, locals := 113 } (fun G s vs => vs = [.ref a, .int (zI x1), .int (zI x2), .int (zI x3), .int (zI x4), .int (zI x5)] ∧ zGK G ∧ zSK G s ∧ (gT G a = 12) ∧ ((-2147483648) ≤ x1 ∧ x1 ≤ 2147483647) ∧ ((-2147483648) ≤ x2 ∧ x2 ≤ 2147483647) ∧ ((-2147483648) ≤ x3 ∧ x3 ≤ 2147483647) ∧ ((-2147483648) ≤ x4 ∧ x4 ≤ 2147483647) ∧ ((-2147483648) ≤ x5 ∧ x5 ≤ 2147483647)) (fun G s _ => pI (fun r G2 s2 => G2 = G ∧ s2 = s ∧ (0 ≤ r ∧ r ≤ 10000) ∧ ((x5 = 0 → r = zFE x1 x3 x4 (x2 + 1 - x1).toNat)) ∧ ((x5 = 1 → r = zFB x1 x3 x4 (x2 + 1 - x1).toNat)) ∧ ((x5 = 2 → r = (x2 - x1 + 1) * (x4 - x3 + 1))) ∧ (0 ≤ x1 ∧ x1 ≤ x2 ∧ x2 ≤ 99 ∧ 0 ≤ x3 ∧ x3 ≤ x4 ∧ x4 ≤ 99 ∧ 0 ≤ x5 ∧ x5 ≤ 2))) (fun G s _ Ex G2 s2 => G2 = G ∧ zSK G s2 ∧ zFr [12] G s s2 ∧ ((Ex = "java/lang/IllegalArgumentException" ∧ (¬ (0 ≤ x1 ∧ x1 ≤ x2 ∧ x2 ≤ 99 ∧ 0 ≤ x3 ∧ x3 ≤ x4 ∧ x4 ≤ 99 ∧ 0 ≤ x5 ∧ x5 ≤ 2))))) := by
  refine ConX.mk hst (by decide) (fun G s vs h => by rw [h.1]; exact Nat.le_of_ble_eq_true rfl) ?_
  rintro X G s0 vs ⟨rfl, hG, hS0, ha, hx1, hx2, hx3, hx4, hx5⟩ rfl hx hq
  show JJ X E 10 G s0 0 0 [(0, .ref a), (1, .int (zI x1)), (2, .int (zI x2)), (3, .int (zI x3)), (4, .int (zI x4)), (5, .int (zI x5))] 0 []
  refine j_aload_n hx 0 dX11_film_0 rfl ?_
  refine j_iload_n hx 2 dX11_film_1 rfl ?_
  refine j_iconst hx dX11_film_2 ?_
  refine j_bipush hx dX11_film_3 rfl ?_
  refine j_callVX hx hq hG (c_X11_needRange_x hst a x2 0 99) lk_RX11_98 ha (by decide) rfl rfl rfl rfl [.int (zI x2), .int (zI 0), .int (zI 99)] ⟨rfl, hG, hS0, ha, (by omega), (by omega), (by omega)⟩ rfl rfl ⟨by decide, by decide⟩ ⟨by decide, by decide⟩ (k2 := 1) (n2 := 6) rfl rfl (Nat.le_of_ble_eq_true rfl) ⟨by decide, by decide⟩ dX11_film_5 (by rintro Ex9 G9 s9 ⟨rfl, hS9, hF9, e9, c9⟩; exact ⟨rfl, hS9, (zFr_t zFr_rf hF9 (by decide)), ⟨e9, by first | trivial | omega⟩⟩) (kVP (fun q2 => ?_))
  refine j_aload_n hx 0 dX11_film_8 rfl ?_
  refine j_iload hx 4 dX11_film_9 rfl ?_
  refine j_iconst hx dX11_film_11 ?_
  refine j_bipush hx dX11_film_12 rfl ?_
  refine j_callVX hx hq hG (c_X11_needRange_x hst a x4 0 99) lk_RX11_98 ha (by decide) rfl rfl rfl rfl [.int (zI x4), .int (zI 0), .int (zI 99)] ⟨rfl, hG, hS0, ha, (by omega), (by omega), (by omega)⟩ rfl rfl ⟨by decide, by decide⟩ ⟨by decide, by decide⟩ (k2 := 2) (n2 := 12) rfl rfl (Nat.le_of_ble_eq_true rfl) ⟨by decide, by decide⟩ dX11_film_14 (by rintro Ex9 G9 s9 ⟨rfl, hS9, hF9, e9, c9⟩; exact ⟨rfl, hS9, (zFr_t zFr_rf hF9 (by decide)), ⟨e9, by first | trivial | omega⟩⟩) (kVP (fun q4 => ?_))
  refine j_aload_n hx 0 dX11_film_17 rfl ?_
  refine j_iload_n hx 1 dX11_film_18 rfl ?_
  refine j_iconst hx dX11_film_19 ?_
  refine j_iload_n hx 2 dX11_film_20 rfl ?_
  refine j_callVX hx hq hG (c_X11_needRange_x hst a x1 0 x2) lk_RX11_98 ha (by decide) rfl rfl rfl rfl [.int (zI x1), .int (zI 0), .int (zI x2)] ⟨rfl, hG, hS0, ha, (by omega), (by omega), (by omega)⟩ rfl rfl ⟨by decide, by decide⟩ ⟨by decide, by decide⟩ (k2 := 3) (n2 := 18) rfl rfl (Nat.le_of_ble_eq_true rfl) ⟨by decide, by decide⟩ dX11_film_21 (by rintro Ex9 G9 s9 ⟨rfl, hS9, hF9, e9, c9⟩; exact ⟨rfl, hS9, (zFr_t zFr_rf hF9 (by decide)), ⟨e9, by first | trivial | omega⟩⟩) (kVP (fun q6 => ?_))
  refine j_aload_n hx 0 dX11_film_24 rfl ?_
  refine j_iload_n hx 3 dX11_film_25 rfl ?_
  refine j_iconst hx dX11_film_26 ?_
  refine j_iload hx 4 dX11_film_27 rfl ?_
  refine j_callVX hx hq hG (c_X11_needRange_x hst a x3 0 x4) lk_RX11_98 ha (by decide) rfl rfl rfl rfl [.int (zI x3), .int (zI 0), .int (zI x4)] ⟨rfl, hG, hS0, ha, (by omega), (by omega), (by omega)⟩ rfl rfl ⟨by decide, by decide⟩ ⟨by decide, by decide⟩ (k2 := 4) (n2 := 24) rfl rfl (Nat.le_of_ble_eq_true rfl) ⟨by decide, by decide⟩ dX11_film_29 (by rintro Ex9 G9 s9 ⟨rfl, hS9, hF9, e9, c9⟩; exact ⟨rfl, hS9, (zFr_t zFr_rf hF9 (by decide)), ⟨e9, by first | trivial | omega⟩⟩) (kVP (fun q8 => ?_))
  refine j_aload_n hx 0 dX11_film_32 rfl ?_
  refine j_iload hx 5 dX11_film_33 rfl ?_
  refine j_iconst hx dX11_film_35 ?_
  refine j_iconst hx dX11_film_36 ?_
  refine j_callVX hx hq hG (c_X11_needRange_x hst a x5 0 2) lk_RX11_98 ha (by decide) rfl rfl rfl rfl [.int (zI x5), .int (zI 0), .int (zI 2)] ⟨rfl, hG, hS0, ha, (by omega), (by omega), (by omega)⟩ rfl rfl ⟨by decide, by decide⟩ ⟨by decide, by decide⟩ (k2 := 5) (n2 := 30) rfl rfl (Nat.le_of_ble_eq_true rfl) ⟨by decide, by decide⟩ dX11_film_37 (by rintro Ex9 G9 s9 ⟨rfl, hS9, hF9, e9, c9⟩; exact ⟨rfl, hS9, (zFr_t zFr_rf hF9 (by decide)), ⟨e9, by first | trivial | omega⟩⟩) (kVP (fun q10 => ?_))
  refine j_iconst hx dX11_film_40 ?_
  refine j_istore hx [(6, .int (zI 0)), (0, .ref a), (1, .int (zI x1)), (2, .int (zI x2)), (3, .int (zI x3)), (4, .int (zI x4)), (5, .int (zI x5))] dX11_film_41 (by decide) rfl ?_
  refine j_iconst hx dX11_film_43 ?_
  refine j_istore hx [(7, .int (zI 0)), (6, .int (zI 0)), (0, .ref a), (1, .int (zI x1)), (2, .int (zI x2)), (3, .int (zI x3)), (4, .int (zI x4)), (5, .int (zI x5))] dX11_film_44 (by decide) rfl ?_
  have z11 : zFE x1 x3 x4 (x1 - x1).toNat = 0 := by rw [show (x1 - x1).toNat = 0 by omega]; rfl
  have z12 : zFB x1 x3 x4 (x1 - x1).toNat = 0 := by rw [show (x1 - x1).toNat = 0 by omega]; rfl
  refine j_iload_n hx 3 dX11_film_46 rfl ?_
  refine j_istore hx [(8, .int (zI x1)), (7, .int (zI 0)), (6, .int (zI 0)), (0, .ref a), (1, .int (zI x1)), (2, .int (zI x2)), (3, .int (zI x3)), (4, .int (zI x4)), (5, .int (zI x5))] dX11_film_47 (by decide) rfl ?_
  have c49_1 : ∀ (m_c49_1 : Nat) (v13 : Int) (v14 : Int) (v15 : Int), 2147483648 - v15 < m_c49_1 → (0 ≤ v13 ∧ v13 ≤ 10000) → (0 ≤ v14 ∧ v14 ≤ 100) → (0 ≤ v15 ∧ v15 ≤ 100) → (v15 ≤ x2 + 1 ∧ x1 ≤ v15) → (v13 = zFE x1 x3 x4 (v15 - x1).toNat) → (v14 = zFB x1 x3 x4 (v15 - x1).toNat) → JJ X E 10 G s0 5 30 [(1, .int (zI x1)), (2, .int (zI x2)), (3, .int (zI x3)), (4, .int (zI x4)), (5, .int (zI x5)), (6, .int (zI v13)), (7, .int (zI v14)), (8, .int (zI v15))] 49 [] := by
    intro m_c49_1
    induction m_c49_1 with
    | zero => intro v13 v14 v15 hm_c49_1 fA2 fA3 fA4 fA5 fA6 fA7; exfalso; omega
    | succ m_c49_1 ih_c49_1 => 
      intro v13 v14 v15 hm_c49_1 fA2 fA3 fA4 fA5 fA6 fA7
      have z16 := zFE_b x1 x3 x4 (by omega) (by omega) (v15 - x1).toNat
      have z17 := zFB_b x1 x3 x4 (v15 - x1).toNat
      refine j_iload hx 7 dX11_film_49 rfl ?_
      refine j_iload_n hx 1 dX11_film_51 rfl ?_
      refine j_icmp_gt hx 111 dX11_film_52 rfl (by omega) (by omega) (fun h18 => ?_) (fun h18 => ?_)
      · skip
        have z19 : zFE x1 x3 x4 (v15 - x1).toNat = zFE x1 x3 x4 (x2 + 1 - x1).toNat := by rw [show v15 = x2 + 1 by omega]
        have z20 : zFB x1 x3 x4 (v15 - x1).toNat = zFB x1 x3 x4 (x2 + 1 - x1).toNat := by rw [show v15 = x2 + 1 by omega]
        refine j_iload hx 4 dX11_film_111 rfl ?_
        refine j_if_ne hx 119 dX11_film_113 rfl (by omega) (fun h21 => ?_) (fun h21 => ?_)
        · skip
          refine j_iload hx 4 dX11_film_119 rfl ?_
          refine j_iconst hx dX11_film_121 ?_
          refine j_icmp_ne hx 130 dX11_film_122 rfl (by omega) ⟨by decide, by decide⟩ (fun h22 => ?_) (fun h22 => ?_)
          · skip
            refine j_iload_n hx 1 dX11_film_130 rfl ?_
            refine j_iload_n hx 0 dX11_film_131 rfl ?_
            refine j_isub hx (r := x2 - x1) dX11_film_132 rfl ?_
            refine j_iconst hx dX11_film_133 ?_
            refine j_iadd hx (r := x2 - x1 + 1) dX11_film_134 (by omega) ?_
            refine j_iload hx 3 dX11_film_135 rfl ?_
            refine j_iload_n hx 2 dX11_film_137 rfl ?_
            refine j_isub hx (r := x4 - x3) dX11_film_138 rfl ?_
            refine j_iconst hx dX11_film_139 ?_
            refine j_iadd hx (r := x4 - x3 + 1) dX11_film_140 (by omega) ?_
            refine j_imul hx (r := ((x2 - x1 + 1) * (x4 - x3 + 1))) dX11_film_141 rfl ?_
            have f23 : 0 ≤ ((x2 - x1 + 1) * (x4 - x3 + 1)) ∧ ((x2 - x1 + 1) * (x4 - x3 + 1)) ≤ 100 * 100 := zmulnn (by omega) (by omega)
            exact j_iret hx hq.r rfl (by decide) (by decide) dX11_film_142 ⟨((x2 - x1 + 1) * (x4 - x3 + 1)), rfl, rfl, rfl, ⟨(by omega), by omega, by omega, by omega, by omega⟩⟩
          · skip
            refine j_iload hx 6 dX11_film_125 rfl ?_
            refine j_goto hx 142 dX11_film_127 rfl ?_
            exact j_iret hx hq.r rfl (by decide) (by decide) dX11_film_142 ⟨v14, rfl, rfl, rfl, ⟨(by omega), by omega, by omega, by omega, by omega⟩⟩
        · skip
          refine j_iload hx 5 dX11_film_116 rfl ?_
          exact j_iret hx hq.r rfl (by decide) (by decide) dX11_film_118 ⟨v13, rfl, rfl, rfl, ⟨(by omega), by omega, by omega, by omega, by omega⟩⟩
      · skip
        refine j_iload_n hx 2 dX11_film_55 rfl ?_
        refine j_istore hx [(9, .int (zI x3)), (1, .int (zI x1)), (2, .int (zI x2)), (3, .int (zI x3)), (4, .int (zI x4)), (5, .int (zI x5)), (6, .int (zI v13)), (7, .int (zI v14)), (8, .int (zI v15))] dX11_film_56 (by decide) rfl ?_
        have c58_8 : ∀ (m_c58_8 : Nat) (v24 : Int) (v25 : Int) (v26 : Int), 2147483648 - v26 < m_c58_8 → (0 ≤ v24 ∧ v24 ≤ 10000) → (0 ≤ v25 ∧ v25 ≤ 100) → (0 ≤ v26 ∧ v26 ≤ 100) → (v15 ≤ x2 + 1 ∧ x1 ≤ v15) → (v24 = zFE x1 x3 x4 (v15 - x1).toNat + max 0 (v26 - max x3 (v15 + 1))) → (v25 = zFB x1 x3 x4 (v15 - x1).toNat + max 0 (min 1 (min (v26 - v15) (v15 - x3 + 1)))) → (v26 ≤ x4 + 1 ∧ x3 ≤ v26 ∧ v15 ≤ x2) → JJ X E 10 G s0 5 30 [(1, .int (zI x1)), (2, .int (zI x2)), (3, .int (zI x3)), (4, .int (zI x4)), (5, .int (zI x5)), (6, .int (zI v24)), (7, .int (zI v25)), (8, .int (zI v15)), (9, .int (zI v26))] 58 [] := by
          intro m_c58_8
          induction m_c58_8 with
          | zero => intro v24 v25 v26 hm_c58_8 fA9 fA10 fA11 fA12 fA13 fA14 fA15; exfalso; omega
          | succ m_c58_8 ih_c58_8 => 
            intro v24 v25 v26 hm_c58_8 fA9 fA10 fA11 fA12 fA13 fA14 fA15
            have z27 := zFE_b x1 x3 x4 (by omega) (by omega) (v15 - x1).toNat
            have z28 := zFB_b x1 x3 x4 (v15 - x1).toNat
            refine j_iload hx 8 dX11_film_58 rfl ?_
            refine j_iload hx 3 dX11_film_60 rfl ?_
            refine j_icmp_gt hx 105 dX11_film_62 rfl (by omega) (by omega) (fun h29 => ?_) (fun h29 => ?_)
            · skip
              have z30 := zFE_s x1 x3 x4 v15 (by omega)
              have z31 := zFB_s x1 x3 x4 v15 (by omega)
              have z32 := zFE_b x1 x3 x4 (by omega) (by omega) (v15 + 1 - x1).toNat
              have z33 := zFB_b x1 x3 x4 (v15 + 1 - x1).toNat
              refine j_iinc hx 7 [(8, .int (zI (v15 + 1))), (1, .int (zI x1)), (2, .int (zI x2)), (3, .int (zI x3)), (4, .int (zI x4)), (5, .int (zI x5)), (6, .int (zI v24)), (7, .int (zI v25)), (9, .int (zI v26))] dX11_film_105 rfl (by omega) (by decide) rfl ?_
              refine j_goto hx 49 dX11_film_108 rfl ?_
              exact j_sub [1, 2, 3, 4, 5, 6, 7, 0] [(1, .int (zI x1)), (2, .int (zI x2)), (3, .int (zI x3)), (4, .int (zI x4)), (5, .int (zI x5)), (6, .int (zI v24)), (7, .int (zI v25)), (8, .int (zI (v15 + 1)))] rfl (ih_c49_1 v24 v25 (v15 + 1) (by omega) (by omega) (by omega) (by omega) (by omega) (by omega) (by omega))
            · skip
              refine j_iload hx 5 dX11_film_65 rfl ?_
              refine j_iload hx 7 dX11_film_67 rfl ?_
              refine j_iload hx 8 dX11_film_69 rfl ?_
              refine j_icmp_ge hx 78 dX11_film_71 rfl (by omega) (by omega) (fun h34 => ?_) (fun h34 => ?_)
              · skip
                refine j_iconst hx dX11_film_78 ?_
                refine j_iadd hx (r := v24) dX11_film_79 (by omega) ?_
                refine j_istore hx [(6, .int (zI v24)), (1, .int (zI x1)), (2, .int (zI x2)), (3, .int (zI x3)), (4, .int (zI x4)), (5, .int (zI x5)), (7, .int (zI v25)), (8, .int (zI v15)), (9, .int (zI v26))] dX11_film_80 (by decide) rfl ?_
                refine j_iload hx 6 dX11_film_82 rfl ?_
                refine j_iload hx 7 dX11_film_84 rfl ?_
                refine j_iload hx 8 dX11_film_86 rfl ?_
                refine j_icmp_ne hx 95 dX11_film_88 rfl (by omega) (by omega) (fun h35 => ?_) (fun h35 => ?_)
                · skip
                  refine j_iconst hx dX11_film_95 ?_
                  refine j_iadd hx (r := v25) dX11_film_96 (by omega) ?_
                  refine j_istore hx [(7, .int (zI v25)), (6, .int (zI v24)), (1, .int (zI x1)), (2, .int (zI x2)), (3, .int (zI x3)), (4, .int (zI x4)), (5, .int (zI x5)), (8, .int (zI v15)), (9, .int (zI v26))] dX11_film_97 (by decide) rfl ?_
                  refine j_iinc hx 8 [(9, .int (zI (v26 + 1))), (7, .int (zI v25)), (6, .int (zI v24)), (1, .int (zI x1)), (2, .int (zI x2)), (3, .int (zI x3)), (4, .int (zI x4)), (5, .int (zI x5)), (8, .int (zI v15))] dX11_film_99 rfl (by omega) (by decide) rfl ?_
                  refine j_goto hx 58 dX11_film_102 rfl ?_
                  exact j_sub [3, 4, 5, 6, 7, 2, 1, 8, 0] [(1, .int (zI x1)), (2, .int (zI x2)), (3, .int (zI x3)), (4, .int (zI x4)), (5, .int (zI x5)), (6, .int (zI v24)), (7, .int (zI v25)), (8, .int (zI v15)), (9, .int (zI (v26 + 1)))] rfl (ih_c58_8 v24 v25 (v26 + 1) (by omega) (by omega) (by omega) (by omega) (by omega) (by omega) (by omega) (by omega))
                · skip
                  refine j_iconst hx dX11_film_91 ?_
                  refine j_goto hx 96 dX11_film_92 rfl ?_
                  refine j_iadd hx (r := v25 + 1) dX11_film_96 rfl ?_
                  refine j_istore hx [(7, .int (zI (v25 + 1))), (6, .int (zI v24)), (1, .int (zI x1)), (2, .int (zI x2)), (3, .int (zI x3)), (4, .int (zI x4)), (5, .int (zI x5)), (8, .int (zI v15)), (9, .int (zI v26))] dX11_film_97 (by decide) rfl ?_
                  refine j_iinc hx 8 [(9, .int (zI (v26 + 1))), (7, .int (zI (v25 + 1))), (6, .int (zI v24)), (1, .int (zI x1)), (2, .int (zI x2)), (3, .int (zI x3)), (4, .int (zI x4)), (5, .int (zI x5)), (8, .int (zI v15))] dX11_film_99 rfl (by omega) (by decide) rfl ?_
                  refine j_goto hx 58 dX11_film_102 rfl ?_
                  exact j_sub [3, 4, 5, 6, 7, 2, 1, 8, 0] [(1, .int (zI x1)), (2, .int (zI x2)), (3, .int (zI x3)), (4, .int (zI x4)), (5, .int (zI x5)), (6, .int (zI v24)), (7, .int (zI (v25 + 1))), (8, .int (zI v15)), (9, .int (zI (v26 + 1)))] rfl (ih_c58_8 v24 (v25 + 1) (v26 + 1) (by omega) (by omega) (by omega) (by omega) (by omega) (by omega) (by omega) (by omega))
              · skip
                refine j_iconst hx dX11_film_74 ?_
                refine j_goto hx 79 dX11_film_75 rfl ?_
                refine j_iadd hx (r := v24 + 1) dX11_film_79 rfl ?_
                refine j_istore hx [(6, .int (zI (v24 + 1))), (1, .int (zI x1)), (2, .int (zI x2)), (3, .int (zI x3)), (4, .int (zI x4)), (5, .int (zI x5)), (7, .int (zI v25)), (8, .int (zI v15)), (9, .int (zI v26))] dX11_film_80 (by decide) rfl ?_
                refine j_iload hx 6 dX11_film_82 rfl ?_
                refine j_iload hx 7 dX11_film_84 rfl ?_
                refine j_iload hx 8 dX11_film_86 rfl ?_
                refine j_icmp_ne hx 95 dX11_film_88 rfl (by omega) (by omega) (fun h36 => ?_) (fun h36 => ?_)
                · skip
                  refine j_iconst hx dX11_film_95 ?_
                  refine j_iadd hx (r := v25) dX11_film_96 (by omega) ?_
                  refine j_istore hx [(7, .int (zI v25)), (6, .int (zI (v24 + 1))), (1, .int (zI x1)), (2, .int (zI x2)), (3, .int (zI x3)), (4, .int (zI x4)), (5, .int (zI x5)), (8, .int (zI v15)), (9, .int (zI v26))] dX11_film_97 (by decide) rfl ?_
                  refine j_iinc hx 8 [(9, .int (zI (v26 + 1))), (7, .int (zI v25)), (6, .int (zI (v24 + 1))), (1, .int (zI x1)), (2, .int (zI x2)), (3, .int (zI x3)), (4, .int (zI x4)), (5, .int (zI x5)), (8, .int (zI v15))] dX11_film_99 rfl (by omega) (by decide) rfl ?_
                  refine j_goto hx 58 dX11_film_102 rfl ?_
                  exact j_sub [3, 4, 5, 6, 7, 2, 1, 8, 0] [(1, .int (zI x1)), (2, .int (zI x2)), (3, .int (zI x3)), (4, .int (zI x4)), (5, .int (zI x5)), (6, .int (zI (v24 + 1))), (7, .int (zI v25)), (8, .int (zI v15)), (9, .int (zI (v26 + 1)))] rfl (ih_c58_8 (v24 + 1) v25 (v26 + 1) (by omega) (by omega) (by omega) (by omega) (by omega) (by omega) (by omega) (by omega))
                · skip
                  refine j_iconst hx dX11_film_91 ?_
                  refine j_goto hx 96 dX11_film_92 rfl ?_
                  refine j_iadd hx (r := v25 + 1) dX11_film_96 rfl ?_
                  refine j_istore hx [(7, .int (zI (v25 + 1))), (6, .int (zI (v24 + 1))), (1, .int (zI x1)), (2, .int (zI x2)), (3, .int (zI x3)), (4, .int (zI x4)), (5, .int (zI x5)), (8, .int (zI v15)), (9, .int (zI v26))] dX11_film_97 (by decide) rfl ?_
                  refine j_iinc hx 8 [(9, .int (zI (v26 + 1))), (7, .int (zI (v25 + 1))), (6, .int (zI (v24 + 1))), (1, .int (zI x1)), (2, .int (zI x2)), (3, .int (zI x3)), (4, .int (zI x4)), (5, .int (zI x5)), (8, .int (zI v15))] dX11_film_99 rfl (by omega) (by decide) rfl ?_
                  refine j_goto hx 58 dX11_film_102 rfl ?_
                  exact j_sub [3, 4, 5, 6, 7, 2, 1, 8, 0] [(1, .int (zI x1)), (2, .int (zI x2)), (3, .int (zI x3)), (4, .int (zI x4)), (5, .int (zI x5)), (6, .int (zI (v24 + 1))), (7, .int (zI (v25 + 1))), (8, .int (zI v15)), (9, .int (zI (v26 + 1)))] rfl (ih_c58_8 (v24 + 1) (v25 + 1) (v26 + 1) (by omega) (by omega) (by omega) (by omega) (by omega) (by omega) (by omega) (by omega))
        exact j_sub [1, 2, 3, 4, 5, 6, 7, 8, 0] [(1, .int (zI x1)), (2, .int (zI x2)), (3, .int (zI x3)), (4, .int (zI x4)), (5, .int (zI x5)), (6, .int (zI v13)), (7, .int (zI v14)), (8, .int (zI v15)), (9, .int (zI x3))] rfl (c58_8 (2147483648 * 4) v13 v14 x3 (by omega) (by omega) (by omega) (by omega) (by omega) (by omega) (by omega) (by omega))
  exact j_sub [4, 5, 6, 7, 8, 2, 1, 0] [(1, .int (zI x1)), (2, .int (zI x2)), (3, .int (zI x3)), (4, .int (zI x4)), (5, .int (zI x5)), (6, .int (zI 0)), (7, .int (zI 0)), (8, .int (zI x1))] rfl (c49_1 (2147483648 * 4) 0 0 x1 (by omega) (by omega) (by omega) (by omega) (by omega) (by omega) (by omega))

set_option maxHeartbeats 1200000 in
set_option maxRecDepth 20000 in
theorem c_X12_waits_x {E : zE} {l : Launch} (hst : l.stackTraces = false) (a : Nat) (x1 : Int) (x2 : Int) (x3 : Int) (x4 : Int) : Con E l yX12_waits cX12_waits 6 (some .int) { frames := 2, cells := 0, slots := 0, locals := 47 } (fun G s vs => vs = [.ref a, .int (zI x1), .int (zI x2), .int (zI x3), .int (zI x4)] ∧ zGK G ∧ zSK G s ∧ (gT G a = 13) ∧ ((-2147483648) ≤ x1 ∧ x1 ≤ 2147483647) ∧ ((-2147483648) ≤ x2 ∧ x2 ≤ 2147483647) ∧ ((-2147483648) ≤ x3 ∧ x3 ≤ 2147483647) ∧ ((-2147483648) ≤ x4 ∧ x4 ≤ 2147483647)) (fun G s _ => pI (fun r G2 s2 => G2 = G ∧ zSK G s2 ∧ zFr [13, 71] G s s2 ∧ (0 ≤ r ∧ r ≤ 17) ∧ (((1 ≤ x2 ∧ x2 ≤ 99 ∧ 0 ≤ x1 ∧ x1 ≤ x2 ∧ 0 ≤ x3 ∧ x3 ≤ 99 ∧ 0 ≤ x4 ∧ x4 ≤ 99) → s2 a 0 = 0 ∧ (r ≤ 16 → 16 * (x1 * x3 - (x2 - x1) * x4) ≤ r * (x1 * x3)) ∧ (1 ≤ r → (r - 1) * (x1 * x3) < 16 * (x1 * x3 - (x2 - x1) * x4))) ∧ (¬ (1 ≤ x2 ∧ x2 ≤ 99 ∧ 0 ≤ x1 ∧ x1 ≤ x2 ∧ 0 ≤ x3 ∧ x3 ≤ 99 ∧ 0 ≤ x4 ∧ x4 ≤ 99) → s2 a 0 = 1)) ∧ s2 a 3 = s a 3 ∧ s2 a 4 = s a 4 ∧ s2 a 5 = s a 5 ∧ s2 a 7 = s a 7 ∧ s2 a 21 = s a 21 ∧ s2 a 22 = s a 22 ∧ s2 a 23 = s a 23 ∧ s2 a 24 = s a 24 ∧ s2 a 38 = s a 38 ∧ s2 a 51 = s a 51 ∧ s2 a 52 = s a 52)) := by
  refine Con.mk hst (by decide) (fun G s vs h => by rw [h.1]; exact Nat.le_of_ble_eq_true rfl) ?_
  rintro X G s0 vs ⟨rfl, hG, hS0, ha, hx1, hx2, hx3, hx4⟩ rfl hx hq
  show JJ X E 6 G s0 0 0 [(0, .ref a), (1, .int (zI x1)), (2, .int (zI x2)), (3, .int (zI x3)), (4, .int (zI x4))] 0 []
  refine j_aload_n hx 0 dX12_waits_0 rfl ?_
  refine j_iconst hx dX12_waits_1 ?_
  refine p13_0 hx hG ha kf_RX12_3 dX12_waits_2 ?_
  obtain ⟨s1, e_s1⟩ : ∃ z, z = zU s0 a 0 0 := ⟨_, rfl⟩
  rw [← e_s1]
  have hS_s1 : zSK G s1 := by rw [e_s1]; exact zSK_F hS0 ha rfl rfl rfl (by omega)
  refine j_aload_n hx 0 dX12_waits_5 rfl ?_
  refine j_iload_n hx 1 dX12_waits_6 rfl ?_
  refine j_iload_n hx 2 dX12_waits_7 rfl ?_
  refine j_iload_n hx 3 dX12_waits_8 rfl ?_
  refine j_iload hx 4 dX12_waits_9 rfl ?_
  have g1 : s1 a 0 = 0 := (by rw [e_s1, zU_eq])
  have g2 : s1 a 3 = s0 a 3 := (by rw [e_s1, zU_at (Or.inr (by decide))])
  have f3 := zf hS0 ha (k := 3) rfl
  have g4 : s1 a 4 = s0 a 4 := (by rw [e_s1, zU_at (Or.inr (by decide))])
  have f5 := zf hS0 ha (k := 4) rfl
  have g6 : s1 a 5 = s0 a 5 := (by rw [e_s1, zU_at (Or.inr (by decide))])
  have f7 := zf hS0 ha (k := 5) rfl
  have g8 : s1 a 7 = s0 a 7 := (by rw [e_s1, zU_at (Or.inr (by decide))])
  have f9 := zf hS0 ha (k := 7) rfl
  have g10 : s1 a 21 = s0 a 21 := (by rw [e_s1, zU_at (Or.inr (by decide))])
  have f11 := zf hS0 ha (k := 21) rfl
  have g12 : s1 a 22 = s0 a 22 := (by rw [e_s1, zU_at (Or.inr (by decide))])
  have f13 := zf hS0 ha (k := 22) rfl
  have g14 : s1 a 23 = s0 a 23 := (by rw [e_s1, zU_at (Or.inr (by decide))])
  have f15 := zf hS0 ha (k := 23) rfl
  have g16 : s1 a 24 = s0 a 24 := (by rw [e_s1, zU_at (Or.inr (by decide))])
  have f17 := zf hS0 ha (k := 24) rfl
  have g18 : s1 a 38 = s0 a 38 := (by rw [e_s1, zU_at (Or.inr (by decide))])
  have f19 := zf hS0 ha (k := 38) rfl
  have g20 : s1 a 51 = s0 a 51 := (by rw [e_s1, zU_at (Or.inr (by decide))])
  have f21 := zf hS0 ha (k := 51) rfl
  have g22 : s1 a 52 = s0 a 52 := (by rw [e_s1, zU_at (Or.inr (by decide))])
  have f23 := zf hS0 ha (k := 52) rfl
  refine j_callV hx hG (c_X12_isWorth hst a x1 x2 x3 x4) lk_RX12_465 ha (by decide) rfl rfl rfl rfl [.int (zI x1), .int (zI x2), .int (zI x3), .int (zI x4)] ⟨rfl, hG, hS_s1, ha, (by omega), (by omega), (by omega), (by omega), (((by rw [e_s1, zU_eq]) : s1 a 0 = 0).trans (by omega))⟩ rfl rfl ⟨by decide, by decide⟩ ⟨by decide, by decide⟩ (k2 := 0) (n2 := 0) rfl rfl (Nat.le_of_ble_eq_true rfl) dX12_waits_11 (kIM (fun v24 s2 hS_s2 hF_s2 q25 => ?_))
  refine j_if_ne hx 19 dX12_waits_14 rfl (by omega) (fun h26 => ?_) (fun h26 => ?_)
  · skip
    refine j_iconst hx dX12_waits_19 ?_
    refine j_istore hx [(5, .int (zI 0)), (0, .ref a), (1, .int (zI x1)), (2, .int (zI x2)), (3, .int (zI x3)), (4, .int (zI x4))] dX12_waits_20 (by decide) rfl ?_
    refine j_iload hx 0 dX12_waits_22 rfl ?_
    refine j_bipush hx dX12_waits_24 rfl ?_
    refine j_icmp_ge hx 57 dX12_waits_26 rfl ⟨by decide, by decide⟩ ⟨by decide, by decide⟩ (fun h27 => absurd h27 (by omega)) (fun h27 => ?_)
    refine j_iload hx 0 dX12_waits_29 rfl ?_
    refine j_iload_n hx 2 dX12_waits_31 rfl ?_
    refine j_imul hx (r := 0) dX12_waits_32 (by omega) ?_
    refine j_iload_n hx 4 dX12_waits_33 rfl ?_
    refine j_imul hx (r := 0) dX12_waits_34 (by omega) ?_
    refine j_bipush hx dX12_waits_35 rfl ?_
    refine j_iload_n hx 2 dX12_waits_37 rfl ?_
    refine j_iload_n hx 4 dX12_waits_38 rfl ?_
    refine j_imul hx (r := (x1 * x3)) dX12_waits_39 rfl ?_
    have f28 : 0 ≤ (x1 * x3) ∧ (x1 * x3) ≤ 99 * 99 := zmulnn (by omega) (by omega)
    refine j_iload_n hx 3 dX12_waits_40 rfl ?_
    refine j_iload_n hx 2 dX12_waits_41 rfl ?_
    refine j_isub hx (r := x2 - x1) dX12_waits_42 rfl ?_
    refine j_iload hx 5 dX12_waits_43 rfl ?_
    refine j_imul hx (r := ((x2 - x1) * x4)) dX12_waits_45 rfl ?_
    have f29 : 0 ≤ ((x2 - x1) * x4) ∧ ((x2 - x1) * x4) ≤ 99 * 99 := zmulnn (by omega) (by omega)
    refine j_isub hx (r := (x1 * x3) - ((x2 - x1) * x4)) dX12_waits_46 (by omega) ?_
    refine j_imul hx (r := 16 * (x1 * x3) - 16 * ((x2 - x1) * x4)) dX12_waits_47 (by omega) ?_
    refine j_icmp_ge hx 57 dX12_waits_48 rfl ⟨by decide, by decide⟩ (by omega) (fun h30 => ?_) (fun h30 => ?_)
    · skip
      refine j_iload hx 0 dX12_waits_57 rfl ?_
      have f31 := zf hS_s2 ha (k := 0) rfl
      have f32 := zf hS_s2 ha (k := 3) rfl
      have f33 := zf hS_s2 ha (k := 4) rfl
      have f34 := zf hS_s2 ha (k := 5) rfl
      have f35 := zf hS_s2 ha (k := 7) rfl
      have f36 := zf hS_s2 ha (k := 21) rfl
      have f37 := zf hS_s2 ha (k := 22) rfl
      have f38 := zf hS_s2 ha (k := 23) rfl
      have f39 := zf hS_s2 ha (k := 24) rfl
      have f40 := zf hS_s2 ha (k := 38) rfl
      have f41 := zf hS_s2 ha (k := 51) rfl
      have f42 := zf hS_s2 ha (k := 52) rfl
      exact j_iret hx hq rfl (by decide) (by decide) dX12_waits_59 ⟨0, rfl, rfl, hS_s2, (zFr_t (zFr_u zFr_rf e_s1 ha (by decide)) hF_s2 (by decide)), ⟨(by omega), by omega, by omega, by omega, by omega, by omega, by omega, by omega, by omega, by omega, by omega, by omega, by omega⟩⟩
    · skip
      refine j_iinc hx 0 [(5, .int (zI 1)), (0, .ref a), (1, .int (zI x1)), (2, .int (zI x2)), (3, .int (zI x3)), (4, .int (zI x4))] dX12_waits_51 rfl (by omega) (by decide) rfl ?_
      refine j_goto hx 22 dX12_waits_54 rfl ?_
      refine j_iload hx 0 dX12_waits_22 rfl ?_
      refine j_bipush hx dX12_waits_24 rfl ?_
      refine j_icmp_ge hx 57 dX12_waits_26 rfl ⟨by decide, by decide⟩ ⟨by decide, by decide⟩ (fun h43 => absurd h43 (by omega)) (fun h43 => ?_)
      refine j_iload hx 0 dX12_waits_29 rfl ?_
      refine j_iload_n hx 2 dX12_waits_31 rfl ?_
      refine j_imul hx (r := x1) dX12_waits_32 (by omega) ?_
      refine j_iload_n hx 4 dX12_waits_33 rfl ?_
      refine j_imul hx (r := (x1 * x3)) dX12_waits_34 rfl ?_
      refine j_bipush hx dX12_waits_35 rfl ?_
      refine j_iload_n hx 2 dX12_waits_37 rfl ?_
      refine j_iload_n hx 4 dX12_waits_38 rfl ?_
      refine j_imul hx (r := (x1 * x3)) dX12_waits_39 rfl ?_
      refine j_iload_n hx 3 dX12_waits_40 rfl ?_
      refine j_iload_n hx 2 dX12_waits_41 rfl ?_
      refine j_isub hx (r := x2 - x1) dX12_waits_42 rfl ?_
      refine j_iload hx 5 dX12_waits_43 rfl ?_
      refine j_imul hx (r := ((x2 - x1) * x4)) dX12_waits_45 rfl ?_
      refine j_isub hx (r := (x1 * x3) - ((x2 - x1) * x4)) dX12_waits_46 (by omega) ?_
      refine j_imul hx (r := 16 * (x1 * x3) - 16 * ((x2 - x1) * x4)) dX12_waits_47 (by omega) ?_
      refine j_icmp_ge hx 57 dX12_waits_48 rfl (by omega) (by omega) (fun h44 => ?_) (fun h44 => ?_)
      · skip
        refine j_iload hx 0 dX12_waits_57 rfl ?_
        have f45 := zf hS_s2 ha (k := 0) rfl
        have f46 := zf hS_s2 ha (k := 3) rfl
        have f47 := zf hS_s2 ha (k := 4) rfl
        have f48 := zf hS_s2 ha (k := 5) rfl
        have f49 := zf hS_s2 ha (k := 7) rfl
        have f50 := zf hS_s2 ha (k := 21) rfl
        have f51 := zf hS_s2 ha (k := 22) rfl
        have f52 := zf hS_s2 ha (k := 23) rfl
        have f53 := zf hS_s2 ha (k := 24) rfl
        have f54 := zf hS_s2 ha (k := 38) rfl
        have f55 := zf hS_s2 ha (k := 51) rfl
        have f56 := zf hS_s2 ha (k := 52) rfl
        exact j_iret hx hq rfl (by decide) (by decide) dX12_waits_59 ⟨1, rfl, rfl, hS_s2, (zFr_t (zFr_u zFr_rf e_s1 ha (by decide)) hF_s2 (by decide)), ⟨(by omega), by omega, by omega, by omega, by omega, by omega, by omega, by omega, by omega, by omega, by omega, by omega, by omega⟩⟩
      · skip
        refine j_iinc hx 0 [(5, .int (zI 2)), (0, .ref a), (1, .int (zI x1)), (2, .int (zI x2)), (3, .int (zI x3)), (4, .int (zI x4))] dX12_waits_51 rfl (by omega) (by decide) rfl ?_
        refine j_goto hx 22 dX12_waits_54 rfl ?_
        refine j_iload hx 0 dX12_waits_22 rfl ?_
        refine j_bipush hx dX12_waits_24 rfl ?_
        refine j_icmp_ge hx 57 dX12_waits_26 rfl ⟨by decide, by decide⟩ ⟨by decide, by decide⟩ (fun h57 => absurd h57 (by omega)) (fun h57 => ?_)
        refine j_iload hx 0 dX12_waits_29 rfl ?_
        refine j_iload_n hx 2 dX12_waits_31 rfl ?_
        refine j_imul hx (r := 2 * x1) dX12_waits_32 rfl ?_
        refine j_iload_n hx 4 dX12_waits_33 rfl ?_
        refine j_imul hx (r := 2 * (x1 * x3)) dX12_waits_34 (by rw [Int.mul_assoc]) ?_
        refine j_bipush hx dX12_waits_35 rfl ?_
        refine j_iload_n hx 2 dX12_waits_37 rfl ?_
        refine j_iload_n hx 4 dX12_waits_38 rfl ?_
        refine j_imul hx (r := (x1 * x3)) dX12_waits_39 rfl ?_
        refine j_iload_n hx 3 dX12_waits_40 rfl ?_
        refine j_iload_n hx 2 dX12_waits_41 rfl ?_
        refine j_isub hx (r := x2 - x1) dX12_waits_42 rfl ?_
        refine j_iload hx 5 dX12_waits_43 rfl ?_
        refine j_imul hx (r := ((x2 - x1) * x4)) dX12_waits_45 rfl ?_
        refine j_isub hx (r := (x1 * x3) - ((x2 - x1) * x4)) dX12_waits_46 (by omega) ?_
        refine j_imul hx (r := 16 * (x1 * x3) - 16 * ((x2 - x1) * x4)) dX12_waits_47 (by omega) ?_
        refine j_icmp_ge hx 57 dX12_waits_48 rfl (by omega) (by omega) (fun h58 => ?_) (fun h58 => ?_)
        · skip
          refine j_iload hx 0 dX12_waits_57 rfl ?_
          have f59 := zf hS_s2 ha (k := 0) rfl
          have f60 := zf hS_s2 ha (k := 3) rfl
          have f61 := zf hS_s2 ha (k := 4) rfl
          have f62 := zf hS_s2 ha (k := 5) rfl
          have f63 := zf hS_s2 ha (k := 7) rfl
          have f64 := zf hS_s2 ha (k := 21) rfl
          have f65 := zf hS_s2 ha (k := 22) rfl
          have f66 := zf hS_s2 ha (k := 23) rfl
          have f67 := zf hS_s2 ha (k := 24) rfl
          have f68 := zf hS_s2 ha (k := 38) rfl
          have f69 := zf hS_s2 ha (k := 51) rfl
          have f70 := zf hS_s2 ha (k := 52) rfl
          exact j_iret hx hq rfl (by decide) (by decide) dX12_waits_59 ⟨2, rfl, rfl, hS_s2, (zFr_t (zFr_u zFr_rf e_s1 ha (by decide)) hF_s2 (by decide)), ⟨(by omega), by omega, by omega, by omega, by omega, by omega, by omega, by omega, by omega, by omega, by omega, by omega, by omega⟩⟩
        · skip
          refine j_iinc hx 0 [(5, .int (zI 3)), (0, .ref a), (1, .int (zI x1)), (2, .int (zI x2)), (3, .int (zI x3)), (4, .int (zI x4))] dX12_waits_51 rfl (by omega) (by decide) rfl ?_
          refine j_goto hx 22 dX12_waits_54 rfl ?_
          refine j_iload hx 0 dX12_waits_22 rfl ?_
          refine j_bipush hx dX12_waits_24 rfl ?_
          refine j_icmp_ge hx 57 dX12_waits_26 rfl ⟨by decide, by decide⟩ ⟨by decide, by decide⟩ (fun h71 => absurd h71 (by omega)) (fun h71 => ?_)
          refine j_iload hx 0 dX12_waits_29 rfl ?_
          refine j_iload_n hx 2 dX12_waits_31 rfl ?_
          refine j_imul hx (r := 3 * x1) dX12_waits_32 rfl ?_
          refine j_iload_n hx 4 dX12_waits_33 rfl ?_
          refine j_imul hx (r := 3 * (x1 * x3)) dX12_waits_34 (by rw [Int.mul_assoc]) ?_
          refine j_bipush hx dX12_waits_35 rfl ?_
          refine j_iload_n hx 2 dX12_waits_37 rfl ?_
          refine j_iload_n hx 4 dX12_waits_38 rfl ?_
          refine j_imul hx (r := (x1 * x3)) dX12_waits_39 rfl ?_
          refine j_iload_n hx 3 dX12_waits_40 rfl ?_
          refine j_iload_n hx 2 dX12_waits_41 rfl ?_
          refine j_isub hx (r := x2 - x1) dX12_waits_42 rfl ?_
          refine j_iload hx 5 dX12_waits_43 rfl ?_
          refine j_imul hx (r := ((x2 - x1) * x4)) dX12_waits_45 rfl ?_
          refine j_isub hx (r := (x1 * x3) - ((x2 - x1) * x4)) dX12_waits_46 (by omega) ?_
          refine j_imul hx (r := 16 * (x1 * x3) - 16 * ((x2 - x1) * x4)) dX12_waits_47 (by omega) ?_
          refine j_icmp_ge hx 57 dX12_waits_48 rfl (by omega) (by omega) (fun h72 => ?_) (fun h72 => ?_)
          · skip
            refine j_iload hx 0 dX12_waits_57 rfl ?_
            have f73 := zf hS_s2 ha (k := 0) rfl
            have f74 := zf hS_s2 ha (k := 3) rfl
            have f75 := zf hS_s2 ha (k := 4) rfl
            have f76 := zf hS_s2 ha (k := 5) rfl
            have f77 := zf hS_s2 ha (k := 7) rfl
            have f78 := zf hS_s2 ha (k := 21) rfl
            have f79 := zf hS_s2 ha (k := 22) rfl
            have f80 := zf hS_s2 ha (k := 23) rfl
            have f81 := zf hS_s2 ha (k := 24) rfl
            have f82 := zf hS_s2 ha (k := 38) rfl
            have f83 := zf hS_s2 ha (k := 51) rfl
            have f84 := zf hS_s2 ha (k := 52) rfl
            exact j_iret hx hq rfl (by decide) (by decide) dX12_waits_59 ⟨3, rfl, rfl, hS_s2, (zFr_t (zFr_u zFr_rf e_s1 ha (by decide)) hF_s2 (by decide)), ⟨(by omega), by omega, by omega, by omega, by omega, by omega, by omega, by omega, by omega, by omega, by omega, by omega, by omega⟩⟩
          · skip
            refine j_iinc hx 0 [(5, .int (zI 4)), (0, .ref a), (1, .int (zI x1)), (2, .int (zI x2)), (3, .int (zI x3)), (4, .int (zI x4))] dX12_waits_51 rfl (by omega) (by decide) rfl ?_
            refine j_goto hx 22 dX12_waits_54 rfl ?_
            refine j_iload hx 0 dX12_waits_22 rfl ?_
            refine j_bipush hx dX12_waits_24 rfl ?_
            refine j_icmp_ge hx 57 dX12_waits_26 rfl ⟨by decide, by decide⟩ ⟨by decide, by decide⟩ (fun h85 => absurd h85 (by omega)) (fun h85 => ?_)
            refine j_iload hx 0 dX12_waits_29 rfl ?_
            refine j_iload_n hx 2 dX12_waits_31 rfl ?_
            refine j_imul hx (r := 4 * x1) dX12_waits_32 rfl ?_
            refine j_iload_n hx 4 dX12_waits_33 rfl ?_
            refine j_imul hx (r := 4 * (x1 * x3)) dX12_waits_34 (by rw [Int.mul_assoc]) ?_
            refine j_bipush hx dX12_waits_35 rfl ?_
            refine j_iload_n hx 2 dX12_waits_37 rfl ?_
            refine j_iload_n hx 4 dX12_waits_38 rfl ?_
            refine j_imul hx (r := (x1 * x3)) dX12_waits_39 rfl ?_
            refine j_iload_n hx 3 dX12_waits_40 rfl ?_
            refine j_iload_n hx 2 dX12_waits_41 rfl ?_
            refine j_isub hx (r := x2 - x1) dX12_waits_42 rfl ?_
            refine j_iload hx 5 dX12_waits_43 rfl ?_
            refine j_imul hx (r := ((x2 - x1) * x4)) dX12_waits_45 rfl ?_
            refine j_isub hx (r := (x1 * x3) - ((x2 - x1) * x4)) dX12_waits_46 (by omega) ?_
            refine j_imul hx (r := 16 * (x1 * x3) - 16 * ((x2 - x1) * x4)) dX12_waits_47 (by omega) ?_
            refine j_icmp_ge hx 57 dX12_waits_48 rfl (by omega) (by omega) (fun h86 => ?_) (fun h86 => ?_)
            · skip
              refine j_iload hx 0 dX12_waits_57 rfl ?_
              have f87 := zf hS_s2 ha (k := 0) rfl
              have f88 := zf hS_s2 ha (k := 3) rfl
              have f89 := zf hS_s2 ha (k := 4) rfl
              have f90 := zf hS_s2 ha (k := 5) rfl
              have f91 := zf hS_s2 ha (k := 7) rfl
              have f92 := zf hS_s2 ha (k := 21) rfl
              have f93 := zf hS_s2 ha (k := 22) rfl
              have f94 := zf hS_s2 ha (k := 23) rfl
              have f95 := zf hS_s2 ha (k := 24) rfl
              have f96 := zf hS_s2 ha (k := 38) rfl
              have f97 := zf hS_s2 ha (k := 51) rfl
              have f98 := zf hS_s2 ha (k := 52) rfl
              exact j_iret hx hq rfl (by decide) (by decide) dX12_waits_59 ⟨4, rfl, rfl, hS_s2, (zFr_t (zFr_u zFr_rf e_s1 ha (by decide)) hF_s2 (by decide)), ⟨(by omega), by omega, by omega, by omega, by omega, by omega, by omega, by omega, by omega, by omega, by omega, by omega, by omega⟩⟩
            · skip
              refine j_iinc hx 0 [(5, .int (zI 5)), (0, .ref a), (1, .int (zI x1)), (2, .int (zI x2)), (3, .int (zI x3)), (4, .int (zI x4))] dX12_waits_51 rfl (by omega) (by decide) rfl ?_
              refine j_goto hx 22 dX12_waits_54 rfl ?_
              refine j_iload hx 0 dX12_waits_22 rfl ?_
              refine j_bipush hx dX12_waits_24 rfl ?_
              refine j_icmp_ge hx 57 dX12_waits_26 rfl ⟨by decide, by decide⟩ ⟨by decide, by decide⟩ (fun h99 => absurd h99 (by omega)) (fun h99 => ?_)
              refine j_iload hx 0 dX12_waits_29 rfl ?_
              refine j_iload_n hx 2 dX12_waits_31 rfl ?_
              refine j_imul hx (r := 5 * x1) dX12_waits_32 rfl ?_
              refine j_iload_n hx 4 dX12_waits_33 rfl ?_
              refine j_imul hx (r := 5 * (x1 * x3)) dX12_waits_34 (by rw [Int.mul_assoc]) ?_
              refine j_bipush hx dX12_waits_35 rfl ?_
              refine j_iload_n hx 2 dX12_waits_37 rfl ?_
              refine j_iload_n hx 4 dX12_waits_38 rfl ?_
              refine j_imul hx (r := (x1 * x3)) dX12_waits_39 rfl ?_
              refine j_iload_n hx 3 dX12_waits_40 rfl ?_
              refine j_iload_n hx 2 dX12_waits_41 rfl ?_
              refine j_isub hx (r := x2 - x1) dX12_waits_42 rfl ?_
              refine j_iload hx 5 dX12_waits_43 rfl ?_
              refine j_imul hx (r := ((x2 - x1) * x4)) dX12_waits_45 rfl ?_
              refine j_isub hx (r := (x1 * x3) - ((x2 - x1) * x4)) dX12_waits_46 (by omega) ?_
              refine j_imul hx (r := 16 * (x1 * x3) - 16 * ((x2 - x1) * x4)) dX12_waits_47 (by omega) ?_
              refine j_icmp_ge hx 57 dX12_waits_48 rfl (by omega) (by omega) (fun h100 => ?_) (fun h100 => ?_)
              · skip
                refine j_iload hx 0 dX12_waits_57 rfl ?_
                have f101 := zf hS_s2 ha (k := 0) rfl
                have f102 := zf hS_s2 ha (k := 3) rfl
                have f103 := zf hS_s2 ha (k := 4) rfl
                have f104 := zf hS_s2 ha (k := 5) rfl
                have f105 := zf hS_s2 ha (k := 7) rfl
                have f106 := zf hS_s2 ha (k := 21) rfl
                have f107 := zf hS_s2 ha (k := 22) rfl
                have f108 := zf hS_s2 ha (k := 23) rfl
                have f109 := zf hS_s2 ha (k := 24) rfl
                have f110 := zf hS_s2 ha (k := 38) rfl
                have f111 := zf hS_s2 ha (k := 51) rfl
                have f112 := zf hS_s2 ha (k := 52) rfl
                exact j_iret hx hq rfl (by decide) (by decide) dX12_waits_59 ⟨5, rfl, rfl, hS_s2, (zFr_t (zFr_u zFr_rf e_s1 ha (by decide)) hF_s2 (by decide)), ⟨(by omega), by omega, by omega, by omega, by omega, by omega, by omega, by omega, by omega, by omega, by omega, by omega, by omega⟩⟩
              · skip
                refine j_iinc hx 0 [(5, .int (zI 6)), (0, .ref a), (1, .int (zI x1)), (2, .int (zI x2)), (3, .int (zI x3)), (4, .int (zI x4))] dX12_waits_51 rfl (by omega) (by decide) rfl ?_
                refine j_goto hx 22 dX12_waits_54 rfl ?_
                refine j_iload hx 0 dX12_waits_22 rfl ?_
                refine j_bipush hx dX12_waits_24 rfl ?_
                refine j_icmp_ge hx 57 dX12_waits_26 rfl ⟨by decide, by decide⟩ ⟨by decide, by decide⟩ (fun h113 => absurd h113 (by omega)) (fun h113 => ?_)
                refine j_iload hx 0 dX12_waits_29 rfl ?_
                refine j_iload_n hx 2 dX12_waits_31 rfl ?_
                refine j_imul hx (r := 6 * x1) dX12_waits_32 rfl ?_
                refine j_iload_n hx 4 dX12_waits_33 rfl ?_
                refine j_imul hx (r := 6 * (x1 * x3)) dX12_waits_34 (by rw [Int.mul_assoc]) ?_
                refine j_bipush hx dX12_waits_35 rfl ?_
                refine j_iload_n hx 2 dX12_waits_37 rfl ?_
                refine j_iload_n hx 4 dX12_waits_38 rfl ?_
                refine j_imul hx (r := (x1 * x3)) dX12_waits_39 rfl ?_
                refine j_iload_n hx 3 dX12_waits_40 rfl ?_
                refine j_iload_n hx 2 dX12_waits_41 rfl ?_
                refine j_isub hx (r := x2 - x1) dX12_waits_42 rfl ?_
                refine j_iload hx 5 dX12_waits_43 rfl ?_
                refine j_imul hx (r := ((x2 - x1) * x4)) dX12_waits_45 rfl ?_
                refine j_isub hx (r := (x1 * x3) - ((x2 - x1) * x4)) dX12_waits_46 (by omega) ?_
                refine j_imul hx (r := 16 * (x1 * x3) - 16 * ((x2 - x1) * x4)) dX12_waits_47 (by omega) ?_
                refine j_icmp_ge hx 57 dX12_waits_48 rfl (by omega) (by omega) (fun h114 => ?_) (fun h114 => ?_)
                · skip
                  refine j_iload hx 0 dX12_waits_57 rfl ?_
                  have f115 := zf hS_s2 ha (k := 0) rfl
                  have f116 := zf hS_s2 ha (k := 3) rfl
                  have f117 := zf hS_s2 ha (k := 4) rfl
                  have f118 := zf hS_s2 ha (k := 5) rfl
                  have f119 := zf hS_s2 ha (k := 7) rfl
                  have f120 := zf hS_s2 ha (k := 21) rfl
                  have f121 := zf hS_s2 ha (k := 22) rfl
                  have f122 := zf hS_s2 ha (k := 23) rfl
                  have f123 := zf hS_s2 ha (k := 24) rfl
                  have f124 := zf hS_s2 ha (k := 38) rfl
                  have f125 := zf hS_s2 ha (k := 51) rfl
                  have f126 := zf hS_s2 ha (k := 52) rfl
                  exact j_iret hx hq rfl (by decide) (by decide) dX12_waits_59 ⟨6, rfl, rfl, hS_s2, (zFr_t (zFr_u zFr_rf e_s1 ha (by decide)) hF_s2 (by decide)), ⟨(by omega), by omega, by omega, by omega, by omega, by omega, by omega, by omega, by omega, by omega, by omega, by omega, by omega⟩⟩
                · skip
                  refine j_iinc hx 0 [(5, .int (zI 7)), (0, .ref a), (1, .int (zI x1)), (2, .int (zI x2)), (3, .int (zI x3)), (4, .int (zI x4))] dX12_waits_51 rfl (by omega) (by decide) rfl ?_
                  refine j_goto hx 22 dX12_waits_54 rfl ?_
                  refine j_iload hx 0 dX12_waits_22 rfl ?_
                  refine j_bipush hx dX12_waits_24 rfl ?_
                  refine j_icmp_ge hx 57 dX12_waits_26 rfl ⟨by decide, by decide⟩ ⟨by decide, by decide⟩ (fun h127 => absurd h127 (by omega)) (fun h127 => ?_)
                  refine j_iload hx 0 dX12_waits_29 rfl ?_
                  refine j_iload_n hx 2 dX12_waits_31 rfl ?_
                  refine j_imul hx (r := 7 * x1) dX12_waits_32 rfl ?_
                  refine j_iload_n hx 4 dX12_waits_33 rfl ?_
                  refine j_imul hx (r := 7 * (x1 * x3)) dX12_waits_34 (by rw [Int.mul_assoc]) ?_
                  refine j_bipush hx dX12_waits_35 rfl ?_
                  refine j_iload_n hx 2 dX12_waits_37 rfl ?_
                  refine j_iload_n hx 4 dX12_waits_38 rfl ?_
                  refine j_imul hx (r := (x1 * x3)) dX12_waits_39 rfl ?_
                  refine j_iload_n hx 3 dX12_waits_40 rfl ?_
                  refine j_iload_n hx 2 dX12_waits_41 rfl ?_
                  refine j_isub hx (r := x2 - x1) dX12_waits_42 rfl ?_
                  refine j_iload hx 5 dX12_waits_43 rfl ?_
                  refine j_imul hx (r := ((x2 - x1) * x4)) dX12_waits_45 rfl ?_
                  refine j_isub hx (r := (x1 * x3) - ((x2 - x1) * x4)) dX12_waits_46 (by omega) ?_
                  refine j_imul hx (r := 16 * (x1 * x3) - 16 * ((x2 - x1) * x4)) dX12_waits_47 (by omega) ?_
                  refine j_icmp_ge hx 57 dX12_waits_48 rfl (by omega) (by omega) (fun h128 => ?_) (fun h128 => ?_)
                  · skip
                    refine j_iload hx 0 dX12_waits_57 rfl ?_
                    have f129 := zf hS_s2 ha (k := 0) rfl
                    have f130 := zf hS_s2 ha (k := 3) rfl
                    have f131 := zf hS_s2 ha (k := 4) rfl
                    have f132 := zf hS_s2 ha (k := 5) rfl
                    have f133 := zf hS_s2 ha (k := 7) rfl
                    have f134 := zf hS_s2 ha (k := 21) rfl
                    have f135 := zf hS_s2 ha (k := 22) rfl
                    have f136 := zf hS_s2 ha (k := 23) rfl
                    have f137 := zf hS_s2 ha (k := 24) rfl
                    have f138 := zf hS_s2 ha (k := 38) rfl
                    have f139 := zf hS_s2 ha (k := 51) rfl
                    have f140 := zf hS_s2 ha (k := 52) rfl
                    exact j_iret hx hq rfl (by decide) (by decide) dX12_waits_59 ⟨7, rfl, rfl, hS_s2, (zFr_t (zFr_u zFr_rf e_s1 ha (by decide)) hF_s2 (by decide)), ⟨(by omega), by omega, by omega, by omega, by omega, by omega, by omega, by omega, by omega, by omega, by omega, by omega, by omega⟩⟩
                  · skip
                    refine j_iinc hx 0 [(5, .int (zI 8)), (0, .ref a), (1, .int (zI x1)), (2, .int (zI x2)), (3, .int (zI x3)), (4, .int (zI x4))] dX12_waits_51 rfl (by omega) (by decide) rfl ?_
                    refine j_goto hx 22 dX12_waits_54 rfl ?_
                    refine j_iload hx 0 dX12_waits_22 rfl ?_
                    refine j_bipush hx dX12_waits_24 rfl ?_
                    refine j_icmp_ge hx 57 dX12_waits_26 rfl ⟨by decide, by decide⟩ ⟨by decide, by decide⟩ (fun h141 => absurd h141 (by omega)) (fun h141 => ?_)
                    refine j_iload hx 0 dX12_waits_29 rfl ?_
                    refine j_iload_n hx 2 dX12_waits_31 rfl ?_
                    refine j_imul hx (r := 8 * x1) dX12_waits_32 rfl ?_
                    refine j_iload_n hx 4 dX12_waits_33 rfl ?_
                    refine j_imul hx (r := 8 * (x1 * x3)) dX12_waits_34 (by rw [Int.mul_assoc]) ?_
                    refine j_bipush hx dX12_waits_35 rfl ?_
                    refine j_iload_n hx 2 dX12_waits_37 rfl ?_
                    refine j_iload_n hx 4 dX12_waits_38 rfl ?_
                    refine j_imul hx (r := (x1 * x3)) dX12_waits_39 rfl ?_
                    refine j_iload_n hx 3 dX12_waits_40 rfl ?_
                    refine j_iload_n hx 2 dX12_waits_41 rfl ?_
                    refine j_isub hx (r := x2 - x1) dX12_waits_42 rfl ?_
                    refine j_iload hx 5 dX12_waits_43 rfl ?_
                    refine j_imul hx (r := ((x2 - x1) * x4)) dX12_waits_45 rfl ?_
                    refine j_isub hx (r := (x1 * x3) - ((x2 - x1) * x4)) dX12_waits_46 (by omega) ?_
                    refine j_imul hx (r := 16 * (x1 * x3) - 16 * ((x2 - x1) * x4)) dX12_waits_47 (by omega) ?_
                    refine j_icmp_ge hx 57 dX12_waits_48 rfl (by omega) (by omega) (fun h142 => ?_) (fun h142 => ?_)
                    · skip
                      refine j_iload hx 0 dX12_waits_57 rfl ?_
                      have f143 := zf hS_s2 ha (k := 0) rfl
                      have f144 := zf hS_s2 ha (k := 3) rfl
                      have f145 := zf hS_s2 ha (k := 4) rfl
                      have f146 := zf hS_s2 ha (k := 5) rfl
                      have f147 := zf hS_s2 ha (k := 7) rfl
                      have f148 := zf hS_s2 ha (k := 21) rfl
                      have f149 := zf hS_s2 ha (k := 22) rfl
                      have f150 := zf hS_s2 ha (k := 23) rfl
                      have f151 := zf hS_s2 ha (k := 24) rfl
                      have f152 := zf hS_s2 ha (k := 38) rfl
                      have f153 := zf hS_s2 ha (k := 51) rfl
                      have f154 := zf hS_s2 ha (k := 52) rfl
                      exact j_iret hx hq rfl (by decide) (by decide) dX12_waits_59 ⟨8, rfl, rfl, hS_s2, (zFr_t (zFr_u zFr_rf e_s1 ha (by decide)) hF_s2 (by decide)), ⟨(by omega), by omega, by omega, by omega, by omega, by omega, by omega, by omega, by omega, by omega, by omega, by omega, by omega⟩⟩
                    · skip
                      refine j_iinc hx 0 [(5, .int (zI 9)), (0, .ref a), (1, .int (zI x1)), (2, .int (zI x2)), (3, .int (zI x3)), (4, .int (zI x4))] dX12_waits_51 rfl (by omega) (by decide) rfl ?_
                      refine j_goto hx 22 dX12_waits_54 rfl ?_
                      refine j_iload hx 0 dX12_waits_22 rfl ?_
                      refine j_bipush hx dX12_waits_24 rfl ?_
                      refine j_icmp_ge hx 57 dX12_waits_26 rfl ⟨by decide, by decide⟩ ⟨by decide, by decide⟩ (fun h155 => absurd h155 (by omega)) (fun h155 => ?_)
                      refine j_iload hx 0 dX12_waits_29 rfl ?_
                      refine j_iload_n hx 2 dX12_waits_31 rfl ?_
                      refine j_imul hx (r := 9 * x1) dX12_waits_32 rfl ?_
                      refine j_iload_n hx 4 dX12_waits_33 rfl ?_
                      refine j_imul hx (r := 9 * (x1 * x3)) dX12_waits_34 (by rw [Int.mul_assoc]) ?_
                      refine j_bipush hx dX12_waits_35 rfl ?_
                      refine j_iload_n hx 2 dX12_waits_37 rfl ?_
                      refine j_iload_n hx 4 dX12_waits_38 rfl ?_
                      refine j_imul hx (r := (x1 * x3)) dX12_waits_39 rfl ?_
                      refine j_iload_n hx 3 dX12_waits_40 rfl ?_
                      refine j_iload_n hx 2 dX12_waits_41 rfl ?_
                      refine j_isub hx (r := x2 - x1) dX12_waits_42 rfl ?_
                      refine j_iload hx 5 dX12_waits_43 rfl ?_
                      refine j_imul hx (r := ((x2 - x1) * x4)) dX12_waits_45 rfl ?_
                      refine j_isub hx (r := (x1 * x3) - ((x2 - x1) * x4)) dX12_waits_46 (by omega) ?_
                      refine j_imul hx (r := 16 * (x1 * x3) - 16 * ((x2 - x1) * x4)) dX12_waits_47 (by omega) ?_
                      refine j_icmp_ge hx 57 dX12_waits_48 rfl (by omega) (by omega) (fun h156 => ?_) (fun h156 => ?_)
                      · skip
                        refine j_iload hx 0 dX12_waits_57 rfl ?_
                        have f157 := zf hS_s2 ha (k := 0) rfl
                        have f158 := zf hS_s2 ha (k := 3) rfl
                        have f159 := zf hS_s2 ha (k := 4) rfl
                        have f160 := zf hS_s2 ha (k := 5) rfl
                        have f161 := zf hS_s2 ha (k := 7) rfl
                        have f162 := zf hS_s2 ha (k := 21) rfl
                        have f163 := zf hS_s2 ha (k := 22) rfl
                        have f164 := zf hS_s2 ha (k := 23) rfl
                        have f165 := zf hS_s2 ha (k := 24) rfl
                        have f166 := zf hS_s2 ha (k := 38) rfl
                        have f167 := zf hS_s2 ha (k := 51) rfl
                        have f168 := zf hS_s2 ha (k := 52) rfl
                        exact j_iret hx hq rfl (by decide) (by decide) dX12_waits_59 ⟨9, rfl, rfl, hS_s2, (zFr_t (zFr_u zFr_rf e_s1 ha (by decide)) hF_s2 (by decide)), ⟨(by omega), by omega, by omega, by omega, by omega, by omega, by omega, by omega, by omega, by omega, by omega, by omega, by omega⟩⟩
                      · skip
                        refine j_iinc hx 0 [(5, .int (zI 10)), (0, .ref a), (1, .int (zI x1)), (2, .int (zI x2)), (3, .int (zI x3)), (4, .int (zI x4))] dX12_waits_51 rfl (by omega) (by decide) rfl ?_
                        refine j_goto hx 22 dX12_waits_54 rfl ?_
                        refine j_iload hx 0 dX12_waits_22 rfl ?_
                        refine j_bipush hx dX12_waits_24 rfl ?_
                        refine j_icmp_ge hx 57 dX12_waits_26 rfl ⟨by decide, by decide⟩ ⟨by decide, by decide⟩ (fun h169 => absurd h169 (by omega)) (fun h169 => ?_)
                        refine j_iload hx 0 dX12_waits_29 rfl ?_
                        refine j_iload_n hx 2 dX12_waits_31 rfl ?_
                        refine j_imul hx (r := 10 * x1) dX12_waits_32 rfl ?_
                        refine j_iload_n hx 4 dX12_waits_33 rfl ?_
                        refine j_imul hx (r := 10 * (x1 * x3)) dX12_waits_34 (by rw [Int.mul_assoc]) ?_
                        refine j_bipush hx dX12_waits_35 rfl ?_
                        refine j_iload_n hx 2 dX12_waits_37 rfl ?_
                        refine j_iload_n hx 4 dX12_waits_38 rfl ?_
                        refine j_imul hx (r := (x1 * x3)) dX12_waits_39 rfl ?_
                        refine j_iload_n hx 3 dX12_waits_40 rfl ?_
                        refine j_iload_n hx 2 dX12_waits_41 rfl ?_
                        refine j_isub hx (r := x2 - x1) dX12_waits_42 rfl ?_
                        refine j_iload hx 5 dX12_waits_43 rfl ?_
                        refine j_imul hx (r := ((x2 - x1) * x4)) dX12_waits_45 rfl ?_
                        refine j_isub hx (r := (x1 * x3) - ((x2 - x1) * x4)) dX12_waits_46 (by omega) ?_
                        refine j_imul hx (r := 16 * (x1 * x3) - 16 * ((x2 - x1) * x4)) dX12_waits_47 (by omega) ?_
                        refine j_icmp_ge hx 57 dX12_waits_48 rfl (by omega) (by omega) (fun h170 => ?_) (fun h170 => ?_)
                        · skip
                          refine j_iload hx 0 dX12_waits_57 rfl ?_
                          have f171 := zf hS_s2 ha (k := 0) rfl
                          have f172 := zf hS_s2 ha (k := 3) rfl
                          have f173 := zf hS_s2 ha (k := 4) rfl
                          have f174 := zf hS_s2 ha (k := 5) rfl
                          have f175 := zf hS_s2 ha (k := 7) rfl
                          have f176 := zf hS_s2 ha (k := 21) rfl
                          have f177 := zf hS_s2 ha (k := 22) rfl
                          have f178 := zf hS_s2 ha (k := 23) rfl
                          have f179 := zf hS_s2 ha (k := 24) rfl
                          have f180 := zf hS_s2 ha (k := 38) rfl
                          have f181 := zf hS_s2 ha (k := 51) rfl
                          have f182 := zf hS_s2 ha (k := 52) rfl
                          exact j_iret hx hq rfl (by decide) (by decide) dX12_waits_59 ⟨10, rfl, rfl, hS_s2, (zFr_t (zFr_u zFr_rf e_s1 ha (by decide)) hF_s2 (by decide)), ⟨(by omega), by omega, by omega, by omega, by omega, by omega, by omega, by omega, by omega, by omega, by omega, by omega, by omega⟩⟩
                        · skip
                          refine j_iinc hx 0 [(5, .int (zI 11)), (0, .ref a), (1, .int (zI x1)), (2, .int (zI x2)), (3, .int (zI x3)), (4, .int (zI x4))] dX12_waits_51 rfl (by omega) (by decide) rfl ?_
                          refine j_goto hx 22 dX12_waits_54 rfl ?_
                          refine j_iload hx 0 dX12_waits_22 rfl ?_
                          refine j_bipush hx dX12_waits_24 rfl ?_
                          refine j_icmp_ge hx 57 dX12_waits_26 rfl ⟨by decide, by decide⟩ ⟨by decide, by decide⟩ (fun h183 => absurd h183 (by omega)) (fun h183 => ?_)
                          refine j_iload hx 0 dX12_waits_29 rfl ?_
                          refine j_iload_n hx 2 dX12_waits_31 rfl ?_
                          refine j_imul hx (r := 11 * x1) dX12_waits_32 rfl ?_
                          refine j_iload_n hx 4 dX12_waits_33 rfl ?_
                          refine j_imul hx (r := 11 * (x1 * x3)) dX12_waits_34 (by rw [Int.mul_assoc]) ?_
                          refine j_bipush hx dX12_waits_35 rfl ?_
                          refine j_iload_n hx 2 dX12_waits_37 rfl ?_
                          refine j_iload_n hx 4 dX12_waits_38 rfl ?_
                          refine j_imul hx (r := (x1 * x3)) dX12_waits_39 rfl ?_
                          refine j_iload_n hx 3 dX12_waits_40 rfl ?_
                          refine j_iload_n hx 2 dX12_waits_41 rfl ?_
                          refine j_isub hx (r := x2 - x1) dX12_waits_42 rfl ?_
                          refine j_iload hx 5 dX12_waits_43 rfl ?_
                          refine j_imul hx (r := ((x2 - x1) * x4)) dX12_waits_45 rfl ?_
                          refine j_isub hx (r := (x1 * x3) - ((x2 - x1) * x4)) dX12_waits_46 (by omega) ?_
                          refine j_imul hx (r := 16 * (x1 * x3) - 16 * ((x2 - x1) * x4)) dX12_waits_47 (by omega) ?_
                          refine j_icmp_ge hx 57 dX12_waits_48 rfl (by omega) (by omega) (fun h184 => ?_) (fun h184 => ?_)
                          · skip
                            refine j_iload hx 0 dX12_waits_57 rfl ?_
                            have f185 := zf hS_s2 ha (k := 0) rfl
                            have f186 := zf hS_s2 ha (k := 3) rfl
                            have f187 := zf hS_s2 ha (k := 4) rfl
                            have f188 := zf hS_s2 ha (k := 5) rfl
                            have f189 := zf hS_s2 ha (k := 7) rfl
                            have f190 := zf hS_s2 ha (k := 21) rfl
                            have f191 := zf hS_s2 ha (k := 22) rfl
                            have f192 := zf hS_s2 ha (k := 23) rfl
                            have f193 := zf hS_s2 ha (k := 24) rfl
                            have f194 := zf hS_s2 ha (k := 38) rfl
                            have f195 := zf hS_s2 ha (k := 51) rfl
                            have f196 := zf hS_s2 ha (k := 52) rfl
                            exact j_iret hx hq rfl (by decide) (by decide) dX12_waits_59 ⟨11, rfl, rfl, hS_s2, (zFr_t (zFr_u zFr_rf e_s1 ha (by decide)) hF_s2 (by decide)), ⟨(by omega), by omega, by omega, by omega, by omega, by omega, by omega, by omega, by omega, by omega, by omega, by omega, by omega⟩⟩
                          · skip
                            refine j_iinc hx 0 [(5, .int (zI 12)), (0, .ref a), (1, .int (zI x1)), (2, .int (zI x2)), (3, .int (zI x3)), (4, .int (zI x4))] dX12_waits_51 rfl (by omega) (by decide) rfl ?_
                            refine j_goto hx 22 dX12_waits_54 rfl ?_
                            refine j_iload hx 0 dX12_waits_22 rfl ?_
                            refine j_bipush hx dX12_waits_24 rfl ?_
                            refine j_icmp_ge hx 57 dX12_waits_26 rfl ⟨by decide, by decide⟩ ⟨by decide, by decide⟩ (fun h197 => absurd h197 (by omega)) (fun h197 => ?_)
                            refine j_iload hx 0 dX12_waits_29 rfl ?_
                            refine j_iload_n hx 2 dX12_waits_31 rfl ?_
                            refine j_imul hx (r := 12 * x1) dX12_waits_32 rfl ?_
                            refine j_iload_n hx 4 dX12_waits_33 rfl ?_
                            refine j_imul hx (r := 12 * (x1 * x3)) dX12_waits_34 (by rw [Int.mul_assoc]) ?_
                            refine j_bipush hx dX12_waits_35 rfl ?_
                            refine j_iload_n hx 2 dX12_waits_37 rfl ?_
                            refine j_iload_n hx 4 dX12_waits_38 rfl ?_
                            refine j_imul hx (r := (x1 * x3)) dX12_waits_39 rfl ?_
                            refine j_iload_n hx 3 dX12_waits_40 rfl ?_
                            refine j_iload_n hx 2 dX12_waits_41 rfl ?_
                            refine j_isub hx (r := x2 - x1) dX12_waits_42 rfl ?_
                            refine j_iload hx 5 dX12_waits_43 rfl ?_
                            refine j_imul hx (r := ((x2 - x1) * x4)) dX12_waits_45 rfl ?_
                            refine j_isub hx (r := (x1 * x3) - ((x2 - x1) * x4)) dX12_waits_46 (by omega) ?_
                            refine j_imul hx (r := 16 * (x1 * x3) - 16 * ((x2 - x1) * x4)) dX12_waits_47 (by omega) ?_
                            refine j_icmp_ge hx 57 dX12_waits_48 rfl (by omega) (by omega) (fun h198 => ?_) (fun h198 => ?_)
                            · skip
                              refine j_iload hx 0 dX12_waits_57 rfl ?_
                              have f199 := zf hS_s2 ha (k := 0) rfl
                              have f200 := zf hS_s2 ha (k := 3) rfl
                              have f201 := zf hS_s2 ha (k := 4) rfl
                              have f202 := zf hS_s2 ha (k := 5) rfl
                              have f203 := zf hS_s2 ha (k := 7) rfl
                              have f204 := zf hS_s2 ha (k := 21) rfl
                              have f205 := zf hS_s2 ha (k := 22) rfl
                              have f206 := zf hS_s2 ha (k := 23) rfl
                              have f207 := zf hS_s2 ha (k := 24) rfl
                              have f208 := zf hS_s2 ha (k := 38) rfl
                              have f209 := zf hS_s2 ha (k := 51) rfl
                              have f210 := zf hS_s2 ha (k := 52) rfl
                              exact j_iret hx hq rfl (by decide) (by decide) dX12_waits_59 ⟨12, rfl, rfl, hS_s2, (zFr_t (zFr_u zFr_rf e_s1 ha (by decide)) hF_s2 (by decide)), ⟨(by omega), by omega, by omega, by omega, by omega, by omega, by omega, by omega, by omega, by omega, by omega, by omega, by omega⟩⟩
                            · skip
                              refine j_iinc hx 0 [(5, .int (zI 13)), (0, .ref a), (1, .int (zI x1)), (2, .int (zI x2)), (3, .int (zI x3)), (4, .int (zI x4))] dX12_waits_51 rfl (by omega) (by decide) rfl ?_
                              refine j_goto hx 22 dX12_waits_54 rfl ?_
                              refine j_iload hx 0 dX12_waits_22 rfl ?_
                              refine j_bipush hx dX12_waits_24 rfl ?_
                              refine j_icmp_ge hx 57 dX12_waits_26 rfl ⟨by decide, by decide⟩ ⟨by decide, by decide⟩ (fun h211 => absurd h211 (by omega)) (fun h211 => ?_)
                              refine j_iload hx 0 dX12_waits_29 rfl ?_
                              refine j_iload_n hx 2 dX12_waits_31 rfl ?_
                              refine j_imul hx (r := 13 * x1) dX12_waits_32 rfl ?_
                              refine j_iload_n hx 4 dX12_waits_33 rfl ?_
                              refine j_imul hx (r := 13 * (x1 * x3)) dX12_waits_34 (by rw [Int.mul_assoc]) ?_
                              refine j_bipush hx dX12_waits_35 rfl ?_
                              refine j_iload_n hx 2 dX12_waits_37 rfl ?_
                              refine j_iload_n hx 4 dX12_waits_38 rfl ?_
                              refine j_imul hx (r := (x1 * x3)) dX12_waits_39 rfl ?_
                              refine j_iload_n hx 3 dX12_waits_40 rfl ?_
                              refine j_iload_n hx 2 dX12_waits_41 rfl ?_
                              refine j_isub hx (r := x2 - x1) dX12_waits_42 rfl ?_
                              refine j_iload hx 5 dX12_waits_43 rfl ?_
                              refine j_imul hx (r := ((x2 - x1) * x4)) dX12_waits_45 rfl ?_
                              refine j_isub hx (r := (x1 * x3) - ((x2 - x1) * x4)) dX12_waits_46 (by omega) ?_
                              refine j_imul hx (r := 16 * (x1 * x3) - 16 * ((x2 - x1) * x4)) dX12_waits_47 (by omega) ?_
                              refine j_icmp_ge hx 57 dX12_waits_48 rfl (by omega) (by omega) (fun h212 => ?_) (fun h212 => ?_)
                              · skip
                                refine j_iload hx 0 dX12_waits_57 rfl ?_
                                have f213 := zf hS_s2 ha (k := 0) rfl
                                have f214 := zf hS_s2 ha (k := 3) rfl
                                have f215 := zf hS_s2 ha (k := 4) rfl
                                have f216 := zf hS_s2 ha (k := 5) rfl
                                have f217 := zf hS_s2 ha (k := 7) rfl
                                have f218 := zf hS_s2 ha (k := 21) rfl
                                have f219 := zf hS_s2 ha (k := 22) rfl
                                have f220 := zf hS_s2 ha (k := 23) rfl
                                have f221 := zf hS_s2 ha (k := 24) rfl
                                have f222 := zf hS_s2 ha (k := 38) rfl
                                have f223 := zf hS_s2 ha (k := 51) rfl
                                have f224 := zf hS_s2 ha (k := 52) rfl
                                exact j_iret hx hq rfl (by decide) (by decide) dX12_waits_59 ⟨13, rfl, rfl, hS_s2, (zFr_t (zFr_u zFr_rf e_s1 ha (by decide)) hF_s2 (by decide)), ⟨(by omega), by omega, by omega, by omega, by omega, by omega, by omega, by omega, by omega, by omega, by omega, by omega, by omega⟩⟩
                              · skip
                                refine j_iinc hx 0 [(5, .int (zI 14)), (0, .ref a), (1, .int (zI x1)), (2, .int (zI x2)), (3, .int (zI x3)), (4, .int (zI x4))] dX12_waits_51 rfl (by omega) (by decide) rfl ?_
                                refine j_goto hx 22 dX12_waits_54 rfl ?_
                                refine j_iload hx 0 dX12_waits_22 rfl ?_
                                refine j_bipush hx dX12_waits_24 rfl ?_
                                refine j_icmp_ge hx 57 dX12_waits_26 rfl ⟨by decide, by decide⟩ ⟨by decide, by decide⟩ (fun h225 => absurd h225 (by omega)) (fun h225 => ?_)
                                refine j_iload hx 0 dX12_waits_29 rfl ?_
                                refine j_iload_n hx 2 dX12_waits_31 rfl ?_
                                refine j_imul hx (r := 14 * x1) dX12_waits_32 rfl ?_
                                refine j_iload_n hx 4 dX12_waits_33 rfl ?_
                                refine j_imul hx (r := 14 * (x1 * x3)) dX12_waits_34 (by rw [Int.mul_assoc]) ?_
                                refine j_bipush hx dX12_waits_35 rfl ?_
                                refine j_iload_n hx 2 dX12_waits_37 rfl ?_
                                refine j_iload_n hx 4 dX12_waits_38 rfl ?_
                                refine j_imul hx (r := (x1 * x3)) dX12_waits_39 rfl ?_
                                refine j_iload_n hx 3 dX12_waits_40 rfl ?_
                                refine j_iload_n hx 2 dX12_waits_41 rfl ?_
                                refine j_isub hx (r := x2 - x1) dX12_waits_42 rfl ?_
                                refine j_iload hx 5 dX12_waits_43 rfl ?_
                                refine j_imul hx (r := ((x2 - x1) * x4)) dX12_waits_45 rfl ?_
                                refine j_isub hx (r := (x1 * x3) - ((x2 - x1) * x4)) dX12_waits_46 (by omega) ?_
                                refine j_imul hx (r := 16 * (x1 * x3) - 16 * ((x2 - x1) * x4)) dX12_waits_47 (by omega) ?_
                                refine j_icmp_ge hx 57 dX12_waits_48 rfl (by omega) (by omega) (fun h226 => ?_) (fun h226 => ?_)
                                · skip
                                  refine j_iload hx 0 dX12_waits_57 rfl ?_
                                  have f227 := zf hS_s2 ha (k := 0) rfl
                                  have f228 := zf hS_s2 ha (k := 3) rfl
                                  have f229 := zf hS_s2 ha (k := 4) rfl
                                  have f230 := zf hS_s2 ha (k := 5) rfl
                                  have f231 := zf hS_s2 ha (k := 7) rfl
                                  have f232 := zf hS_s2 ha (k := 21) rfl
                                  have f233 := zf hS_s2 ha (k := 22) rfl
                                  have f234 := zf hS_s2 ha (k := 23) rfl
                                  have f235 := zf hS_s2 ha (k := 24) rfl
                                  have f236 := zf hS_s2 ha (k := 38) rfl
                                  have f237 := zf hS_s2 ha (k := 51) rfl
                                  have f238 := zf hS_s2 ha (k := 52) rfl
                                  exact j_iret hx hq rfl (by decide) (by decide) dX12_waits_59 ⟨14, rfl, rfl, hS_s2, (zFr_t (zFr_u zFr_rf e_s1 ha (by decide)) hF_s2 (by decide)), ⟨(by omega), by omega, by omega, by omega, by omega, by omega, by omega, by omega, by omega, by omega, by omega, by omega, by omega⟩⟩
                                · skip
                                  refine j_iinc hx 0 [(5, .int (zI 15)), (0, .ref a), (1, .int (zI x1)), (2, .int (zI x2)), (3, .int (zI x3)), (4, .int (zI x4))] dX12_waits_51 rfl (by omega) (by decide) rfl ?_
                                  refine j_goto hx 22 dX12_waits_54 rfl ?_
                                  refine j_iload hx 0 dX12_waits_22 rfl ?_
                                  refine j_bipush hx dX12_waits_24 rfl ?_
                                  refine j_icmp_ge hx 57 dX12_waits_26 rfl ⟨by decide, by decide⟩ ⟨by decide, by decide⟩ (fun h239 => absurd h239 (by omega)) (fun h239 => ?_)
                                  refine j_iload hx 0 dX12_waits_29 rfl ?_
                                  refine j_iload_n hx 2 dX12_waits_31 rfl ?_
                                  refine j_imul hx (r := 15 * x1) dX12_waits_32 rfl ?_
                                  refine j_iload_n hx 4 dX12_waits_33 rfl ?_
                                  refine j_imul hx (r := 15 * (x1 * x3)) dX12_waits_34 (by rw [Int.mul_assoc]) ?_
                                  refine j_bipush hx dX12_waits_35 rfl ?_
                                  refine j_iload_n hx 2 dX12_waits_37 rfl ?_
                                  refine j_iload_n hx 4 dX12_waits_38 rfl ?_
                                  refine j_imul hx (r := (x1 * x3)) dX12_waits_39 rfl ?_
                                  refine j_iload_n hx 3 dX12_waits_40 rfl ?_
                                  refine j_iload_n hx 2 dX12_waits_41 rfl ?_
                                  refine j_isub hx (r := x2 - x1) dX12_waits_42 rfl ?_
                                  refine j_iload hx 5 dX12_waits_43 rfl ?_
                                  refine j_imul hx (r := ((x2 - x1) * x4)) dX12_waits_45 rfl ?_
                                  refine j_isub hx (r := (x1 * x3) - ((x2 - x1) * x4)) dX12_waits_46 (by omega) ?_
                                  refine j_imul hx (r := 16 * (x1 * x3) - 16 * ((x2 - x1) * x4)) dX12_waits_47 (by omega) ?_
                                  refine j_icmp_ge hx 57 dX12_waits_48 rfl (by omega) (by omega) (fun h240 => ?_) (fun h240 => ?_)
                                  · skip
                                    refine j_iload hx 0 dX12_waits_57 rfl ?_
                                    have f241 := zf hS_s2 ha (k := 0) rfl
                                    have f242 := zf hS_s2 ha (k := 3) rfl
                                    have f243 := zf hS_s2 ha (k := 4) rfl
                                    have f244 := zf hS_s2 ha (k := 5) rfl
                                    have f245 := zf hS_s2 ha (k := 7) rfl
                                    have f246 := zf hS_s2 ha (k := 21) rfl
                                    have f247 := zf hS_s2 ha (k := 22) rfl
                                    have f248 := zf hS_s2 ha (k := 23) rfl
                                    have f249 := zf hS_s2 ha (k := 24) rfl
                                    have f250 := zf hS_s2 ha (k := 38) rfl
                                    have f251 := zf hS_s2 ha (k := 51) rfl
                                    have f252 := zf hS_s2 ha (k := 52) rfl
                                    exact j_iret hx hq rfl (by decide) (by decide) dX12_waits_59 ⟨15, rfl, rfl, hS_s2, (zFr_t (zFr_u zFr_rf e_s1 ha (by decide)) hF_s2 (by decide)), ⟨(by omega), by omega, by omega, by omega, by omega, by omega, by omega, by omega, by omega, by omega, by omega, by omega, by omega⟩⟩
                                  · skip
                                    refine j_iinc hx 0 [(5, .int (zI 16)), (0, .ref a), (1, .int (zI x1)), (2, .int (zI x2)), (3, .int (zI x3)), (4, .int (zI x4))] dX12_waits_51 rfl (by omega) (by decide) rfl ?_
                                    refine j_goto hx 22 dX12_waits_54 rfl ?_
                                    refine j_iload hx 0 dX12_waits_22 rfl ?_
                                    refine j_bipush hx dX12_waits_24 rfl ?_
                                    refine j_icmp_ge hx 57 dX12_waits_26 rfl ⟨by decide, by decide⟩ ⟨by decide, by decide⟩ (fun h253 => absurd h253 (by omega)) (fun h253 => ?_)
                                    refine j_iload hx 0 dX12_waits_29 rfl ?_
                                    refine j_iload_n hx 2 dX12_waits_31 rfl ?_
                                    refine j_imul hx (r := 16 * x1) dX12_waits_32 rfl ?_
                                    refine j_iload_n hx 4 dX12_waits_33 rfl ?_
                                    refine j_imul hx (r := 16 * (x1 * x3)) dX12_waits_34 (by rw [Int.mul_assoc]) ?_
                                    refine j_bipush hx dX12_waits_35 rfl ?_
                                    refine j_iload_n hx 2 dX12_waits_37 rfl ?_
                                    refine j_iload_n hx 4 dX12_waits_38 rfl ?_
                                    refine j_imul hx (r := (x1 * x3)) dX12_waits_39 rfl ?_
                                    refine j_iload_n hx 3 dX12_waits_40 rfl ?_
                                    refine j_iload_n hx 2 dX12_waits_41 rfl ?_
                                    refine j_isub hx (r := x2 - x1) dX12_waits_42 rfl ?_
                                    refine j_iload hx 5 dX12_waits_43 rfl ?_
                                    refine j_imul hx (r := ((x2 - x1) * x4)) dX12_waits_45 rfl ?_
                                    refine j_isub hx (r := (x1 * x3) - ((x2 - x1) * x4)) dX12_waits_46 (by omega) ?_
                                    refine j_imul hx (r := 16 * (x1 * x3) - 16 * ((x2 - x1) * x4)) dX12_waits_47 (by omega) ?_
                                    refine j_icmp_ge hx 57 dX12_waits_48 rfl (by omega) (by omega) (fun h254 => ?_) (fun h254 => ?_)
                                    · skip
                                      refine j_iload hx 0 dX12_waits_57 rfl ?_
                                      have f255 := zf hS_s2 ha (k := 0) rfl
                                      have f256 := zf hS_s2 ha (k := 3) rfl
                                      have f257 := zf hS_s2 ha (k := 4) rfl
                                      have f258 := zf hS_s2 ha (k := 5) rfl
                                      have f259 := zf hS_s2 ha (k := 7) rfl
                                      have f260 := zf hS_s2 ha (k := 21) rfl
                                      have f261 := zf hS_s2 ha (k := 22) rfl
                                      have f262 := zf hS_s2 ha (k := 23) rfl
                                      have f263 := zf hS_s2 ha (k := 24) rfl
                                      have f264 := zf hS_s2 ha (k := 38) rfl
                                      have f265 := zf hS_s2 ha (k := 51) rfl
                                      have f266 := zf hS_s2 ha (k := 52) rfl
                                      exact j_iret hx hq rfl (by decide) (by decide) dX12_waits_59 ⟨16, rfl, rfl, hS_s2, (zFr_t (zFr_u zFr_rf e_s1 ha (by decide)) hF_s2 (by decide)), ⟨(by omega), by omega, by omega, by omega, by omega, by omega, by omega, by omega, by omega, by omega, by omega, by omega, by omega⟩⟩
                                    · skip
                                      refine j_iinc hx 0 [(5, .int (zI 17)), (0, .ref a), (1, .int (zI x1)), (2, .int (zI x2)), (3, .int (zI x3)), (4, .int (zI x4))] dX12_waits_51 rfl (by omega) (by decide) rfl ?_
                                      refine j_goto hx 22 dX12_waits_54 rfl ?_
                                      refine j_iload hx 0 dX12_waits_22 rfl ?_
                                      refine j_bipush hx dX12_waits_24 rfl ?_
                                      refine j_icmp_ge hx 57 dX12_waits_26 rfl ⟨by decide, by decide⟩ ⟨by decide, by decide⟩ (fun h267 => ?_) (fun h267 => absurd h267 (by omega))
                                      refine j_iload hx 0 dX12_waits_57 rfl ?_
                                      have f268 := zf hS_s2 ha (k := 0) rfl
                                      have f269 := zf hS_s2 ha (k := 3) rfl
                                      have f270 := zf hS_s2 ha (k := 4) rfl
                                      have f271 := zf hS_s2 ha (k := 5) rfl
                                      have f272 := zf hS_s2 ha (k := 7) rfl
                                      have f273 := zf hS_s2 ha (k := 21) rfl
                                      have f274 := zf hS_s2 ha (k := 22) rfl
                                      have f275 := zf hS_s2 ha (k := 23) rfl
                                      have f276 := zf hS_s2 ha (k := 24) rfl
                                      have f277 := zf hS_s2 ha (k := 38) rfl
                                      have f278 := zf hS_s2 ha (k := 51) rfl
                                      have f279 := zf hS_s2 ha (k := 52) rfl
                                      exact j_iret hx hq rfl (by decide) (by decide) dX12_waits_59 ⟨17, rfl, rfl, hS_s2, (zFr_t (zFr_u zFr_rf e_s1 ha (by decide)) hF_s2 (by decide)), ⟨(by omega), by omega, by omega, by omega, by omega, by omega, by omega, by omega, by omega, by omega, by omega, by omega, by omega⟩⟩
  · skip
    refine j_iconst hx dX12_waits_17 ?_
    have f280 := zf hS_s2 ha (k := 0) rfl
    have f281 := zf hS_s2 ha (k := 3) rfl
    have f282 := zf hS_s2 ha (k := 4) rfl
    have f283 := zf hS_s2 ha (k := 5) rfl
    have f284 := zf hS_s2 ha (k := 7) rfl
    have f285 := zf hS_s2 ha (k := 21) rfl
    have f286 := zf hS_s2 ha (k := 22) rfl
    have f287 := zf hS_s2 ha (k := 23) rfl
    have f288 := zf hS_s2 ha (k := 24) rfl
    have f289 := zf hS_s2 ha (k := 38) rfl
    have f290 := zf hS_s2 ha (k := 51) rfl
    have f291 := zf hS_s2 ha (k := 52) rfl
    exact j_iret hx hq rfl (by decide) (by decide) dX12_waits_18 ⟨0, rfl, rfl, hS_s2, (zFr_t (zFr_u zFr_rf e_s1 ha (by decide)) hF_s2 (by decide)), ⟨(by omega), by omega, by omega, by omega, by omega, by omega, by omega, by omega, by omega, by omega, by omega, by omega, by omega⟩⟩

set_option maxHeartbeats 1200000 in
set_option maxRecDepth 20000 in
theorem c_X12_ahead_x {E : zE} {l : Launch} (hst : l.stackTraces = false) (a : Nat) (x1 : Int) (x2 : Int) (x3 : Int) (x4 : Int) : Con E l yX12_ahead cX12_ahead 5 (some .int) { frames := 2, cells := 0, slots := 0, locals := 47 } (fun G s vs => vs = [.ref a, .int (zI x1), .int (zI x2), .int (zI x3), .int (zI x4)] ∧ zGK G ∧ zSK G s ∧ (gT G a = 13) ∧ ((-2147483648) ≤ x1 ∧ x1 ≤ 2147483647) ∧ ((-2147483648) ≤ x2 ∧ x2 ≤ 2147483647) ∧ ((-2147483648) ≤ x3 ∧ x3 ≤ 2147483647) ∧ ((-2147483648) ≤ x4 ∧ x4 ≤ 2147483647)) (fun G s _ => pI (fun r G2 s2 => G2 = G ∧ zSK G s2 ∧ zFr [13, 71] G s s2 ∧ ((-9801) ≤ r ∧ r ≤ 9801) ∧ (((1 ≤ x2 ∧ x2 ≤ 99 ∧ 0 ≤ x1 ∧ x1 ≤ x2 ∧ 0 ≤ x3 ∧ x3 ≤ 99 ∧ 0 ≤ x4 ∧ x4 ≤ 99) → s2 a 0 = 0 ∧ r = x1 * x3 - (x2 - x1) * x4) ∧ (¬ (1 ≤ x2 ∧ x2 ≤ 99 ∧ 0 ≤ x1 ∧ x1 ≤ x2 ∧ 0 ≤ x3 ∧ x3 ≤ 99 ∧ 0 ≤ x4 ∧ x4 ≤ 99) → s2 a 0 = 1)) ∧ s2 a 3 = s a 3 ∧ s2 a 4 = s a 4 ∧ s2 a 5 = s a 5 ∧ s2 a 7 = s a 7 ∧ s2 a 21 = s a 21 ∧ s2 a 22 = s a 22 ∧ s2 a 23 = s a 23 ∧ s2 a 24 = s a 24 ∧ s2 a 38 = s a 38 ∧ s2 a 51 = s a 51 ∧ s2 a 52 = s a 52)) := by
  refine Con.mk hst (by decide) (fun G s vs h => by rw [h.1]; exact Nat.le_of_ble_eq_true rfl) ?_
  rintro X G s0 vs ⟨rfl, hG, hS0, ha, hx1, hx2, hx3, hx4⟩ rfl hx hq
  show JJ X E 5 G s0 0 0 [(0, .ref a), (1, .int (zI x1)), (2, .int (zI x2)), (3, .int (zI x3)), (4, .int (zI x4))] 0 []
  refine j_aload_n hx 0 dX12_ahead_0 rfl ?_
  refine j_iconst hx dX12_ahead_1 ?_
  refine p13_0 hx hG ha kf_RX12_3 dX12_ahead_2 ?_
  obtain ⟨s1, e_s1⟩ : ∃ z, z = zU s0 a 0 0 := ⟨_, rfl⟩
  rw [← e_s1]
  have hS_s1 : zSK G s1 := by rw [e_s1]; exact zSK_F hS0 ha rfl rfl rfl (by omega)
  refine j_aload_n hx 0 dX12_ahead_5 rfl ?_
  refine j_iload_n hx 1 dX12_ahead_6 rfl ?_
  refine j_iload_n hx 2 dX12_ahead_7 rfl ?_
  refine j_iload_n hx 3 dX12_ahead_8 rfl ?_
  refine j_iload hx 4 dX12_ahead_9 rfl ?_
  have g1 : s1 a 0 = 0 := (by rw [e_s1, zU_eq])
  have g2 : s1 a 3 = s0 a 3 := (by rw [e_s1, zU_at (Or.inr (by decide))])
  have f3 := zf hS0 ha (k := 3) rfl
  have g4 : s1 a 4 = s0 a 4 := (by rw [e_s1, zU_at (Or.inr (by decide))])
  have f5 := zf hS0 ha (k := 4) rfl
  have g6 : s1 a 5 = s0 a 5 := (by rw [e_s1, zU_at (Or.inr (by decide))])
  have f7 := zf hS0 ha (k := 5) rfl
  have g8 : s1 a 7 = s0 a 7 := (by rw [e_s1, zU_at (Or.inr (by decide))])
  have f9 := zf hS0 ha (k := 7) rfl
  have g10 : s1 a 21 = s0 a 21 := (by rw [e_s1, zU_at (Or.inr (by decide))])
  have f11 := zf hS0 ha (k := 21) rfl
  have g12 : s1 a 22 = s0 a 22 := (by rw [e_s1, zU_at (Or.inr (by decide))])
  have f13 := zf hS0 ha (k := 22) rfl
  have g14 : s1 a 23 = s0 a 23 := (by rw [e_s1, zU_at (Or.inr (by decide))])
  have f15 := zf hS0 ha (k := 23) rfl
  have g16 : s1 a 24 = s0 a 24 := (by rw [e_s1, zU_at (Or.inr (by decide))])
  have f17 := zf hS0 ha (k := 24) rfl
  have g18 : s1 a 38 = s0 a 38 := (by rw [e_s1, zU_at (Or.inr (by decide))])
  have f19 := zf hS0 ha (k := 38) rfl
  have g20 : s1 a 51 = s0 a 51 := (by rw [e_s1, zU_at (Or.inr (by decide))])
  have f21 := zf hS0 ha (k := 51) rfl
  have g22 : s1 a 52 = s0 a 52 := (by rw [e_s1, zU_at (Or.inr (by decide))])
  have f23 := zf hS0 ha (k := 52) rfl
  refine j_callV hx hG (c_X12_isWorth hst a x1 x2 x3 x4) lk_RX12_465 ha (by decide) rfl rfl rfl rfl [.int (zI x1), .int (zI x2), .int (zI x3), .int (zI x4)] ⟨rfl, hG, hS_s1, ha, (by omega), (by omega), (by omega), (by omega), (((by rw [e_s1, zU_eq]) : s1 a 0 = 0).trans (by omega))⟩ rfl rfl ⟨by decide, by decide⟩ ⟨by decide, by decide⟩ (k2 := 0) (n2 := 0) rfl rfl (Nat.le_of_ble_eq_true rfl) dX12_ahead_11 (kIM (fun v24 s2 hS_s2 hF_s2 q25 => ?_))
  refine j_if_ne hx 19 dX12_ahead_14 rfl (by omega) (fun h26 => ?_) (fun h26 => ?_)
  · skip
    refine j_iload_n hx 1 dX12_ahead_19 rfl ?_
    refine j_iload_n hx 3 dX12_ahead_20 rfl ?_
    refine j_imul hx (r := (x1 * x3)) dX12_ahead_21 rfl ?_
    have f27 : 0 ≤ (x1 * x3) ∧ (x1 * x3) ≤ 99 * 99 := zmulnn (by omega) (by omega)
    refine j_iload_n hx 2 dX12_ahead_22 rfl ?_
    refine j_iload_n hx 1 dX12_ahead_23 rfl ?_
    refine j_isub hx (r := x2 - x1) dX12_ahead_24 rfl ?_
    refine j_iload hx 4 dX12_ahead_25 rfl ?_
    refine j_imul hx (r := ((x2 - x1) * x4)) dX12_ahead_27 rfl ?_
    have f28 : 0 ≤ ((x2 - x1) * x4) ∧ ((x2 - x1) * x4) ≤ 99 * 99 := zmulnn (by omega) (by omega)
    refine j_isub hx (r := (x1 * x3) - ((x2 - x1) * x4)) dX12_ahead_28 (by omega) ?_
    have f29 := zf hS_s2 ha (k := 0) rfl
    have f30 := zf hS_s2 ha (k := 3) rfl
    have f31 := zf hS_s2 ha (k := 4) rfl
    have f32 := zf hS_s2 ha (k := 5) rfl
    have f33 := zf hS_s2 ha (k := 7) rfl
    have f34 := zf hS_s2 ha (k := 21) rfl
    have f35 := zf hS_s2 ha (k := 22) rfl
    have f36 := zf hS_s2 ha (k := 23) rfl
    have f37 := zf hS_s2 ha (k := 24) rfl
    have f38 := zf hS_s2 ha (k := 38) rfl
    have f39 := zf hS_s2 ha (k := 51) rfl
    have f40 := zf hS_s2 ha (k := 52) rfl
    exact j_iret hx hq rfl (by decide) (by decide) dX12_ahead_29 ⟨(x1 * x3) - ((x2 - x1) * x4), rfl, rfl, hS_s2, (zFr_t (zFr_u zFr_rf e_s1 ha (by decide)) hF_s2 (by decide)), ⟨(by omega), by omega, by omega, by omega, by omega, by omega, by omega, by omega, by omega, by omega, by omega, by omega, by omega⟩⟩
  · skip
    refine j_iconst hx dX12_ahead_17 ?_
    have f41 := zf hS_s2 ha (k := 0) rfl
    have f42 := zf hS_s2 ha (k := 3) rfl
    have f43 := zf hS_s2 ha (k := 4) rfl
    have f44 := zf hS_s2 ha (k := 5) rfl
    have f45 := zf hS_s2 ha (k := 7) rfl
    have f46 := zf hS_s2 ha (k := 21) rfl
    have f47 := zf hS_s2 ha (k := 22) rfl
    have f48 := zf hS_s2 ha (k := 23) rfl
    have f49 := zf hS_s2 ha (k := 24) rfl
    have f50 := zf hS_s2 ha (k := 38) rfl
    have f51 := zf hS_s2 ha (k := 51) rfl
    have f52 := zf hS_s2 ha (k := 52) rfl
    exact j_iret hx hq rfl (by decide) (by decide) dX12_ahead_18 ⟨0, rfl, rfl, hS_s2, (zFr_t (zFr_u zFr_rf e_s1 ha (by decide)) hF_s2 (by decide)), ⟨(by omega), by omega, by omega, by omega, by omega, by omega, by omega, by omega, by omega, by omega, by omega, by omega, by omega⟩⟩

set_option maxHeartbeats 1200000 in
set_option maxRecDepth 20000 in
theorem c_X12_film_x {E : zE} {l : Launch} (hst : l.stackTraces = false) (a : Nat) (x1 : Int) (x2 : Int) (x3 : Int) (x4 : Int) (x5 : Int) : Con E l yX12_film cX12_film 10 (some .int) { frames := 1, cells := 0, slots := 0, locals := 23 } (fun G s vs => vs = [.ref a, .int (zI x1), .int (zI x2), .int (zI x3), .int (zI x4), .int (zI x5)] ∧ zGK G ∧ zSK G s ∧ (gT G a = 13) ∧ ((-2147483648) ≤ x1 ∧ x1 ≤ 2147483647) ∧ ((-2147483648) ≤ x2 ∧ x2 ≤ 2147483647) ∧ ((-2147483648) ≤ x3 ∧ x3 ≤ 2147483647) ∧ ((-2147483648) ≤ x4 ∧ x4 ≤ 2147483647) ∧ ((-2147483648) ≤ x5 ∧ x5 ≤ 2147483647)) (fun G s _ => pI (fun r G2 s2 => G2 = G ∧ zSK G s2 ∧ zFr [13, 71] G s s2 ∧ (0 ≤ r ∧ r ≤ 10000) ∧ (((0 ≤ x1 ∧ x1 ≤ x2 ∧ x2 ≤ 99 ∧ 0 ≤ x3 ∧ x3 ≤ x4 ∧ x4 ≤ 99 ∧ 0 ≤ x5 ∧ x5 ≤ 2) → s2 a 0 = 0 ∧ (x5 = 0 → r = zFE x1 x3 x4 (x2 + 1 - x1).toNat) ∧ (x5 = 1 → r = zFB x1 x3 x4 (x2 + 1 - x1).toNat) ∧ (x5 = 2 → r = (x2 - x1 + 1) * (x4 - x3 + 1))) ∧ (¬ (0 ≤ x1 ∧ x1 ≤ x2 ∧ x2 ≤ 99 ∧ 0 ≤ x3 ∧ x3 ≤ x4 ∧ x4 ≤ 99 ∧ 0 ≤ x5 ∧ x5 ≤ 2) → s2 a 0 = 1)) ∧ s2 a 3 = s a 3 ∧ s2 a 4 = s a 4 ∧ s2 a 5 = s a 5 ∧ s2 a 7 = s a 7 ∧ s2 a 21 = s a 21 ∧ s2 a 22 = s a 22 ∧ s2 a 23 = s a 23 ∧ s2 a 24 = s a 24 ∧ s2 a 38 = s a 38 ∧ s2 a 51 = s a 51 ∧ s2 a 52 = s a 52)) := by
  refine Con.mk hst (by decide) (fun G s vs h => by rw [h.1]; exact Nat.le_of_ble_eq_true rfl) ?_
  rintro X G s0 vs ⟨rfl, hG, hS0, ha, hx1, hx2, hx3, hx4, hx5⟩ rfl hx hq
  show JJ X E 10 G s0 0 0 [(0, .ref a), (1, .int (zI x1)), (2, .int (zI x2)), (3, .int (zI x3)), (4, .int (zI x4)), (5, .int (zI x5))] 0 []
  refine j_aload_n hx 0 dX12_film_0 rfl ?_
  refine j_iconst hx dX12_film_1 ?_
  refine p13_0 hx hG ha kf_RX12_3 dX12_film_2 ?_
  obtain ⟨s1, e_s1⟩ : ∃ z, z = zU s0 a 0 0 := ⟨_, rfl⟩
  rw [← e_s1]
  have hS_s1 : zSK G s1 := by rw [e_s1]; exact zSK_F hS0 ha rfl rfl rfl (by omega)
  refine j_aload_n hx 0 dX12_film_5 rfl ?_
  refine j_iload_n hx 1 dX12_film_6 rfl ?_
  refine j_iconst hx dX12_film_7 ?_
  refine j_iload_n hx 2 dX12_film_8 rfl ?_
  refine j_callS hx (c_X12_within hst x1 0 x2) lk_RX12_314 [.int (zI x1), .int (zI 0), .int (zI x2)] ⟨rfl, hG, hS_s1, (by omega), (by omega), (by omega)⟩ rfl rfl ⟨by decide, by decide⟩ ⟨by decide, by decide⟩ (k2 := 0) (n2 := 0) rfl rfl (Nat.le_of_ble_eq_true rfl) dX12_film_9 (kIP (fun v1 q2 => ?_))
  refine j_if_eq hx 52 dX12_film_12 rfl (by omega) (fun h3 => ?_) (fun h3 => ?_)
  · skip
    refine j_iconst hx dX12_film_52 ?_
    refine j_iconst hx dX12_film_53 ?_
    refine j_iconst hx dX12_film_54 ?_
    have g4 : s1 a 0 = 0 := (by rw [e_s1, zU_eq])
    have g5 : s1 a 3 = s0 a 3 := (by rw [e_s1, zU_at (Or.inr (by decide))])
    have f6 := zf hS0 ha (k := 3) rfl
    have g7 : s1 a 4 = s0 a 4 := (by rw [e_s1, zU_at (Or.inr (by decide))])
    have f8 := zf hS0 ha (k := 4) rfl
    have g9 : s1 a 5 = s0 a 5 := (by rw [e_s1, zU_at (Or.inr (by decide))])
    have f10 := zf hS0 ha (k := 5) rfl
    have g11 : s1 a 7 = s0 a 7 := (by rw [e_s1, zU_at (Or.inr (by decide))])
    have f12 := zf hS0 ha (k := 7) rfl
    have g13 : s1 a 21 = s0 a 21 := (by rw [e_s1, zU_at (Or.inr (by decide))])
    have f14 := zf hS0 ha (k := 21) rfl
    have g15 : s1 a 22 = s0 a 22 := (by rw [e_s1, zU_at (Or.inr (by decide))])
    have f16 := zf hS0 ha (k := 22) rfl
    have g17 : s1 a 23 = s0 a 23 := (by rw [e_s1, zU_at (Or.inr (by decide))])
    have f18 := zf hS0 ha (k := 23) rfl
    have g19 : s1 a 24 = s0 a 24 := (by rw [e_s1, zU_at (Or.inr (by decide))])
    have f20 := zf hS0 ha (k := 24) rfl
    have g21 : s1 a 38 = s0 a 38 := (by rw [e_s1, zU_at (Or.inr (by decide))])
    have f22 := zf hS0 ha (k := 38) rfl
    have g23 : s1 a 51 = s0 a 51 := (by rw [e_s1, zU_at (Or.inr (by decide))])
    have f24 := zf hS0 ha (k := 51) rfl
    have g25 : s1 a 52 = s0 a 52 := (by rw [e_s1, zU_at (Or.inr (by decide))])
    have f26 := zf hS0 ha (k := 52) rfl
    refine j_callV hx hG (c_X12_may_f hst a 0 1 1) lk_RX12_240 ha (by decide) rfl rfl rfl rfl [.int (zI 0), .int (zI 1), .int (zI 1)] ⟨rfl, hG, hS_s1, ha, (by omega), (by omega), (by omega), (((by rw [e_s1, zU_eq]) : s1 a 0 = 0).trans (by omega))⟩ rfl rfl ⟨by decide, by decide⟩ ⟨by decide, by decide⟩ (k2 := 0) (n2 := 0) rfl rfl (Nat.le_of_ble_eq_true rfl) dX12_film_55 (kIM (fun v27 s2 hS_s2 hF_s2 q28 => ?_))
    refine j_if_ne hx 63 dX12_film_58 rfl (by omega) (fun h29 => absurd h29 (by omega)) (fun h29 => ?_)
    refine j_iconst hx dX12_film_61 ?_
    have f30 := zf hS_s2 ha (k := 3) rfl
    have f31 := zf hS_s2 ha (k := 4) rfl
    have f32 := zf hS_s2 ha (k := 5) rfl
    have f33 := zf hS_s2 ha (k := 7) rfl
    have f34 := zf hS_s2 ha (k := 21) rfl
    have f35 := zf hS_s2 ha (k := 22) rfl
    have f36 := zf hS_s2 ha (k := 23) rfl
    have f37 := zf hS_s2 ha (k := 24) rfl
    have f38 := zf hS_s2 ha (k := 38) rfl
    have f39 := zf hS_s2 ha (k := 51) rfl
    have f40 := zf hS_s2 ha (k := 52) rfl
    exact j_iret hx hq rfl (by decide) (by decide) dX12_film_62 ⟨0, rfl, rfl, hS_s2, (zFr_t (zFr_u zFr_rf e_s1 ha (by decide)) hF_s2 (by decide)), ⟨(by omega), by omega, by omega, by omega, by omega, by omega, by omega, by omega, by omega, by omega, by omega, by omega, by omega⟩⟩
  · skip
    refine j_iload_n hx 2 dX12_film_15 rfl ?_
    refine j_bipush hx dX12_film_16 rfl ?_
    refine j_icmp_gt hx 52 dX12_film_18 rfl (by omega) ⟨by decide, by decide⟩ (fun h41 => ?_) (fun h41 => ?_)
    · skip
      refine j_iconst hx dX12_film_52 ?_
      refine j_iconst hx dX12_film_53 ?_
      refine j_iconst hx dX12_film_54 ?_
      have g42 : s1 a 0 = 0 := (by rw [e_s1, zU_eq])
      have g43 : s1 a 3 = s0 a 3 := (by rw [e_s1, zU_at (Or.inr (by decide))])
      have f44 := zf hS0 ha (k := 3) rfl
      have g45 : s1 a 4 = s0 a 4 := (by rw [e_s1, zU_at (Or.inr (by decide))])
      have f46 := zf hS0 ha (k := 4) rfl
      have g47 : s1 a 5 = s0 a 5 := (by rw [e_s1, zU_at (Or.inr (by decide))])
      have f48 := zf hS0 ha (k := 5) rfl
      have g49 : s1 a 7 = s0 a 7 := (by rw [e_s1, zU_at (Or.inr (by decide))])
      have f50 := zf hS0 ha (k := 7) rfl
      have g51 : s1 a 21 = s0 a 21 := (by rw [e_s1, zU_at (Or.inr (by decide))])
      have f52 := zf hS0 ha (k := 21) rfl
      have g53 : s1 a 22 = s0 a 22 := (by rw [e_s1, zU_at (Or.inr (by decide))])
      have f54 := zf hS0 ha (k := 22) rfl
      have g55 : s1 a 23 = s0 a 23 := (by rw [e_s1, zU_at (Or.inr (by decide))])
      have f56 := zf hS0 ha (k := 23) rfl
      have g57 : s1 a 24 = s0 a 24 := (by rw [e_s1, zU_at (Or.inr (by decide))])
      have f58 := zf hS0 ha (k := 24) rfl
      have g59 : s1 a 38 = s0 a 38 := (by rw [e_s1, zU_at (Or.inr (by decide))])
      have f60 := zf hS0 ha (k := 38) rfl
      have g61 : s1 a 51 = s0 a 51 := (by rw [e_s1, zU_at (Or.inr (by decide))])
      have f62 := zf hS0 ha (k := 51) rfl
      have g63 : s1 a 52 = s0 a 52 := (by rw [e_s1, zU_at (Or.inr (by decide))])
      have f64 := zf hS0 ha (k := 52) rfl
      refine j_callV hx hG (c_X12_may_f hst a 0 1 1) lk_RX12_240 ha (by decide) rfl rfl rfl rfl [.int (zI 0), .int (zI 1), .int (zI 1)] ⟨rfl, hG, hS_s1, ha, (by omega), (by omega), (by omega), (((by rw [e_s1, zU_eq]) : s1 a 0 = 0).trans (by omega))⟩ rfl rfl ⟨by decide, by decide⟩ ⟨by decide, by decide⟩ (k2 := 0) (n2 := 0) rfl rfl (Nat.le_of_ble_eq_true rfl) dX12_film_55 (kIM (fun v65 s3 hS_s3 hF_s3 q66 => ?_))
      refine j_if_ne hx 63 dX12_film_58 rfl (by omega) (fun h67 => absurd h67 (by omega)) (fun h67 => ?_)
      refine j_iconst hx dX12_film_61 ?_
      have f68 := zf hS_s3 ha (k := 3) rfl
      have f69 := zf hS_s3 ha (k := 4) rfl
      have f70 := zf hS_s3 ha (k := 5) rfl
      have f71 := zf hS_s3 ha (k := 7) rfl
      have f72 := zf hS_s3 ha (k := 21) rfl
      have f73 := zf hS_s3 ha (k := 22) rfl
      have f74 := zf hS_s3 ha (k := 23) rfl
      have f75 := zf hS_s3 ha (k := 24) rfl
      have f76 := zf hS_s3 ha (k := 38) rfl
      have f77 := zf hS_s3 ha (k := 51) rfl
      have f78 := zf hS_s3 ha (k := 52) rfl
      exact j_iret hx hq rfl (by decide) (by decide) dX12_film_62 ⟨0, rfl, rfl, hS_s3, (zFr_t (zFr_u zFr_rf e_s1 ha (by decide)) hF_s3 (by decide)), ⟨(by omega), by omega, by omega, by omega, by omega, by omega, by omega, by omega, by omega, by omega, by omega, by omega, by omega⟩⟩
    · skip
      refine j_iload_n hx 3 dX12_film_21 rfl ?_
      refine j_iconst hx dX12_film_22 ?_
      refine j_iload hx 4 dX12_film_23 rfl ?_
      refine j_callS hx (c_X12_within hst x3 0 x4) lk_RX12_314 [.int (zI x3), .int (zI 0), .int (zI x4)] ⟨rfl, hG, hS_s1, (by omega), (by omega), (by omega)⟩ rfl rfl ⟨by decide, by decide⟩ ⟨by decide, by decide⟩ (k2 := 0) (n2 := 0) rfl rfl (Nat.le_of_ble_eq_true rfl) dX12_film_25 (kIP (fun v79 q80 => ?_))
      refine j_if_eq hx 52 dX12_film_28 rfl (by omega) (fun h81 => ?_) (fun h81 => ?_)
      · skip
        refine j_iconst hx dX12_film_52 ?_
        refine j_iconst hx dX12_film_53 ?_
        refine j_iconst hx dX12_film_54 ?_
        have g82 : s1 a 0 = 0 := (by rw [e_s1, zU_eq])
        have g83 : s1 a 3 = s0 a 3 := (by rw [e_s1, zU_at (Or.inr (by decide))])
        have f84 := zf hS0 ha (k := 3) rfl
        have g85 : s1 a 4 = s0 a 4 := (by rw [e_s1, zU_at (Or.inr (by decide))])
        have f86 := zf hS0 ha (k := 4) rfl
        have g87 : s1 a 5 = s0 a 5 := (by rw [e_s1, zU_at (Or.inr (by decide))])
        have f88 := zf hS0 ha (k := 5) rfl
        have g89 : s1 a 7 = s0 a 7 := (by rw [e_s1, zU_at (Or.inr (by decide))])
        have f90 := zf hS0 ha (k := 7) rfl
        have g91 : s1 a 21 = s0 a 21 := (by rw [e_s1, zU_at (Or.inr (by decide))])
        have f92 := zf hS0 ha (k := 21) rfl
        have g93 : s1 a 22 = s0 a 22 := (by rw [e_s1, zU_at (Or.inr (by decide))])
        have f94 := zf hS0 ha (k := 22) rfl
        have g95 : s1 a 23 = s0 a 23 := (by rw [e_s1, zU_at (Or.inr (by decide))])
        have f96 := zf hS0 ha (k := 23) rfl
        have g97 : s1 a 24 = s0 a 24 := (by rw [e_s1, zU_at (Or.inr (by decide))])
        have f98 := zf hS0 ha (k := 24) rfl
        have g99 : s1 a 38 = s0 a 38 := (by rw [e_s1, zU_at (Or.inr (by decide))])
        have f100 := zf hS0 ha (k := 38) rfl
        have g101 : s1 a 51 = s0 a 51 := (by rw [e_s1, zU_at (Or.inr (by decide))])
        have f102 := zf hS0 ha (k := 51) rfl
        have g103 : s1 a 52 = s0 a 52 := (by rw [e_s1, zU_at (Or.inr (by decide))])
        have f104 := zf hS0 ha (k := 52) rfl
        refine j_callV hx hG (c_X12_may_f hst a 0 1 1) lk_RX12_240 ha (by decide) rfl rfl rfl rfl [.int (zI 0), .int (zI 1), .int (zI 1)] ⟨rfl, hG, hS_s1, ha, (by omega), (by omega), (by omega), (((by rw [e_s1, zU_eq]) : s1 a 0 = 0).trans (by omega))⟩ rfl rfl ⟨by decide, by decide⟩ ⟨by decide, by decide⟩ (k2 := 0) (n2 := 0) rfl rfl (Nat.le_of_ble_eq_true rfl) dX12_film_55 (kIM (fun v105 s4 hS_s4 hF_s4 q106 => ?_))
        refine j_if_ne hx 63 dX12_film_58 rfl (by omega) (fun h107 => absurd h107 (by omega)) (fun h107 => ?_)
        refine j_iconst hx dX12_film_61 ?_
        have f108 := zf hS_s4 ha (k := 3) rfl
        have f109 := zf hS_s4 ha (k := 4) rfl
        have f110 := zf hS_s4 ha (k := 5) rfl
        have f111 := zf hS_s4 ha (k := 7) rfl
        have f112 := zf hS_s4 ha (k := 21) rfl
        have f113 := zf hS_s4 ha (k := 22) rfl
        have f114 := zf hS_s4 ha (k := 23) rfl
        have f115 := zf hS_s4 ha (k := 24) rfl
        have f116 := zf hS_s4 ha (k := 38) rfl
        have f117 := zf hS_s4 ha (k := 51) rfl
        have f118 := zf hS_s4 ha (k := 52) rfl
        exact j_iret hx hq rfl (by decide) (by decide) dX12_film_62 ⟨0, rfl, rfl, hS_s4, (zFr_t (zFr_u zFr_rf e_s1 ha (by decide)) hF_s4 (by decide)), ⟨(by omega), by omega, by omega, by omega, by omega, by omega, by omega, by omega, by omega, by omega, by omega, by omega, by omega⟩⟩
      · skip
        refine j_iload hx 4 dX12_film_31 rfl ?_
        refine j_bipush hx dX12_film_33 rfl ?_
        refine j_icmp_gt hx 52 dX12_film_35 rfl (by omega) ⟨by decide, by decide⟩ (fun h119 => ?_) (fun h119 => ?_)
        · skip
          refine j_iconst hx dX12_film_52 ?_
          refine j_iconst hx dX12_film_53 ?_
          refine j_iconst hx dX12_film_54 ?_
          have g120 : s1 a 0 = 0 := (by rw [e_s1, zU_eq])
          have g121 : s1 a 3 = s0 a 3 := (by rw [e_s1, zU_at (Or.inr (by decide))])
          have f122 := zf hS0 ha (k := 3) rfl
          have g123 : s1 a 4 = s0 a 4 := (by rw [e_s1, zU_at (Or.inr (by decide))])
          have f124 := zf hS0 ha (k := 4) rfl
          have g125 : s1 a 5 = s0 a 5 := (by rw [e_s1, zU_at (Or.inr (by decide))])
          have f126 := zf hS0 ha (k := 5) rfl
          have g127 : s1 a 7 = s0 a 7 := (by rw [e_s1, zU_at (Or.inr (by decide))])
          have f128 := zf hS0 ha (k := 7) rfl
          have g129 : s1 a 21 = s0 a 21 := (by rw [e_s1, zU_at (Or.inr (by decide))])
          have f130 := zf hS0 ha (k := 21) rfl
          have g131 : s1 a 22 = s0 a 22 := (by rw [e_s1, zU_at (Or.inr (by decide))])
          have f132 := zf hS0 ha (k := 22) rfl
          have g133 : s1 a 23 = s0 a 23 := (by rw [e_s1, zU_at (Or.inr (by decide))])
          have f134 := zf hS0 ha (k := 23) rfl
          have g135 : s1 a 24 = s0 a 24 := (by rw [e_s1, zU_at (Or.inr (by decide))])
          have f136 := zf hS0 ha (k := 24) rfl
          have g137 : s1 a 38 = s0 a 38 := (by rw [e_s1, zU_at (Or.inr (by decide))])
          have f138 := zf hS0 ha (k := 38) rfl
          have g139 : s1 a 51 = s0 a 51 := (by rw [e_s1, zU_at (Or.inr (by decide))])
          have f140 := zf hS0 ha (k := 51) rfl
          have g141 : s1 a 52 = s0 a 52 := (by rw [e_s1, zU_at (Or.inr (by decide))])
          have f142 := zf hS0 ha (k := 52) rfl
          refine j_callV hx hG (c_X12_may_f hst a 0 1 1) lk_RX12_240 ha (by decide) rfl rfl rfl rfl [.int (zI 0), .int (zI 1), .int (zI 1)] ⟨rfl, hG, hS_s1, ha, (by omega), (by omega), (by omega), (((by rw [e_s1, zU_eq]) : s1 a 0 = 0).trans (by omega))⟩ rfl rfl ⟨by decide, by decide⟩ ⟨by decide, by decide⟩ (k2 := 0) (n2 := 0) rfl rfl (Nat.le_of_ble_eq_true rfl) dX12_film_55 (kIM (fun v143 s5 hS_s5 hF_s5 q144 => ?_))
          refine j_if_ne hx 63 dX12_film_58 rfl (by omega) (fun h145 => absurd h145 (by omega)) (fun h145 => ?_)
          refine j_iconst hx dX12_film_61 ?_
          have f146 := zf hS_s5 ha (k := 3) rfl
          have f147 := zf hS_s5 ha (k := 4) rfl
          have f148 := zf hS_s5 ha (k := 5) rfl
          have f149 := zf hS_s5 ha (k := 7) rfl
          have f150 := zf hS_s5 ha (k := 21) rfl
          have f151 := zf hS_s5 ha (k := 22) rfl
          have f152 := zf hS_s5 ha (k := 23) rfl
          have f153 := zf hS_s5 ha (k := 24) rfl
          have f154 := zf hS_s5 ha (k := 38) rfl
          have f155 := zf hS_s5 ha (k := 51) rfl
          have f156 := zf hS_s5 ha (k := 52) rfl
          exact j_iret hx hq rfl (by decide) (by decide) dX12_film_62 ⟨0, rfl, rfl, hS_s5, (zFr_t (zFr_u zFr_rf e_s1 ha (by decide)) hF_s5 (by decide)), ⟨(by omega), by omega, by omega, by omega, by omega, by omega, by omega, by omega, by omega, by omega, by omega, by omega, by omega⟩⟩
        · skip
          refine j_iload hx 5 dX12_film_38 rfl ?_
          refine j_iconst hx dX12_film_40 ?_
          refine j_iconst hx dX12_film_41 ?_
          refine j_callS hx (c_X12_within hst x5 0 2) lk_RX12_314 [.int (zI x5), .int (zI 0), .int (zI 2)] ⟨rfl, hG, hS_s1, (by omega), (by omega), (by omega)⟩ rfl rfl ⟨by decide, by decide⟩ ⟨by decide, by decide⟩ (k2 := 0) (n2 := 0) rfl rfl (Nat.le_of_ble_eq_true rfl) dX12_film_42 (kIP (fun v157 q158 => ?_))
          refine j_if_eq hx 52 dX12_film_45 rfl (by omega) (fun h159 => ?_) (fun h159 => ?_)
          · skip
            refine j_iconst hx dX12_film_52 ?_
            refine j_iconst hx dX12_film_53 ?_
            refine j_iconst hx dX12_film_54 ?_
            have g160 : s1 a 0 = 0 := (by rw [e_s1, zU_eq])
            have g161 : s1 a 3 = s0 a 3 := (by rw [e_s1, zU_at (Or.inr (by decide))])
            have f162 := zf hS0 ha (k := 3) rfl
            have g163 : s1 a 4 = s0 a 4 := (by rw [e_s1, zU_at (Or.inr (by decide))])
            have f164 := zf hS0 ha (k := 4) rfl
            have g165 : s1 a 5 = s0 a 5 := (by rw [e_s1, zU_at (Or.inr (by decide))])
            have f166 := zf hS0 ha (k := 5) rfl
            have g167 : s1 a 7 = s0 a 7 := (by rw [e_s1, zU_at (Or.inr (by decide))])
            have f168 := zf hS0 ha (k := 7) rfl
            have g169 : s1 a 21 = s0 a 21 := (by rw [e_s1, zU_at (Or.inr (by decide))])
            have f170 := zf hS0 ha (k := 21) rfl
            have g171 : s1 a 22 = s0 a 22 := (by rw [e_s1, zU_at (Or.inr (by decide))])
            have f172 := zf hS0 ha (k := 22) rfl
            have g173 : s1 a 23 = s0 a 23 := (by rw [e_s1, zU_at (Or.inr (by decide))])
            have f174 := zf hS0 ha (k := 23) rfl
            have g175 : s1 a 24 = s0 a 24 := (by rw [e_s1, zU_at (Or.inr (by decide))])
            have f176 := zf hS0 ha (k := 24) rfl
            have g177 : s1 a 38 = s0 a 38 := (by rw [e_s1, zU_at (Or.inr (by decide))])
            have f178 := zf hS0 ha (k := 38) rfl
            have g179 : s1 a 51 = s0 a 51 := (by rw [e_s1, zU_at (Or.inr (by decide))])
            have f180 := zf hS0 ha (k := 51) rfl
            have g181 : s1 a 52 = s0 a 52 := (by rw [e_s1, zU_at (Or.inr (by decide))])
            have f182 := zf hS0 ha (k := 52) rfl
            refine j_callV hx hG (c_X12_may_f hst a 0 1 1) lk_RX12_240 ha (by decide) rfl rfl rfl rfl [.int (zI 0), .int (zI 1), .int (zI 1)] ⟨rfl, hG, hS_s1, ha, (by omega), (by omega), (by omega), (((by rw [e_s1, zU_eq]) : s1 a 0 = 0).trans (by omega))⟩ rfl rfl ⟨by decide, by decide⟩ ⟨by decide, by decide⟩ (k2 := 0) (n2 := 0) rfl rfl (Nat.le_of_ble_eq_true rfl) dX12_film_55 (kIM (fun v183 s6 hS_s6 hF_s6 q184 => ?_))
            refine j_if_ne hx 63 dX12_film_58 rfl (by omega) (fun h185 => absurd h185 (by omega)) (fun h185 => ?_)
            refine j_iconst hx dX12_film_61 ?_
            have f186 := zf hS_s6 ha (k := 3) rfl
            have f187 := zf hS_s6 ha (k := 4) rfl
            have f188 := zf hS_s6 ha (k := 5) rfl
            have f189 := zf hS_s6 ha (k := 7) rfl
            have f190 := zf hS_s6 ha (k := 21) rfl
            have f191 := zf hS_s6 ha (k := 22) rfl
            have f192 := zf hS_s6 ha (k := 23) rfl
            have f193 := zf hS_s6 ha (k := 24) rfl
            have f194 := zf hS_s6 ha (k := 38) rfl
            have f195 := zf hS_s6 ha (k := 51) rfl
            have f196 := zf hS_s6 ha (k := 52) rfl
            exact j_iret hx hq rfl (by decide) (by decide) dX12_film_62 ⟨0, rfl, rfl, hS_s6, (zFr_t (zFr_u zFr_rf e_s1 ha (by decide)) hF_s6 (by decide)), ⟨(by omega), by omega, by omega, by omega, by omega, by omega, by omega, by omega, by omega, by omega, by omega, by omega, by omega⟩⟩
          · skip
            refine j_iconst hx dX12_film_48 ?_
            refine j_goto hx 53 dX12_film_49 rfl ?_
            refine j_iconst hx dX12_film_53 ?_
            refine j_iconst hx dX12_film_54 ?_
            have g197 : s1 a 0 = 0 := (by rw [e_s1, zU_eq])
            refine j_callV hx hG (c_X12_may_t hst a 1 1 1) lk_RX12_240 ha (by decide) rfl rfl rfl rfl [.int (zI 1), .int (zI 1), .int (zI 1)] ⟨rfl, hG, hS_s1, ha, (by omega), (by omega), (by omega), (((by rw [e_s1, zU_eq]) : s1 a 0 = 0).trans (by omega))⟩ rfl rfl ⟨by decide, by decide⟩ ⟨by decide, by decide⟩ (k2 := 0) (n2 := 0) rfl rfl (Nat.le_of_ble_eq_true rfl) dX12_film_55 (kIP (fun v198 q199 => ?_))
            refine j_if_ne hx 63 dX12_film_58 rfl (by omega) (fun h200 => ?_) (fun h200 => absurd h200 (by omega))
            refine j_iconst hx dX12_film_63 ?_
            refine j_istore hx [(6, .int (zI 0)), (0, .ref a), (1, .int (zI x1)), (2, .int (zI x2)), (3, .int (zI x3)), (4, .int (zI x4)), (5, .int (zI x5))] dX12_film_64 (by decide) rfl ?_
            refine j_iconst hx dX12_film_66 ?_
            refine j_istore hx [(7, .int (zI 0)), (6, .int (zI 0)), (0, .ref a), (1, .int (zI x1)), (2, .int (zI x2)), (3, .int (zI x3)), (4, .int (zI x4)), (5, .int (zI x5))] dX12_film_67 (by decide) rfl ?_
            have z201 : zFE x1 x3 x4 (x1 - x1).toNat = 0 := by rw [show (x1 - x1).toNat = 0 by omega]; rfl
            have z202 : zFB x1 x3 x4 (x1 - x1).toNat = 0 := by rw [show (x1 - x1).toNat = 0 by omega]; rfl
            refine j_iload_n hx 3 dX12_film_69 rfl ?_
            refine j_istore hx [(8, .int (zI x1)), (7, .int (zI 0)), (6, .int (zI 0)), (0, .ref a), (1, .int (zI x1)), (2, .int (zI x2)), (3, .int (zI x3)), (4, .int (zI x4)), (5, .int (zI x5))] dX12_film_70 (by decide) rfl ?_
            have c72_7 : ∀ (m_c72_7 : Nat) (v203 : Int) (v204 : Int) (v205 : Int), 2147483648 - v205 < m_c72_7 → (0 ≤ v203 ∧ v203 ≤ 10000) → (0 ≤ v204 ∧ v204 ≤ 100) → (0 ≤ v205 ∧ v205 ≤ 100) → (v205 ≤ x2 + 1 ∧ x1 ≤ v205) → (v203 = zFE x1 x3 x4 (v205 - x1).toNat) → (v204 = zFB x1 x3 x4 (v205 - x1).toNat) → JJ X E 10 G s1 0 0 [(1, .int (zI x1)), (2, .int (zI x2)), (3, .int (zI x3)), (4, .int (zI x4)), (5, .int (zI x5)), (6, .int (zI v203)), (7, .int (zI v204)), (8, .int (zI v205))] 72 [] := by
              intro m_c72_7
              induction m_c72_7 with
              | zero => intro v203 v204 v205 hm_c72_7 fA8 fA9 fA10 fA11 fA12 fA13; exfalso; omega
              | succ m_c72_7 ih_c72_7 => 
                intro v203 v204 v205 hm_c72_7 fA8 fA9 fA10 fA11 fA12 fA13
                have z206 := zFE_b x1 x3 x4 (by omega) (by omega) (v205 - x1).toNat
                have z207 := zFB_b x1 x3 x4 (v205 - x1).toNat
                refine j_iload hx 7 dX12_film_72 rfl ?_
                refine j_iload_n hx 1 dX12_film_74 rfl ?_
                refine j_icmp_gt hx 134 dX12_film_75 rfl (by omega) (by omega) (fun h208 => ?_) (fun h208 => ?_)
                · skip
                  have z209 : zFE x1 x3 x4 (v205 - x1).toNat = zFE x1 x3 x4 (x2 + 1 - x1).toNat := by rw [show v205 = x2 + 1 by omega]
                  have z210 : zFB x1 x3 x4 (v205 - x1).toNat = zFB x1 x3 x4 (x2 + 1 - x1).toNat := by rw [show v205 = x2 + 1 by omega]
                  refine j_iload hx 4 dX12_film_134 rfl ?_
                  refine j_if_ne hx 144 dX12_film_136 rfl (by omega) (fun h211 => ?_) (fun h211 => ?_)
                  · skip
                    refine j_iload hx 4 dX12_film_144 rfl ?_
                    refine j_iconst hx dX12_film_146 ?_
                    refine j_icmp_ne hx 155 dX12_film_147 rfl (by omega) ⟨by decide, by decide⟩ (fun h212 => ?_) (fun h212 => ?_)
                    · skip
                      refine j_iload_n hx 1 dX12_film_155 rfl ?_
                      refine j_iload_n hx 0 dX12_film_156 rfl ?_
                      refine j_isub hx (r := x2 - x1) dX12_film_157 rfl ?_
                      refine j_iconst hx dX12_film_158 ?_
                      refine j_iadd hx (r := x2 - x1 + 1) dX12_film_159 (by omega) ?_
                      refine j_iload hx 3 dX12_film_160 rfl ?_
                      refine j_iload_n hx 2 dX12_film_162 rfl ?_
                      refine j_isub hx (r := x4 - x3) dX12_film_163 rfl ?_
                      refine j_iconst hx dX12_film_164 ?_
                      refine j_iadd hx (r := x4 - x3 + 1) dX12_film_165 (by omega) ?_
                      refine j_imul hx (r := ((x2 - x1 + 1) * (x4 - x3 + 1))) dX12_film_166 rfl ?_
                      have f213 : 0 ≤ ((x2 - x1 + 1) * (x4 - x3 + 1)) ∧ ((x2 - x1 + 1) * (x4 - x3 + 1)) ≤ 100 * 100 := zmulnn (by omega) (by omega)
                      have g214 : s1 a 3 = s0 a 3 := (by rw [e_s1, zU_at (Or.inr (by decide))])
                      have f215 := zf hS0 ha (k := 3) rfl
                      have g216 : s1 a 4 = s0 a 4 := (by rw [e_s1, zU_at (Or.inr (by decide))])
                      have f217 := zf hS0 ha (k := 4) rfl
                      have g218 : s1 a 5 = s0 a 5 := (by rw [e_s1, zU_at (Or.inr (by decide))])
                      have f219 := zf hS0 ha (k := 5) rfl
                      have g220 : s1 a 7 = s0 a 7 := (by rw [e_s1, zU_at (Or.inr (by decide))])
                      have f221 := zf hS0 ha (k := 7) rfl
                      have g222 : s1 a 21 = s0 a 21 := (by rw [e_s1, zU_at (Or.inr (by decide))])
                      have f223 := zf hS0 ha (k := 21) rfl
                      have g224 : s1 a 22 = s0 a 22 := (by rw [e_s1, zU_at (Or.inr (by decide))])
                      have f225 := zf hS0 ha (k := 22) rfl
                      have g226 : s1 a 23 = s0 a 23 := (by rw [e_s1, zU_at (Or.inr (by decide))])
                      have f227 := zf hS0 ha (k := 23) rfl
                      have g228 : s1 a 24 = s0 a 24 := (by rw [e_s1, zU_at (Or.inr (by decide))])
                      have f229 := zf hS0 ha (k := 24) rfl
                      have g230 : s1 a 38 = s0 a 38 := (by rw [e_s1, zU_at (Or.inr (by decide))])
                      have f231 := zf hS0 ha (k := 38) rfl
                      have g232 : s1 a 51 = s0 a 51 := (by rw [e_s1, zU_at (Or.inr (by decide))])
                      have f233 := zf hS0 ha (k := 51) rfl
                      have g234 : s1 a 52 = s0 a 52 := (by rw [e_s1, zU_at (Or.inr (by decide))])
                      have f235 := zf hS0 ha (k := 52) rfl
                      exact j_iret hx hq rfl (by decide) (by decide) dX12_film_167 ⟨((x2 - x1 + 1) * (x4 - x3 + 1)), rfl, rfl, hS_s1, (zFr_u zFr_rf e_s1 ha (by decide)), ⟨(by omega), by omega, by omega, by omega, by omega, by omega, by omega, by omega, by omega, by omega, by omega, by omega, by omega⟩⟩
                    · skip
                      refine j_iload hx 6 dX12_film_150 rfl ?_
                      refine j_goto hx 167 dX12_film_152 rfl ?_
                      have g236 : s1 a 3 = s0 a 3 := (by rw [e_s1, zU_at (Or.inr (by decide))])
                      have f237 := zf hS0 ha (k := 3) rfl
                      have g238 : s1 a 4 = s0 a 4 := (by rw [e_s1, zU_at (Or.inr (by decide))])
                      have f239 := zf hS0 ha (k := 4) rfl
                      have g240 : s1 a 5 = s0 a 5 := (by rw [e_s1, zU_at (Or.inr (by decide))])
                      have f241 := zf hS0 ha (k := 5) rfl
                      have g242 : s1 a 7 = s0 a 7 := (by rw [e_s1, zU_at (Or.inr (by decide))])
                      have f243 := zf hS0 ha (k := 7) rfl
                      have g244 : s1 a 21 = s0 a 21 := (by rw [e_s1, zU_at (Or.inr (by decide))])
                      have f245 := zf hS0 ha (k := 21) rfl
                      have g246 : s1 a 22 = s0 a 22 := (by rw [e_s1, zU_at (Or.inr (by decide))])
                      have f247 := zf hS0 ha (k := 22) rfl
                      have g248 : s1 a 23 = s0 a 23 := (by rw [e_s1, zU_at (Or.inr (by decide))])
                      have f249 := zf hS0 ha (k := 23) rfl
                      have g250 : s1 a 24 = s0 a 24 := (by rw [e_s1, zU_at (Or.inr (by decide))])
                      have f251 := zf hS0 ha (k := 24) rfl
                      have g252 : s1 a 38 = s0 a 38 := (by rw [e_s1, zU_at (Or.inr (by decide))])
                      have f253 := zf hS0 ha (k := 38) rfl
                      have g254 : s1 a 51 = s0 a 51 := (by rw [e_s1, zU_at (Or.inr (by decide))])
                      have f255 := zf hS0 ha (k := 51) rfl
                      have g256 : s1 a 52 = s0 a 52 := (by rw [e_s1, zU_at (Or.inr (by decide))])
                      have f257 := zf hS0 ha (k := 52) rfl
                      exact j_iret hx hq rfl (by decide) (by decide) dX12_film_167 ⟨v204, rfl, rfl, hS_s1, (zFr_u zFr_rf e_s1 ha (by decide)), ⟨(by omega), by omega, by omega, by omega, by omega, by omega, by omega, by omega, by omega, by omega, by omega, by omega, by omega⟩⟩
                  · skip
                    refine j_iload hx 5 dX12_film_139 rfl ?_
                    refine j_goto hx 167 dX12_film_141 rfl ?_
                    have g258 : s1 a 3 = s0 a 3 := (by rw [e_s1, zU_at (Or.inr (by decide))])
                    have f259 := zf hS0 ha (k := 3) rfl
                    have g260 : s1 a 4 = s0 a 4 := (by rw [e_s1, zU_at (Or.inr (by decide))])
                    have f261 := zf hS0 ha (k := 4) rfl
                    have g262 : s1 a 5 = s0 a 5 := (by rw [e_s1, zU_at (Or.inr (by decide))])
                    have f263 := zf hS0 ha (k := 5) rfl
                    have g264 : s1 a 7 = s0 a 7 := (by rw [e_s1, zU_at (Or.inr (by decide))])
                    have f265 := zf hS0 ha (k := 7) rfl
                    have g266 : s1 a 21 = s0 a 21 := (by rw [e_s1, zU_at (Or.inr (by decide))])
                    have f267 := zf hS0 ha (k := 21) rfl
                    have g268 : s1 a 22 = s0 a 22 := (by rw [e_s1, zU_at (Or.inr (by decide))])
                    have f269 := zf hS0 ha (k := 22) rfl
                    have g270 : s1 a 23 = s0 a 23 := (by rw [e_s1, zU_at (Or.inr (by decide))])
                    have f271 := zf hS0 ha (k := 23) rfl
                    have g272 : s1 a 24 = s0 a 24 := (by rw [e_s1, zU_at (Or.inr (by decide))])
                    have f273 := zf hS0 ha (k := 24) rfl
                    have g274 : s1 a 38 = s0 a 38 := (by rw [e_s1, zU_at (Or.inr (by decide))])
                    have f275 := zf hS0 ha (k := 38) rfl
                    have g276 : s1 a 51 = s0 a 51 := (by rw [e_s1, zU_at (Or.inr (by decide))])
                    have f277 := zf hS0 ha (k := 51) rfl
                    have g278 : s1 a 52 = s0 a 52 := (by rw [e_s1, zU_at (Or.inr (by decide))])
                    have f279 := zf hS0 ha (k := 52) rfl
                    exact j_iret hx hq rfl (by decide) (by decide) dX12_film_167 ⟨v203, rfl, rfl, hS_s1, (zFr_u zFr_rf e_s1 ha (by decide)), ⟨(by omega), by omega, by omega, by omega, by omega, by omega, by omega, by omega, by omega, by omega, by omega, by omega, by omega⟩⟩
                · skip
                  refine j_iload_n hx 2 dX12_film_78 rfl ?_
                  refine j_istore hx [(9, .int (zI x3)), (1, .int (zI x1)), (2, .int (zI x2)), (3, .int (zI x3)), (4, .int (zI x4)), (5, .int (zI x5)), (6, .int (zI v203)), (7, .int (zI v204)), (8, .int (zI v205))] dX12_film_79 (by decide) rfl ?_
                  have c81_14 : ∀ (m_c81_14 : Nat) (v280 : Int) (v281 : Int) (v282 : Int), 2147483648 - v282 < m_c81_14 → (0 ≤ v280 ∧ v280 ≤ 10000) → (0 ≤ v281 ∧ v281 ≤ 100) → (0 ≤ v282 ∧ v282 ≤ 100) → (v205 ≤ x2 + 1 ∧ x1 ≤ v205) → (v280 = zFE x1 x3 x4 (v205 - x1).toNat + max 0 (v282 - max x3 (v205 + 1))) → (v281 = zFB x1 x3 x4 (v205 - x1).toNat + max 0 (min 1 (min (v282 - v205) (v205 - x3 + 1)))) → (v282 ≤ x4 + 1 ∧ x3 ≤ v282 ∧ v205 ≤ x2) → JJ X E 10 G s1 0 0 [(1, .int (zI x1)), (2, .int (zI x2)), (3, .int (zI x3)), (4, .int (zI x4)), (5, .int (zI x5)), (6, .int (zI v280)), (7, .int (zI v281)), (8, .int (zI v205)), (9, .int (zI v282))] 81 [] := by
                    intro m_c81_14
                    induction m_c81_14 with
                    | zero => intro v280 v281 v282 hm_c81_14 fA15 fA16 fA17 fA18 fA19 fA20 fA21; exfalso; omega
                    | succ m_c81_14 ih_c81_14 => 
                      intro v280 v281 v282 hm_c81_14 fA15 fA16 fA17 fA18 fA19 fA20 fA21
                      have z283 := zFE_b x1 x3 x4 (by omega) (by omega) (v205 - x1).toNat
                      have z284 := zFB_b x1 x3 x4 (v205 - x1).toNat
                      refine j_iload hx 8 dX12_film_81 rfl ?_
                      refine j_iload hx 3 dX12_film_83 rfl ?_
                      refine j_icmp_gt hx 128 dX12_film_85 rfl (by omega) (by omega) (fun h285 => ?_) (fun h285 => ?_)
                      · skip
                        have z286 := zFE_s x1 x3 x4 v205 (by omega)
                        have z287 := zFB_s x1 x3 x4 v205 (by omega)
                        have z288 := zFE_b x1 x3 x4 (by omega) (by omega) (v205 + 1 - x1).toNat
                        have z289 := zFB_b x1 x3 x4 (v205 + 1 - x1).toNat
                        refine j_iinc hx 7 [(8, .int (zI (v205 + 1))), (1, .int (zI x1)), (2, .int (zI x2)), (3, .int (zI x3)), (4, .int (zI x4)), (5, .int (zI x5)), (6, .int (zI v280)), (7, .int (zI v281)), (9, .int (zI v282))] dX12_film_128 rfl (by omega) (by decide) rfl ?_
                        refine j_goto hx 72 dX12_film_131 rfl ?_
                        exact j_sub [1, 2, 3, 4, 5, 6, 7, 0] [(1, .int (zI x1)), (2, .int (zI x2)), (3, .int (zI x3)), (4, .int (zI x4)), (5, .int (zI x5)), (6, .int (zI v280)), (7, .int (zI v281)), (8, .int (zI (v205 + 1)))] rfl (ih_c72_7 v280 v281 (v205 + 1) (by omega) (by omega) (by omega) (by omega) (by omega) (by omega) (by omega))
                      · skip
                        refine j_iload hx 5 dX12_film_88 rfl ?_
                        refine j_iload hx 7 dX12_film_90 rfl ?_
                        refine j_iload hx 8 dX12_film_92 rfl ?_
                        refine j_icmp_ge hx 101 dX12_film_94 rfl (by omega) (by omega) (fun h290 => ?_) (fun h290 => ?_)
                        · skip
                          refine j_iconst hx dX12_film_101 ?_
                          refine j_iadd hx (r := v280) dX12_film_102 (by omega) ?_
                          refine j_istore hx [(6, .int (zI v280)), (1, .int (zI x1)), (2, .int (zI x2)), (3, .int (zI x3)), (4, .int (zI x4)), (5, .int (zI x5)), (7, .int (zI v281)), (8, .int (zI v205)), (9, .int (zI v282))] dX12_film_103 (by decide) rfl ?_
                          refine j_iload hx 6 dX12_film_105 rfl ?_
                          refine j_iload hx 7 dX12_film_107 rfl ?_
                          refine j_iload hx 8 dX12_film_109 rfl ?_
                          refine j_icmp_ne hx 118 dX12_film_111 rfl (by omega) (by omega) (fun h291 => ?_) (fun h291 => ?_)
                          · skip
                            refine j_iconst hx dX12_film_118 ?_
                            refine j_iadd hx (r := v281) dX12_film_119 (by omega) ?_
                            refine j_istore hx [(7, .int (zI v281)), (6, .int (zI v280)), (1, .int (zI x1)), (2, .int (zI x2)), (3, .int (zI x3)), (4, .int (zI x4)), (5, .int (zI x5)), (8, .int (zI v205)), (9, .int (zI v282))] dX12_film_120 (by decide) rfl ?_
                            refine j_iinc hx 8 [(9, .int (zI (v282 + 1))), (7, .int (zI v281)), (6, .int (zI v280)), (1, .int (zI x1)), (2, .int (zI x2)), (3, .int (zI x3)), (4, .int (zI x4)), (5, .int (zI x5)), (8, .int (zI v205))] dX12_film_122 rfl (by omega) (by decide) rfl ?_
                            refine j_goto hx 81 dX12_film_125 rfl ?_
                            exact j_sub [3, 4, 5, 6, 7, 2, 1, 8, 0] [(1, .int (zI x1)), (2, .int (zI x2)), (3, .int (zI x3)), (4, .int (zI x4)), (5, .int (zI x5)), (6, .int (zI v280)), (7, .int (zI v281)), (8, .int (zI v205)), (9, .int (zI (v282 + 1)))] rfl (ih_c81_14 v280 v281 (v282 + 1) (by omega) (by omega) (by omega) (by omega) (by omega) (by omega) (by omega) (by omega))
                          · skip
                            refine j_iconst hx dX12_film_114 ?_
                            refine j_goto hx 119 dX12_film_115 rfl ?_
                            refine j_iadd hx (r := v281 + 1) dX12_film_119 rfl ?_
                            refine j_istore hx [(7, .int (zI (v281 + 1))), (6, .int (zI v280)), (1, .int (zI x1)), (2, .int (zI x2)), (3, .int (zI x3)), (4, .int (zI x4)), (5, .int (zI x5)), (8, .int (zI v205)), (9, .int (zI v282))] dX12_film_120 (by decide) rfl ?_
                            refine j_iinc hx 8 [(9, .int (zI (v282 + 1))), (7, .int (zI (v281 + 1))), (6, .int (zI v280)), (1, .int (zI x1)), (2, .int (zI x2)), (3, .int (zI x3)), (4, .int (zI x4)), (5, .int (zI x5)), (8, .int (zI v205))] dX12_film_122 rfl (by omega) (by decide) rfl ?_
                            refine j_goto hx 81 dX12_film_125 rfl ?_
                            exact j_sub [3, 4, 5, 6, 7, 2, 1, 8, 0] [(1, .int (zI x1)), (2, .int (zI x2)), (3, .int (zI x3)), (4, .int (zI x4)), (5, .int (zI x5)), (6, .int (zI v280)), (7, .int (zI (v281 + 1))), (8, .int (zI v205)), (9, .int (zI (v282 + 1)))] rfl (ih_c81_14 v280 (v281 + 1) (v282 + 1) (by omega) (by omega) (by omega) (by omega) (by omega) (by omega) (by omega) (by omega))
                        · skip
                          refine j_iconst hx dX12_film_97 ?_
                          refine j_goto hx 102 dX12_film_98 rfl ?_
                          refine j_iadd hx (r := v280 + 1) dX12_film_102 rfl ?_
                          refine j_istore hx [(6, .int (zI (v280 + 1))), (1, .int (zI x1)), (2, .int (zI x2)), (3, .int (zI x3)), (4, .int (zI x4)), (5, .int (zI x5)), (7, .int (zI v281)), (8, .int (zI v205)), (9, .int (zI v282))] dX12_film_103 (by decide) rfl ?_
                          refine j_iload hx 6 dX12_film_105 rfl ?_
                          refine j_iload hx 7 dX12_film_107 rfl ?_
                          refine j_iload hx 8 dX12_film_109 rfl ?_
                          refine j_icmp_ne hx 118 dX12_film_111 rfl (by omega) (by omega) (fun h292 => ?_) (fun h292 => ?_)
                          · skip
                            refine j_iconst hx dX12_film_118 ?_
                            refine j_iadd hx (r := v281) dX12_film_119 (by omega) ?_
                            refine j_istore hx [(7, .int (zI v281)), (6, .int (zI (v280 + 1))), (1, .int (zI x1)), (2, .int (zI x2)), (3, .int (zI x3)), (4, .int (zI x4)), (5, .int (zI x5)), (8, .int (zI v205)), (9, .int (zI v282))] dX12_film_120 (by decide) rfl ?_
                            refine j_iinc hx 8 [(9, .int (zI (v282 + 1))), (7, .int (zI v281)), (6, .int (zI (v280 + 1))), (1, .int (zI x1)), (2, .int (zI x2)), (3, .int (zI x3)), (4, .int (zI x4)), (5, .int (zI x5)), (8, .int (zI v205))] dX12_film_122 rfl (by omega) (by decide) rfl ?_
                            refine j_goto hx 81 dX12_film_125 rfl ?_
                            exact j_sub [3, 4, 5, 6, 7, 2, 1, 8, 0] [(1, .int (zI x1)), (2, .int (zI x2)), (3, .int (zI x3)), (4, .int (zI x4)), (5, .int (zI x5)), (6, .int (zI (v280 + 1))), (7, .int (zI v281)), (8, .int (zI v205)), (9, .int (zI (v282 + 1)))] rfl (ih_c81_14 (v280 + 1) v281 (v282 + 1) (by omega) (by omega) (by omega) (by omega) (by omega) (by omega) (by omega) (by omega))
                          · skip
                            refine j_iconst hx dX12_film_114 ?_
                            refine j_goto hx 119 dX12_film_115 rfl ?_
                            refine j_iadd hx (r := v281 + 1) dX12_film_119 rfl ?_
                            refine j_istore hx [(7, .int (zI (v281 + 1))), (6, .int (zI (v280 + 1))), (1, .int (zI x1)), (2, .int (zI x2)), (3, .int (zI x3)), (4, .int (zI x4)), (5, .int (zI x5)), (8, .int (zI v205)), (9, .int (zI v282))] dX12_film_120 (by decide) rfl ?_
                            refine j_iinc hx 8 [(9, .int (zI (v282 + 1))), (7, .int (zI (v281 + 1))), (6, .int (zI (v280 + 1))), (1, .int (zI x1)), (2, .int (zI x2)), (3, .int (zI x3)), (4, .int (zI x4)), (5, .int (zI x5)), (8, .int (zI v205))] dX12_film_122 rfl (by omega) (by decide) rfl ?_
                            refine j_goto hx 81 dX12_film_125 rfl ?_
                            exact j_sub [3, 4, 5, 6, 7, 2, 1, 8, 0] [(1, .int (zI x1)), (2, .int (zI x2)), (3, .int (zI x3)), (4, .int (zI x4)), (5, .int (zI x5)), (6, .int (zI (v280 + 1))), (7, .int (zI (v281 + 1))), (8, .int (zI v205)), (9, .int (zI (v282 + 1)))] rfl (ih_c81_14 (v280 + 1) (v281 + 1) (v282 + 1) (by omega) (by omega) (by omega) (by omega) (by omega) (by omega) (by omega) (by omega))
                  exact j_sub [1, 2, 3, 4, 5, 6, 7, 8, 0] [(1, .int (zI x1)), (2, .int (zI x2)), (3, .int (zI x3)), (4, .int (zI x4)), (5, .int (zI x5)), (6, .int (zI v203)), (7, .int (zI v204)), (8, .int (zI v205)), (9, .int (zI x3))] rfl (c81_14 (2147483648 * 4) v203 v204 x3 (by omega) (by omega) (by omega) (by omega) (by omega) (by omega) (by omega) (by omega))
            exact j_sub [4, 5, 6, 7, 8, 2, 1, 0] [(1, .int (zI x1)), (2, .int (zI x2)), (3, .int (zI x3)), (4, .int (zI x4)), (5, .int (zI x5)), (6, .int (zI 0)), (7, .int (zI 0)), (8, .int (zI x1))] rfl (c72_7 (2147483648 * 4) 0 0 x1 (by omega) (by omega) (by omega) (by omega) (by omega) (by omega) (by omega))

theorem lk_RL_7 : LkV RL 7 RX11 yX11_table cX11_table 2 (some .int) 1 := ⟨km_RL_7, ki_yX11_table, ks_RX11_yX11_table, kn_RX11, kc_yX11_table, rfl, by decide +kernel, by decide +kernel, by decide +kernel⟩
set_option maxHeartbeats 4000000 in
set_option maxRecDepth 20000 in
theorem c_L_table {E : zE} {l : Launch} (hst : l.stackTraces = false) (a : Nat) (x1 : Int) (o : Nat) : ConH E l yL_table cL_table 4 (some .int) [(0, 9, 12, 13)] { frames := 10, cells := 1, slots := 6, locals := 293 } (fun G s vs => vs = [.ref a, .int (zI x1), .ref o] ∧ zGK G ∧ zSK G s ∧ (gT G a = 12) ∧ (-2147483648 ≤ x1 ∧ x1 ≤ 2147483647) ∧ (gT G o = 120)) (fun G s _ => pI (fun r G2 s2 => G2 = G ∧ zSK G2 s2 ∧ zFr [1, 2, 4, 5, 7, 9, 10, 12, 41, 42, 43, 44, 49, 50, 120] G s s2 ∧ (0 ≤ r ∧ r ≤ 2) ∧ (True))) := by
  refine ConH.mk hst (by decide) (fun G s vs h => by rw [h.1]; exact Nat.le_of_ble_eq_true rfl) ?_
  rintro X G s0 vs ⟨rfl, hG, hS0, ha, hx1, ho⟩ rfl hx hT hq
  show JJ X E 4 G s0 0 0 [(0, .ref a), (1, .int (zI x1)), (2, .ref o)] 0 []
  refine j_aload_n hx 2 dL_table_0 rfl ?_
  refine j_iconst hx dL_table_1 ?_
  refine j_aload_n hx 0 dL_table_2 rfl ?_
  refine j_iload_n hx 1 dL_table_3 rfl ?_
  refine j_callVH hx hG (c_X11_table hst a x1) lk_RL_7 ha (by decide) rfl rfl rfl rfl [.int (zI x1)] ⟨rfl, hG, hS0, ha, (by omega)⟩ rfl rfl ⟨by decide, by decide⟩ ⟨by decide, by decide⟩ (k2 := 1) (n2 := 6) rfl rfl (Nat.le_of_ble_eq_true rfl) dL_table_4 ?_ ?_
  · rintro Ex9 G9 s9 ⟨rfl, hS9, hF9, h9⟩
    obtain ⟨e9, c9⟩ := h9
    · subst e9
      refine ⟨_, ZH1 hx (x := { startPc := 0, endPc := 9, handlerPc := 12, catchType := 13 }) (hT.trans rfl) rfl (by decide) kl_RL_13 cast_I, fun q9 => ?_⟩
      refine j_astore_n hx [(3, .ref q9), (0, .ref a), (1, .int (zI x1)), (2, .ref o)] dL_table_12 (by decide) rfl ?_
      refine j_iconst hx dL_table_13 ?_
      exact j_iret hx hq rfl (by decide) (by decide) dL_table_14 ⟨1, rfl, rfl, hS9, zFr_t zFr_rf hF9 (by decide), ⟨by decide, by decide⟩, trivial⟩
  · refine kIM (fun r1 s1 hS_s1 hF_s1 q1 => ?_)
    refine j_i2l hx dL_table_7 (by omega) ?_
    refine j_last hx hG ho (by decide) rfl (zlen hG ho (n := 1) rfl rfl) (by omega) (by omega) (j := 0) rfl dL_table_8 ?_
    obtain ⟨s2, e_s2⟩ : ∃ z, z = zU s1 o 0 r1 := ⟨_, rfl⟩
    rw [← e_s2]
    have hS_s2 : zSK G s2 := by rw [e_s2]; exact zSK_A hS_s1 ho rfl rfl rfl (by omega)
    refine j_goto hx 15 dL_table_9 rfl ?_
    refine j_iconst hx dL_table_15 ?_
    exact j_iret hx hq rfl (by decide) (by decide) dL_table_16 ⟨0, rfl, rfl, hS_s2, (zFr_u (zFr_t zFr_rf hF_s1 (by decide)) e_s2 ho (by decide)), ⟨by decide, by decide⟩, trivial⟩

theorem lk_RL_15 : LkV RL 15 RX11 yX11_plan cX11_plan 3 (some .int) 2 := ⟨km_RL_15, ki_yX11_plan, ks_RX11_yX11_plan, kn_RX11, kc_yX11_plan, rfl, by decide +kernel, by decide +kernel, by decide +kernel⟩
set_option maxHeartbeats 4000000 in
set_option maxRecDepth 20000 in
theorem c_L_plan {E : zE} {l : Launch} (hst : l.stackTraces = false) (a : Nat) (x1 : Int) (x2 : Int) (o : Nat) : ConH E l yL_plan cL_plan 5 (some .int) [(0, 10, 13, 19), (0, 10, 17, 13)] { frames := 31, cells := 4, slots := 164, locals := 773 } (fun G s vs => vs = [.ref a, .int (zI x1), .int (zI x2), .ref o] ∧ zGK G ∧ zSK G s ∧ (gT G a = 12) ∧ (-2147483648 ≤ x1 ∧ x1 ≤ 2147483647) ∧ (-2147483648 ≤ x2 ∧ x2 ≤ 2147483647) ∧ (gT G o = 120)) (fun G s _ => pI (fun r G2 s2 => zGK G2 ∧ zSK G2 s2 ∧ zXt [5, 8, 10, 12, 46, 49, 120] G s G2 s2 ∧ (0 ≤ r ∧ r ≤ 2))) := by
  refine ConH.mk hst (by decide) (fun G s vs h => by rw [h.1]; exact Nat.le_of_ble_eq_true rfl) ?_
  rintro X G s0 vs ⟨rfl, hG, hS0, ha, hx1, hx2, ho⟩ rfl hx hT hq
  show JJ X E 5 G s0 0 0 [(0, .ref a), (1, .int (zI x1)), (2, .int (zI x2)), (3, .ref o)] 0 []
  refine j_aload_n hx 3 dL_plan_0 rfl ?_
  refine j_iconst hx dL_plan_1 ?_
  refine j_aload_n hx 0 dL_plan_2 rfl ?_
  refine j_iload_n hx 1 dL_plan_3 rfl ?_
  refine j_iload_n hx 2 dL_plan_4 rfl ?_
  refine j_callVH hx hG (c_X11_plan hst a x1 x2) lk_RL_15 ha (by decide) rfl rfl rfl rfl [.int (zI x1), .int (zI x2)] ⟨rfl, hG, hS0, ha, (by omega), (by omega)⟩ rfl rfl ⟨by decide, by decide⟩ ⟨by decide, by decide⟩ (k2 := 4) (n2 := 164) rfl rfl (Nat.le_of_ble_eq_true rfl) dL_plan_5 ?_ ?_
  · rintro Ex9 G9 s9 ⟨rfl, hS9, hF9, h9⟩
    rcases h9 with ⟨e9, c9⟩ | ⟨e9, c9⟩
    · subst e9
      refine ⟨_, ZH2 hx (x1 := { startPc := 0, endPc := 10, handlerPc := 13, catchType := 19 }) (x := { startPc := 0, endPc := 10, handlerPc := 17, catchType := 13 }) (hT.trans rfl) (by decide) kl_RL_19 hx.2.2.2.2.2.1.2.2.2.2.2.2.2.2.2 rfl (by decide) kl_RL_13 cast_I, fun q9 => ?_⟩
      refine j_astore hx [(4, .ref q9), (0, .ref a), (1, .int (zI x1)), (2, .int (zI x2)), (3, .ref o)] dL_plan_17 (by decide) rfl ?_
      refine j_iconst hx dL_plan_19 ?_
      exact j_iret hx hq rfl (by decide) (by decide) dL_plan_20 ⟨2, rfl, hG, hS9, zXt_fr (zFr_t zFr_rf hF9 (by decide)), ⟨by decide, by decide⟩⟩
    · subst e9
      refine ⟨_, ZH1 hx (x := { startPc := 0, endPc := 10, handlerPc := 13, catchType := 19 }) (hT.trans rfl) rfl (by decide) kl_RL_19 cast_N, fun q9 => ?_⟩
      refine j_astore hx [(4, .ref q9), (0, .ref a), (1, .int (zI x1)), (2, .int (zI x2)), (3, .ref o)] dL_plan_13 (by decide) rfl ?_
      refine j_iconst hx dL_plan_15 ?_
      exact j_iret hx hq rfl (by decide) (by decide) dL_plan_16 ⟨1, rfl, hG, hS9, zXt_fr (zFr_t zFr_rf hF9 (by decide)), ⟨by decide, by decide⟩⟩
  · rintro _ G2 s1 ⟨r1, rfl, hG2, hS_s1, hX2, h1⟩
    have ho2 : gT G2 o = 120 := by rw [(hX2 o (by rw [ho]; decide)).1]; exact ho
    refine j_i2l hx dL_plan_8 (by omega) ?_
    refine j_last hx hG2 ho2 (by decide) rfl (zlen hG2 ho2 (n := 1) rfl rfl) (by omega) (by omega) (j := 0) rfl dL_plan_9 ?_
    obtain ⟨s2, e_s2⟩ : ∃ z, z = zU s1 o 0 r1 := ⟨_, rfl⟩
    rw [← e_s2]
    have hS_s2 : zSK G2 s2 := by rw [e_s2]; exact zSK_A hS_s1 ho2 rfl rfl rfl (by omega)
    refine j_goto hx 21 dL_plan_10 rfl ?_
    refine j_iconst hx dL_plan_21 ?_
    exact j_iret hx hq rfl (by decide) (by decide) dL_plan_22 ⟨0, rfl, hG2, hS_s2, zXt_app (ts2 := [120]) hX2 (zFr_u zFr_rf e_s2 ho2 (by decide)) (by decide) (by decide), ⟨by decide, by decide⟩⟩

theorem lk_RL_21 : LkV RL 21 RX11 yX11_guess cX11_guess 3 (some .int) 2 := ⟨km_RL_21, ki_yX11_guess, ks_RX11_yX11_guess, kn_RX11, kc_yX11_guess, rfl, by decide +kernel, by decide +kernel, by decide +kernel⟩
set_option maxHeartbeats 4000000 in
set_option maxRecDepth 20000 in
theorem c_L_guess {E : zE} {l : Launch} (hst : l.stackTraces = false) (a : Nat) (x1 : Int) (x2 : Int) (o : Nat) : ConH E l yL_guess cL_guess 5 (some .int) [(0, 10, 13, 19), (0, 10, 17, 13)] { frames := 31, cells := 4, slots := 164, locals := 773 } (fun G s vs => vs = [.ref a, .int (zI x1), .int (zI x2), .ref o] ∧ zGK G ∧ zSK G s ∧ (gT G a = 12) ∧ (-2147483648 ≤ x1 ∧ x1 ≤ 2147483647) ∧ (-2147483648 ≤ x2 ∧ x2 ≤ 2147483647) ∧ (gT G o = 120)) (fun G s _ => pI (fun r G2 s2 => zGK G2 ∧ zSK G2 s2 ∧ zXt [5, 8, 10, 12, 46, 49, 120] G s G2 s2 ∧ (0 ≤ r ∧ r ≤ 2))) := by
  refine ConH.mk hst (by decide) (fun G s vs h => by rw [h.1]; exact Nat.le_of_ble_eq_true rfl) ?_
  rintro X G s0 vs ⟨rfl, hG, hS0, ha, hx1, hx2, ho⟩ rfl hx hT hq
  show JJ X E 5 G s0 0 0 [(0, .ref a), (1, .int (zI x1)), (2, .int (zI x2)), (3, .ref o)] 0 []
  refine j_aload_n hx 3 dL_guess_0 rfl ?_
  refine j_iconst hx dL_guess_1 ?_
  refine j_aload_n hx 0 dL_guess_2 rfl ?_
  refine j_iload_n hx 1 dL_guess_3 rfl ?_
  refine j_iload_n hx 2 dL_guess_4 rfl ?_
  refine j_callVH hx hG (c_X11_guess hst a x1 x2) lk_RL_21 ha (by decide) rfl rfl rfl rfl [.int (zI x1), .int (zI x2)] ⟨rfl, hG, hS0, ha, (by omega), (by omega)⟩ rfl rfl ⟨by decide, by decide⟩ ⟨by decide, by decide⟩ (k2 := 4) (n2 := 164) rfl rfl (Nat.le_of_ble_eq_true rfl) dL_guess_5 ?_ ?_
  · rintro Ex9 G9 s9 ⟨rfl, hS9, hF9, h9⟩
    rcases h9 with ⟨e9, c9⟩ | ⟨e9, c9⟩
    · subst e9
      refine ⟨_, ZH2 hx (x1 := { startPc := 0, endPc := 10, handlerPc := 13, catchType := 19 }) (x := { startPc := 0, endPc := 10, handlerPc := 17, catchType := 13 }) (hT.trans rfl) (by decide) kl_RL_19 hx.2.2.2.2.2.1.2.2.2.2.2.2.2.2.2 rfl (by decide) kl_RL_13 cast_I, fun q9 => ?_⟩
      refine j_astore hx [(4, .ref q9), (0, .ref a), (1, .int (zI x1)), (2, .int (zI x2)), (3, .ref o)] dL_guess_17 (by decide) rfl ?_
      refine j_iconst hx dL_guess_19 ?_
      exact j_iret hx hq rfl (by decide) (by decide) dL_guess_20 ⟨2, rfl, hG, hS9, zXt_fr (zFr_t zFr_rf hF9 (by decide)), ⟨by decide, by decide⟩⟩
    · subst e9
      refine ⟨_, ZH1 hx (x := { startPc := 0, endPc := 10, handlerPc := 13, catchType := 19 }) (hT.trans rfl) rfl (by decide) kl_RL_19 cast_N, fun q9 => ?_⟩
      refine j_astore hx [(4, .ref q9), (0, .ref a), (1, .int (zI x1)), (2, .int (zI x2)), (3, .ref o)] dL_guess_13 (by decide) rfl ?_
      refine j_iconst hx dL_guess_15 ?_
      exact j_iret hx hq rfl (by decide) (by decide) dL_guess_16 ⟨1, rfl, hG, hS9, zXt_fr (zFr_t zFr_rf hF9 (by decide)), ⟨by decide, by decide⟩⟩
  · rintro _ G2 s1 ⟨r1, rfl, hG2, hS_s1, hX2, h1⟩
    have ho2 : gT G2 o = 120 := by rw [(hX2 o (by rw [ho]; decide)).1]; exact ho
    refine j_i2l hx dL_guess_8 (by omega) ?_
    refine j_last hx hG2 ho2 (by decide) rfl (zlen hG2 ho2 (n := 1) rfl rfl) (by omega) (by omega) (j := 0) rfl dL_guess_9 ?_
    obtain ⟨s2, e_s2⟩ : ∃ z, z = zU s1 o 0 r1 := ⟨_, rfl⟩
    rw [← e_s2]
    have hS_s2 : zSK G2 s2 := by rw [e_s2]; exact zSK_A hS_s1 ho2 rfl rfl rfl (by omega)
    refine j_goto hx 21 dL_guess_10 rfl ?_
    refine j_iconst hx dL_guess_21 ?_
    exact j_iret hx hq rfl (by decide) (by decide) dL_guess_22 ⟨0, rfl, hG2, hS_s2, zXt_app (ts2 := [120]) hX2 (zFr_u zFr_rf e_s2 ho2 (by decide)) (by decide) (by decide), ⟨by decide, by decide⟩⟩

theorem lk_RL_24 : LkV RL 24 RX11 yX11_book cX11_book 2 (some .int) 1 := ⟨km_RL_24, ki_yX11_book, ks_RX11_yX11_book, kn_RX11, kc_yX11_book, rfl, by decide +kernel, by decide +kernel, by decide +kernel⟩
set_option maxHeartbeats 4000000 in
set_option maxRecDepth 20000 in
theorem c_L_book {E : zE} {l : Launch} (hst : l.stackTraces = false) (a : Nat) (x1 : Int) (o : Nat) : ConH E l yL_book cL_book 4 (some .int) [(0, 9, 12, 13)] { frames := 8, cells := 1, slots := 6, locals := 134 } (fun G s vs => vs = [.ref a, .int (zI x1), .ref o] ∧ zGK G ∧ zSK G s ∧ (gT G a = 12) ∧ (-2147483648 ≤ x1 ∧ x1 ≤ 2147483647) ∧ (gT G o = 120)) (fun G s _ => pI (fun r G2 s2 => G2 = G ∧ zSK G2 s2 ∧ zFr [2, 10, 12, 47, 48, 120] G s s2 ∧ (0 ≤ r ∧ r ≤ 2) ∧ (True))) := by
  refine ConH.mk hst (by decide) (fun G s vs h => by rw [h.1]; exact Nat.le_of_ble_eq_true rfl) ?_
  rintro X G s0 vs ⟨rfl, hG, hS0, ha, hx1, ho⟩ rfl hx hT hq
  show JJ X E 4 G s0 0 0 [(0, .ref a), (1, .int (zI x1)), (2, .ref o)] 0 []
  refine j_aload_n hx 2 dL_book_0 rfl ?_
  refine j_iconst hx dL_book_1 ?_
  refine j_aload_n hx 0 dL_book_2 rfl ?_
  refine j_iload_n hx 1 dL_book_3 rfl ?_
  refine j_callVH hx hG (c_X11_book hst a x1) lk_RL_24 ha (by decide) rfl rfl rfl rfl [.int (zI x1)] ⟨rfl, hG, hS0, ha, (by omega)⟩ rfl rfl ⟨by decide, by decide⟩ ⟨by decide, by decide⟩ (k2 := 1) (n2 := 6) rfl rfl (Nat.le_of_ble_eq_true rfl) dL_book_4 ?_ ?_
  · rintro Ex9 G9 s9 ⟨rfl, hS9, hF9, h9⟩
    obtain ⟨e9, c9⟩ := h9
    · subst e9
      refine ⟨_, ZH1 hx (x := { startPc := 0, endPc := 9, handlerPc := 12, catchType := 13 }) (hT.trans rfl) rfl (by decide) kl_RL_13 cast_I, fun q9 => ?_⟩
      refine j_astore_n hx [(3, .ref q9), (0, .ref a), (1, .int (zI x1)), (2, .ref o)] dL_book_12 (by decide) rfl ?_
      refine j_iconst hx dL_book_13 ?_
      exact j_iret hx hq rfl (by decide) (by decide) dL_book_14 ⟨1, rfl, rfl, hS9, zFr_t zFr_rf hF9 (by decide), ⟨by decide, by decide⟩, trivial⟩
  · refine kIM (fun r1 s1 hS_s1 hF_s1 q1 => ?_)
    refine j_i2l hx dL_book_7 (by omega) ?_
    refine j_last hx hG ho (by decide) rfl (zlen hG ho (n := 1) rfl rfl) (by omega) (by omega) (j := 0) rfl dL_book_8 ?_
    obtain ⟨s2, e_s2⟩ : ∃ z, z = zU s1 o 0 r1 := ⟨_, rfl⟩
    rw [← e_s2]
    have hS_s2 : zSK G s2 := by rw [e_s2]; exact zSK_A hS_s1 ho rfl rfl rfl (by omega)
    refine j_goto hx 15 dL_book_9 rfl ?_
    refine j_iconst hx dL_book_15 ?_
    exact j_iret hx hq rfl (by decide) (by decide) dL_book_16 ⟨0, rfl, rfl, hS_s2, (zFr_u (zFr_t zFr_rf hF_s1 (by decide)) e_s2 ho (by decide)), ⟨by decide, by decide⟩, trivial⟩

theorem lk_RL_27 : LkV RL 27 RX11 yX11_told cX11_told 2 (some .int) 1 := ⟨km_RL_27, ki_yX11_told, ks_RX11_yX11_told, kn_RX11, kc_yX11_told, rfl, by decide +kernel, by decide +kernel, by decide +kernel⟩
set_option maxHeartbeats 4000000 in
set_option maxRecDepth 20000 in
theorem c_L_told {E : zE} {l : Launch} (hst : l.stackTraces = false) (a : Nat) (x1 : Int) (o : Nat) : ConH E l yL_told cL_told 4 (some .int) [(0, 9, 12, 13)] { frames := 8, cells := 1, slots := 6, locals := 134 } (fun G s vs => vs = [.ref a, .int (zI x1), .ref o] ∧ zGK G ∧ zSK G s ∧ (gT G a = 12) ∧ (-2147483648 ≤ x1 ∧ x1 ≤ 2147483647) ∧ (gT G o = 120)) (fun G s _ => pI (fun r G2 s2 => G2 = G ∧ zSK G2 s2 ∧ zFr [12, 120] G s s2 ∧ (0 ≤ r ∧ r ≤ 2) ∧ (True))) := by
  refine ConH.mk hst (by decide) (fun G s vs h => by rw [h.1]; exact Nat.le_of_ble_eq_true rfl) ?_
  rintro X G s0 vs ⟨rfl, hG, hS0, ha, hx1, ho⟩ rfl hx hT hq
  show JJ X E 4 G s0 0 0 [(0, .ref a), (1, .int (zI x1)), (2, .ref o)] 0 []
  refine j_aload_n hx 2 dL_told_0 rfl ?_
  refine j_iconst hx dL_told_1 ?_
  refine j_aload_n hx 0 dL_told_2 rfl ?_
  refine j_iload_n hx 1 dL_told_3 rfl ?_
  refine j_callVH hx hG (c_X11_told hst a x1) lk_RL_27 ha (by decide) rfl rfl rfl rfl [.int (zI x1)] ⟨rfl, hG, hS0, ha, (by omega)⟩ rfl rfl ⟨by decide, by decide⟩ ⟨by decide, by decide⟩ (k2 := 1) (n2 := 6) rfl rfl (Nat.le_of_ble_eq_true rfl) dL_told_4 ?_ ?_
  · rintro Ex9 G9 s9 ⟨rfl, hS9, hF9, h9⟩
    obtain ⟨e9, c9⟩ := h9
    · subst e9
      refine ⟨_, ZH1 hx (x := { startPc := 0, endPc := 9, handlerPc := 12, catchType := 13 }) (hT.trans rfl) rfl (by decide) kl_RL_13 cast_I, fun q9 => ?_⟩
      refine j_astore_n hx [(3, .ref q9), (0, .ref a), (1, .int (zI x1)), (2, .ref o)] dL_told_12 (by decide) rfl ?_
      refine j_iconst hx dL_told_13 ?_
      exact j_iret hx hq rfl (by decide) (by decide) dL_told_14 ⟨1, rfl, rfl, hS9, zFr_t zFr_rf hF9 (by decide), ⟨by decide, by decide⟩, trivial⟩
  · refine kIP (fun r1 q1 => ?_)
    refine j_i2l hx dL_told_7 (by omega) ?_
    refine j_last hx hG ho (by decide) rfl (zlen hG ho (n := 1) rfl rfl) (by omega) (by omega) (j := 0) rfl dL_told_8 ?_
    obtain ⟨s2, e_s2⟩ : ∃ z, z = zU s0 o 0 r1 := ⟨_, rfl⟩
    rw [← e_s2]
    have hS_s2 : zSK G s2 := by rw [e_s2]; exact zSK_A hS0 ho rfl rfl rfl (by omega)
    refine j_goto hx 15 dL_told_9 rfl ?_
    refine j_iconst hx dL_told_15 ?_
    exact j_iret hx hq rfl (by decide) (by decide) dL_told_16 ⟨0, rfl, rfl, hS_s2, (zFr_u zFr_rf e_s2 ho (by decide)), ⟨by decide, by decide⟩, trivial⟩

theorem lk_RL_30 : LkV RL 30 RX11 yX11_player cX11_player 3 (some .int) 2 := ⟨km_RL_30, ki_yX11_player, ks_RX11_yX11_player, kn_RX11, kc_yX11_player, rfl, by decide +kernel, by decide +kernel, by decide +kernel⟩
set_option maxHeartbeats 4000000 in
set_option maxRecDepth 20000 in
theorem c_L_player {E : zE} {l : Launch} (hst : l.stackTraces = false) (a : Nat) (x1 : Int) (x2 : Int) (o : Nat) : ConH E l yL_player cL_player 5 (some .int) [(0, 10, 13, 19), (0, 10, 17, 13)] { frames := 8, cells := 2, slots := 12, locals := 135 } (fun G s vs => vs = [.ref a, .int (zI x1), .int (zI x2), .ref o] ∧ zGK G ∧ zSK G s ∧ (gT G a = 12) ∧ (-2147483648 ≤ x1 ∧ x1 ≤ 2147483647) ∧ (-2147483648 ≤ x2 ∧ x2 ≤ 2147483647) ∧ (gT G o = 120)) (fun G s _ => pI (fun r G2 s2 => G2 = G ∧ zSK G2 s2 ∧ zFr [12, 120] G s s2 ∧ (0 ≤ r ∧ r ≤ 2) ∧ (True))) := by
  refine ConH.mk hst (by decide) (fun G s vs h => by rw [h.1]; exact Nat.le_of_ble_eq_true rfl) ?_
  rintro X G s0 vs ⟨rfl, hG, hS0, ha, hx1, hx2, ho⟩ rfl hx hT hq
  show JJ X E 5 G s0 0 0 [(0, .ref a), (1, .int (zI x1)), (2, .int (zI x2)), (3, .ref o)] 0 []
  refine j_aload_n hx 3 dL_player_0 rfl ?_
  refine j_iconst hx dL_player_1 ?_
  refine j_aload_n hx 0 dL_player_2 rfl ?_
  refine j_iload_n hx 1 dL_player_3 rfl ?_
  refine j_iload_n hx 2 dL_player_4 rfl ?_
  refine j_callVH hx hG (c_X11_player hst a x1 x2) lk_RL_30 ha (by decide) rfl rfl rfl rfl [.int (zI x1), .int (zI x2)] ⟨rfl, hG, hS0, ha, (by omega), (by omega)⟩ rfl rfl ⟨by decide, by decide⟩ ⟨by decide, by decide⟩ (k2 := 2) (n2 := 12) rfl rfl (Nat.le_of_ble_eq_true rfl) dL_player_5 ?_ ?_
  · rintro Ex9 G9 s9 ⟨rfl, hS9, hF9, h9⟩
    rcases h9 with ⟨e9, c9⟩ | ⟨e9, c9⟩
    · subst e9
      refine ⟨_, ZH2 hx (x1 := { startPc := 0, endPc := 10, handlerPc := 13, catchType := 19 }) (x := { startPc := 0, endPc := 10, handlerPc := 17, catchType := 13 }) (hT.trans rfl) (by decide) kl_RL_19 hx.2.2.2.2.2.1.2.2.2.2.2.2.2.2.2 rfl (by decide) kl_RL_13 cast_I, fun q9 => ?_⟩
      refine j_astore hx [(4, .ref q9), (0, .ref a), (1, .int (zI x1)), (2, .int (zI x2)), (3, .ref o)] dL_player_17 (by decide) rfl ?_
      refine j_iconst hx dL_player_19 ?_
      exact j_iret hx hq rfl (by decide) (by decide) dL_player_20 ⟨2, rfl, rfl, hS9, zFr_t zFr_rf hF9 (by decide), ⟨by decide, by decide⟩, trivial⟩
    · subst e9
      refine ⟨_, ZH1 hx (x := { startPc := 0, endPc := 10, handlerPc := 13, catchType := 19 }) (hT.trans rfl) rfl (by decide) kl_RL_19 cast_N, fun q9 => ?_⟩
      refine j_astore hx [(4, .ref q9), (0, .ref a), (1, .int (zI x1)), (2, .int (zI x2)), (3, .ref o)] dL_player_13 (by decide) rfl ?_
      refine j_iconst hx dL_player_15 ?_
      exact j_iret hx hq rfl (by decide) (by decide) dL_player_16 ⟨1, rfl, rfl, hS9, zFr_t zFr_rf hF9 (by decide), ⟨by decide, by decide⟩, trivial⟩
  · refine kIP (fun r1 q1 => ?_)
    refine j_i2l hx dL_player_8 (by omega) ?_
    refine j_last hx hG ho (by decide) rfl (zlen hG ho (n := 1) rfl rfl) (by omega) (by omega) (j := 0) rfl dL_player_9 ?_
    obtain ⟨s2, e_s2⟩ : ∃ z, z = zU s0 o 0 r1 := ⟨_, rfl⟩
    rw [← e_s2]
    have hS_s2 : zSK G s2 := by rw [e_s2]; exact zSK_A hS0 ho rfl rfl rfl (by omega)
    refine j_goto hx 21 dL_player_10 rfl ?_
    refine j_iconst hx dL_player_21 ?_
    exact j_iret hx hq rfl (by decide) (by decide) dL_player_22 ⟨0, rfl, rfl, hS_s2, (zFr_u zFr_rf e_s2 ho (by decide)), ⟨by decide, by decide⟩, trivial⟩

theorem lk_RL_33 : LkV RL 33 RX11 yX11_row cX11_row 3 (some .int) 2 := ⟨km_RL_33, ki_yX11_row, ks_RX11_yX11_row, kn_RX11, kc_yX11_row, rfl, by decide +kernel, by decide +kernel, by decide +kernel⟩
set_option maxHeartbeats 4000000 in
set_option maxRecDepth 20000 in
theorem c_L_row {E : zE} {l : Launch} (hst : l.stackTraces = false) (a : Nat) (x1 : Int) (x2 : Int) (o : Nat) : ConH E l yL_row cL_row 5 (some .int) [(0, 10, 13, 19)] { frames := 8, cells := 1, slots := 6, locals := 133 } (fun G s vs => vs = [.ref a, .int (zI x1), .int (zI x2), .ref o] ∧ zGK G ∧ zSK G s ∧ (gT G a = 12) ∧ (-2147483648 ≤ x1 ∧ x1 ≤ 2147483647) ∧ (-2147483648 ≤ x2 ∧ x2 ≤ 2147483647) ∧ (gT G o = 120)) (fun G s _ => pI (fun r G2 s2 => G2 = G ∧ zSK G2 s2 ∧ zFr [12, 120] G s s2 ∧ (0 ≤ r ∧ r ≤ 2) ∧ (True))) := by
  refine ConH.mk hst (by decide) (fun G s vs h => by rw [h.1]; exact Nat.le_of_ble_eq_true rfl) ?_
  rintro X G s0 vs ⟨rfl, hG, hS0, ha, hx1, hx2, ho⟩ rfl hx hT hq
  show JJ X E 5 G s0 0 0 [(0, .ref a), (1, .int (zI x1)), (2, .int (zI x2)), (3, .ref o)] 0 []
  refine j_aload_n hx 3 dL_row_0 rfl ?_
  refine j_iconst hx dL_row_1 ?_
  refine j_aload_n hx 0 dL_row_2 rfl ?_
  refine j_iload_n hx 1 dL_row_3 rfl ?_
  refine j_iload_n hx 2 dL_row_4 rfl ?_
  refine j_callVH hx hG (c_X11_row hst a x1 x2) lk_RL_33 ha (by decide) rfl rfl rfl rfl [.int (zI x1), .int (zI x2)] ⟨rfl, hG, hS0, ha, (by omega), (by omega)⟩ rfl rfl ⟨by decide, by decide⟩ ⟨by decide, by decide⟩ (k2 := 1) (n2 := 6) rfl rfl (Nat.le_of_ble_eq_true rfl) dL_row_5 ?_ ?_
  · rintro Ex9 G9 s9 ⟨rfl, hS9, hF9, h9⟩
    obtain ⟨e9, c9⟩ := h9
    · subst e9
      refine ⟨_, ZH1 hx (x := { startPc := 0, endPc := 10, handlerPc := 13, catchType := 19 }) (hT.trans rfl) rfl (by decide) kl_RL_19 cast_N, fun q9 => ?_⟩
      refine j_astore hx [(4, .ref q9), (0, .ref a), (1, .int (zI x1)), (2, .int (zI x2)), (3, .ref o)] dL_row_13 (by decide) rfl ?_
      refine j_iconst hx dL_row_15 ?_
      exact j_iret hx hq rfl (by decide) (by decide) dL_row_16 ⟨1, rfl, rfl, hS9, zFr_t zFr_rf hF9 (by decide), ⟨by decide, by decide⟩, trivial⟩
  · refine kIP (fun r1 q1 => ?_)
    refine j_i2l hx dL_row_8 (by omega) ?_
    refine j_last hx hG ho (by decide) rfl (zlen hG ho (n := 1) rfl rfl) (by omega) (by omega) (j := 0) rfl dL_row_9 ?_
    obtain ⟨s2, e_s2⟩ : ∃ z, z = zU s0 o 0 r1 := ⟨_, rfl⟩
    rw [← e_s2]
    have hS_s2 : zSK G s2 := by rw [e_s2]; exact zSK_A hS0 ho rfl rfl rfl (by omega)
    refine j_goto hx 17 dL_row_10 rfl ?_
    refine j_iconst hx dL_row_17 ?_
    exact j_iret hx hq rfl (by decide) (by decide) dL_row_18 ⟨0, rfl, rfl, hS_s2, (zFr_u zFr_rf e_s2 ho (by decide)), ⟨by decide, by decide⟩, trivial⟩

theorem lk_RL_36 : LkV RL 36 RX11 yX11_heap cX11_heap 3 (some .int) 2 := ⟨km_RL_36, ki_yX11_heap, ks_RX11_yX11_heap, kn_RX11, kc_yX11_heap, rfl, by decide +kernel, by decide +kernel, by decide +kernel⟩
set_option maxHeartbeats 4000000 in
set_option maxRecDepth 20000 in
theorem c_L_heap {E : zE} {l : Launch} (hst : l.stackTraces = false) (a : Nat) (x1 : Int) (x2 : Int) (o : Nat) : ConH E l yL_heap cL_heap 5 (some .int) [(0, 10, 13, 19)] { frames := 8, cells := 1, slots := 6, locals := 133 } (fun G s vs => vs = [.ref a, .int (zI x1), .int (zI x2), .ref o] ∧ zGK G ∧ zSK G s ∧ (gT G a = 12) ∧ (-2147483648 ≤ x1 ∧ x1 ≤ 2147483647) ∧ (-2147483648 ≤ x2 ∧ x2 ≤ 2147483647) ∧ (gT G o = 120)) (fun G s _ => pI (fun r G2 s2 => G2 = G ∧ zSK G2 s2 ∧ zFr [12, 120] G s s2 ∧ (0 ≤ r ∧ r ≤ 2) ∧ (True))) := by
  refine ConH.mk hst (by decide) (fun G s vs h => by rw [h.1]; exact Nat.le_of_ble_eq_true rfl) ?_
  rintro X G s0 vs ⟨rfl, hG, hS0, ha, hx1, hx2, ho⟩ rfl hx hT hq
  show JJ X E 5 G s0 0 0 [(0, .ref a), (1, .int (zI x1)), (2, .int (zI x2)), (3, .ref o)] 0 []
  refine j_aload_n hx 3 dL_heap_0 rfl ?_
  refine j_iconst hx dL_heap_1 ?_
  refine j_aload_n hx 0 dL_heap_2 rfl ?_
  refine j_iload_n hx 1 dL_heap_3 rfl ?_
  refine j_iload_n hx 2 dL_heap_4 rfl ?_
  refine j_callVH hx hG (c_X11_heap hst a x1 x2) lk_RL_36 ha (by decide) rfl rfl rfl rfl [.int (zI x1), .int (zI x2)] ⟨rfl, hG, hS0, ha, (by omega), (by omega)⟩ rfl rfl ⟨by decide, by decide⟩ ⟨by decide, by decide⟩ (k2 := 1) (n2 := 6) rfl rfl (Nat.le_of_ble_eq_true rfl) dL_heap_5 ?_ ?_
  · rintro Ex9 G9 s9 ⟨rfl, hS9, hF9, h9⟩
    obtain ⟨e9, c9⟩ := h9
    · subst e9
      refine ⟨_, ZH1 hx (x := { startPc := 0, endPc := 10, handlerPc := 13, catchType := 19 }) (hT.trans rfl) rfl (by decide) kl_RL_19 cast_N, fun q9 => ?_⟩
      refine j_astore hx [(4, .ref q9), (0, .ref a), (1, .int (zI x1)), (2, .int (zI x2)), (3, .ref o)] dL_heap_13 (by decide) rfl ?_
      refine j_iconst hx dL_heap_15 ?_
      exact j_iret hx hq rfl (by decide) (by decide) dL_heap_16 ⟨1, rfl, rfl, hS9, zFr_t zFr_rf hF9 (by decide), ⟨by decide, by decide⟩, trivial⟩
  · refine kIP (fun r1 q1 => ?_)
    refine j_i2l hx dL_heap_8 (by omega) ?_
    refine j_last hx hG ho (by decide) rfl (zlen hG ho (n := 1) rfl rfl) (by omega) (by omega) (j := 0) rfl dL_heap_9 ?_
    obtain ⟨s2, e_s2⟩ : ∃ z, z = zU s0 o 0 r1 := ⟨_, rfl⟩
    rw [← e_s2]
    have hS_s2 : zSK G s2 := by rw [e_s2]; exact zSK_A hS0 ho rfl rfl rfl (by omega)
    refine j_goto hx 17 dL_heap_10 rfl ?_
    refine j_iconst hx dL_heap_17 ?_
    exact j_iret hx hq rfl (by decide) (by decide) dL_heap_18 ⟨0, rfl, rfl, hS_s2, (zFr_u zFr_rf e_s2 ho (by decide)), ⟨by decide, by decide⟩, trivial⟩

theorem lk_RL_39 : LkV RL 39 RX11 yX11_lain cX11_lain 4 (some .int) 2 := ⟨km_RL_39, ki_yX11_lain, ks_RX11_yX11_lain, kn_RX11, kc_yX11_lain, rfl, by decide +kernel, by decide +kernel, by decide +kernel⟩
set_option maxHeartbeats 4000000 in
set_option maxRecDepth 20000 in
theorem c_L_lain {E : zE} {l : Launch} (hst : l.stackTraces = false) (a : Nat) (x1 : Int) (x2 : Int) (o : Nat) : ConH E l yL_lain cL_lain 5 (some .int) [(0, 10, 13, 19)] { frames := 8, cells := 1, slots := 6, locals := 134 } (fun G s vs => vs = [.ref a, .int (zI x1), .int (zI x2), .ref o] ∧ zGK G ∧ zSK G s ∧ (gT G a = 12) ∧ (-2147483648 ≤ x1 ∧ x1 ≤ 2147483647) ∧ (-2147483648 ≤ x2 ∧ x2 ≤ 2147483647) ∧ (gT G o = 120)) (fun G s _ => pI (fun r G2 s2 => G2 = G ∧ zSK G2 s2 ∧ zFr [12, 120] G s s2 ∧ (0 ≤ r ∧ r ≤ 2) ∧ (True))) := by
  refine ConH.mk hst (by decide) (fun G s vs h => by rw [h.1]; exact Nat.le_of_ble_eq_true rfl) ?_
  rintro X G s0 vs ⟨rfl, hG, hS0, ha, hx1, hx2, ho⟩ rfl hx hT hq
  show JJ X E 5 G s0 0 0 [(0, .ref a), (1, .int (zI x1)), (2, .int (zI x2)), (3, .ref o)] 0 []
  refine j_aload_n hx 3 dL_lain_0 rfl ?_
  refine j_iconst hx dL_lain_1 ?_
  refine j_aload_n hx 0 dL_lain_2 rfl ?_
  refine j_iload_n hx 1 dL_lain_3 rfl ?_
  refine j_iload_n hx 2 dL_lain_4 rfl ?_
  refine j_callVH hx hG (c_X11_lain hst a x1 x2) lk_RL_39 ha (by decide) rfl rfl rfl rfl [.int (zI x1), .int (zI x2)] ⟨rfl, hG, hS0, ha, (by omega), (by omega)⟩ rfl rfl ⟨by decide, by decide⟩ ⟨by decide, by decide⟩ (k2 := 1) (n2 := 6) rfl rfl (Nat.le_of_ble_eq_true rfl) dL_lain_5 ?_ ?_
  · rintro Ex9 G9 s9 ⟨rfl, hS9, hF9, h9⟩
    obtain ⟨e9, c9⟩ := h9
    · subst e9
      refine ⟨_, ZH1 hx (x := { startPc := 0, endPc := 10, handlerPc := 13, catchType := 19 }) (hT.trans rfl) rfl (by decide) kl_RL_19 cast_N, fun q9 => ?_⟩
      refine j_astore hx [(4, .ref q9), (0, .ref a), (1, .int (zI x1)), (2, .int (zI x2)), (3, .ref o)] dL_lain_13 (by decide) rfl ?_
      refine j_iconst hx dL_lain_15 ?_
      exact j_iret hx hq rfl (by decide) (by decide) dL_lain_16 ⟨1, rfl, rfl, hS9, zFr_t zFr_rf hF9 (by decide), ⟨by decide, by decide⟩, trivial⟩
  · refine kIP (fun r1 q1 => ?_)
    refine j_i2l hx dL_lain_8 (by omega) ?_
    refine j_last hx hG ho (by decide) rfl (zlen hG ho (n := 1) rfl rfl) (by omega) (by omega) (j := 0) rfl dL_lain_9 ?_
    obtain ⟨s2, e_s2⟩ : ∃ z, z = zU s0 o 0 r1 := ⟨_, rfl⟩
    rw [← e_s2]
    have hS_s2 : zSK G s2 := by rw [e_s2]; exact zSK_A hS0 ho rfl rfl rfl (by omega)
    refine j_goto hx 17 dL_lain_10 rfl ?_
    refine j_iconst hx dL_lain_17 ?_
    exact j_iret hx hq rfl (by decide) (by decide) dL_lain_18 ⟨0, rfl, rfl, hS_s2, (zFr_u zFr_rf e_s2 ho (by decide)), ⟨by decide, by decide⟩, trivial⟩

theorem lk_RL_42 : LkV RL 42 RX11 yX11_would cX11_would 3 (some .boolean) 2 := ⟨km_RL_42, ki_yX11_would, ks_RX11_yX11_would, kn_RX11, kc_yX11_would, rfl, by decide +kernel, by decide +kernel, by decide +kernel⟩
set_option maxHeartbeats 4000000 in
set_option maxRecDepth 20000 in
theorem c_L_would {E : zE} {l : Launch} (hst : l.stackTraces = false) (a : Nat) (x1 : Int) (x2 : Int) (o : Nat) : ConH E l yL_would cL_would 5 (some .int) [(0, 17, 20, 19), (0, 17, 24, 13)] { frames := 8, cells := 2, slots := 12, locals := 135 } (fun G s vs => vs = [.ref a, .int (zI x1), .int (zI x2), .ref o] ∧ zGK G ∧ zSK G s ∧ (gT G a = 12) ∧ (-2147483648 ≤ x1 ∧ x1 ≤ 2147483647) ∧ (-2147483648 ≤ x2 ∧ x2 ≤ 2147483647) ∧ (gT G o = 120)) (fun G s _ => pI (fun r G2 s2 => G2 = G ∧ zSK G2 s2 ∧ zFr [4, 12, 120] G s s2 ∧ (0 ≤ r ∧ r ≤ 2) ∧ (True))) := by
  refine ConH.mk hst (by decide) (fun G s vs h => by rw [h.1]; exact Nat.le_of_ble_eq_true rfl) ?_
  rintro X G s0 vs ⟨rfl, hG, hS0, ha, hx1, hx2, ho⟩ rfl hx hT hq
  show JJ X E 5 G s0 0 0 [(0, .ref a), (1, .int (zI x1)), (2, .int (zI x2)), (3, .ref o)] 0 []
  refine j_aload_n hx 3 dL_would_0 rfl ?_
  refine j_iconst hx dL_would_1 ?_
  refine j_aload_n hx 0 dL_would_2 rfl ?_
  refine j_iload_n hx 1 dL_would_3 rfl ?_
  refine j_iload_n hx 2 dL_would_4 rfl ?_
  refine j_callVH hx hG (c_X11_would hst a x1 x2) lk_RL_42 ha (by decide) rfl rfl rfl rfl [.int (zI x1), .int (zI x2)] ⟨rfl, hG, hS0, ha, (by omega), (by omega)⟩ rfl rfl ⟨by decide, by decide⟩ ⟨by decide, by decide⟩ (k2 := 2) (n2 := 12) rfl rfl (Nat.le_of_ble_eq_true rfl) dL_would_5 ?_ ?_
  · rintro Ex9 G9 s9 ⟨rfl, hS9, hF9, h9⟩
    rcases h9 with ⟨e9, c9⟩ | ⟨e9, c9⟩
    · subst e9
      refine ⟨_, ZH2 hx (x1 := { startPc := 0, endPc := 17, handlerPc := 20, catchType := 19 }) (x := { startPc := 0, endPc := 17, handlerPc := 24, catchType := 13 }) (hT.trans rfl) (by decide) kl_RL_19 hx.2.2.2.2.2.1.2.2.2.2.2.2.2.2.2 rfl (by decide) kl_RL_13 cast_I, fun q9 => ?_⟩
      refine j_astore hx [(4, .ref q9), (0, .ref a), (1, .int (zI x1)), (2, .int (zI x2)), (3, .ref o)] dL_would_24 (by decide) rfl ?_
      refine j_iconst hx dL_would_26 ?_
      exact j_iret hx hq rfl (by decide) (by decide) dL_would_27 ⟨2, rfl, rfl, hS9, zFr_t zFr_rf hF9 (by decide), ⟨by decide, by decide⟩, trivial⟩
    · subst e9
      refine ⟨_, ZH1 hx (x := { startPc := 0, endPc := 17, handlerPc := 20, catchType := 19 }) (hT.trans rfl) rfl (by decide) kl_RL_19 cast_N, fun q9 => ?_⟩
      refine j_astore hx [(4, .ref q9), (0, .ref a), (1, .int (zI x1)), (2, .int (zI x2)), (3, .ref o)] dL_would_20 (by decide) rfl ?_
      refine j_iconst hx dL_would_22 ?_
      exact j_iret hx hq rfl (by decide) (by decide) dL_would_23 ⟨1, rfl, rfl, hS9, zFr_t zFr_rf hF9 (by decide), ⟨by decide, by decide⟩, trivial⟩
  · refine kIM (fun r1 s1 hS_s1 hF_s1 q1 => ?_)
    refine j_if_eq hx 15 dL_would_8 rfl (by omega) (fun h1 => ?_) (fun h1 => ?_)
    · skip
      refine j_lconst hx dL_would_15 ?_
      show JJ X E 5 G s1 2 12 [(0, .ref a), (1, .int (zI x1)), (2, .int (zI x2)), (3, .ref o)] 16 [.long (zL 0), .int (zI 0), .ref o]
      refine j_last hx hG ho (by decide) rfl (zlen hG ho (n := 1) rfl rfl) (by omega) (by omega) (j := 0) rfl dL_would_16 ?_
      obtain ⟨s2, e_s2⟩ : ∃ z, z = zU s1 o 0 0 := ⟨_, rfl⟩
      rw [← e_s2]
      have hS_s2 : zSK G s2 := by rw [e_s2]; exact zSK_A hS_s1 ho rfl rfl rfl (by omega)
      refine j_goto hx 28 dL_would_17 rfl ?_
      refine j_iconst hx dL_would_28 ?_
      exact j_iret hx hq rfl (by decide) (by decide) dL_would_29 ⟨0, rfl, rfl, hS_s2, (zFr_u (zFr_t zFr_rf hF_s1 (by decide)) e_s2 ho (by decide)), ⟨by decide, by decide⟩, trivial⟩
    · skip
      refine j_lconst hx dL_would_11 ?_
      show JJ X E 5 G s1 2 12 [(0, .ref a), (1, .int (zI x1)), (2, .int (zI x2)), (3, .ref o)] 12 [.long (zL 1), .int (zI 0), .ref o]
      refine j_goto hx 16 dL_would_12 rfl ?_
      refine j_last hx hG ho (by decide) rfl (zlen hG ho (n := 1) rfl rfl) (by omega) (by omega) (j := 0) rfl dL_would_16 ?_
      obtain ⟨s3, e_s3⟩ : ∃ z, z = zU s1 o 0 1 := ⟨_, rfl⟩
      rw [← e_s3]
      have hS_s3 : zSK G s3 := by rw [e_s3]; exact zSK_A hS_s1 ho rfl rfl rfl (by omega)
      refine j_goto hx 28 dL_would_17 rfl ?_
      refine j_iconst hx dL_would_28 ?_
      exact j_iret hx hq rfl (by decide) (by decide) dL_would_29 ⟨0, rfl, rfl, hS_s3, (zFr_u (zFr_t zFr_rf hF_s1 (by decide)) e_s3 ho (by decide)), ⟨by decide, by decide⟩, trivial⟩

theorem lk_RL_46 : LkV RL 46 RX11 yX11_law cX11_law 4 (some .int) 2 := ⟨km_RL_46, ki_yX11_law, ks_RX11_yX11_law, kn_RX11, kc_yX11_law, rfl, by decide +kernel, by decide +kernel, by decide +kernel⟩
set_option maxHeartbeats 4000000 in
set_option maxRecDepth 20000 in
theorem c_L_law {E : zE} {l : Launch} (hst : l.stackTraces = false) (a : Nat) (x1 : Int) (x2 : Int) (o : Nat) : ConH E l yL_law cL_law 5 (some .int) [(0, 10, 13, 13)] { frames := 8, cells := 2, slots := 12, locals := 136 } (fun G s vs => vs = [.ref a, .int (zI x1), .int (zI x2), .ref o] ∧ zGK G ∧ zSK G s ∧ (gT G a = 12) ∧ (-2147483648 ≤ x1 ∧ x1 ≤ 2147483647) ∧ (-2147483648 ≤ x2 ∧ x2 ≤ 2147483647) ∧ (gT G o = 120)) (fun G s _ => pI (fun r G2 s2 => G2 = G ∧ zSK G2 s2 ∧ zFr [5, 12, 44, 120] G s s2 ∧ (0 ≤ r ∧ r ≤ 2) ∧ (True))) := by
  refine ConH.mk hst (by decide) (fun G s vs h => by rw [h.1]; exact Nat.le_of_ble_eq_true rfl) ?_
  rintro X G s0 vs ⟨rfl, hG, hS0, ha, hx1, hx2, ho⟩ rfl hx hT hq
  show JJ X E 5 G s0 0 0 [(0, .ref a), (1, .int (zI x1)), (2, .int (zI x2)), (3, .ref o)] 0 []
  refine j_aload_n hx 3 dL_law_0 rfl ?_
  refine j_iconst hx dL_law_1 ?_
  refine j_aload_n hx 0 dL_law_2 rfl ?_
  refine j_iload_n hx 1 dL_law_3 rfl ?_
  refine j_iload_n hx 2 dL_law_4 rfl ?_
  refine j_callVH hx hG (c_X11_law hst a x1 x2) lk_RL_46 ha (by decide) rfl rfl rfl rfl [.int (zI x1), .int (zI x2)] ⟨rfl, hG, hS0, ha, (by omega), (by omega)⟩ rfl rfl ⟨by decide, by decide⟩ ⟨by decide, by decide⟩ (k2 := 2) (n2 := 12) rfl rfl (Nat.le_of_ble_eq_true rfl) dL_law_5 ?_ ?_
  · rintro Ex9 G9 s9 ⟨rfl, hS9, hF9, h9⟩
    obtain ⟨e9, c9⟩ := h9
    · subst e9
      refine ⟨_, ZH1 hx (x := { startPc := 0, endPc := 10, handlerPc := 13, catchType := 13 }) (hT.trans rfl) rfl (by decide) kl_RL_13 cast_I, fun q9 => ?_⟩
      refine j_astore hx [(4, .ref q9), (0, .ref a), (1, .int (zI x1)), (2, .int (zI x2)), (3, .ref o)] dL_law_13 (by decide) rfl ?_
      refine j_iconst hx dL_law_15 ?_
      exact j_iret hx hq rfl (by decide) (by decide) dL_law_16 ⟨1, rfl, rfl, hS9, zFr_t zFr_rf hF9 (by decide), ⟨by decide, by decide⟩, trivial⟩
  · refine kIM (fun r1 s1 hS_s1 hF_s1 q1 => ?_)
    refine j_i2l hx dL_law_8 (by omega) ?_
    refine j_last hx hG ho (by decide) rfl (zlen hG ho (n := 1) rfl rfl) (by omega) (by omega) (j := 0) rfl dL_law_9 ?_
    obtain ⟨s2, e_s2⟩ : ∃ z, z = zU s1 o 0 r1 := ⟨_, rfl⟩
    rw [← e_s2]
    have hS_s2 : zSK G s2 := by rw [e_s2]; exact zSK_A hS_s1 ho rfl rfl rfl (by omega)
    refine j_goto hx 17 dL_law_10 rfl ?_
    refine j_iconst hx dL_law_17 ?_
    exact j_iret hx hq rfl (by decide) (by decide) dL_law_18 ⟨0, rfl, rfl, hS_s2, (zFr_u (zFr_t zFr_rf hF_s1 (by decide)) e_s2 ho (by decide)), ⟨by decide, by decide⟩, trivial⟩

theorem lk_RL_49 : LkV RL 49 RX11 yX11_play cX11_play 2 (some .int) 1 := ⟨km_RL_49, ki_yX11_play, ks_RX11_yX11_play, kn_RX11, kc_yX11_play, rfl, by decide +kernel, by decide +kernel, by decide +kernel⟩
set_option maxHeartbeats 4000000 in
set_option maxRecDepth 20000 in
theorem c_L_play {E : zE} {l : Launch} (hst : l.stackTraces = false) (a : Nat) (x1 : Int) (o : Nat) : ConH E l yL_play cL_play 4 (some .int) [(0, 9, 12, 13)] { frames := 8, cells := 1, slots := 6, locals := 187 } (fun G s vs => vs = [.ref a, .int (zI x1), .ref o] ∧ zGK G ∧ zSK G s ∧ (gT G a = 12) ∧ (-2147483648 ≤ x1 ∧ x1 ≤ 2147483647) ∧ (gT G o = 120)) (fun G s _ => pI (fun r G2 s2 => G2 = G ∧ zSK G2 s2 ∧ zFr [1, 4, 5, 7, 12, 41, 50, 51, 52, 53, 57, 59, 60, 120] G s s2 ∧ (0 ≤ r ∧ r ≤ 2) ∧ (True))) := by
  refine ConH.mk hst (by decide) (fun G s vs h => by rw [h.1]; exact Nat.le_of_ble_eq_true rfl) ?_
  rintro X G s0 vs ⟨rfl, hG, hS0, ha, hx1, ho⟩ rfl hx hT hq
  show JJ X E 4 G s0 0 0 [(0, .ref a), (1, .int (zI x1)), (2, .ref o)] 0 []
  refine j_aload_n hx 2 dL_play_0 rfl ?_
  refine j_iconst hx dL_play_1 ?_
  refine j_aload_n hx 0 dL_play_2 rfl ?_
  refine j_iload_n hx 1 dL_play_3 rfl ?_
  refine j_callVH hx hG (c_X11_play hst a x1) lk_RL_49 ha (by decide) rfl rfl rfl rfl [.int (zI x1)] ⟨rfl, hG, hS0, ha, (by omega)⟩ rfl rfl ⟨by decide, by decide⟩ ⟨by decide, by decide⟩ (k2 := 1) (n2 := 6) rfl rfl (Nat.le_of_ble_eq_true rfl) dL_play_4 ?_ ?_
  · rintro Ex9 G9 s9 ⟨rfl, hS9, hF9, h9⟩
    obtain ⟨e9, c9⟩ := h9
    · subst e9
      refine ⟨_, ZH1 hx (x := { startPc := 0, endPc := 9, handlerPc := 12, catchType := 13 }) (hT.trans rfl) rfl (by decide) kl_RL_13 cast_I, fun q9 => ?_⟩
      refine j_astore_n hx [(3, .ref q9), (0, .ref a), (1, .int (zI x1)), (2, .ref o)] dL_play_12 (by decide) rfl ?_
      refine j_iconst hx dL_play_13 ?_
      exact j_iret hx hq rfl (by decide) (by decide) dL_play_14 ⟨1, rfl, rfl, hS9, zFr_t zFr_rf hF9 (by decide), ⟨by decide, by decide⟩, trivial⟩
  · refine kIM (fun r1 s1 hS_s1 hF_s1 q1 => ?_)
    refine j_i2l hx dL_play_7 (by omega) ?_
    refine j_last hx hG ho (by decide) rfl (zlen hG ho (n := 1) rfl rfl) (by omega) (by omega) (j := 0) rfl dL_play_8 ?_
    obtain ⟨s2, e_s2⟩ : ∃ z, z = zU s1 o 0 r1 := ⟨_, rfl⟩
    rw [← e_s2]
    have hS_s2 : zSK G s2 := by rw [e_s2]; exact zSK_A hS_s1 ho rfl rfl rfl (by omega)
    refine j_goto hx 15 dL_play_9 rfl ?_
    refine j_iconst hx dL_play_15 ?_
    exact j_iret hx hq rfl (by decide) (by decide) dL_play_16 ⟨0, rfl, rfl, hS_s2, (zFr_u (zFr_t zFr_rf hF_s1 (by decide)) e_s2 ho (by decide)), ⟨by decide, by decide⟩, trivial⟩

theorem lk_RL_52 : LkV RL 52 RX11 yX11_undo cX11_undo 2 (some .int) 1 := ⟨km_RL_52, ki_yX11_undo, ks_RX11_yX11_undo, kn_RX11, kc_yX11_undo, rfl, by decide +kernel, by decide +kernel, by decide +kernel⟩
set_option maxHeartbeats 4000000 in
set_option maxRecDepth 20000 in
theorem c_L_undo {E : zE} {l : Launch} (hst : l.stackTraces = false) (a : Nat) (x1 : Int) (o : Nat) : ConH E l yL_undo cL_undo 4 (some .int) [(0, 9, 12, 13)] { frames := 8, cells := 1, slots := 6, locals := 190 } (fun G s vs => vs = [.ref a, .int (zI x1), .ref o] ∧ zGK G ∧ zSK G s ∧ (gT G a = 12) ∧ (-2147483648 ≤ x1 ∧ x1 ≤ 2147483647) ∧ (gT G o = 120)) (fun G s _ => pI (fun r G2 s2 => G2 = G ∧ zSK G2 s2 ∧ zFr [1, 4, 5, 7, 12, 41, 50, 51, 52, 120] G s s2 ∧ (0 ≤ r ∧ r ≤ 2) ∧ (True))) := by
  refine ConH.mk hst (by decide) (fun G s vs h => by rw [h.1]; exact Nat.le_of_ble_eq_true rfl) ?_
  rintro X G s0 vs ⟨rfl, hG, hS0, ha, hx1, ho⟩ rfl hx hT hq
  show JJ X E 4 G s0 0 0 [(0, .ref a), (1, .int (zI x1)), (2, .ref o)] 0 []
  refine j_aload_n hx 2 dL_undo_0 rfl ?_
  refine j_iconst hx dL_undo_1 ?_
  refine j_aload_n hx 0 dL_undo_2 rfl ?_
  refine j_iload_n hx 1 dL_undo_3 rfl ?_
  refine j_callVH hx hG (c_X11_undo hst a x1) lk_RL_52 ha (by decide) rfl rfl rfl rfl [.int (zI x1)] ⟨rfl, hG, hS0, ha, (by omega)⟩ rfl rfl ⟨by decide, by decide⟩ ⟨by decide, by decide⟩ (k2 := 1) (n2 := 6) rfl rfl (Nat.le_of_ble_eq_true rfl) dL_undo_4 ?_ ?_
  · rintro Ex9 G9 s9 ⟨rfl, hS9, hF9, h9⟩
    obtain ⟨e9, c9⟩ := h9
    · subst e9
      refine ⟨_, ZH1 hx (x := { startPc := 0, endPc := 9, handlerPc := 12, catchType := 13 }) (hT.trans rfl) rfl (by decide) kl_RL_13 cast_I, fun q9 => ?_⟩
      refine j_astore_n hx [(3, .ref q9), (0, .ref a), (1, .int (zI x1)), (2, .ref o)] dL_undo_12 (by decide) rfl ?_
      refine j_iconst hx dL_undo_13 ?_
      exact j_iret hx hq rfl (by decide) (by decide) dL_undo_14 ⟨1, rfl, rfl, hS9, zFr_t zFr_rf hF9 (by decide), ⟨by decide, by decide⟩, trivial⟩
  · refine kIM (fun r1 s1 hS_s1 hF_s1 q1 => ?_)
    refine j_i2l hx dL_undo_7 (by omega) ?_
    refine j_last hx hG ho (by decide) rfl (zlen hG ho (n := 1) rfl rfl) (by omega) (by omega) (j := 0) rfl dL_undo_8 ?_
    obtain ⟨s2, e_s2⟩ : ∃ z, z = zU s1 o 0 r1 := ⟨_, rfl⟩
    rw [← e_s2]
    have hS_s2 : zSK G s2 := by rw [e_s2]; exact zSK_A hS_s1 ho rfl rfl rfl (by omega)
    refine j_goto hx 15 dL_undo_9 rfl ?_
    refine j_iconst hx dL_undo_15 ?_
    exact j_iret hx hq rfl (by decide) (by decide) dL_undo_16 ⟨0, rfl, rfl, hS_s2, (zFr_u (zFr_t zFr_rf hF_s1 (by decide)) e_s2 ho (by decide)), ⟨by decide, by decide⟩, trivial⟩

theorem lk_RL_55 : LkV RL 55 RX11 yX11_latest cX11_latest 2 (some .int) 1 := ⟨km_RL_55, ki_yX11_latest, ks_RX11_yX11_latest, kn_RX11, kc_yX11_latest, rfl, by decide +kernel, by decide +kernel, by decide +kernel⟩
set_option maxHeartbeats 4000000 in
set_option maxRecDepth 20000 in
theorem c_L_latest {E : zE} {l : Launch} (hst : l.stackTraces = false) (a : Nat) (x1 : Int) (o : Nat) : ConH E l yL_latest cL_latest 4 (some .int) [(0, 9, 12, 13)] { frames := 8, cells := 1, slots := 6, locals := 134 } (fun G s vs => vs = [.ref a, .int (zI x1), .ref o] ∧ zGK G ∧ zSK G s ∧ (gT G a = 12) ∧ (-2147483648 ≤ x1 ∧ x1 ≤ 2147483647) ∧ (gT G o = 120)) (fun G s _ => pI (fun r G2 s2 => G2 = G ∧ zSK G2 s2 ∧ zFr [12, 120] G s s2 ∧ (0 ≤ r ∧ r ≤ 2) ∧ (True))) := by
  refine ConH.mk hst (by decide) (fun G s vs h => by rw [h.1]; exact Nat.le_of_ble_eq_true rfl) ?_
  rintro X G s0 vs ⟨rfl, hG, hS0, ha, hx1, ho⟩ rfl hx hT hq
  show JJ X E 4 G s0 0 0 [(0, .ref a), (1, .int (zI x1)), (2, .ref o)] 0 []
  refine j_aload_n hx 2 dL_latest_0 rfl ?_
  refine j_iconst hx dL_latest_1 ?_
  refine j_aload_n hx 0 dL_latest_2 rfl ?_
  refine j_iload_n hx 1 dL_latest_3 rfl ?_
  refine j_callVH hx hG (c_X11_latest hst a x1) lk_RL_55 ha (by decide) rfl rfl rfl rfl [.int (zI x1)] ⟨rfl, hG, hS0, ha, (by omega)⟩ rfl rfl ⟨by decide, by decide⟩ ⟨by decide, by decide⟩ (k2 := 1) (n2 := 6) rfl rfl (Nat.le_of_ble_eq_true rfl) dL_latest_4 ?_ ?_
  · rintro Ex9 G9 s9 ⟨rfl, hS9, hF9, h9⟩
    obtain ⟨e9, c9⟩ := h9
    · subst e9
      refine ⟨_, ZH1 hx (x := { startPc := 0, endPc := 9, handlerPc := 12, catchType := 13 }) (hT.trans rfl) rfl (by decide) kl_RL_13 cast_I, fun q9 => ?_⟩
      refine j_astore_n hx [(3, .ref q9), (0, .ref a), (1, .int (zI x1)), (2, .ref o)] dL_latest_12 (by decide) rfl ?_
      refine j_iconst hx dL_latest_13 ?_
      exact j_iret hx hq rfl (by decide) (by decide) dL_latest_14 ⟨1, rfl, rfl, hS9, zFr_t zFr_rf hF9 (by decide), ⟨by decide, by decide⟩, trivial⟩
  · refine kIP (fun r1 q1 => ?_)
    refine j_i2l hx dL_latest_7 (by omega) ?_
    refine j_last hx hG ho (by decide) rfl (zlen hG ho (n := 1) rfl rfl) (by omega) (by omega) (j := 0) rfl dL_latest_8 ?_
    obtain ⟨s2, e_s2⟩ : ∃ z, z = zU s0 o 0 r1 := ⟨_, rfl⟩
    rw [← e_s2]
    have hS_s2 : zSK G s2 := by rw [e_s2]; exact zSK_A hS0 ho rfl rfl rfl (by omega)
    refine j_goto hx 15 dL_latest_9 rfl ?_
    refine j_iconst hx dL_latest_15 ?_
    exact j_iret hx hq rfl (by decide) (by decide) dL_latest_16 ⟨0, rfl, rfl, hS_s2, (zFr_u zFr_rf e_s2 ho (by decide)), ⟨by decide, by decide⟩, trivial⟩

theorem lk_RL_58 : LkV RL 58 RX11 yX11_calls cX11_calls 3 (some .int) 2 := ⟨km_RL_58, ki_yX11_calls, ks_RX11_yX11_calls, kn_RX11, kc_yX11_calls, rfl, by decide +kernel, by decide +kernel, by decide +kernel⟩
set_option maxHeartbeats 4000000 in
set_option maxRecDepth 20000 in
theorem c_L_calls {E : zE} {l : Launch} (hst : l.stackTraces = false) (a : Nat) (x1 : Int) (x2 : Int) (o : Nat) : ConH E l yL_calls cL_calls 5 (some .int) [(0, 10, 13, 19), (0, 10, 17, 13)] { frames := 8, cells := 2, slots := 12, locals := 135 } (fun G s vs => vs = [.ref a, .int (zI x1), .int (zI x2), .ref o] ∧ zGK G ∧ zSK G s ∧ (gT G a = 12) ∧ (-2147483648 ≤ x1 ∧ x1 ≤ 2147483647) ∧ (-2147483648 ≤ x2 ∧ x2 ≤ 2147483647) ∧ (gT G o = 120)) (fun G s _ => pI (fun r G2 s2 => G2 = G ∧ zSK G2 s2 ∧ zFr [12, 120] G s s2 ∧ (0 ≤ r ∧ r ≤ 2) ∧ (True))) := by
  refine ConH.mk hst (by decide) (fun G s vs h => by rw [h.1]; exact Nat.le_of_ble_eq_true rfl) ?_
  rintro X G s0 vs ⟨rfl, hG, hS0, ha, hx1, hx2, ho⟩ rfl hx hT hq
  show JJ X E 5 G s0 0 0 [(0, .ref a), (1, .int (zI x1)), (2, .int (zI x2)), (3, .ref o)] 0 []
  refine j_aload_n hx 3 dL_calls_0 rfl ?_
  refine j_iconst hx dL_calls_1 ?_
  refine j_aload_n hx 0 dL_calls_2 rfl ?_
  refine j_iload_n hx 1 dL_calls_3 rfl ?_
  refine j_iload_n hx 2 dL_calls_4 rfl ?_
  refine j_callVH hx hG (c_X11_calls hst a x1 x2) lk_RL_58 ha (by decide) rfl rfl rfl rfl [.int (zI x1), .int (zI x2)] ⟨rfl, hG, hS0, ha, (by omega), (by omega)⟩ rfl rfl ⟨by decide, by decide⟩ ⟨by decide, by decide⟩ (k2 := 2) (n2 := 12) rfl rfl (Nat.le_of_ble_eq_true rfl) dL_calls_5 ?_ ?_
  · rintro Ex9 G9 s9 ⟨rfl, hS9, hF9, h9⟩
    rcases h9 with ⟨e9, c9⟩ | ⟨e9, c9⟩
    · subst e9
      refine ⟨_, ZH2 hx (x1 := { startPc := 0, endPc := 10, handlerPc := 13, catchType := 19 }) (x := { startPc := 0, endPc := 10, handlerPc := 17, catchType := 13 }) (hT.trans rfl) (by decide) kl_RL_19 hx.2.2.2.2.2.1.2.2.2.2.2.2.2.2.2 rfl (by decide) kl_RL_13 cast_I, fun q9 => ?_⟩
      refine j_astore hx [(4, .ref q9), (0, .ref a), (1, .int (zI x1)), (2, .int (zI x2)), (3, .ref o)] dL_calls_17 (by decide) rfl ?_
      refine j_iconst hx dL_calls_19 ?_
      exact j_iret hx hq rfl (by decide) (by decide) dL_calls_20 ⟨2, rfl, rfl, hS9, zFr_t zFr_rf hF9 (by decide), ⟨by decide, by decide⟩, trivial⟩
    · subst e9
      refine ⟨_, ZH1 hx (x := { startPc := 0, endPc := 10, handlerPc := 13, catchType := 19 }) (hT.trans rfl) rfl (by decide) kl_RL_19 cast_N, fun q9 => ?_⟩
      refine j_astore hx [(4, .ref q9), (0, .ref a), (1, .int (zI x1)), (2, .int (zI x2)), (3, .ref o)] dL_calls_13 (by decide) rfl ?_
      refine j_iconst hx dL_calls_15 ?_
      exact j_iret hx hq rfl (by decide) (by decide) dL_calls_16 ⟨1, rfl, rfl, hS9, zFr_t zFr_rf hF9 (by decide), ⟨by decide, by decide⟩, trivial⟩
  · refine kIP (fun r1 q1 => ?_)
    refine j_i2l hx dL_calls_8 (by omega) ?_
    refine j_last hx hG ho (by decide) rfl (zlen hG ho (n := 1) rfl rfl) (by omega) (by omega) (j := 0) rfl dL_calls_9 ?_
    obtain ⟨s2, e_s2⟩ : ∃ z, z = zU s0 o 0 r1 := ⟨_, rfl⟩
    rw [← e_s2]
    have hS_s2 : zSK G s2 := by rw [e_s2]; exact zSK_A hS0 ho rfl rfl rfl (by omega)
    refine j_goto hx 21 dL_calls_10 rfl ?_
    refine j_iconst hx dL_calls_21 ?_
    exact j_iret hx hq rfl (by decide) (by decide) dL_calls_22 ⟨0, rfl, rfl, hS_s2, (zFr_u zFr_rf e_s2 ho (by decide)), ⟨by decide, by decide⟩, trivial⟩

theorem lk_RL_61 : LkV RL 61 RX11 yX11_won cX11_won 2 (some .int) 1 := ⟨km_RL_61, ki_yX11_won, ks_RX11_yX11_won, kn_RX11, kc_yX11_won, rfl, by decide +kernel, by decide +kernel, by decide +kernel⟩
set_option maxHeartbeats 4000000 in
set_option maxRecDepth 20000 in
theorem c_L_won {E : zE} {l : Launch} (hst : l.stackTraces = false) (a : Nat) (x1 : Int) (o : Nat) : ConH E l yL_won cL_won 4 (some .int) [(0, 9, 12, 19)] { frames := 8, cells := 1, slots := 6, locals := 132 } (fun G s vs => vs = [.ref a, .int (zI x1), .ref o] ∧ zGK G ∧ zSK G s ∧ (gT G a = 12) ∧ (-2147483648 ≤ x1 ∧ x1 ≤ 2147483647) ∧ (gT G o = 120)) (fun G s _ => pI (fun r G2 s2 => G2 = G ∧ zSK G2 s2 ∧ zFr [12, 120] G s s2 ∧ (0 ≤ r ∧ r ≤ 2) ∧ (True))) := by
  refine ConH.mk hst (by decide) (fun G s vs h => by rw [h.1]; exact Nat.le_of_ble_eq_true rfl) ?_
  rintro X G s0 vs ⟨rfl, hG, hS0, ha, hx1, ho⟩ rfl hx hT hq
  show JJ X E 4 G s0 0 0 [(0, .ref a), (1, .int (zI x1)), (2, .ref o)] 0 []
  refine j_aload_n hx 2 dL_won_0 rfl ?_
  refine j_iconst hx dL_won_1 ?_
  refine j_aload_n hx 0 dL_won_2 rfl ?_
  refine j_iload_n hx 1 dL_won_3 rfl ?_
  refine j_callVH hx hG (c_X11_won hst a x1) lk_RL_61 ha (by decide) rfl rfl rfl rfl [.int (zI x1)] ⟨rfl, hG, hS0, ha, (by omega)⟩ rfl rfl ⟨by decide, by decide⟩ ⟨by decide, by decide⟩ (k2 := 1) (n2 := 6) rfl rfl (Nat.le_of_ble_eq_true rfl) dL_won_4 ?_ ?_
  · rintro Ex9 G9 s9 ⟨rfl, hS9, hF9, h9⟩
    obtain ⟨e9, c9⟩ := h9
    · subst e9
      refine ⟨_, ZH1 hx (x := { startPc := 0, endPc := 9, handlerPc := 12, catchType := 19 }) (hT.trans rfl) rfl (by decide) kl_RL_19 cast_N, fun q9 => ?_⟩
      refine j_astore_n hx [(3, .ref q9), (0, .ref a), (1, .int (zI x1)), (2, .ref o)] dL_won_12 (by decide) rfl ?_
      refine j_iconst hx dL_won_13 ?_
      exact j_iret hx hq rfl (by decide) (by decide) dL_won_14 ⟨1, rfl, rfl, hS9, zFr_t zFr_rf hF9 (by decide), ⟨by decide, by decide⟩, trivial⟩
  · refine kIP (fun r1 q1 => ?_)
    refine j_i2l hx dL_won_7 (by omega) ?_
    refine j_last hx hG ho (by decide) rfl (zlen hG ho (n := 1) rfl rfl) (by omega) (by omega) (j := 0) rfl dL_won_8 ?_
    obtain ⟨s2, e_s2⟩ : ∃ z, z = zU s0 o 0 r1 := ⟨_, rfl⟩
    rw [← e_s2]
    have hS_s2 : zSK G s2 := by rw [e_s2]; exact zSK_A hS0 ho rfl rfl rfl (by omega)
    refine j_goto hx 15 dL_won_9 rfl ?_
    refine j_iconst hx dL_won_15 ?_
    exact j_iret hx hq rfl (by decide) (by decide) dL_won_16 ⟨0, rfl, rfl, hS_s2, (zFr_u zFr_rf e_s2 ho (by decide)), ⟨by decide, by decide⟩, trivial⟩

theorem lk_RL_64 : LkV RL 64 RX11 yX11_ends cX11_ends 2 (some .int) 1 := ⟨km_RL_64, ki_yX11_ends, ks_RX11_yX11_ends, kn_RX11, kc_yX11_ends, rfl, by decide +kernel, by decide +kernel, by decide +kernel⟩
set_option maxHeartbeats 4000000 in
set_option maxRecDepth 20000 in
theorem c_L_ends {E : zE} {l : Launch} (hst : l.stackTraces = false) (a : Nat) (x1 : Int) (o : Nat) : ConH E l yL_ends cL_ends 4 (some .int) [(0, 9, 12, 13)] { frames := 8, cells := 1, slots := 6, locals := 187 } (fun G s vs => vs = [.ref a, .int (zI x1), .ref o] ∧ zGK G ∧ zSK G s ∧ (gT G a = 12) ∧ (-2147483648 ≤ x1 ∧ x1 ≤ 2147483647) ∧ (gT G o = 120)) (fun G s _ => pI (fun r G2 s2 => G2 = G ∧ zSK G2 s2 ∧ zFr [1, 3, 4, 7, 12, 41, 44, 49, 50, 51, 52, 53, 54, 55, 120] G s s2 ∧ (0 ≤ r ∧ r ≤ 2) ∧ (True))) := by
  refine ConH.mk hst (by decide) (fun G s vs h => by rw [h.1]; exact Nat.le_of_ble_eq_true rfl) ?_
  rintro X G s0 vs ⟨rfl, hG, hS0, ha, hx1, ho⟩ rfl hx hT hq
  show JJ X E 4 G s0 0 0 [(0, .ref a), (1, .int (zI x1)), (2, .ref o)] 0 []
  refine j_aload_n hx 2 dL_ends_0 rfl ?_
  refine j_iconst hx dL_ends_1 ?_
  refine j_aload_n hx 0 dL_ends_2 rfl ?_
  refine j_iload_n hx 1 dL_ends_3 rfl ?_
  refine j_callVH hx hG (c_X11_ends hst a x1) lk_RL_64 ha (by decide) rfl rfl rfl rfl [.int (zI x1)] ⟨rfl, hG, hS0, ha, (by omega)⟩ rfl rfl ⟨by decide, by decide⟩ ⟨by decide, by decide⟩ (k2 := 1) (n2 := 6) rfl rfl (Nat.le_of_ble_eq_true rfl) dL_ends_4 ?_ ?_
  · rintro Ex9 G9 s9 ⟨rfl, hS9, hF9, h9⟩
    obtain ⟨e9, c9⟩ := h9
    · subst e9
      refine ⟨_, ZH1 hx (x := { startPc := 0, endPc := 9, handlerPc := 12, catchType := 13 }) (hT.trans rfl) rfl (by decide) kl_RL_13 cast_I, fun q9 => ?_⟩
      refine j_astore_n hx [(3, .ref q9), (0, .ref a), (1, .int (zI x1)), (2, .ref o)] dL_ends_12 (by decide) rfl ?_
      refine j_iconst hx dL_ends_13 ?_
      exact j_iret hx hq rfl (by decide) (by decide) dL_ends_14 ⟨1, rfl, rfl, hS9, zFr_t zFr_rf hF9 (by decide), ⟨by decide, by decide⟩, trivial⟩
  · refine kIM (fun r1 s1 hS_s1 hF_s1 q1 => ?_)
    refine j_i2l hx dL_ends_7 (by omega) ?_
    refine j_last hx hG ho (by decide) rfl (zlen hG ho (n := 1) rfl rfl) (by omega) (by omega) (j := 0) rfl dL_ends_8 ?_
    obtain ⟨s2, e_s2⟩ : ∃ z, z = zU s1 o 0 r1 := ⟨_, rfl⟩
    rw [← e_s2]
    have hS_s2 : zSK G s2 := by rw [e_s2]; exact zSK_A hS_s1 ho rfl rfl rfl (by omega)
    refine j_goto hx 15 dL_ends_9 rfl ?_
    refine j_iconst hx dL_ends_15 ?_
    exact j_iret hx hq rfl (by decide) (by decide) dL_ends_16 ⟨0, rfl, rfl, hS_s2, (zFr_u (zFr_t zFr_rf hF_s1 (by decide)) e_s2 ho (by decide)), ⟨by decide, by decide⟩, trivial⟩

theorem lk_RL_67 : LkV RL 67 RX11 yX11_chance cX11_chance 9 (some .int) 3 := ⟨km_RL_67, ki_yX11_chance, ks_RX11_yX11_chance, kn_RX11, kc_yX11_chance, rfl, by decide +kernel, by decide +kernel, by decide +kernel⟩
set_option maxHeartbeats 4000000 in
set_option maxRecDepth 20000 in
theorem c_L_chance {E : zE} {l : Launch} (hst : l.stackTraces = false) (a : Nat) (x1 : Int) (x2 : Int) (x3 : Int) (o : Nat) : ConH E l yL_chance cL_chance 6 (some .int) [(0, 12, 15, 19), (0, 12, 19, 13)] { frames := 8, cells := 3, slots := 18, locals := 141 } (fun G s vs => vs = [.ref a, .int (zI x1), .int (zI x2), .int (zI x3), .ref o] ∧ zGK G ∧ zSK G s ∧ (gT G a = 12) ∧ (-2147483648 ≤ x1 ∧ x1 ≤ 2147483647) ∧ (-2147483648 ≤ x2 ∧ x2 ≤ 2147483647) ∧ (-2147483648 ≤ x3 ∧ x3 ≤ 2147483647) ∧ (gT G o = 120)) (fun G s _ => pI (fun r G2 s2 => G2 = G ∧ zSK G2 s2 ∧ zFr [12, 120] G s s2 ∧ (0 ≤ r ∧ r ≤ 2) ∧ (True))) := by
  refine ConH.mk hst (by decide) (fun G s vs h => by rw [h.1]; exact Nat.le_of_ble_eq_true rfl) ?_
  rintro X G s0 vs ⟨rfl, hG, hS0, ha, hx1, hx2, hx3, ho⟩ rfl hx hT hq
  show JJ X E 6 G s0 0 0 [(0, .ref a), (1, .int (zI x1)), (2, .int (zI x2)), (3, .int (zI x3)), (4, .ref o)] 0 []
  refine j_aload hx 4 dL_chance_0 rfl ?_
  refine j_iconst hx dL_chance_2 ?_
  refine j_aload_n hx 0 dL_chance_3 rfl ?_
  refine j_iload_n hx 1 dL_chance_4 rfl ?_
  refine j_iload_n hx 2 dL_chance_5 rfl ?_
  refine j_iload_n hx 3 dL_chance_6 rfl ?_
  refine j_callVH hx hG (c_X11_chance hst a x1 x2 x3) lk_RL_67 ha (by decide) rfl rfl rfl rfl [.int (zI x1), .int (zI x2), .int (zI x3)] ⟨rfl, hG, hS0, ha, (by omega), (by omega), (by omega)⟩ rfl rfl ⟨by decide, by decide⟩ ⟨by decide, by decide⟩ (k2 := 3) (n2 := 18) rfl rfl (Nat.le_of_ble_eq_true rfl) dL_chance_7 ?_ ?_
  · rintro Ex9 G9 s9 ⟨rfl, hS9, hF9, h9⟩
    rcases h9 with ⟨e9, c9⟩ | ⟨e9, c9⟩
    · subst e9
      refine ⟨_, ZH2 hx (x1 := { startPc := 0, endPc := 12, handlerPc := 15, catchType := 19 }) (x := { startPc := 0, endPc := 12, handlerPc := 19, catchType := 13 }) (hT.trans rfl) (by decide) kl_RL_19 hx.2.2.2.2.2.1.2.2.2.2.2.2.2.2.2 rfl (by decide) kl_RL_13 cast_I, fun q9 => ?_⟩
      refine j_astore hx [(5, .ref q9), (0, .ref a), (1, .int (zI x1)), (2, .int (zI x2)), (3, .int (zI x3)), (4, .ref o)] dL_chance_19 (by decide) rfl ?_
      refine j_iconst hx dL_chance_21 ?_
      exact j_iret hx hq rfl (by decide) (by decide) dL_chance_22 ⟨2, rfl, rfl, hS9, zFr_t zFr_rf hF9 (by decide), ⟨by decide, by decide⟩, trivial⟩
    · subst e9
      refine ⟨_, ZH1 hx (x := { startPc := 0, endPc := 12, handlerPc := 15, catchType := 19 }) (hT.trans rfl) rfl (by decide) kl_RL_19 cast_N, fun q9 => ?_⟩
      refine j_astore hx [(5, .ref q9), (0, .ref a), (1, .int (zI x1)), (2, .int (zI x2)), (3, .int (zI x3)), (4, .ref o)] dL_chance_15 (by decide) rfl ?_
      refine j_iconst hx dL_chance_17 ?_
      exact j_iret hx hq rfl (by decide) (by decide) dL_chance_18 ⟨1, rfl, rfl, hS9, zFr_t zFr_rf hF9 (by decide), ⟨by decide, by decide⟩, trivial⟩
  · refine kIP (fun r1 q1 => ?_)
    refine j_i2l hx dL_chance_10 (by omega) ?_
    refine j_last hx hG ho (by decide) rfl (zlen hG ho (n := 1) rfl rfl) (by omega) (by omega) (j := 0) rfl dL_chance_11 ?_
    obtain ⟨s2, e_s2⟩ : ∃ z, z = zU s0 o 0 r1 := ⟨_, rfl⟩
    rw [← e_s2]
    have hS_s2 : zSK G s2 := by rw [e_s2]; exact zSK_A hS0 ho rfl rfl rfl (by omega)
    refine j_goto hx 23 dL_chance_12 rfl ?_
    refine j_iconst hx dL_chance_23 ?_
    exact j_iret hx hq rfl (by decide) (by decide) dL_chance_24 ⟨0, rfl, rfl, hS_s2, (zFr_u zFr_rf e_s2 ho (by decide)), ⟨by decide, by decide⟩, trivial⟩

theorem lk_RL_71 : LkV RL 71 RX11 yX11_waits cX11_waits 7 (some .int) 4 := ⟨km_RL_71, ki_yX11_waits, ks_RX11_yX11_waits, kn_RX11, kc_yX11_waits, rfl, by decide +kernel, by decide +kernel, by decide +kernel⟩
set_option maxHeartbeats 4000000 in
set_option maxRecDepth 20000 in
theorem c_L_waits {E : zE} {l : Launch} (hst : l.stackTraces = false) (a : Nat) (x1 : Int) (x2 : Int) (x3 : Int) (x4 : Int) (o : Nat) : ConH E l yL_waits cL_waits 7 (some .int) [(0, 14, 17, 13)] { frames := 9, cells := 4, slots := 24, locals := 163 } (fun G s vs => vs = [.ref a, .int (zI x1), .int (zI x2), .int (zI x3), .int (zI x4), .ref o] ∧ zGK G ∧ zSK G s ∧ (gT G a = 12) ∧ (-2147483648 ≤ x1 ∧ x1 ≤ 2147483647) ∧ (-2147483648 ≤ x2 ∧ x2 ≤ 2147483647) ∧ (-2147483648 ≤ x3 ∧ x3 ≤ 2147483647) ∧ (-2147483648 ≤ x4 ∧ x4 ≤ 2147483647) ∧ (gT G o = 120)) (fun G s _ => pI (fun r G2 s2 => G2 = G ∧ zSK G2 s2 ∧ zFr [12, 120] G s s2 ∧ (0 ≤ r ∧ r ≤ 2) ∧ (((1 ≤ x2 ∧ x2 ≤ 99 ∧ 0 ≤ x1 ∧ x1 ≤ x2 ∧ 0 ≤ x3 ∧ x3 ≤ 99 ∧ 0 ≤ x4 ∧ x4 ≤ 99) → r = 0 ∧ 0 ≤ s2 o 0 ∧ s2 o 0 ≤ 17 ∧ ((s2 o 0 ≤ 16 → 16 * (x1 * x3 - (x2 - x1) * x4) ≤ s2 o 0 * (x1 * x3))) ∧ ((1 ≤ s2 o 0 → (s2 o 0 - 1) * (x1 * x3) < 16 * (x1 * x3 - (x2 - x1) * x4)))) ∧ (¬ (1 ≤ x2 ∧ x2 ≤ 99 ∧ 0 ≤ x1 ∧ x1 ≤ x2 ∧ 0 ≤ x3 ∧ x3 ≤ 99 ∧ 0 ≤ x4 ∧ x4 ≤ 99) → r = 1)))) := by
  refine ConH.mk hst (by decide) (fun G s vs h => by rw [h.1]; exact Nat.le_of_ble_eq_true rfl) ?_
  rintro X G s0 vs ⟨rfl, hG, hS0, ha, hx1, hx2, hx3, hx4, ho⟩ rfl hx hT hq
  show JJ X E 7 G s0 0 0 [(0, .ref a), (1, .int (zI x1)), (2, .int (zI x2)), (3, .int (zI x3)), (4, .int (zI x4)), (5, .ref o)] 0 []
  refine j_aload hx 5 dL_waits_0 rfl ?_
  refine j_iconst hx dL_waits_2 ?_
  refine j_aload_n hx 0 dL_waits_3 rfl ?_
  refine j_iload_n hx 1 dL_waits_4 rfl ?_
  refine j_iload_n hx 2 dL_waits_5 rfl ?_
  refine j_iload_n hx 3 dL_waits_6 rfl ?_
  refine j_iload hx 4 dL_waits_7 rfl ?_
  refine j_callVH hx hG (c_X11_waits_x hst a x1 x2 x3 x4) lk_RL_71 ha (by decide) rfl rfl rfl rfl [.int (zI x1), .int (zI x2), .int (zI x3), .int (zI x4)] ⟨rfl, hG, hS0, ha, (by omega), (by omega), (by omega), (by omega)⟩ rfl rfl ⟨by decide, by decide⟩ ⟨by decide, by decide⟩ (k2 := 4) (n2 := 24) rfl rfl (Nat.le_of_ble_eq_true rfl) dL_waits_9 ?_ ?_
  · rintro Ex9 G9 s9 ⟨rfl, hS9, hF9, h9⟩
    obtain ⟨e9, c9⟩ := h9
    · subst e9
      refine ⟨_, ZH1 hx (x := { startPc := 0, endPc := 14, handlerPc := 17, catchType := 13 }) (hT.trans rfl) rfl (by decide) kl_RL_13 cast_I, fun q9 => ?_⟩
      refine j_astore hx [(6, .ref q9), (0, .ref a), (1, .int (zI x1)), (2, .int (zI x2)), (3, .int (zI x3)), (4, .int (zI x4)), (5, .ref o)] dL_waits_17 (by decide) rfl ?_
      refine j_iconst hx dL_waits_19 ?_
      exact j_iret hx hq rfl (by decide) (by decide) dL_waits_20 ⟨1, rfl, rfl, hS9, zFr_t zFr_rf hF9 (by decide), ⟨by decide, by decide⟩, by omega⟩
  · refine kIP (fun r1 q1 => ?_)
    refine j_i2l hx dL_waits_12 (by omega) ?_
    refine j_last hx hG ho (by decide) rfl (zlen hG ho (n := 1) rfl rfl) (by omega) (by omega) (j := 0) rfl dL_waits_13 ?_
    obtain ⟨s2, e_s2⟩ : ∃ z, z = zU s0 o 0 r1 := ⟨_, rfl⟩
    rw [← e_s2]
    have hS_s2 : zSK G s2 := by rw [e_s2]; exact zSK_A hS0 ho rfl rfl rfl (by omega)
    refine j_goto hx 21 dL_waits_14 rfl ?_
    refine j_iconst hx dL_waits_21 ?_
    have g1 : s2 o 0 = r1 := (by rw [e_s2, zU_eq])
    exact j_iret hx hq rfl (by decide) (by decide) dL_waits_22 ⟨0, rfl, rfl, hS_s2, (zFr_u zFr_rf e_s2 ho (by decide)), ⟨by decide, by decide⟩, by rw [g1]; omega⟩

theorem lk_RL_75 : LkV RL 75 RX11 yX11_ahead cX11_ahead 5 (some .int) 4 := ⟨km_RL_75, ki_yX11_ahead, ks_RX11_yX11_ahead, kn_RX11, kc_yX11_ahead, rfl, by decide +kernel, by decide +kernel, by decide +kernel⟩
set_option maxHeartbeats 4000000 in
set_option maxRecDepth 20000 in
theorem c_L_ahead {E : zE} {l : Launch} (hst : l.stackTraces = false) (a : Nat) (x1 : Int) (x2 : Int) (x3 : Int) (x4 : Int) (o : Nat) : ConH E l yL_ahead cL_ahead 7 (some .int) [(0, 14, 17, 13)] { frames := 9, cells := 4, slots := 24, locals := 161 } (fun G s vs => vs = [.ref a, .int (zI x1), .int (zI x2), .int (zI x3), .int (zI x4), .ref o] ∧ zGK G ∧ zSK G s ∧ (gT G a = 12) ∧ (-2147483648 ≤ x1 ∧ x1 ≤ 2147483647) ∧ (-2147483648 ≤ x2 ∧ x2 ≤ 2147483647) ∧ (-2147483648 ≤ x3 ∧ x3 ≤ 2147483647) ∧ (-2147483648 ≤ x4 ∧ x4 ≤ 2147483647) ∧ (gT G o = 120)) (fun G s _ => pI (fun r G2 s2 => G2 = G ∧ zSK G2 s2 ∧ zFr [12, 120] G s s2 ∧ (0 ≤ r ∧ r ≤ 2) ∧ (((1 ≤ x2 ∧ x2 ≤ 99 ∧ 0 ≤ x1 ∧ x1 ≤ x2 ∧ 0 ≤ x3 ∧ x3 ≤ 99 ∧ 0 ≤ x4 ∧ x4 ≤ 99) → r = 0 ∧ (-9801) ≤ s2 o 0 ∧ s2 o 0 ≤ 9801 ∧ (s2 o 0 = x1 * x3 - (x2 - x1) * x4)) ∧ (¬ (1 ≤ x2 ∧ x2 ≤ 99 ∧ 0 ≤ x1 ∧ x1 ≤ x2 ∧ 0 ≤ x3 ∧ x3 ≤ 99 ∧ 0 ≤ x4 ∧ x4 ≤ 99) → r = 1)))) := by
  refine ConH.mk hst (by decide) (fun G s vs h => by rw [h.1]; exact Nat.le_of_ble_eq_true rfl) ?_
  rintro X G s0 vs ⟨rfl, hG, hS0, ha, hx1, hx2, hx3, hx4, ho⟩ rfl hx hT hq
  show JJ X E 7 G s0 0 0 [(0, .ref a), (1, .int (zI x1)), (2, .int (zI x2)), (3, .int (zI x3)), (4, .int (zI x4)), (5, .ref o)] 0 []
  refine j_aload hx 5 dL_ahead_0 rfl ?_
  refine j_iconst hx dL_ahead_2 ?_
  refine j_aload_n hx 0 dL_ahead_3 rfl ?_
  refine j_iload_n hx 1 dL_ahead_4 rfl ?_
  refine j_iload_n hx 2 dL_ahead_5 rfl ?_
  refine j_iload_n hx 3 dL_ahead_6 rfl ?_
  refine j_iload hx 4 dL_ahead_7 rfl ?_
  refine j_callVH hx hG (c_X11_ahead_x hst a x1 x2 x3 x4) lk_RL_75 ha (by decide) rfl rfl rfl rfl [.int (zI x1), .int (zI x2), .int (zI x3), .int (zI x4)] ⟨rfl, hG, hS0, ha, (by omega), (by omega), (by omega), (by omega)⟩ rfl rfl ⟨by decide, by decide⟩ ⟨by decide, by decide⟩ (k2 := 4) (n2 := 24) rfl rfl (Nat.le_of_ble_eq_true rfl) dL_ahead_9 ?_ ?_
  · rintro Ex9 G9 s9 ⟨rfl, hS9, hF9, h9⟩
    obtain ⟨e9, c9⟩ := h9
    · subst e9
      refine ⟨_, ZH1 hx (x := { startPc := 0, endPc := 14, handlerPc := 17, catchType := 13 }) (hT.trans rfl) rfl (by decide) kl_RL_13 cast_I, fun q9 => ?_⟩
      refine j_astore hx [(6, .ref q9), (0, .ref a), (1, .int (zI x1)), (2, .int (zI x2)), (3, .int (zI x3)), (4, .int (zI x4)), (5, .ref o)] dL_ahead_17 (by decide) rfl ?_
      refine j_iconst hx dL_ahead_19 ?_
      exact j_iret hx hq rfl (by decide) (by decide) dL_ahead_20 ⟨1, rfl, rfl, hS9, zFr_t zFr_rf hF9 (by decide), ⟨by decide, by decide⟩, by omega⟩
  · refine kIP (fun r1 q1 => ?_)
    refine j_i2l hx dL_ahead_12 (by omega) ?_
    refine j_last hx hG ho (by decide) rfl (zlen hG ho (n := 1) rfl rfl) (by omega) (by omega) (j := 0) rfl dL_ahead_13 ?_
    obtain ⟨s2, e_s2⟩ : ∃ z, z = zU s0 o 0 r1 := ⟨_, rfl⟩
    rw [← e_s2]
    have hS_s2 : zSK G s2 := by rw [e_s2]; exact zSK_A hS0 ho rfl rfl rfl (by omega)
    refine j_goto hx 21 dL_ahead_14 rfl ?_
    refine j_iconst hx dL_ahead_21 ?_
    have g1 : s2 o 0 = r1 := (by rw [e_s2, zU_eq])
    exact j_iret hx hq rfl (by decide) (by decide) dL_ahead_22 ⟨0, rfl, rfl, hS_s2, (zFr_u zFr_rf e_s2 ho (by decide)), ⟨by decide, by decide⟩, by rw [g1]; omega⟩

theorem lk_RL_78 : LkV RL 78 RX11 yX11_moments cX11_moments 4 (some .int) 3 := ⟨km_RL_78, ki_yX11_moments, ks_RX11_yX11_moments, kn_RX11, kc_yX11_moments, rfl, by decide +kernel, by decide +kernel, by decide +kernel⟩
set_option maxHeartbeats 4000000 in
set_option maxRecDepth 20000 in
theorem c_L_moments {E : zE} {l : Launch} (hst : l.stackTraces = false) (a : Nat) (x1 : Int) (x2 : Int) (x3 : Int) (o : Nat) : ConH E l yL_moments cL_moments 6 (some .int) [(0, 12, 15, 13)] { frames := 8, cells := 3, slots := 18, locals := 136 } (fun G s vs => vs = [.ref a, .int (zI x1), .int (zI x2), .int (zI x3), .ref o] ∧ zGK G ∧ zSK G s ∧ (gT G a = 12) ∧ (-2147483648 ≤ x1 ∧ x1 ≤ 2147483647) ∧ (-2147483648 ≤ x2 ∧ x2 ≤ 2147483647) ∧ (-2147483648 ≤ x3 ∧ x3 ≤ 2147483647) ∧ (gT G o = 120)) (fun G s _ => pI (fun r G2 s2 => G2 = G ∧ zSK G2 s2 ∧ zFr [12, 120] G s s2 ∧ (0 ≤ r ∧ r ≤ 2) ∧ (True))) := by
  refine ConH.mk hst (by decide) (fun G s vs h => by rw [h.1]; exact Nat.le_of_ble_eq_true rfl) ?_
  rintro X G s0 vs ⟨rfl, hG, hS0, ha, hx1, hx2, hx3, ho⟩ rfl hx hT hq
  show JJ X E 6 G s0 0 0 [(0, .ref a), (1, .int (zI x1)), (2, .int (zI x2)), (3, .int (zI x3)), (4, .ref o)] 0 []
  refine j_aload hx 4 dL_moments_0 rfl ?_
  refine j_iconst hx dL_moments_2 ?_
  refine j_aload_n hx 0 dL_moments_3 rfl ?_
  refine j_iload_n hx 1 dL_moments_4 rfl ?_
  refine j_iload_n hx 2 dL_moments_5 rfl ?_
  refine j_iload_n hx 3 dL_moments_6 rfl ?_
  refine j_callVH hx hG (c_X11_moments hst a x1 x2 x3) lk_RL_78 ha (by decide) rfl rfl rfl rfl [.int (zI x1), .int (zI x2), .int (zI x3)] ⟨rfl, hG, hS0, ha, (by omega), (by omega), (by omega)⟩ rfl rfl ⟨by decide, by decide⟩ ⟨by decide, by decide⟩ (k2 := 3) (n2 := 18) rfl rfl (Nat.le_of_ble_eq_true rfl) dL_moments_7 ?_ ?_
  · rintro Ex9 G9 s9 ⟨rfl, hS9, hF9, h9⟩
    obtain ⟨e9, c9⟩ := h9
    · subst e9
      refine ⟨_, ZH1 hx (x := { startPc := 0, endPc := 12, handlerPc := 15, catchType := 13 }) (hT.trans rfl) rfl (by decide) kl_RL_13 cast_I, fun q9 => ?_⟩
      refine j_astore hx [(5, .ref q9), (0, .ref a), (1, .int (zI x1)), (2, .int (zI x2)), (3, .int (zI x3)), (4, .ref o)] dL_moments_15 (by decide) rfl ?_
      refine j_iconst hx dL_moments_17 ?_
      exact j_iret hx hq rfl (by decide) (by decide) dL_moments_18 ⟨1, rfl, rfl, hS9, zFr_t zFr_rf hF9 (by decide), ⟨by decide, by decide⟩, trivial⟩
  · refine kIP (fun r1 q1 => ?_)
    refine j_i2l hx dL_moments_10 (by omega) ?_
    refine j_last hx hG ho (by decide) rfl (zlen hG ho (n := 1) rfl rfl) (by omega) (by omega) (j := 0) rfl dL_moments_11 ?_
    obtain ⟨s2, e_s2⟩ : ∃ z, z = zU s0 o 0 r1 := ⟨_, rfl⟩
    rw [← e_s2]
    have hS_s2 : zSK G s2 := by rw [e_s2]; exact zSK_A hS0 ho rfl rfl rfl (by omega)
    refine j_goto hx 19 dL_moments_12 rfl ?_
    refine j_iconst hx dL_moments_19 ?_
    exact j_iret hx hq rfl (by decide) (by decide) dL_moments_20 ⟨0, rfl, rfl, hS_s2, (zFr_u zFr_rf e_s2 ho (by decide)), ⟨by decide, by decide⟩, trivial⟩

theorem lk_RL_81 : LkV RL 81 RX11 yX11_rests cX11_rests 7 (some .int) 2 := ⟨km_RL_81, ki_yX11_rests, ks_RX11_yX11_rests, kn_RX11, kc_yX11_rests, rfl, by decide +kernel, by decide +kernel, by decide +kernel⟩
set_option maxHeartbeats 4000000 in
set_option maxRecDepth 20000 in
theorem c_L_rests {E : zE} {l : Launch} (hst : l.stackTraces = false) (a : Nat) (x1 : Int) (x2 : Int) (o : Nat) : ConH E l yL_rests cL_rests 5 (some .int) [(0, 10, 13, 13)] { frames := 8, cells := 2, slots := 12, locals := 139 } (fun G s vs => vs = [.ref a, .int (zI x1), .int (zI x2), .ref o] ∧ zGK G ∧ zSK G s ∧ (gT G a = 12) ∧ (-2147483648 ≤ x1 ∧ x1 ≤ 2147483647) ∧ (-2147483648 ≤ x2 ∧ x2 ≤ 2147483647) ∧ (gT G o = 120)) (fun G s _ => pI (fun r G2 s2 => G2 = G ∧ zSK G2 s2 ∧ zFr [12, 120] G s s2 ∧ (0 ≤ r ∧ r ≤ 2) ∧ (True))) := by
  refine ConH.mk hst (by decide) (fun G s vs h => by rw [h.1]; exact Nat.le_of_ble_eq_true rfl) ?_
  rintro X G s0 vs ⟨rfl, hG, hS0, ha, hx1, hx2, ho⟩ rfl hx hT hq
  show JJ X E 5 G s0 0 0 [(0, .ref a), (1, .int (zI x1)), (2, .int (zI x2)), (3, .ref o)] 0 []
  refine j_aload_n hx 3 dL_rests_0 rfl ?_
  refine j_iconst hx dL_rests_1 ?_
  refine j_aload_n hx 0 dL_rests_2 rfl ?_
  refine j_iload_n hx 1 dL_rests_3 rfl ?_
  refine j_iload_n hx 2 dL_rests_4 rfl ?_
  refine j_callVH hx hG (c_X11_rests hst a x1 x2) lk_RL_81 ha (by decide) rfl rfl rfl rfl [.int (zI x1), .int (zI x2)] ⟨rfl, hG, hS0, ha, (by omega), (by omega)⟩ rfl rfl ⟨by decide, by decide⟩ ⟨by decide, by decide⟩ (k2 := 2) (n2 := 12) rfl rfl (Nat.le_of_ble_eq_true rfl) dL_rests_5 ?_ ?_
  · rintro Ex9 G9 s9 ⟨rfl, hS9, hF9, h9⟩
    obtain ⟨e9, c9⟩ := h9
    · subst e9
      refine ⟨_, ZH1 hx (x := { startPc := 0, endPc := 10, handlerPc := 13, catchType := 13 }) (hT.trans rfl) rfl (by decide) kl_RL_13 cast_I, fun q9 => ?_⟩
      refine j_astore hx [(4, .ref q9), (0, .ref a), (1, .int (zI x1)), (2, .int (zI x2)), (3, .ref o)] dL_rests_13 (by decide) rfl ?_
      refine j_iconst hx dL_rests_15 ?_
      exact j_iret hx hq rfl (by decide) (by decide) dL_rests_16 ⟨1, rfl, rfl, hS9, zFr_t zFr_rf hF9 (by decide), ⟨by decide, by decide⟩, trivial⟩
  · refine kIP (fun r1 q1 => ?_)
    refine j_i2l hx dL_rests_8 (by omega) ?_
    refine j_last hx hG ho (by decide) rfl (zlen hG ho (n := 1) rfl rfl) (by omega) (by omega) (j := 0) rfl dL_rests_9 ?_
    obtain ⟨s2, e_s2⟩ : ∃ z, z = zU s0 o 0 r1 := ⟨_, rfl⟩
    rw [← e_s2]
    have hS_s2 : zSK G s2 := by rw [e_s2]; exact zSK_A hS0 ho rfl rfl rfl (by omega)
    refine j_goto hx 17 dL_rests_10 rfl ?_
    refine j_iconst hx dL_rests_17 ?_
    exact j_iret hx hq rfl (by decide) (by decide) dL_rests_18 ⟨0, rfl, rfl, hS_s2, (zFr_u zFr_rf e_s2 ho (by decide)), ⟨by decide, by decide⟩, trivial⟩

theorem lk_RL_84 : LkV RL 84 RX11 yX11_remember cX11_remember 4 (some .int) 3 := ⟨km_RL_84, ki_yX11_remember, ks_RX11_yX11_remember, kn_RX11, kc_yX11_remember, rfl, by decide +kernel, by decide +kernel, by decide +kernel⟩
set_option maxHeartbeats 4000000 in
set_option maxRecDepth 20000 in
theorem c_L_remember {E : zE} {l : Launch} (hst : l.stackTraces = false) (a : Nat) (x1 : Int) (x2 : Int) (x3 : Int) (o : Nat) : ConH E l yL_remember cL_remember 6 (some .int) [(0, 12, 15, 19), (0, 12, 19, 13)] { frames := 18, cells := 3, slots := 18, locals := 457 } (fun G s vs => vs = [.ref a, .int (zI x1), .int (zI x2), .int (zI x3), .ref o] ∧ zGK G ∧ zSK G s ∧ (gT G a = 12) ∧ (-2147483648 ≤ x1 ∧ x1 ≤ 2147483647) ∧ (-2147483648 ≤ x2 ∧ x2 ≤ 2147483647) ∧ (-2147483648 ≤ x3 ∧ x3 ≤ 2147483647) ∧ (gT G o = 120)) (fun G s _ => pI (fun r G2 s2 => G2 = G ∧ zSK G2 s2 ∧ zFr [1, 7, 11, 12, 41, 120] G s s2 ∧ (0 ≤ r ∧ r ≤ 2) ∧ (True))) := by
  refine ConH.mk hst (by decide) (fun G s vs h => by rw [h.1]; exact Nat.le_of_ble_eq_true rfl) ?_
  rintro X G s0 vs ⟨rfl, hG, hS0, ha, hx1, hx2, hx3, ho⟩ rfl hx hT hq
  show JJ X E 6 G s0 0 0 [(0, .ref a), (1, .int (zI x1)), (2, .int (zI x2)), (3, .int (zI x3)), (4, .ref o)] 0 []
  refine j_aload hx 4 dL_remember_0 rfl ?_
  refine j_iconst hx dL_remember_2 ?_
  refine j_aload_n hx 0 dL_remember_3 rfl ?_
  refine j_iload_n hx 1 dL_remember_4 rfl ?_
  refine j_iload_n hx 2 dL_remember_5 rfl ?_
  refine j_iload_n hx 3 dL_remember_6 rfl ?_
  refine j_callVH hx hG (c_X11_remember hst a x1 x2 x3) lk_RL_84 ha (by decide) rfl rfl rfl rfl [.int (zI x1), .int (zI x2), .int (zI x3)] ⟨rfl, hG, hS0, ha, (by omega), (by omega), (by omega)⟩ rfl rfl ⟨by decide, by decide⟩ ⟨by decide, by decide⟩ (k2 := 3) (n2 := 18) rfl rfl (Nat.le_of_ble_eq_true rfl) dL_remember_7 ?_ ?_
  · rintro Ex9 G9 s9 ⟨rfl, hS9, hF9, h9⟩
    rcases h9 with ⟨e9, c9⟩ | ⟨e9, c9⟩
    · subst e9
      refine ⟨_, ZH2 hx (x1 := { startPc := 0, endPc := 12, handlerPc := 15, catchType := 19 }) (x := { startPc := 0, endPc := 12, handlerPc := 19, catchType := 13 }) (hT.trans rfl) (by decide) kl_RL_19 hx.2.2.2.2.2.1.2.2.2.2.2.2.2.2.2 rfl (by decide) kl_RL_13 cast_I, fun q9 => ?_⟩
      refine j_astore hx [(5, .ref q9), (0, .ref a), (1, .int (zI x1)), (2, .int (zI x2)), (3, .int (zI x3)), (4, .ref o)] dL_remember_19 (by decide) rfl ?_
      refine j_iconst hx dL_remember_21 ?_
      exact j_iret hx hq rfl (by decide) (by decide) dL_remember_22 ⟨2, rfl, rfl, hS9, zFr_t zFr_rf hF9 (by decide), ⟨by decide, by decide⟩, trivial⟩
    · subst e9
      refine ⟨_, ZH1 hx (x := { startPc := 0, endPc := 12, handlerPc := 15, catchType := 19 }) (hT.trans rfl) rfl (by decide) kl_RL_19 cast_N, fun q9 => ?_⟩
      refine j_astore hx [(5, .ref q9), (0, .ref a), (1, .int (zI x1)), (2, .int (zI x2)), (3, .int (zI x3)), (4, .ref o)] dL_remember_15 (by decide) rfl ?_
      refine j_iconst hx dL_remember_17 ?_
      exact j_iret hx hq rfl (by decide) (by decide) dL_remember_18 ⟨1, rfl, rfl, hS9, zFr_t zFr_rf hF9 (by decide), ⟨by decide, by decide⟩, trivial⟩
  · refine kIM (fun r1 s1 hS_s1 hF_s1 q1 => ?_)
    refine j_i2l hx dL_remember_10 (by omega) ?_
    refine j_last hx hG ho (by decide) rfl (zlen hG ho (n := 1) rfl rfl) (by omega) (by omega) (j := 0) rfl dL_remember_11 ?_
    obtain ⟨s2, e_s2⟩ : ∃ z, z = zU s1 o 0 r1 := ⟨_, rfl⟩
    rw [← e_s2]
    have hS_s2 : zSK G s2 := by rw [e_s2]; exact zSK_A hS_s1 ho rfl rfl rfl (by omega)
    refine j_goto hx 23 dL_remember_12 rfl ?_
    refine j_iconst hx dL_remember_23 ?_
    exact j_iret hx hq rfl (by decide) (by decide) dL_remember_24 ⟨0, rfl, rfl, hS_s2, (zFr_u (zFr_t zFr_rf hF_s1 (by decide)) e_s2 ho (by decide)), ⟨by decide, by decide⟩, trivial⟩

theorem lk_RL_87 : LkV RL 87 RX11 yX11_odds cX11_odds 4 (some .long) 3 := ⟨km_RL_87, ki_yX11_odds, ks_RX11_yX11_odds, kn_RX11, kc_yX11_odds, rfl, by decide +kernel, by decide +kernel, by decide +kernel⟩
set_option maxHeartbeats 4000000 in
set_option maxRecDepth 20000 in
theorem c_L_odds {E : zE} {l : Launch} (hst : l.stackTraces = false) (a : Nat) (x1 : Int) (x2 : Int) (x3 : Int) (o : Nat) : ConH E l yL_odds cL_odds 6 (some .int) [(0, 11, 14, 19), (0, 11, 18, 13)] { frames := 18, cells := 3, slots := 18, locals := 483 } (fun G s vs => vs = [.ref a, .int (zI x1), .int (zI x2), .int (zI x3), .ref o] ∧ zGK G ∧ zSK G s ∧ (gT G a = 12) ∧ (-2147483648 ≤ x1 ∧ x1 ≤ 2147483647) ∧ (-2147483648 ≤ x2 ∧ x2 ≤ 2147483647) ∧ (-2147483648 ≤ x3 ∧ x3 ≤ 2147483647) ∧ (gT G o = 120)) (fun G s _ => pI (fun r G2 s2 => G2 = G ∧ zSK G2 s2 ∧ zFr [1, 7, 11, 12, 41, 120] G s s2 ∧ (0 ≤ r ∧ r ≤ 2) ∧ (True))) := by
  refine ConH.mk hst (by decide) (fun G s vs h => by rw [h.1]; exact Nat.le_of_ble_eq_true rfl) ?_
  rintro X G s0 vs ⟨rfl, hG, hS0, ha, hx1, hx2, hx3, ho⟩ rfl hx hT hq
  show JJ X E 6 G s0 0 0 [(0, .ref a), (1, .int (zI x1)), (2, .int (zI x2)), (3, .int (zI x3)), (4, .ref o)] 0 []
  refine j_aload hx 4 dL_odds_0 rfl ?_
  refine j_iconst hx dL_odds_2 ?_
  refine j_aload_n hx 0 dL_odds_3 rfl ?_
  refine j_iload_n hx 1 dL_odds_4 rfl ?_
  refine j_iload_n hx 2 dL_odds_5 rfl ?_
  refine j_iload_n hx 3 dL_odds_6 rfl ?_
  refine j_callVH hx hG (c_X11_odds hst a x1 x2 x3) lk_RL_87 ha (by decide) rfl rfl rfl rfl [.int (zI x1), .int (zI x2), .int (zI x3)] ⟨rfl, hG, hS0, ha, (by omega), (by omega), (by omega)⟩ rfl rfl ⟨by decide, by decide⟩ ⟨by decide, by decide⟩ (k2 := 3) (n2 := 18) rfl rfl (Nat.le_of_ble_eq_true rfl) dL_odds_7 ?_ ?_
  · rintro Ex9 G9 s9 ⟨rfl, hS9, hF9, h9⟩
    rcases h9 with ⟨e9, c9⟩ | ⟨e9, c9⟩
    · subst e9
      refine ⟨_, ZH2 hx (x1 := { startPc := 0, endPc := 11, handlerPc := 14, catchType := 19 }) (x := { startPc := 0, endPc := 11, handlerPc := 18, catchType := 13 }) (hT.trans rfl) (by decide) kl_RL_19 hx.2.2.2.2.2.1.2.2.2.2.2.2.2.2.2 rfl (by decide) kl_RL_13 cast_I, fun q9 => ?_⟩
      refine j_astore hx [(5, .ref q9), (0, .ref a), (1, .int (zI x1)), (2, .int (zI x2)), (3, .int (zI x3)), (4, .ref o)] dL_odds_18 (by decide) rfl ?_
      refine j_iconst hx dL_odds_20 ?_
      exact j_iret hx hq rfl (by decide) (by decide) dL_odds_21 ⟨2, rfl, rfl, hS9, zFr_t zFr_rf hF9 (by decide), ⟨by decide, by decide⟩, trivial⟩
    · subst e9
      refine ⟨_, ZH1 hx (x := { startPc := 0, endPc := 11, handlerPc := 14, catchType := 19 }) (hT.trans rfl) rfl (by decide) kl_RL_19 cast_N, fun q9 => ?_⟩
      refine j_astore hx [(5, .ref q9), (0, .ref a), (1, .int (zI x1)), (2, .int (zI x2)), (3, .int (zI x3)), (4, .ref o)] dL_odds_14 (by decide) rfl ?_
      refine j_iconst hx dL_odds_16 ?_
      exact j_iret hx hq rfl (by decide) (by decide) dL_odds_17 ⟨1, rfl, rfl, hS9, zFr_t zFr_rf hF9 (by decide), ⟨by decide, by decide⟩, trivial⟩
  · refine kLM (fun r1 s1 hS_s1 hF_s1 q1 => ?_)
    refine j_last hx hG ho (by decide) rfl (zlen hG ho (n := 1) rfl rfl) (by omega) (by omega) (j := 0) rfl dL_odds_10 ?_
    obtain ⟨s2, e_s2⟩ : ∃ z, z = zU s1 o 0 r1 := ⟨_, rfl⟩
    rw [← e_s2]
    have hS_s2 : zSK G s2 := by rw [e_s2]; exact zSK_A hS_s1 ho rfl rfl rfl (by omega)
    refine j_goto hx 22 dL_odds_11 rfl ?_
    refine j_iconst hx dL_odds_22 ?_
    exact j_iret hx hq rfl (by decide) (by decide) dL_odds_23 ⟨0, rfl, rfl, hS_s2, (zFr_u (zFr_t zFr_rf hF_s1 (by decide)) e_s2 ho (by decide)), ⟨by decide, by decide⟩, trivial⟩

theorem lk_RL_91 : LkV RL 91 RX11 yX11_lot cX11_lot 9 (some .int) 3 := ⟨km_RL_91, ki_yX11_lot, ks_RX11_yX11_lot, kn_RX11, kc_yX11_lot, rfl, by decide +kernel, by decide +kernel, by decide +kernel⟩
set_option maxHeartbeats 4000000 in
set_option maxRecDepth 20000 in
theorem c_L_lot {E : zE} {l : Launch} (hst : l.stackTraces = false) (a : Nat) (x1 : Int) (x2 : Int) (x3 : Int) (o : Nat) : ConH E l yL_lot cL_lot 6 (some .int) [(0, 12, 15, 13)] { frames := 8, cells := 2, slots := 12, locals := 194 } (fun G s vs => vs = [.ref a, .int (zI x1), .int (zI x2), .int (zI x3), .ref o] ∧ zGK G ∧ zSK G s ∧ (gT G a = 12) ∧ (-2147483648 ≤ x1 ∧ x1 ≤ 2147483647) ∧ (-2147483648 ≤ x2 ∧ x2 ≤ 2147483647) ∧ (-2147483648 ≤ x3 ∧ x3 ≤ 2147483647) ∧ (gT G o = 120)) (fun G s _ => pI (fun r G2 s2 => G2 = G ∧ zSK G2 s2 ∧ zFr [1, 3, 4, 7, 12, 41, 44, 49, 50, 51, 52, 53, 54, 55, 120] G s s2 ∧ (0 ≤ r ∧ r ≤ 2) ∧ (True))) := by
  refine ConH.mk hst (by decide) (fun G s vs h => by rw [h.1]; exact Nat.le_of_ble_eq_true rfl) ?_
  rintro X G s0 vs ⟨rfl, hG, hS0, ha, hx1, hx2, hx3, ho⟩ rfl hx hT hq
  show JJ X E 6 G s0 0 0 [(0, .ref a), (1, .int (zI x1)), (2, .int (zI x2)), (3, .int (zI x3)), (4, .ref o)] 0 []
  refine j_aload hx 4 dL_lot_0 rfl ?_
  refine j_iconst hx dL_lot_2 ?_
  refine j_aload_n hx 0 dL_lot_3 rfl ?_
  refine j_iload_n hx 1 dL_lot_4 rfl ?_
  refine j_iload_n hx 2 dL_lot_5 rfl ?_
  refine j_iload_n hx 3 dL_lot_6 rfl ?_
  refine j_callVH hx hG (c_X11_lot hst a x1 x2 x3) lk_RL_91 ha (by decide) rfl rfl rfl rfl [.int (zI x1), .int (zI x2), .int (zI x3)] ⟨rfl, hG, hS0, ha, (by omega), (by omega), (by omega)⟩ rfl rfl ⟨by decide, by decide⟩ ⟨by decide, by decide⟩ (k2 := 2) (n2 := 12) rfl rfl (Nat.le_of_ble_eq_true rfl) dL_lot_7 ?_ ?_
  · rintro Ex9 G9 s9 ⟨rfl, hS9, hF9, h9⟩
    obtain ⟨e9, c9⟩ := h9
    · subst e9
      refine ⟨_, ZH1 hx (x := { startPc := 0, endPc := 12, handlerPc := 15, catchType := 13 }) (hT.trans rfl) rfl (by decide) kl_RL_13 cast_I, fun q9 => ?_⟩
      refine j_astore hx [(5, .ref q9), (0, .ref a), (1, .int (zI x1)), (2, .int (zI x2)), (3, .int (zI x3)), (4, .ref o)] dL_lot_15 (by decide) rfl ?_
      refine j_iconst hx dL_lot_17 ?_
      exact j_iret hx hq rfl (by decide) (by decide) dL_lot_18 ⟨1, rfl, rfl, hS9, zFr_t zFr_rf hF9 (by decide), ⟨by decide, by decide⟩, trivial⟩
  · refine kIM (fun r1 s1 hS_s1 hF_s1 q1 => ?_)
    refine j_i2l hx dL_lot_10 (by omega) ?_
    refine j_last hx hG ho (by decide) rfl (zlen hG ho (n := 1) rfl rfl) (by omega) (by omega) (j := 0) rfl dL_lot_11 ?_
    obtain ⟨s2, e_s2⟩ : ∃ z, z = zU s1 o 0 r1 := ⟨_, rfl⟩
    rw [← e_s2]
    have hS_s2 : zSK G s2 := by rw [e_s2]; exact zSK_A hS_s1 ho rfl rfl rfl (by omega)
    refine j_goto hx 19 dL_lot_12 rfl ?_
    refine j_iconst hx dL_lot_19 ?_
    exact j_iret hx hq rfl (by decide) (by decide) dL_lot_20 ⟨0, rfl, rfl, hS_s2, (zFr_u (zFr_t zFr_rf hF_s1 (by decide)) e_s2 ho (by decide)), ⟨by decide, by decide⟩, trivial⟩

theorem lk_RL_94 : LkV RL 94 RX11 yX11_film cX11_film 10 (some .int) 5 := ⟨km_RL_94, ki_yX11_film, ks_RX11_yX11_film, kn_RX11, kc_yX11_film, rfl, by decide +kernel, by decide +kernel, by decide +kernel⟩
set_option maxHeartbeats 4000000 in
set_option maxRecDepth 20000 in
theorem c_L_film {E : zE} {l : Launch} (hst : l.stackTraces = false) (a : Nat) (x1 : Int) (x2 : Int) (x3 : Int) (x4 : Int) (x5 : Int) (o : Nat) : ConH E l yL_film cL_film 8 (some .int) [(0, 16, 19, 13)] { frames := 8, cells := 5, slots := 30, locals := 142 } (fun G s vs => vs = [.ref a, .int (zI x1), .int (zI x2), .int (zI x3), .int (zI x4), .int (zI x5), .ref o] ∧ zGK G ∧ zSK G s ∧ (gT G a = 12) ∧ (-2147483648 ≤ x1 ∧ x1 ≤ 2147483647) ∧ (-2147483648 ≤ x2 ∧ x2 ≤ 2147483647) ∧ (-2147483648 ≤ x3 ∧ x3 ≤ 2147483647) ∧ (-2147483648 ≤ x4 ∧ x4 ≤ 2147483647) ∧ (-2147483648 ≤ x5 ∧ x5 ≤ 2147483647) ∧ (gT G o = 120)) (fun G s _ => pI (fun r G2 s2 => G2 = G ∧ zSK G2 s2 ∧ zFr [12, 120] G s s2 ∧ (0 ≤ r ∧ r ≤ 2) ∧ (((0 ≤ x1 ∧ x1 ≤ x2 ∧ x2 ≤ 99 ∧ 0 ≤ x3 ∧ x3 ≤ x4 ∧ x4 ≤ 99 ∧ 0 ≤ x5 ∧ x5 ≤ 2) → r = 0 ∧ 0 ≤ s2 o 0 ∧ s2 o 0 ≤ 10000 ∧ ((x5 = 0 → s2 o 0 = zFE x1 x3 x4 (x2 + 1 - x1).toNat)) ∧ ((x5 = 1 → s2 o 0 = zFB x1 x3 x4 (x2 + 1 - x1).toNat)) ∧ ((x5 = 2 → s2 o 0 = (x2 - x1 + 1) * (x4 - x3 + 1)))) ∧ (¬ (0 ≤ x1 ∧ x1 ≤ x2 ∧ x2 ≤ 99 ∧ 0 ≤ x3 ∧ x3 ≤ x4 ∧ x4 ≤ 99 ∧ 0 ≤ x5 ∧ x5 ≤ 2) → r = 1)))) := by
  refine ConH.mk hst (by decide) (fun G s vs h => by rw [h.1]; exact Nat.le_of_ble_eq_true rfl) ?_
  rintro X G s0 vs ⟨rfl, hG, hS0, ha, hx1, hx2, hx3, hx4, hx5, ho⟩ rfl hx hT hq
  show JJ X E 8 G s0 0 0 [(0, .ref a), (1, .int (zI x1)), (2, .int (zI x2)), (3, .int (zI x3)), (4, .int (zI x4)), (5, .int (zI x5)), (6, .ref o)] 0 []
  refine j_aload hx 6 dL_film_0 rfl ?_
  refine j_iconst hx dL_film_2 ?_
  refine j_aload_n hx 0 dL_film_3 rfl ?_
  refine j_iload_n hx 1 dL_film_4 rfl ?_
  refine j_iload_n hx 2 dL_film_5 rfl ?_
  refine j_iload_n hx 3 dL_film_6 rfl ?_
  refine j_iload hx 4 dL_film_7 rfl ?_
  refine j_iload hx 5 dL_film_9 rfl ?_
  refine j_callVH hx hG (c_X11_film_x hst a x1 x2 x3 x4 x5) lk_RL_94 ha (by decide) rfl rfl rfl rfl [.int (zI x1), .int (zI x2), .int (zI x3), .int (zI x4), .int (zI x5)] ⟨rfl, hG, hS0, ha, (by omega), (by omega), (by omega), (by omega), (by omega)⟩ rfl rfl ⟨by decide, by decide⟩ ⟨by decide, by decide⟩ (k2 := 5) (n2 := 30) rfl rfl (Nat.le_of_ble_eq_true rfl) dL_film_11 ?_ ?_
  · rintro Ex9 G9 s9 ⟨rfl, hS9, hF9, h9⟩
    obtain ⟨e9, c9⟩ := h9
    · subst e9
      refine ⟨_, ZH1 hx (x := { startPc := 0, endPc := 16, handlerPc := 19, catchType := 13 }) (hT.trans rfl) rfl (by decide) kl_RL_13 cast_I, fun q9 => ?_⟩
      refine j_astore hx [(7, .ref q9), (0, .ref a), (1, .int (zI x1)), (2, .int (zI x2)), (3, .int (zI x3)), (4, .int (zI x4)), (5, .int (zI x5)), (6, .ref o)] dL_film_19 (by decide) rfl ?_
      refine j_iconst hx dL_film_21 ?_
      exact j_iret hx hq rfl (by decide) (by decide) dL_film_22 ⟨1, rfl, rfl, hS9, zFr_t zFr_rf hF9 (by decide), ⟨by decide, by decide⟩, by omega⟩
  · refine kIP (fun r1 q1 => ?_)
    refine j_i2l hx dL_film_14 (by omega) ?_
    refine j_last hx hG ho (by decide) rfl (zlen hG ho (n := 1) rfl rfl) (by omega) (by omega) (j := 0) rfl dL_film_15 ?_
    obtain ⟨s2, e_s2⟩ : ∃ z, z = zU s0 o 0 r1 := ⟨_, rfl⟩
    rw [← e_s2]
    have hS_s2 : zSK G s2 := by rw [e_s2]; exact zSK_A hS0 ho rfl rfl rfl (by omega)
    refine j_goto hx 23 dL_film_16 rfl ?_
    refine j_iconst hx dL_film_23 ?_
    have g1 : s2 o 0 = r1 := (by rw [e_s2, zU_eq])
    exact j_iret hx hq rfl (by decide) (by decide) dL_film_24 ⟨0, rfl, rfl, hS_s2, (zFr_u zFr_rf e_s2 ho (by decide)), ⟨by decide, by decide⟩, by rw [g1]; omega⟩

theorem lk_RL_98 : LkV RL 98 RX11 yX11_laws cX11_laws 3 (some .int) 2 := ⟨km_RL_98, ki_yX11_laws, ks_RX11_yX11_laws, kn_RX11, kc_yX11_laws, rfl, by decide +kernel, by decide +kernel, by decide +kernel⟩
set_option maxHeartbeats 4000000 in
set_option maxRecDepth 20000 in
theorem c_L_laws {E : zE} {l : Launch} (hst : l.stackTraces = false) (a : Nat) (x1 : Int) (x2 : Int) (o : Nat) : ConH E l yL_laws cL_laws 5 (some .int) [(0, 10, 13, 13)] { frames := 8, cells := 2, slots := 12, locals := 188 } (fun G s vs => vs = [.ref a, .int (zI x1), .int (zI x2), .ref o] ∧ zGK G ∧ zSK G s ∧ (gT G a = 12) ∧ (-2147483648 ≤ x1 ∧ x1 ≤ 2147483647) ∧ (-2147483648 ≤ x2 ∧ x2 ≤ 2147483647) ∧ (gT G o = 120)) (fun G s _ => pI (fun r G2 s2 => G2 = G ∧ zSK G2 s2 ∧ zFr [1, 3, 4, 7, 12, 41, 44, 49, 50, 51, 52, 53, 54, 55, 120] G s s2 ∧ (0 ≤ r ∧ r ≤ 2) ∧ (True))) := by
  refine ConH.mk hst (by decide) (fun G s vs h => by rw [h.1]; exact Nat.le_of_ble_eq_true rfl) ?_
  rintro X G s0 vs ⟨rfl, hG, hS0, ha, hx1, hx2, ho⟩ rfl hx hT hq
  show JJ X E 5 G s0 0 0 [(0, .ref a), (1, .int (zI x1)), (2, .int (zI x2)), (3, .ref o)] 0 []
  refine j_aload_n hx 3 dL_laws_0 rfl ?_
  refine j_iconst hx dL_laws_1 ?_
  refine j_aload_n hx 0 dL_laws_2 rfl ?_
  refine j_iload_n hx 1 dL_laws_3 rfl ?_
  refine j_iload_n hx 2 dL_laws_4 rfl ?_
  refine j_callVH hx hG (c_X11_laws hst a x1 x2) lk_RL_98 ha (by decide) rfl rfl rfl rfl [.int (zI x1), .int (zI x2)] ⟨rfl, hG, hS0, ha, (by omega), (by omega)⟩ rfl rfl ⟨by decide, by decide⟩ ⟨by decide, by decide⟩ (k2 := 2) (n2 := 12) rfl rfl (Nat.le_of_ble_eq_true rfl) dL_laws_5 ?_ ?_
  · rintro Ex9 G9 s9 ⟨rfl, hS9, hF9, h9⟩
    obtain ⟨e9, c9⟩ := h9
    · subst e9
      refine ⟨_, ZH1 hx (x := { startPc := 0, endPc := 10, handlerPc := 13, catchType := 13 }) (hT.trans rfl) rfl (by decide) kl_RL_13 cast_I, fun q9 => ?_⟩
      refine j_astore hx [(4, .ref q9), (0, .ref a), (1, .int (zI x1)), (2, .int (zI x2)), (3, .ref o)] dL_laws_13 (by decide) rfl ?_
      refine j_iconst hx dL_laws_15 ?_
      exact j_iret hx hq rfl (by decide) (by decide) dL_laws_16 ⟨1, rfl, rfl, hS9, zFr_t zFr_rf hF9 (by decide), ⟨by decide, by decide⟩, trivial⟩
  · refine kIM (fun r1 s1 hS_s1 hF_s1 q1 => ?_)
    refine j_i2l hx dL_laws_8 (by omega) ?_
    refine j_last hx hG ho (by decide) rfl (zlen hG ho (n := 1) rfl rfl) (by omega) (by omega) (j := 0) rfl dL_laws_9 ?_
    obtain ⟨s2, e_s2⟩ : ∃ z, z = zU s1 o 0 r1 := ⟨_, rfl⟩
    rw [← e_s2]
    have hS_s2 : zSK G s2 := by rw [e_s2]; exact zSK_A hS_s1 ho rfl rfl rfl (by omega)
    refine j_goto hx 17 dL_laws_10 rfl ?_
    refine j_iconst hx dL_laws_17 ?_
    exact j_iret hx hq rfl (by decide) (by decide) dL_laws_18 ⟨0, rfl, rfl, hS_s2, (zFr_u (zFr_t zFr_rf hF_s1 (by decide)) e_s2 ho (by decide)), ⟨by decide, by decide⟩, trivial⟩

theorem lk_RL_101 : LkV RL 101 RX11 yX11_entry cX11_entry 3 (some .int) 2 := ⟨km_RL_101, ki_yX11_entry, ks_RX11_yX11_entry, kn_RX11, kc_yX11_entry, rfl, by decide +kernel, by decide +kernel, by decide +kernel⟩
set_option maxHeartbeats 4000000 in
set_option maxRecDepth 20000 in
theorem c_L_entry {E : zE} {l : Launch} (hst : l.stackTraces = false) (a : Nat) (x1 : Int) (x2 : Int) (o : Nat) : ConH E l yL_entry cL_entry 5 (some .int) [(0, 10, 13, 13)] { frames := 8, cells := 1, slots := 6, locals := 135 } (fun G s vs => vs = [.ref a, .int (zI x1), .int (zI x2), .ref o] ∧ zGK G ∧ zSK G s ∧ (gT G a = 12) ∧ (-2147483648 ≤ x1 ∧ x1 ≤ 2147483647) ∧ (-2147483648 ≤ x2 ∧ x2 ≤ 2147483647) ∧ (gT G o = 120)) (fun G s _ => pI (fun r G2 s2 => G2 = G ∧ zSK G2 s2 ∧ zFr [12, 120] G s s2 ∧ (0 ≤ r ∧ r ≤ 2) ∧ (True))) := by
  refine ConH.mk hst (by decide) (fun G s vs h => by rw [h.1]; exact Nat.le_of_ble_eq_true rfl) ?_
  rintro X G s0 vs ⟨rfl, hG, hS0, ha, hx1, hx2, ho⟩ rfl hx hT hq
  show JJ X E 5 G s0 0 0 [(0, .ref a), (1, .int (zI x1)), (2, .int (zI x2)), (3, .ref o)] 0 []
  refine j_aload_n hx 3 dL_entry_0 rfl ?_
  refine j_iconst hx dL_entry_1 ?_
  refine j_aload_n hx 0 dL_entry_2 rfl ?_
  refine j_iload_n hx 1 dL_entry_3 rfl ?_
  refine j_iload_n hx 2 dL_entry_4 rfl ?_
  refine j_callVH hx hG (c_X11_entry hst a x1 x2) lk_RL_101 ha (by decide) rfl rfl rfl rfl [.int (zI x1), .int (zI x2)] ⟨rfl, hG, hS0, ha, (by omega), (by omega)⟩ rfl rfl ⟨by decide, by decide⟩ ⟨by decide, by decide⟩ (k2 := 1) (n2 := 6) rfl rfl (Nat.le_of_ble_eq_true rfl) dL_entry_5 ?_ ?_
  · rintro Ex9 G9 s9 ⟨rfl, hS9, hF9, h9⟩
    obtain ⟨e9, c9⟩ := h9
    · subst e9
      refine ⟨_, ZH1 hx (x := { startPc := 0, endPc := 10, handlerPc := 13, catchType := 13 }) (hT.trans rfl) rfl (by decide) kl_RL_13 cast_I, fun q9 => ?_⟩
      refine j_astore hx [(4, .ref q9), (0, .ref a), (1, .int (zI x1)), (2, .int (zI x2)), (3, .ref o)] dL_entry_13 (by decide) rfl ?_
      refine j_iconst hx dL_entry_15 ?_
      exact j_iret hx hq rfl (by decide) (by decide) dL_entry_16 ⟨1, rfl, rfl, hS9, zFr_t zFr_rf hF9 (by decide), ⟨by decide, by decide⟩, trivial⟩
  · refine kIP (fun r1 q1 => ?_)
    refine j_i2l hx dL_entry_8 (by omega) ?_
    refine j_last hx hG ho (by decide) rfl (zlen hG ho (n := 1) rfl rfl) (by omega) (by omega) (j := 0) rfl dL_entry_9 ?_
    obtain ⟨s2, e_s2⟩ : ∃ z, z = zU s0 o 0 r1 := ⟨_, rfl⟩
    rw [← e_s2]
    have hS_s2 : zSK G s2 := by rw [e_s2]; exact zSK_A hS0 ho rfl rfl rfl (by omega)
    refine j_goto hx 17 dL_entry_10 rfl ?_
    refine j_iconst hx dL_entry_17 ?_
    exact j_iret hx hq rfl (by decide) (by decide) dL_entry_18 ⟨0, rfl, rfl, hS_s2, (zFr_u zFr_rf e_s2 ho (by decide)), ⟨by decide, by decide⟩, trivial⟩

