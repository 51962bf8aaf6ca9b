/-! methods with a table of their own, never throwing; calls of what may throw inside them -/
def ConH (E : zE) (l : Launch) (y : MethodName) (cc : ByteArray) (nL : Nat) (ret : Option FieldType) (hh : List (Nat × Nat × Nat × Nat)) (rm : Room) (Pre : zG → zS → List Value → Prop) (Post : zG → zS → List Value → Option Value → zG → zS → Prop) : Prop :=
  ∀ Γ σ vs, Pre Γ σ vs → Met l y (.codeWith y cc nL ret hh :: tblG) rm (zPc E Γ σ vs) (zQc E (Post Γ σ vs)) rm.cells rm.slots (zA E)
theorem zMetH {l : Launch} {y : MethodName} {ws ws' : List Cond} {rm : Room} {Pc : Array Value → State → Prop} {Qc : Array Value → State → Outcome → State → Prop} {mc ms : Nat} {free : Addr → Prop} {cc : ByteArray} {maxL : Nat} {ret : Option FieldType} {hh : List (Nat × Nat × Nat × Nat)}
    (hy : plainName y.cls = true) (hw : ws = Cond.codeWith y cc maxL ret hh :: ws')
    (body : ∀ p e s m args below meth c s₁, BodyLoose p l y (headSpec ws rm) cc maxL ret e s m args below meth c s₁ → c.maxLocals = maxL → Pc args s →
      W p l e (headSpec ws rm).room s m args below meth c s.heap [] 0 0 (MQ below Qc args s mc ms free) (entryFrame m args maxL)) : Met l y ws rm Pc Qc mc ms free := by
  refine MetFree.of_bodyS (code := cc) (maxLocals := maxL) (ret := ret) hy ?_ ?_
  · intro args s m h hn
    obtain ⟨m9, meth, c, hn9, h1, h2, h3, h4, -, h5, h6, -⟩ := Cond.codeWith_spec (atoms_spec (ws := ws) h _ (by rw [hw]; exact List.mem_cons_self))
    cases hn.symm.trans hn9
    exact ⟨meth, c, h1, h2, h3, h4, h5, h6⟩
  · intro p e s m args below meth c s₁ B hml hP _
    have hh0 : s₁.heap = s.heap := by rw [B.state]; rfl
    obtain ⟨t, a1, o, b1, b2, b3⟩ := body p e s m args below meth c s₁ B hml hP s₁ hh0 (Stand.of_body B)
    exact ⟨t, o, a1, b1, b2, b3⟩
theorem zcodeH {y : MethodName} {cc : ByteArray} {nL : Nat} {ret : Option FieldType} {hh : List (Nat × Nat × Nat × Nat)} (h : Cond.codeWith y cc nL ret hh ∈ tblG) : GoodIn tblG (.codeWith y cc nL ret hh :: tblG) := by
  intro w hw
  rcases List.mem_cons.mp hw with rfl | hw
  · exact ⟨h, good_of_word (tblG_good _ h)⟩
  · exact ⟨hw, good_of_word (tblG_good _ hw)⟩
theorem ConH.mk {E : zE} {l : Launch} {y : MethodName} {cc : ByteArray} {nL : Nat} {ret : Option FieldType} {hh : List (Nat × Nat × Nat × Nat)} {rm : Room} {Pre : zG → zS → List Value → Prop} {Post : zG → zS → List Value → Option Value → zG → zS → Prop} (hst : l.stackTraces = false) (hy : plainName y.cls = true) (hlen : ∀ Γ σ vs, Pre Γ σ vs → (lg_sl vs).length ≤ nL)
    (h : ∀ X Γ σ vs, Pre Γ σ vs → xl X = l → CX X E y.cls y cc nL ret rm → (xc X).exceptionTable.toList = tableOf hh → CR X E rm (Post Γ σ vs) → JJ X E nL Γ σ 0 0 (lv_args 0 vs) 0 []) : ConH E l y cc nL ret hh rm Pre Post := by
  intro Γ σ vs hpre
  refine zMetH hy rfl ?_
  intro p e s m args below meth c s₁ B hml hv
  obtain ⟨rfl, hb, hR, hO⟩ := hv
  have hts : ∀ w ∈ (Cond.codeWith y cc nL ret hh :: tblG), w.before vs.toArray s = true := atoms_spec (ws := Cond.codeWith y cc nL ret hh :: tblG) B.pre
  have hJ := h (p, l, e, rm, s, m, vs.toArray, below, meth, c, MQ below (zQc E (Post Γ σ vs)) vs.toArray s rm.cells rm.slots (zA E)) Γ σ vs hpre rfl ⟨B.exec, B.bytes, hml, findClass_of_methodNamed B.named, fun w hw => hts w (List.mem_cons_of_mem _ hw), hO, B.notSynchronized, B.returns, hb, rfl, (name_of_methodNamed B.named B.method).1, hst⟩ (vx_table (x := y) B (hts _ List.mem_cons_self)) (Or.inl rfl)
  have hl := lv_entry vs (hlen Γ σ vs hpre)
  rw [lg_entry_eq]
  exact hJ s.heap [] _ hR va_S.rf hl
/-- where an exception is caught -/
def ZH (X : zX) (own Ex : String) (pc hpc : Nat) : Prop := ∃ (pre : List ExceptionTableEntry) (x : ExceptionTableEntry) (suf : List ExceptionTableEntry) (name : String), (xc X).exceptionTable.toList = pre ++ x :: suf ∧ (∀ z ∈ pre, covers z pc = false ∨ (z.catchType ≠ 0 ∧ ∃ nm : String, (Cond.classLink own z.catchType nm).before (xa X) (xs X) = true ∧ va_Nc Ex nm (xs X))) ∧ covers x pc = true ∧ x.catchType ≠ 0 ∧ (Cond.classLink own x.catchType name).before (xa X) (xs X) = true ∧ (Cond.castable Ex name).before (xa X) (xs X) = true ∧ x.handlerPc = hpc
section JH9
variable {X : zX} {E : zE} {own : String} {y : MethodName} {cc : ByteArray} {nL : Nat} {ret : Option FieldType} {R : Room} {Γ : zG} {σ : zS} {k n : Nat} {L : List (Nat × Value)} {pc pc2 : Nat} {st rest : List Value}
theorem j_runH {PP : Option Value → zG → zS → Prop} {PX : String → zG → zS → Prop} {a : Array Value} {mc ms k2 n2 : Nat} (hk2 : k + mc = k2) (hn2 : n + ms = n2) (hx : CX X E own y cc nL ret R) (hpc : pc + 3 = pc2) (hrun : ∀ (H : Heap) (locs : List Loc) (ls : Array Slot), zR E Γ σ H → va_S (zA E) (xs X).heap H locs → lv_has ls nL L → vx_Run (xp X) (xl X) (xe X) (xR X) (xs X) (xm X) (xa X) (xb X) (xh X) (xc X) H locs k n mc ms (F0 (xm X) pc ls st) rest (zQc E PP a) (zXc E PX) (zA E)) (kx : ∀ Ex Γ2 σ2, PX Ex Γ2 σ2 → ∃ hpc, ZH X own Ex pc hpc ∧ ∀ q, JJ X E nL Γ2 σ2 k2 n2 L hpc [.ref q]) (kk : ∀ v Γ2 σ2, PP v Γ2 σ2 → JJ X E nL Γ2 σ2 k2 n2 L pc2 (v.toList ++ rest)) : JJ X E nL Γ σ k n L pc st := by
  subst hk2 hn2
  intro H locs ls hR hS hl T hT Xst
  rcases hrun H locs ls hR hS hl T hT Xst with ⟨v, st₀, t, T', L1, h0, X', hL, e1, e2, ⟨⟨v1, Γ2, σ2, hv, hp, hR2⟩, hF⟩, stp⟩ | ⟨q, st₀, t, T', L1, Ex, ce, h0, X', hL, e1, e2, ⟨⟨Γ2, σ2, hp, hR2⟩, hF⟩, hce, hcv, hcl, stp⟩
  · cases hv
    obtain ⟨k1, k2, k3⟩ := vx_keep h0 e1 hS (fun q _ h => h) (fun q h => h) hL hF
    obtain ⟨t2, a1, b1⟩ := kk v Γ2 σ2 hp T'.heap (locs ++ L1) ls (by rw [e1]; exact hR2) k3 hl T' rfl X'
    subst hpc
    exact ⟨t2, stp t2 a1, b1⟩
  · obtain ⟨k1, k2, k3⟩ := vx_keep h0 e1 hS (fun q _ h => h) (fun q h => h) hL hF
    obtain ⟨hpc9, ⟨pre, x, suf, name, z1, z2, z3, z4, z5, z6, rfl⟩, hJ⟩ := kx Ex Γ2 σ2 hp
    have hw : vx_W (xp X) (xl X) (xe X) (xR X) (xs X) (xm X) (xa X) (xb X) (xh X) (xc X) T'.heap (locs ++ L1) (k + mc) (n + ms) (xQ X) (F0 (xm X) pc ls rest) q :=
      vx_catch hx.2.2.2.1 pre x suf z1 z2 z3 z4 z5 z6 (by rw [e1]; exact hce) hcv hcl (hJ q T'.heap (locs ++ L1) ls (by rw [e1]; exact hR2) k3 hl)
    obtain ⟨t2, a1, b1⟩ := hw T' rfl X'
    exact ⟨t2, stp.trans a1, b1⟩
theorem j_callVH (hx : CX X E own y cc nL ret R) (hG : zGK Γ) {idx na nLb t ci N a : Nat} {C : String} {yb : MethodName} {ccb : ByteArray} {retb : Option FieldType} {rmb : Room} {Pre : zG → zS → List Value → Prop} {Post : zG → zS → List Value → Option Value → zG → zS → Prop} {PXb : zG → zS → List Value → String → zG → zS → Prop} {T : u_T} (con : ConX E (xl X) yb ccb nLb retb rmb Pre Post PXb) (lk : LkV own idx C yb ccb nLb retb na) (ht : gT Γ a = t) (ht0 : t ≠ 0) (hk : tK t = 1) (hc : tC t = ci) (hN : tN t = N) (hcl : vwCl[ci]? = some (C, T, N)) (vs : List Value) (hpre : Pre Γ σ (.ref a :: vs)) (hna : vs.length = na) (hst : st = vs.reverse ++ .ref a :: rest) (hrm : rmb.frames + 1 ≤ R.frames ∧ 8 + (nLb + 11) + rmb.locals ≤ R.locals) (hf : k + rmb.cells ≤ R.cells ∧ n + rmb.slots ≤ R.slots) {k2 n2 : Nat} (hk2 : k + rmb.cells = k2) (hn2 : n + rmb.slots = n2) (hw : (rest.map fun v => v.category).sum ≤ 8) (d : Dc cc pc (.invokevirtual idx) 3 pc2) (kx : ∀ Ex Γ2 σ2, PXb Γ σ (.ref a :: vs) Ex Γ2 σ2 → ∃ hpc, ZH X own Ex pc hpc ∧ ∀ q, JJ X E nL Γ2 σ2 k2 n2 L hpc [.ref q]) (kk : ∀ v Γ2 σ2, Post Γ σ (.ref a :: vs) v Γ2 σ2 → JJ X E nL Γ2 σ2 k2 n2 L pc2 (v.toList ++ rest)) : JJ X E nL Γ σ k n L pc st := by
  obtain ⟨l1, l2, l3, l4, l5, l6, l7, l8, l9⟩ := lk
  subst l6
  obtain ⟨rfl⟩ : xR X = R := hx.2.2.2.2.2.2.2.2.2.1
  have ok := hx.2.2.2.2.1
  refine j_runH hk2 hn2 (PP := Post Γ σ (.ref a :: vs)) (PX := PXb Γ σ (.ref a :: vs)) (a := (Value.ref a :: vs).toArray) hx d.2 (fun H locs ls hR hS hl => ?_) kx kk
  exact vx_runV ⟨hx.1, hx.2.1, hx.2.2.1, hx.2.2.2.1, ok⟩ (con Γ σ _ hpre) ⟨callB_of na ok (zcode l5) rfl rfl rfl (ok _ l4) (ok _ l1) ⟨l7, l8, l9⟩ hrm, ok _ l2, ok _ l3⟩ ⟨zblind, zrecv hx hG ht ht0 hk hc hN hcl hR, zcallee hx hR hS (.ref a :: vs)⟩ rfl hna hl.1 hst (lv_room hw) d.1 hf
def LkSH (own : String) (idx : Nat) (yb : MethodName) (ccb : ByteArray) (nLb : Nat) (retb : Option FieldType) (hh : List (Nat × Nat × Nat × Nat)) (na : Nat) : Prop := Cond.methodLink own idx yb ∈ tblG ∧ Cond.static yb ∈ tblG ∧ Cond.initialized yb.cls ∈ tblG ∧ Cond.codeWith yb ccb nLb retb hh ∈ tblG ∧ yb.cls ≠ "java/lang/invoke/MethodHandle" ∧ yb.cls ≠ "java/lang/invoke/VarHandle" ∧ (parseMethodDescriptor yb.desc).map (fun d => d.parameters.length) = some na
theorem j_callSH (hx : CX X E own y cc nL ret R) {idx na nLb : Nat} {yb : MethodName} {ccb : ByteArray} {retb : Option FieldType} {hh : List (Nat × Nat × Nat × Nat)} {rmb : Room} {Pre : zG → zS → List Value → Prop} {Post : zG → zS → List Value → Option Value → zG → zS → Prop} (con : ConH E (xl X) yb ccb nLb retb hh rmb Pre Post) (lk : LkSH own idx yb ccb nLb retb hh na) (vs : List Value) (hpre : Pre Γ σ vs) (hna : vs.length = na) (hst : st = vs.reverse ++ rest) (hrm : rmb.frames + 1 ≤ R.frames ∧ 8 + (nLb + 11) + rmb.locals ≤ R.locals) (hf : k + rmb.cells ≤ R.cells ∧ n + rmb.slots ≤ R.slots) {k2 n2 : Nat} (hk2 : k + rmb.cells = k2) (hn2 : n + rmb.slots = n2) (hw : (rest.map fun v => v.category).sum ≤ 8) (d : Dc cc pc (.invokestatic idx) 3 pc2) (kk : ∀ v Γ2 σ2, Post Γ σ vs v Γ2 σ2 → JJ X E nL Γ2 σ2 k2 n2 L pc2 (v.toList ++ rest)) : JJ X E nL Γ σ k n L pc st := by
  obtain ⟨l1, l2, l4, l5, l7, l8, l9⟩ := lk
  obtain ⟨rfl⟩ : xR X = R := hx.2.2.2.2.2.2.2.2.2.1
  have ok := hx.2.2.2.2.1
  refine j_run hk2 hn2 (PP := Post Γ σ vs) (a := vs.toArray) d.2 (fun H locs ls hR hS hl => ?_) kk
  exact vx_runSW ⟨hx.1, hx.2.1, hx.2.2.1, hx.2.2.2.1, ok⟩ (con Γ σ _ hpre) ⟨⟨rfl, rfl, hrm.1, hrm.2, pay_in ok (zcodeH l5), List.mem_cons_self⟩, ok _ l5, ok _ l4, ⟨l7, l8⟩, fun sig h => by rw [h] at l9; exact (Option.some.inj l9).symm, ok _ l1, ok _ l2⟩ ⟨zblind, zcallee hx hR hS vs⟩ rfl hna hl.1 hst (lv_room hw) d.1 hf
end JH9
/-- the one row, or the second of two -/
theorem ZH1 {X : zX} {E : zE} {own : String} {y : MethodName} {cc : ByteArray} {nL : Nat} {ret : Option FieldType} {R : Room} {Ex : String} {pc : Nat} {x : ExceptionTableEntry} {suf : List ExceptionTableEntry} (hx : CX X E own y cc nL ret R) (ht : (xc X).exceptionTable.toList = x :: suf) (hc : covers x pc = true) (h0 : x.catchType ≠ 0) (hl : Cond.classLink own x.catchType Ex ∈ tblG) (hm : Cond.castable Ex Ex ∈ tblM) : ZH X own Ex pc x.handlerPc := ⟨[], x, suf, Ex, ht, fun z hz => absurd hz List.not_mem_nil, hc, h0, hx.2.2.2.2.1 _ hl, zMore_use (tblM_is _ hm) (hx.2.2.2.2.2.1.2.2.2.2.2.2.1 _ hm), rfl⟩
theorem ZH2 {X : zX} {E : zE} {own : String} {y : MethodName} {cc : ByteArray} {nL : Nat} {ret : Option FieldType} {R : Room} {Ex nm : String} {pc : Nat} {x1 x : ExceptionTableEntry} {suf : List ExceptionTableEntry} (hx : CX X E own y cc nL ret R) (ht : (xc X).exceptionTable.toList = x1 :: x :: suf) (h1 : x1.catchType ≠ 0) (hl1 : Cond.classLink own x1.catchType nm ∈ tblG) (hn : va_Nc Ex nm (xs X)) (hc : covers x pc = true) (h0 : x.catchType ≠ 0) (hl : Cond.classLink own x.catchType Ex ∈ tblG) (hm : Cond.castable Ex Ex ∈ tblM) : ZH X own Ex pc x.handlerPc := ⟨[x1], x, suf, Ex, ht, fun z hz => by rw [List.mem_singleton.mp hz]; exact Or.inr ⟨h1, nm, hx.2.2.2.2.1 _ hl1, hn⟩, hc, h0, hx.2.2.2.2.1 _ hl, zMore_use (tblM_is _ hm) (hx.2.2.2.2.2.1.2.2.2.2.2.2.1 _ hm), rfl⟩
/-! the script -/
def ZS (X : zX) (E : zE) (b L : Nat) (ys : Nat → Int) : Prop := va_X b L (fun j => zI (ys j)) (xs X) (xs X).heap ∧ b < (xs X).heap.size ∧ ¬ zA E b
section JS9
variable {X : zX} {E : zE} {own : String} {y : MethodName} {cc : ByteArray} {nL : Nat} {ret : Option FieldType} {R : Room} {Γ : zG} {σ : zS} {k n : Nat} {L : List (Nat × Value)} {pc pc2 : Nat} {st : List Value}
theorem j_sld (hx : CX X E own y cc nL ret R) {b L0 j : Nat} {ys : Nat → Int} {i : Int} (hs : ZS X E b L0 ys) (hi : i = j) (hj : j < L0) (hj2 : L0 ≤ 1000000) (d : Dc cc pc .iaload 1 pc2) (kk : JJ X E nL Γ σ k n L pc2 (.int (zI (ys j)) :: st)) : JJ X E nL Γ σ k n L pc (.int (zI i) :: .ref b :: st) := by
  intro H locs ls hR hS hl
  obtain ⟨d1, rfl⟩ := d
  subst hi
  refine va_sld hx.1 hx.2.1 hs.1 hs.2.1 hs.2.2 hS (i := zI (j : Int)) (zI_in (by omega) (by omega) (by omega)) d1 ?_
  have e : (zI (j : Int)).toNatClampNeg = j := by rw [zI_nat (by omega) (by omega)]; omega
  rw [e]
  exact kk H locs ls hR hS hl
theorem j_slen (hx : CX X E own y cc nL ret R) {b L0 : Nat} {ys : Nat → Int} {m : Int} (hs : ZS X E b L0 ys) (hm : m = L0) (d : Dc cc pc .arraylength 1 pc2) (kk : JJ X E nL Γ σ k n L pc2 (.int (zI m) :: st)) : JJ X E nL Γ σ k n L pc (.ref b :: st) := by
  intro H locs ls hR hS hl
  obtain ⟨d1, rfl⟩ := d
  subst hm
  exact va_slen hx.1 hx.2.1 hs.1 hs.2.1 hs.2.2 hS d1 (kk H locs ls hR hS hl)
end JS9
/-- one number fits -/
theorem zuniq {W D r b : Int} (hW : 0 ≤ W) (hr : 0 ≤ r ∧ r ≤ 17) (hb : 0 ≤ b ∧ b ≤ 17) (r1 : r ≤ 16 → 16 * D ≤ r * W) (r2 : 1 ≤ r → (r - 1) * W < 16 * D) (b1 : b ≤ 16 → 16 * D ≤ b * W) (b2 : 1 ≤ b → (b - 1) * W < 16 * D) : r = b := by
  rcases Int.lt_trichotomy r b with h | h | h
  · have h1 := r1 (by omega)
    have h2 := b2 (by omega)
    have h3 : r * W ≤ (b - 1) * W := Int.mul_le_mul_of_nonneg_right (by omega) hW
    omega
  · exact h
  · have h1 := b1 (by omega)
    have h2 := r2 (by omega)
    have h3 : b * W ≤ (r - 1) * W := Int.mul_le_mul_of_nonneg_right (by omega) hW
    omega
theorem zS0m_of {Γ : zG} {σ : zS} (h : zS0 Γ σ) : zS0m Γ σ := ⟨fun a k v _ hv => h.1 a k v hv, fun a k v _ hk hv => h.2 a k v hk hv⟩
theorem zS0m_fr {Γ : zG} {σ σ2 : zS} {ts : List Nat} (h : zS0m Γ σ) (hf : zFr ts Γ σ σ2) (hn : ∀ t ∈ ts, ¬ isM t) : zS0m Γ σ2 := ⟨fun a k v hm hv => by rw [hf a (fun e => hn _ e hm)]; exact h.1 a k v hm hv, fun a k v hm hk hv => by rw [hf a (fun e => hn _ e hm)]; exact h.2 a k v hm hk hv⟩
theorem cast_I : Cond.castable "java/lang/IllegalArgumentException" "java/lang/IllegalArgumentException" ∈ tblM := List.mem_filter.mpr ⟨List.mem_of_getElem? (i := 762) (by decide +kernel), rfl⟩
theorem cast_N : Cond.castable "java/util/NoSuchElementException" "java/util/NoSuchElementException" ∈ tblM := List.mem_filter.mpr ⟨List.mem_of_getElem? (i := 1010) (by decide +kernel), rfl⟩
theorem lk_RL_7 : LkV RL 7 RX11 yX11_table cX11_table 2 (some .int) 1 := ⟨km_RL_7, ki_yX11_table, ks_RX11_yX11_table, kn_RX11, kc_yX11_table, rfl, by decide +kernel, by decide +kernel, by decide +kernel⟩
set_option maxHeartbeats 4000000 in
set_option maxRecDepth 20000 in
theorem c_L_table {E : zE} {l : Launch} (hst : l.stackTraces = false) (a : Nat) (x1 : Int) (o : Nat) : ConH E l yL_table cL_table 4 (some .int) [(0, 9, 12, 13)] { frames := 8, cells := 1, slots := 6, locals := 134 } (fun G s vs => vs = [.ref a, .int (zI x1), .ref o] ∧ zGK G ∧ zSK G s ∧ zS0 G s ∧ (gT G a = 12) ∧ (-2147483648 ≤ x1 ∧ x1 ≤ 2147483647) ∧ (gT G o = 120)) (fun G s _ => pI (fun r G2 s2 => G2 = G ∧ zSK G s2 ∧ zFr [1, 2, 4, 5, 7, 9, 10, 12, 42, 43, 44, 49, 50, 120] G s s2 ∧ (0 ≤ r ∧ r ≤ 2) ∧ (((x1 = 0) → r = 0 ∧ (-6) ≤ s2 o 0 ∧ s2 o 0 ≤ (-6)) ∧ (¬ (x1 = 0) → r = 1)))) := by
  refine ConH.mk hst (by decide) (fun G s vs h => by rw [h.1]; exact Nat.le_of_ble_eq_true rfl) ?_
  rintro X G s0 vs ⟨rfl, hG, hS0, hF0, ha, hx1, ho⟩ rfl hx hT hq
  show JJ X E 4 G s0 0 0 [(0, .ref a), (1, .int (zI x1)), (2, .ref o)] 0 []
  refine j_aload_n hx 2 dL_table_0 rfl ?_
  refine j_iconst hx dL_table_1 ?_
  refine j_aload_n hx 0 dL_table_2 rfl ?_
  refine j_iload_n hx 1 dL_table_3 rfl ?_
  refine j_callVH hx hG (c_X11_table hst a x1) lk_RL_7 ha (by decide) rfl rfl rfl rfl [.int (zI x1)] ⟨rfl, hG, hS0, ha, (by omega), hF0⟩ rfl rfl ⟨by decide, by decide⟩ ⟨by decide, by decide⟩ (k2 := 1) (n2 := 6) rfl rfl (Nat.le_of_ble_eq_true rfl) dL_table_4 ?_ ?_
  · rintro Ex9 G9 s9 ⟨rfl, hS9, hF9, h9⟩
    obtain ⟨e9, c9⟩ := h9
    · subst e9
      refine ⟨_, ZH1 hx (x := { startPc := 0, endPc := 9, handlerPc := 12, catchType := 13 }) (hT.trans rfl) rfl (by decide) kl_RL_13 cast_I, fun q9 => ?_⟩
      refine j_astore_n hx [(3, .ref q9), (0, .ref a), (1, .int (zI x1)), (2, .ref o)] dL_table_12 (by decide) rfl ?_
      refine j_iconst hx dL_table_13 ?_
      exact j_iret hx hq rfl (by decide) (by decide) dL_table_14 ⟨1, rfl, rfl, hS9, zFr_t zFr_rf hF9 (by decide), ⟨by decide, by decide⟩, by omega⟩
  · refine kIM (fun r1 s1 hS1 hF1 q1 => ?_)
    refine j_i2l hx dL_table_7 (by omega) ?_
    refine j_last hx hG ho (by decide) rfl (zlen hG ho (n := 1) rfl rfl) (by omega) (by omega) (j := 0) rfl dL_table_8 ?_
    obtain ⟨s8, e8⟩ : ∃ z, z = zU s1 o 0 r1 := ⟨_, rfl⟩
    rw [← e8]
    have hS8 : zSK G s8 := by rw [e8]; exact zSK_A hS1 ho rfl rfl rfl (by omega)
    have g8 : s8 o 0 = r1 := by rw [e8, zU_eq]
    refine j_goto hx 15 dL_table_9 rfl ?_
    refine j_iconst hx dL_table_15 ?_
    exact j_iret hx hq rfl (by decide) (by decide) dL_table_16 ⟨0, rfl, rfl, hS8, zFr_u (zFr_t zFr_rf hF1 (by decide)) e8 ho (by decide), ⟨by decide, by decide⟩, by rw [g8]; omega⟩

theorem lk_RL_15 : LkV RL 15 RX11 yX11_plan cX11_plan 3 (some .int) 2 := ⟨km_RL_15, ki_yX11_plan, ks_RX11_yX11_plan, kn_RX11, kc_yX11_plan, rfl, by decide +kernel, by decide +kernel, by decide +kernel⟩
set_option maxHeartbeats 4000000 in
set_option maxRecDepth 20000 in
theorem c_L_plan {E : zE} {l : Launch} (hst : l.stackTraces = false) (a : Nat) (x1 : Int) (x2 : Int) (o : Nat) : ConH E l yL_plan cL_plan 5 (some .int) [(0, 10, 13, 19), (0, 10, 17, 13)] { frames := 8, cells := 1, slots := 6, locals := 133 } (fun G s vs => vs = [.ref a, .int (zI x1), .int (zI x2), .ref o] ∧ zGK G ∧ zSK G s ∧ zS0 G s ∧ (gT G a = 12) ∧ (-2147483648 ≤ x1 ∧ x1 ≤ 2147483647) ∧ (-2147483648 ≤ x2 ∧ x2 ≤ 2147483647) ∧ (gT G o = 120)) (fun G s _ => pI (fun r G2 s2 => G2 = G ∧ zSK G s2 ∧ zFr [12, 120] G s s2 ∧ (0 ≤ r ∧ r ≤ 2) ∧ (r = 1))) := by
  refine ConH.mk hst (by decide) (fun G s vs h => by rw [h.1]; exact Nat.le_of_ble_eq_true rfl) ?_
  rintro X G s0 vs ⟨rfl, hG, hS0, hF0, ha, hx1, hx2, ho⟩ rfl hx hT hq
  show JJ X E 5 G s0 0 0 [(0, .ref a), (1, .int (zI x1)), (2, .int (zI x2)), (3, .ref o)] 0 []
  refine j_aload_n hx 3 dL_plan_0 rfl ?_
  refine j_iconst hx dL_plan_1 ?_
  refine j_aload_n hx 0 dL_plan_2 rfl ?_
  refine j_iload_n hx 1 dL_plan_3 rfl ?_
  refine j_iload_n hx 2 dL_plan_4 rfl ?_
  refine j_callVH hx hG (c_X11_plan hst a x1 x2) lk_RL_15 ha (by decide) rfl rfl rfl rfl [.int (zI x1), .int (zI x2)] ⟨rfl, hG, hS0, ha, (by omega), (by omega), hF0⟩ rfl rfl ⟨by decide, by decide⟩ ⟨by decide, by decide⟩ (k2 := 1) (n2 := 6) rfl rfl (Nat.le_of_ble_eq_true rfl) dL_plan_5 ?_ ?_
  · rintro Ex9 G9 s9 ⟨rfl, hS9, hF9, h9⟩
    obtain ⟨e9, c9⟩ := h9
    · subst e9
      refine ⟨_, ZH1 hx (x := { startPc := 0, endPc := 10, handlerPc := 13, catchType := 19 }) (hT.trans rfl) rfl (by decide) kl_RL_19 cast_N, fun q9 => ?_⟩
      refine j_astore hx [(4, .ref q9), (0, .ref a), (1, .int (zI x1)), (2, .int (zI x2)), (3, .ref o)] dL_plan_13 (by decide) rfl ?_
      refine j_iconst hx dL_plan_15 ?_
      exact j_iret hx hq rfl (by decide) (by decide) dL_plan_16 ⟨1, rfl, rfl, hS9, zFr_t zFr_rf hF9 (by decide), ⟨by decide, by decide⟩, by omega⟩
  · intro v9 G9 s9 h9; exact h9.elim

theorem lk_RL_21 : LkV RL 21 RX11 yX11_guess cX11_guess 3 (some .int) 2 := ⟨km_RL_21, ki_yX11_guess, ks_RX11_yX11_guess, kn_RX11, kc_yX11_guess, rfl, by decide +kernel, by decide +kernel, by decide +kernel⟩
set_option maxHeartbeats 4000000 in
set_option maxRecDepth 20000 in
theorem c_L_guess {E : zE} {l : Launch} (hst : l.stackTraces = false) (a : Nat) (x1 : Int) (x2 : Int) (o : Nat) : ConH E l yL_guess cL_guess 5 (some .int) [(0, 10, 13, 19), (0, 10, 17, 13)] { frames := 8, cells := 1, slots := 6, locals := 133 } (fun G s vs => vs = [.ref a, .int (zI x1), .int (zI x2), .ref o] ∧ zGK G ∧ zSK G s ∧ zS0 G s ∧ (gT G a = 12) ∧ (-2147483648 ≤ x1 ∧ x1 ≤ 2147483647) ∧ (-2147483648 ≤ x2 ∧ x2 ≤ 2147483647) ∧ (gT G o = 120)) (fun G s _ => pI (fun r G2 s2 => G2 = G ∧ zSK G s2 ∧ zFr [12, 120] G s s2 ∧ (0 ≤ r ∧ r ≤ 2) ∧ (r = 1))) := by
  refine ConH.mk hst (by decide) (fun G s vs h => by rw [h.1]; exact Nat.le_of_ble_eq_true rfl) ?_
  rintro X G s0 vs ⟨rfl, hG, hS0, hF0, ha, hx1, hx2, ho⟩ rfl hx hT hq
  show JJ X E 5 G s0 0 0 [(0, .ref a), (1, .int (zI x1)), (2, .int (zI x2)), (3, .ref o)] 0 []
  refine j_aload_n hx 3 dL_guess_0 rfl ?_
  refine j_iconst hx dL_guess_1 ?_
  refine j_aload_n hx 0 dL_guess_2 rfl ?_
  refine j_iload_n hx 1 dL_guess_3 rfl ?_
  refine j_iload_n hx 2 dL_guess_4 rfl ?_
  refine j_callVH hx hG (c_X11_guess hst a x1 x2) lk_RL_21 ha (by decide) rfl rfl rfl rfl [.int (zI x1), .int (zI x2)] ⟨rfl, hG, hS0, ha, (by omega), (by omega), hF0⟩ rfl rfl ⟨by decide, by decide⟩ ⟨by decide, by decide⟩ (k2 := 1) (n2 := 6) rfl rfl (Nat.le_of_ble_eq_true rfl) dL_guess_5 ?_ ?_
  · rintro Ex9 G9 s9 ⟨rfl, hS9, hF9, h9⟩
    obtain ⟨e9, c9⟩ := h9
    · subst e9
      refine ⟨_, ZH1 hx (x := { startPc := 0, endPc := 10, handlerPc := 13, catchType := 19 }) (hT.trans rfl) rfl (by decide) kl_RL_19 cast_N, fun q9 => ?_⟩
      refine j_astore hx [(4, .ref q9), (0, .ref a), (1, .int (zI x1)), (2, .int (zI x2)), (3, .ref o)] dL_guess_13 (by decide) rfl ?_
      refine j_iconst hx dL_guess_15 ?_
      exact j_iret hx hq rfl (by decide) (by decide) dL_guess_16 ⟨1, rfl, rfl, hS9, zFr_t zFr_rf hF9 (by decide), ⟨by decide, by decide⟩, by omega⟩
  · intro v9 G9 s9 h9; exact h9.elim

theorem lk_RL_24 : LkV RL 24 RX11 yX11_book cX11_book 2 (some .int) 1 := ⟨km_RL_24, ki_yX11_book, ks_RX11_yX11_book, kn_RX11, kc_yX11_book, rfl, by decide +kernel, by decide +kernel, by decide +kernel⟩
set_option maxHeartbeats 4000000 in
set_option maxRecDepth 20000 in
theorem c_L_book {E : zE} {l : Launch} (hst : l.stackTraces = false) (a : Nat) (x1 : Int) (o : Nat) : ConH E l yL_book cL_book 4 (some .int) [(0, 9, 12, 13)] { frames := 8, cells := 1, slots := 6, locals := 134 } (fun G s vs => vs = [.ref a, .int (zI x1), .ref o] ∧ zGK G ∧ zSK G s ∧ zS0 G s ∧ (gT G a = 12) ∧ (-2147483648 ≤ x1 ∧ x1 ≤ 2147483647) ∧ (gT G o = 120)) (fun G s _ => pI (fun r G2 s2 => G2 = G ∧ zSK G s2 ∧ zFr [2, 10, 12, 120] G s s2 ∧ (0 ≤ r ∧ r ≤ 2) ∧ (((x1 = 0) → r = 0 ∧ 0 ≤ s2 o 0 ∧ s2 o 0 ≤ 0) ∧ (¬ (x1 = 0) → r = 1)))) := by
  refine ConH.mk hst (by decide) (fun G s vs h => by rw [h.1]; exact Nat.le_of_ble_eq_true rfl) ?_
  rintro X G s0 vs ⟨rfl, hG, hS0, hF0, ha, hx1, ho⟩ rfl hx hT hq
  show JJ X E 4 G s0 0 0 [(0, .ref a), (1, .int (zI x1)), (2, .ref o)] 0 []
  refine j_aload_n hx 2 dL_book_0 rfl ?_
  refine j_iconst hx dL_book_1 ?_
  refine j_aload_n hx 0 dL_book_2 rfl ?_
  refine j_iload_n hx 1 dL_book_3 rfl ?_
  refine j_callVH hx hG (c_X11_book hst a x1) lk_RL_24 ha (by decide) rfl rfl rfl rfl [.int (zI x1)] ⟨rfl, hG, hS0, ha, (by omega), hF0⟩ rfl rfl ⟨by decide, by decide⟩ ⟨by decide, by decide⟩ (k2 := 1) (n2 := 6) rfl rfl (Nat.le_of_ble_eq_true rfl) dL_book_4 ?_ ?_
  · rintro Ex9 G9 s9 ⟨rfl, hS9, hF9, h9⟩
    obtain ⟨e9, c9⟩ := h9
    · subst e9
      refine ⟨_, ZH1 hx (x := { startPc := 0, endPc := 9, handlerPc := 12, catchType := 13 }) (hT.trans rfl) rfl (by decide) kl_RL_13 cast_I, fun q9 => ?_⟩
      refine j_astore_n hx [(3, .ref q9), (0, .ref a), (1, .int (zI x1)), (2, .ref o)] dL_book_12 (by decide) rfl ?_
      refine j_iconst hx dL_book_13 ?_
      exact j_iret hx hq rfl (by decide) (by decide) dL_book_14 ⟨1, rfl, rfl, hS9, zFr_t zFr_rf hF9 (by decide), ⟨by decide, by decide⟩, by omega⟩
  · refine kIM (fun r1 s1 hS1 hF1 q1 => ?_)
    refine j_i2l hx dL_book_7 (by omega) ?_
    refine j_last hx hG ho (by decide) rfl (zlen hG ho (n := 1) rfl rfl) (by omega) (by omega) (j := 0) rfl dL_book_8 ?_
    obtain ⟨s8, e8⟩ : ∃ z, z = zU s1 o 0 r1 := ⟨_, rfl⟩
    rw [← e8]
    have hS8 : zSK G s8 := by rw [e8]; exact zSK_A hS1 ho rfl rfl rfl (by omega)
    have g8 : s8 o 0 = r1 := by rw [e8, zU_eq]
    refine j_goto hx 15 dL_book_9 rfl ?_
    refine j_iconst hx dL_book_15 ?_
    exact j_iret hx hq rfl (by decide) (by decide) dL_book_16 ⟨0, rfl, rfl, hS8, zFr_u (zFr_t zFr_rf hF1 (by decide)) e8 ho (by decide), ⟨by decide, by decide⟩, by rw [g8]; omega⟩

theorem lk_RL_27 : LkV RL 27 RX11 yX11_told cX11_told 2 (some .int) 1 := ⟨km_RL_27, ki_yX11_told, ks_RX11_yX11_told, kn_RX11, kc_yX11_told, rfl, by decide +kernel, by decide +kernel, by decide +kernel⟩
set_option maxHeartbeats 4000000 in
set_option maxRecDepth 20000 in
theorem c_L_told {E : zE} {l : Launch} (hst : l.stackTraces = false) (a : Nat) (x1 : Int) (o : Nat) : ConH E l yL_told cL_told 4 (some .int) [(0, 9, 12, 13)] { frames := 8, cells := 1, slots := 6, locals := 134 } (fun G s vs => vs = [.ref a, .int (zI x1), .ref o] ∧ zGK G ∧ zSK G s ∧ zS0 G s ∧ (gT G a = 12) ∧ (-2147483648 ≤ x1 ∧ x1 ≤ 2147483647) ∧ (gT G o = 120)) (fun G s _ => pI (fun r G2 s2 => G2 = G ∧ zSK G s2 ∧ zFr [12, 120] G s s2 ∧ (0 ≤ r ∧ r ≤ 2) ∧ (((0 ≤ x1 ∧ x1 ≤ 8) → r = 0 ∧ (-1) ≤ s2 o 0 ∧ s2 o 0 ≤ 0 ∧ ((x1 = 3 → s2 o 0 = -1) ∧ (x1 ≠ 3 → s2 o 0 = 0))) ∧ (¬ (0 ≤ x1 ∧ x1 ≤ 8) → r = 1)))) := by
  refine ConH.mk hst (by decide) (fun G s vs h => by rw [h.1]; exact Nat.le_of_ble_eq_true rfl) ?_
  rintro X G s0 vs ⟨rfl, hG, hS0, hF0, ha, hx1, ho⟩ rfl hx hT hq
  show JJ X E 4 G s0 0 0 [(0, .ref a), (1, .int (zI x1)), (2, .ref o)] 0 []
  refine j_aload_n hx 2 dL_told_0 rfl ?_
  refine j_iconst hx dL_told_1 ?_
  refine j_aload_n hx 0 dL_told_2 rfl ?_
  refine j_iload_n hx 1 dL_told_3 rfl ?_
  refine j_callVH hx hG (c_X11_told hst a x1) lk_RL_27 ha (by decide) rfl rfl rfl rfl [.int (zI x1)] ⟨rfl, hG, hS0, ha, (by omega), hF0⟩ rfl rfl ⟨by decide, by decide⟩ ⟨by decide, by decide⟩ (k2 := 1) (n2 := 6) rfl rfl (Nat.le_of_ble_eq_true rfl) dL_told_4 ?_ ?_
  · rintro Ex9 G9 s9 ⟨rfl, hS9, hF9, h9⟩
    obtain ⟨e9, c9⟩ := h9
    · subst e9
      refine ⟨_, ZH1 hx (x := { startPc := 0, endPc := 9, handlerPc := 12, catchType := 13 }) (hT.trans rfl) rfl (by decide) kl_RL_13 cast_I, fun q9 => ?_⟩
      refine j_astore_n hx [(3, .ref q9), (0, .ref a), (1, .int (zI x1)), (2, .ref o)] dL_told_12 (by decide) rfl ?_
      refine j_iconst hx dL_told_13 ?_
      exact j_iret hx hq rfl (by decide) (by decide) dL_told_14 ⟨1, rfl, rfl, hS9, zFr_t zFr_rf hF9 (by decide), ⟨by decide, by decide⟩, by omega⟩
  · refine kIP (fun r1 q1 => ?_)
    refine j_i2l hx dL_told_7 (by omega) ?_
    refine j_last hx hG ho (by decide) rfl (zlen hG ho (n := 1) rfl rfl) (by omega) (by omega) (j := 0) rfl dL_told_8 ?_
    obtain ⟨s8, e8⟩ : ∃ z, z = zU s0 o 0 r1 := ⟨_, rfl⟩
    rw [← e8]
    have hS8 : zSK G s8 := by rw [e8]; exact zSK_A hS0 ho rfl rfl rfl (by omega)
    have g8 : s8 o 0 = r1 := by rw [e8, zU_eq]
    refine j_goto hx 15 dL_told_9 rfl ?_
    refine j_iconst hx dL_told_15 ?_
    exact j_iret hx hq rfl (by decide) (by decide) dL_told_16 ⟨0, rfl, rfl, hS8, zFr_u zFr_rf e8 ho (by decide), ⟨by decide, by decide⟩, by rw [g8]; omega⟩

theorem lk_RL_30 : LkV RL 30 RX11 yX11_player cX11_player 3 (some .int) 2 := ⟨km_RL_30, ki_yX11_player, ks_RX11_yX11_player, kn_RX11, kc_yX11_player, rfl, by decide +kernel, by decide +kernel, by decide +kernel⟩
set_option maxHeartbeats 4000000 in
set_option maxRecDepth 20000 in
theorem c_L_player {E : zE} {l : Launch} (hst : l.stackTraces = false) (a : Nat) (x1 : Int) (x2 : Int) (o : Nat) : ConH E l yL_player cL_player 5 (some .int) [(0, 10, 13, 19), (0, 10, 17, 13)] { frames := 8, cells := 1, slots := 6, locals := 133 } (fun G s vs => vs = [.ref a, .int (zI x1), .int (zI x2), .ref o] ∧ zGK G ∧ zSK G s ∧ zS0 G s ∧ (gT G a = 12) ∧ (-2147483648 ≤ x1 ∧ x1 ≤ 2147483647) ∧ (-2147483648 ≤ x2 ∧ x2 ≤ 2147483647) ∧ (gT G o = 120)) (fun G s _ => pI (fun r G2 s2 => G2 = G ∧ zSK G s2 ∧ zFr [12, 120] G s s2 ∧ (0 ≤ r ∧ r ≤ 2) ∧ (r = 1))) := by
  refine ConH.mk hst (by decide) (fun G s vs h => by rw [h.1]; exact Nat.le_of_ble_eq_true rfl) ?_
  rintro X G s0 vs ⟨rfl, hG, hS0, hF0, ha, hx1, hx2, ho⟩ rfl hx hT hq
  show JJ X E 5 G s0 0 0 [(0, .ref a), (1, .int (zI x1)), (2, .int (zI x2)), (3, .ref o)] 0 []
  refine j_aload_n hx 3 dL_player_0 rfl ?_
  refine j_iconst hx dL_player_1 ?_
  refine j_aload_n hx 0 dL_player_2 rfl ?_
  refine j_iload_n hx 1 dL_player_3 rfl ?_
  refine j_iload_n hx 2 dL_player_4 rfl ?_
  refine j_callVH hx hG (c_X11_player hst a x1 x2) lk_RL_30 ha (by decide) rfl rfl rfl rfl [.int (zI x1), .int (zI x2)] ⟨rfl, hG, hS0, ha, (by omega), (by omega), hF0⟩ rfl rfl ⟨by decide, by decide⟩ ⟨by decide, by decide⟩ (k2 := 1) (n2 := 6) rfl rfl (Nat.le_of_ble_eq_true rfl) dL_player_5 ?_ ?_
  · rintro Ex9 G9 s9 ⟨rfl, hS9, hF9, h9⟩
    obtain ⟨e9, c9⟩ := h9
    · subst e9
      refine ⟨_, ZH1 hx (x := { startPc := 0, endPc := 10, handlerPc := 13, catchType := 19 }) (hT.trans rfl) rfl (by decide) kl_RL_19 cast_N, fun q9 => ?_⟩
      refine j_astore hx [(4, .ref q9), (0, .ref a), (1, .int (zI x1)), (2, .int (zI x2)), (3, .ref o)] dL_player_13 (by decide) rfl ?_
      refine j_iconst hx dL_player_15 ?_
      exact j_iret hx hq rfl (by decide) (by decide) dL_player_16 ⟨1, rfl, rfl, hS9, zFr_t zFr_rf hF9 (by decide), ⟨by decide, by decide⟩, by omega⟩
  · intro v9 G9 s9 h9; exact h9.elim

theorem lk_RL_33 : LkV RL 33 RX11 yX11_row cX11_row 3 (some .int) 2 := ⟨km_RL_33, ki_yX11_row, ks_RX11_yX11_row, kn_RX11, kc_yX11_row, rfl, by decide +kernel, by decide +kernel, by decide +kernel⟩
set_option maxHeartbeats 4000000 in
set_option maxRecDepth 20000 in
theorem c_L_row {E : zE} {l : Launch} (hst : l.stackTraces = false) (a : Nat) (x1 : Int) (x2 : Int) (o : Nat) : ConH E l yL_row cL_row 5 (some .int) [(0, 10, 13, 19)] { frames := 8, cells := 1, slots := 6, locals := 133 } (fun G s vs => vs = [.ref a, .int (zI x1), .int (zI x2), .ref o] ∧ zGK G ∧ zSK G s ∧ zS0 G s ∧ (gT G a = 12) ∧ (-2147483648 ≤ x1 ∧ x1 ≤ 2147483647) ∧ (-2147483648 ≤ x2 ∧ x2 ≤ 2147483647) ∧ (gT G o = 120)) (fun G s _ => pI (fun r G2 s2 => G2 = G ∧ zSK G s2 ∧ zFr [12, 120] G s s2 ∧ (0 ≤ r ∧ r ≤ 2) ∧ (r = 1))) := by
  refine ConH.mk hst (by decide) (fun G s vs h => by rw [h.1]; exact Nat.le_of_ble_eq_true rfl) ?_
  rintro X G s0 vs ⟨rfl, hG, hS0, hF0, ha, hx1, hx2, ho⟩ rfl hx hT hq
  show JJ X E 5 G s0 0 0 [(0, .ref a), (1, .int (zI x1)), (2, .int (zI x2)), (3, .ref o)] 0 []
  refine j_aload_n hx 3 dL_row_0 rfl ?_
  refine j_iconst hx dL_row_1 ?_
  refine j_aload_n hx 0 dL_row_2 rfl ?_
  refine j_iload_n hx 1 dL_row_3 rfl ?_
  refine j_iload_n hx 2 dL_row_4 rfl ?_
  refine j_callVH hx hG (c_X11_row hst a x1 x2) lk_RL_33 ha (by decide) rfl rfl rfl rfl [.int (zI x1), .int (zI x2)] ⟨rfl, hG, hS0, ha, (by omega), (by omega), hF0⟩ rfl rfl ⟨by decide, by decide⟩ ⟨by decide, by decide⟩ (k2 := 1) (n2 := 6) rfl rfl (Nat.le_of_ble_eq_true rfl) dL_row_5 ?_ ?_
  · rintro Ex9 G9 s9 ⟨rfl, hS9, hF9, h9⟩
    obtain ⟨e9, c9⟩ := h9
    · subst e9
      refine ⟨_, ZH1 hx (x := { startPc := 0, endPc := 10, handlerPc := 13, catchType := 19 }) (hT.trans rfl) rfl (by decide) kl_RL_19 cast_N, fun q9 => ?_⟩
      refine j_astore hx [(4, .ref q9), (0, .ref a), (1, .int (zI x1)), (2, .int (zI x2)), (3, .ref o)] dL_row_13 (by decide) rfl ?_
      refine j_iconst hx dL_row_15 ?_
      exact j_iret hx hq rfl (by decide) (by decide) dL_row_16 ⟨1, rfl, rfl, hS9, zFr_t zFr_rf hF9 (by decide), ⟨by decide, by decide⟩, by omega⟩
  · intro v9 G9 s9 h9; exact h9.elim

theorem lk_RL_36 : LkV RL 36 RX11 yX11_heap cX11_heap 3 (some .int) 2 := ⟨km_RL_36, ki_yX11_heap, ks_RX11_yX11_heap, kn_RX11, kc_yX11_heap, rfl, by decide +kernel, by decide +kernel, by decide +kernel⟩
set_option maxHeartbeats 4000000 in
set_option maxRecDepth 20000 in
theorem c_L_heap {E : zE} {l : Launch} (hst : l.stackTraces = false) (a : Nat) (x1 : Int) (x2 : Int) (o : Nat) : ConH E l yL_heap cL_heap 5 (some .int) [(0, 10, 13, 19)] { frames := 8, cells := 1, slots := 6, locals := 133 } (fun G s vs => vs = [.ref a, .int (zI x1), .int (zI x2), .ref o] ∧ zGK G ∧ zSK G s ∧ zS0 G s ∧ (gT G a = 12) ∧ (-2147483648 ≤ x1 ∧ x1 ≤ 2147483647) ∧ (-2147483648 ≤ x2 ∧ x2 ≤ 2147483647) ∧ (gT G o = 120)) (fun G s _ => pI (fun r G2 s2 => G2 = G ∧ zSK G s2 ∧ zFr [12, 120] G s s2 ∧ (0 ≤ r ∧ r ≤ 2) ∧ (r = 1))) := by
  refine ConH.mk hst (by decide) (fun G s vs h => by rw [h.1]; exact Nat.le_of_ble_eq_true rfl) ?_
  rintro X G s0 vs ⟨rfl, hG, hS0, hF0, ha, hx1, hx2, ho⟩ rfl hx hT hq
  show JJ X E 5 G s0 0 0 [(0, .ref a), (1, .int (zI x1)), (2, .int (zI x2)), (3, .ref o)] 0 []
  refine j_aload_n hx 3 dL_heap_0 rfl ?_
  refine j_iconst hx dL_heap_1 ?_
  refine j_aload_n hx 0 dL_heap_2 rfl ?_
  refine j_iload_n hx 1 dL_heap_3 rfl ?_
  refine j_iload_n hx 2 dL_heap_4 rfl ?_
  refine j_callVH hx hG (c_X11_heap hst a x1 x2) lk_RL_36 ha (by decide) rfl rfl rfl rfl [.int (zI x1), .int (zI x2)] ⟨rfl, hG, hS0, ha, (by omega), (by omega), hF0⟩ rfl rfl ⟨by decide, by decide⟩ ⟨by decide, by decide⟩ (k2 := 1) (n2 := 6) rfl rfl (Nat.le_of_ble_eq_true rfl) dL_heap_5 ?_ ?_
  · rintro Ex9 G9 s9 ⟨rfl, hS9, hF9, h9⟩
    obtain ⟨e9, c9⟩ := h9
    · subst e9
      refine ⟨_, ZH1 hx (x := { startPc := 0, endPc := 10, handlerPc := 13, catchType := 19 }) (hT.trans rfl) rfl (by decide) kl_RL_19 cast_N, fun q9 => ?_⟩
      refine j_astore hx [(4, .ref q9), (0, .ref a), (1, .int (zI x1)), (2, .int (zI x2)), (3, .ref o)] dL_heap_13 (by decide) rfl ?_
      refine j_iconst hx dL_heap_15 ?_
      exact j_iret hx hq rfl (by decide) (by decide) dL_heap_16 ⟨1, rfl, rfl, hS9, zFr_t zFr_rf hF9 (by decide), ⟨by decide, by decide⟩, by omega⟩
  · intro v9 G9 s9 h9; exact h9.elim

theorem lk_RL_39 : LkV RL 39 RX11 yX11_lain cX11_lain 4 (some .int) 2 := ⟨km_RL_39, ki_yX11_lain, ks_RX11_yX11_lain, kn_RX11, kc_yX11_lain, rfl, by decide +kernel, by decide +kernel, by decide +kernel⟩
set_option maxHeartbeats 4000000 in
set_option maxRecDepth 20000 in
theorem c_L_lain {E : zE} {l : Launch} (hst : l.stackTraces = false) (a : Nat) (x1 : Int) (x2 : Int) (o : Nat) : ConH E l yL_lain cL_lain 5 (some .int) [(0, 10, 13, 19)] { frames := 8, cells := 1, slots := 6, locals := 134 } (fun G s vs => vs = [.ref a, .int (zI x1), .int (zI x2), .ref o] ∧ zGK G ∧ zSK G s ∧ zS0 G s ∧ (gT G a = 12) ∧ (-2147483648 ≤ x1 ∧ x1 ≤ 2147483647) ∧ (-2147483648 ≤ x2 ∧ x2 ≤ 2147483647) ∧ (gT G o = 120)) (fun G s _ => pI (fun r G2 s2 => G2 = G ∧ zSK G s2 ∧ zFr [12, 120] G s s2 ∧ (0 ≤ r ∧ r ≤ 2) ∧ (r = 1))) := by
  refine ConH.mk hst (by decide) (fun G s vs h => by rw [h.1]; exact Nat.le_of_ble_eq_true rfl) ?_
  rintro X G s0 vs ⟨rfl, hG, hS0, hF0, ha, hx1, hx2, ho⟩ rfl hx hT hq
  show JJ X E 5 G s0 0 0 [(0, .ref a), (1, .int (zI x1)), (2, .int (zI x2)), (3, .ref o)] 0 []
  refine j_aload_n hx 3 dL_lain_0 rfl ?_
  refine j_iconst hx dL_lain_1 ?_
  refine j_aload_n hx 0 dL_lain_2 rfl ?_
  refine j_iload_n hx 1 dL_lain_3 rfl ?_
  refine j_iload_n hx 2 dL_lain_4 rfl ?_
  refine j_callVH hx hG (c_X11_lain hst a x1 x2) lk_RL_39 ha (by decide) rfl rfl rfl rfl [.int (zI x1), .int (zI x2)] ⟨rfl, hG, hS0, ha, (by omega), (by omega), hF0⟩ rfl rfl ⟨by decide, by decide⟩ ⟨by decide, by decide⟩ (k2 := 1) (n2 := 6) rfl rfl (Nat.le_of_ble_eq_true rfl) dL_lain_5 ?_ ?_
  · rintro Ex9 G9 s9 ⟨rfl, hS9, hF9, h9⟩
    obtain ⟨e9, c9⟩ := h9
    · subst e9
      refine ⟨_, ZH1 hx (x := { startPc := 0, endPc := 10, handlerPc := 13, catchType := 19 }) (hT.trans rfl) rfl (by decide) kl_RL_19 cast_N, fun q9 => ?_⟩
      refine j_astore hx [(4, .ref q9), (0, .ref a), (1, .int (zI x1)), (2, .int (zI x2)), (3, .ref o)] dL_lain_13 (by decide) rfl ?_
      refine j_iconst hx dL_lain_15 ?_
      exact j_iret hx hq rfl (by decide) (by decide) dL_lain_16 ⟨1, rfl, rfl, hS9, zFr_t zFr_rf hF9 (by decide), ⟨by decide, by decide⟩, by omega⟩
  · intro v9 G9 s9 h9; exact h9.elim

theorem lk_RL_42 : LkV RL 42 RX11 yX11_would cX11_would 3 (some .boolean) 2 := ⟨km_RL_42, ki_yX11_would, ks_RX11_yX11_would, kn_RX11, kc_yX11_would, rfl, by decide +kernel, by decide +kernel, by decide +kernel⟩
set_option maxHeartbeats 4000000 in
set_option maxRecDepth 20000 in
theorem c_L_would {E : zE} {l : Launch} (hst : l.stackTraces = false) (a : Nat) (x1 : Int) (x2 : Int) (o : Nat) : ConH E l yL_would cL_would 5 (some .int) [(0, 17, 20, 19), (0, 17, 24, 13)] { frames := 8, cells := 1, slots := 6, locals := 133 } (fun G s vs => vs = [.ref a, .int (zI x1), .int (zI x2), .ref o] ∧ zGK G ∧ zSK G s ∧ zS0 G s ∧ (gT G a = 12) ∧ (-2147483648 ≤ x1 ∧ x1 ≤ 2147483647) ∧ (-2147483648 ≤ x2 ∧ x2 ≤ 2147483647) ∧ (gT G o = 120)) (fun G s _ => pI (fun r G2 s2 => G2 = G ∧ zSK G s2 ∧ zFr [12, 120] G s s2 ∧ (0 ≤ r ∧ r ≤ 2) ∧ (r = 1))) := by
  refine ConH.mk hst (by decide) (fun G s vs h => by rw [h.1]; exact Nat.le_of_ble_eq_true rfl) ?_
  rintro X G s0 vs ⟨rfl, hG, hS0, hF0, ha, hx1, hx2, ho⟩ rfl hx hT hq
  show JJ X E 5 G s0 0 0 [(0, .ref a), (1, .int (zI x1)), (2, .int (zI x2)), (3, .ref o)] 0 []
  refine j_aload_n hx 3 dL_would_0 rfl ?_
  refine j_iconst hx dL_would_1 ?_
  refine j_aload_n hx 0 dL_would_2 rfl ?_
  refine j_iload_n hx 1 dL_would_3 rfl ?_
  refine j_iload_n hx 2 dL_would_4 rfl ?_
  refine j_callVH hx hG (c_X11_would hst a x1 x2) lk_RL_42 ha (by decide) rfl rfl rfl rfl [.int (zI x1), .int (zI x2)] ⟨rfl, hG, hS0, ha, (by omega), (by omega), hF0⟩ rfl rfl ⟨by decide, by decide⟩ ⟨by decide, by decide⟩ (k2 := 1) (n2 := 6) rfl rfl (Nat.le_of_ble_eq_true rfl) dL_would_5 ?_ ?_
  · rintro Ex9 G9 s9 ⟨rfl, hS9, hF9, h9⟩
    obtain ⟨e9, c9⟩ := h9
    · subst e9
      refine ⟨_, ZH1 hx (x := { startPc := 0, endPc := 17, handlerPc := 20, catchType := 19 }) (hT.trans rfl) rfl (by decide) kl_RL_19 cast_N, fun q9 => ?_⟩
      refine j_astore hx [(4, .ref q9), (0, .ref a), (1, .int (zI x1)), (2, .int (zI x2)), (3, .ref o)] dL_would_20 (by decide) rfl ?_
      refine j_iconst hx dL_would_22 ?_
      exact j_iret hx hq rfl (by decide) (by decide) dL_would_23 ⟨1, rfl, rfl, hS9, zFr_t zFr_rf hF9 (by decide), ⟨by decide, by decide⟩, by omega⟩
  · intro v9 G9 s9 h9; exact h9.elim

theorem lk_RL_46 : LkV RL 46 RX11 yX11_law cX11_law 4 (some .int) 2 := ⟨km_RL_46, ki_yX11_law, ks_RX11_yX11_law, kn_RX11, kc_yX11_law, rfl, by decide +kernel, by decide +kernel, by decide +kernel⟩
set_option maxHeartbeats 4000000 in
set_option maxRecDepth 20000 in
theorem c_L_law {E : zE} {l : Launch} (hst : l.stackTraces = false) (a : Nat) (x1 : Int) (x2 : Int) (o : Nat) : ConH E l yL_law cL_law 5 (some .int) [(0, 10, 13, 13)] { frames := 8, cells := 2, slots := 12, locals := 136 } (fun G s vs => vs = [.ref a, .int (zI x1), .int (zI x2), .ref o] ∧ zGK G ∧ zSK G s ∧ zS0 G s ∧ (gT G a = 12) ∧ (-2147483648 ≤ x1 ∧ x1 ≤ 2147483647) ∧ (-2147483648 ≤ x2 ∧ x2 ≤ 2147483647) ∧ (gT G o = 120)) (fun G s _ => pI (fun r G2 s2 => G2 = G ∧ zSK G s2 ∧ zFr [5, 12, 44, 120] G s s2 ∧ (0 ≤ r ∧ r ≤ 2) ∧ (((0 ≤ x1 ∧ x1 ≤ 2 ∧ 0 ≤ x2 ∧ x2 ≤ 2) → r = 0 ∧ 0 ≤ s2 o 0 ∧ s2 o 0 ≤ 0) ∧ (¬ (0 ≤ x1 ∧ x1 ≤ 2 ∧ 0 ≤ x2 ∧ x2 ≤ 2) → r = 1)))) := by
  refine ConH.mk hst (by decide) (fun G s vs h => by rw [h.1]; exact Nat.le_of_ble_eq_true rfl) ?_
  rintro X G s0 vs ⟨rfl, hG, hS0, hF0, ha, hx1, hx2, ho⟩ rfl hx hT hq
  show JJ X E 5 G s0 0 0 [(0, .ref a), (1, .int (zI x1)), (2, .int (zI x2)), (3, .ref o)] 0 []
  refine j_aload_n hx 3 dL_law_0 rfl ?_
  refine j_iconst hx dL_law_1 ?_
  refine j_aload_n hx 0 dL_law_2 rfl ?_
  refine j_iload_n hx 1 dL_law_3 rfl ?_
  refine j_iload_n hx 2 dL_law_4 rfl ?_
  refine j_callVH hx hG (c_X11_law hst a x1 x2) lk_RL_46 ha (by decide) rfl rfl rfl rfl [.int (zI x1), .int (zI x2)] ⟨rfl, hG, hS0, ha, (by omega), (by omega), hF0⟩ rfl rfl ⟨by decide, by decide⟩ ⟨by decide, by decide⟩ (k2 := 2) (n2 := 12) rfl rfl (Nat.le_of_ble_eq_true rfl) dL_law_5 ?_ ?_
  · rintro Ex9 G9 s9 ⟨rfl, hS9, hF9, h9⟩
    obtain ⟨e9, c9⟩ := h9
    · subst e9
      refine ⟨_, ZH1 hx (x := { startPc := 0, endPc := 10, handlerPc := 13, catchType := 13 }) (hT.trans rfl) rfl (by decide) kl_RL_13 cast_I, fun q9 => ?_⟩
      refine j_astore hx [(4, .ref q9), (0, .ref a), (1, .int (zI x1)), (2, .int (zI x2)), (3, .ref o)] dL_law_13 (by decide) rfl ?_
      refine j_iconst hx dL_law_15 ?_
      exact j_iret hx hq rfl (by decide) (by decide) dL_law_16 ⟨1, rfl, rfl, hS9, zFr_t zFr_rf hF9 (by decide), ⟨by decide, by decide⟩, by omega⟩
  · refine kIM (fun r1 s1 hS1 hF1 q1 => ?_)
    refine j_i2l hx dL_law_8 (by omega) ?_
    refine j_last hx hG ho (by decide) rfl (zlen hG ho (n := 1) rfl rfl) (by omega) (by omega) (j := 0) rfl dL_law_9 ?_
    obtain ⟨s8, e8⟩ : ∃ z, z = zU s1 o 0 r1 := ⟨_, rfl⟩
    rw [← e8]
    have hS8 : zSK G s8 := by rw [e8]; exact zSK_A hS1 ho rfl rfl rfl (by omega)
    have g8 : s8 o 0 = r1 := by rw [e8, zU_eq]
    refine j_goto hx 17 dL_law_10 rfl ?_
    refine j_iconst hx dL_law_17 ?_
    exact j_iret hx hq rfl (by decide) (by decide) dL_law_18 ⟨0, rfl, rfl, hS8, zFr_u (zFr_t zFr_rf hF1 (by decide)) e8 ho (by decide), ⟨by decide, by decide⟩, by rw [g8]; omega⟩

theorem lk_RL_49 : LkV RL 49 RX11 yX11_play cX11_play 2 (some .int) 1 := ⟨km_RL_49, ki_yX11_play, ks_RX11_yX11_play, kn_RX11, kc_yX11_play, rfl, by decide +kernel, by decide +kernel, by decide +kernel⟩
set_option maxHeartbeats 4000000 in
set_option maxRecDepth 20000 in
theorem c_L_play {E : zE} {l : Launch} (hst : l.stackTraces = false) (a : Nat) (x1 : Int) (o : Nat) : ConH E l yL_play cL_play 4 (some .int) [(0, 9, 12, 13)] { frames := 8, cells := 1, slots := 6, locals := 141 } (fun G s vs => vs = [.ref a, .int (zI x1), .ref o] ∧ zGK G ∧ zSK G s ∧ zS0 G s ∧ (gT G a = 12) ∧ (-2147483648 ≤ x1 ∧ x1 ≤ 2147483647) ∧ (gT G o = 120)) (fun G s _ => pI (fun r G2 s2 => G2 = G ∧ zSK G s2 ∧ zFr [5, 12, 53, 59, 60, 120] G s s2 ∧ (0 ≤ r ∧ r ≤ 2) ∧ (((1 ≤ x1 ∧ x1 ≤ 999) → r = 0 ∧ 0 ≤ s2 o 0 ∧ s2 o 0 ≤ 0) ∧ (¬ (1 ≤ x1 ∧ x1 ≤ 999) → r = 1)))) := by
  refine ConH.mk hst (by decide) (fun G s vs h => by rw [h.1]; exact Nat.le_of_ble_eq_true rfl) ?_
  rintro X G s0 vs ⟨rfl, hG, hS0, hF0, ha, hx1, ho⟩ rfl hx hT hq
  show JJ X E 4 G s0 0 0 [(0, .ref a), (1, .int (zI x1)), (2, .ref o)] 0 []
  refine j_aload_n hx 2 dL_play_0 rfl ?_
  refine j_iconst hx dL_play_1 ?_
  refine j_aload_n hx 0 dL_play_2 rfl ?_
  refine j_iload_n hx 1 dL_play_3 rfl ?_
  refine j_callVH hx hG (c_X11_play hst a x1) lk_RL_49 ha (by decide) rfl rfl rfl rfl [.int (zI x1)] ⟨rfl, hG, hS0, ha, (by omega), hF0⟩ rfl rfl ⟨by decide, by decide⟩ ⟨by decide, by decide⟩ (k2 := 1) (n2 := 6) rfl rfl (Nat.le_of_ble_eq_true rfl) dL_play_4 ?_ ?_
  · rintro Ex9 G9 s9 ⟨rfl, hS9, hF9, h9⟩
    obtain ⟨e9, c9⟩ := h9
    · subst e9
      refine ⟨_, ZH1 hx (x := { startPc := 0, endPc := 9, handlerPc := 12, catchType := 13 }) (hT.trans rfl) rfl (by decide) kl_RL_13 cast_I, fun q9 => ?_⟩
      refine j_astore_n hx [(3, .ref q9), (0, .ref a), (1, .int (zI x1)), (2, .ref o)] dL_play_12 (by decide) rfl ?_
      refine j_iconst hx dL_play_13 ?_
      exact j_iret hx hq rfl (by decide) (by decide) dL_play_14 ⟨1, rfl, rfl, hS9, zFr_t zFr_rf hF9 (by decide), ⟨by decide, by decide⟩, by omega⟩
  · refine kIM (fun r1 s1 hS1 hF1 q1 => ?_)
    refine j_i2l hx dL_play_7 (by omega) ?_
    refine j_last hx hG ho (by decide) rfl (zlen hG ho (n := 1) rfl rfl) (by omega) (by omega) (j := 0) rfl dL_play_8 ?_
    obtain ⟨s8, e8⟩ : ∃ z, z = zU s1 o 0 r1 := ⟨_, rfl⟩
    rw [← e8]
    have hS8 : zSK G s8 := by rw [e8]; exact zSK_A hS1 ho rfl rfl rfl (by omega)
    have g8 : s8 o 0 = r1 := by rw [e8, zU_eq]
    refine j_goto hx 15 dL_play_9 rfl ?_
    refine j_iconst hx dL_play_15 ?_
    exact j_iret hx hq rfl (by decide) (by decide) dL_play_16 ⟨0, rfl, rfl, hS8, zFr_u (zFr_t zFr_rf hF1 (by decide)) e8 ho (by decide), ⟨by decide, by decide⟩, by rw [g8]; omega⟩

theorem lk_RL_52 : LkV RL 52 RX11 yX11_undo cX11_undo 2 (some .int) 1 := ⟨km_RL_52, ki_yX11_undo, ks_RX11_yX11_undo, kn_RX11, kc_yX11_undo, rfl, by decide +kernel, by decide +kernel, by decide +kernel⟩
set_option maxHeartbeats 4000000 in
set_option maxRecDepth 20000 in
theorem c_L_undo {E : zE} {l : Launch} (hst : l.stackTraces = false) (a : Nat) (x1 : Int) (o : Nat) : ConH E l yL_undo cL_undo 4 (some .int) [(0, 9, 12, 13)] { frames := 8, cells := 1, slots := 6, locals := 134 } (fun G s vs => vs = [.ref a, .int (zI x1), .ref o] ∧ zGK G ∧ zSK G s ∧ zS0 G s ∧ (gT G a = 12) ∧ (-2147483648 ≤ x1 ∧ x1 ≤ 2147483647) ∧ (gT G o = 120)) (fun G s _ => pI (fun r G2 s2 => G2 = G ∧ zSK G s2 ∧ zFr [12, 120] G s s2 ∧ (0 ≤ r ∧ r ≤ 2) ∧ (((1 ≤ x1 ∧ x1 ≤ 999) → r = 0 ∧ 0 ≤ s2 o 0 ∧ s2 o 0 ≤ 0) ∧ (¬ (1 ≤ x1 ∧ x1 ≤ 999) → r = 1)))) := by
  refine ConH.mk hst (by decide) (fun G s vs h => by rw [h.1]; exact Nat.le_of_ble_eq_true rfl) ?_
  rintro X G s0 vs ⟨rfl, hG, hS0, hF0, ha, hx1, ho⟩ rfl hx hT hq
  show JJ X E 4 G s0 0 0 [(0, .ref a), (1, .int (zI x1)), (2, .ref o)] 0 []
  refine j_aload_n hx 2 dL_undo_0 rfl ?_
  refine j_iconst hx dL_undo_1 ?_
  refine j_aload_n hx 0 dL_undo_2 rfl ?_
  refine j_iload_n hx 1 dL_undo_3 rfl ?_
  refine j_callVH hx hG (c_X11_undo hst a x1) lk_RL_52 ha (by decide) rfl rfl rfl rfl [.int (zI x1)] ⟨rfl, hG, hS0, ha, (by omega), hF0⟩ rfl rfl ⟨by decide, by decide⟩ ⟨by decide, by decide⟩ (k2 := 1) (n2 := 6) rfl rfl (Nat.le_of_ble_eq_true rfl) dL_undo_4 ?_ ?_
  · rintro Ex9 G9 s9 ⟨rfl, hS9, hF9, h9⟩
    obtain ⟨e9, c9⟩ := h9
    · subst e9
      refine ⟨_, ZH1 hx (x := { startPc := 0, endPc := 9, handlerPc := 12, catchType := 13 }) (hT.trans rfl) rfl (by decide) kl_RL_13 cast_I, fun q9 => ?_⟩
      refine j_astore_n hx [(3, .ref q9), (0, .ref a), (1, .int (zI x1)), (2, .ref o)] dL_undo_12 (by decide) rfl ?_
      refine j_iconst hx dL_undo_13 ?_
      exact j_iret hx hq rfl (by decide) (by decide) dL_undo_14 ⟨1, rfl, rfl, hS9, zFr_t zFr_rf hF9 (by decide), ⟨by decide, by decide⟩, by omega⟩
  · refine kIP (fun r1 q1 => ?_)
    refine j_i2l hx dL_undo_7 (by omega) ?_
    refine j_last hx hG ho (by decide) rfl (zlen hG ho (n := 1) rfl rfl) (by omega) (by omega) (j := 0) rfl dL_undo_8 ?_
    obtain ⟨s8, e8⟩ : ∃ z, z = zU s0 o 0 r1 := ⟨_, rfl⟩
    rw [← e8]
    have hS8 : zSK G s8 := by rw [e8]; exact zSK_A hS0 ho rfl rfl rfl (by omega)
    have g8 : s8 o 0 = r1 := by rw [e8, zU_eq]
    refine j_goto hx 15 dL_undo_9 rfl ?_
    refine j_iconst hx dL_undo_15 ?_
    exact j_iret hx hq rfl (by decide) (by decide) dL_undo_16 ⟨0, rfl, rfl, hS8, zFr_u zFr_rf e8 ho (by decide), ⟨by decide, by decide⟩, by rw [g8]; omega⟩

theorem lk_RL_55 : LkV RL 55 RX11 yX11_latest cX11_latest 2 (some .int) 1 := ⟨km_RL_55, ki_yX11_latest, ks_RX11_yX11_latest, kn_RX11, kc_yX11_latest, rfl, by decide +kernel, by decide +kernel, by decide +kernel⟩
set_option maxHeartbeats 4000000 in
set_option maxRecDepth 20000 in
theorem c_L_latest {E : zE} {l : Launch} (hst : l.stackTraces = false) (a : Nat) (x1 : Int) (o : Nat) : ConH E l yL_latest cL_latest 4 (some .int) [(0, 9, 12, 13)] { frames := 8, cells := 1, slots := 6, locals := 134 } (fun G s vs => vs = [.ref a, .int (zI x1), .ref o] ∧ zGK G ∧ zSK G s ∧ zS0 G s ∧ (gT G a = 12) ∧ (-2147483648 ≤ x1 ∧ x1 ≤ 2147483647) ∧ (gT G o = 120)) (fun G s _ => pI (fun r G2 s2 => G2 = G ∧ zSK G s2 ∧ zFr [12, 120] G s s2 ∧ (0 ≤ r ∧ r ≤ 2) ∧ (((0 ≤ x1 ∧ x1 ≤ 4) → r = 0 ∧ (-1) ≤ s2 o 0 ∧ s2 o 0 ≤ (-1)) ∧ (¬ (0 ≤ x1 ∧ x1 ≤ 4) → r = 1)))) := by
  refine ConH.mk hst (by decide) (fun G s vs h => by rw [h.1]; exact Nat.le_of_ble_eq_true rfl) ?_
  rintro X G s0 vs ⟨rfl, hG, hS0, hF0, ha, hx1, ho⟩ rfl hx hT hq
  show JJ X E 4 G s0 0 0 [(0, .ref a), (1, .int (zI x1)), (2, .ref o)] 0 []
  refine j_aload_n hx 2 dL_latest_0 rfl ?_
  refine j_iconst hx dL_latest_1 ?_
  refine j_aload_n hx 0 dL_latest_2 rfl ?_
  refine j_iload_n hx 1 dL_latest_3 rfl ?_
  refine j_callVH hx hG (c_X11_latest hst a x1) lk_RL_55 ha (by decide) rfl rfl rfl rfl [.int (zI x1)] ⟨rfl, hG, hS0, ha, (by omega), hF0⟩ rfl rfl ⟨by decide, by decide⟩ ⟨by decide, by decide⟩ (k2 := 1) (n2 := 6) rfl rfl (Nat.le_of_ble_eq_true rfl) dL_latest_4 ?_ ?_
  · rintro Ex9 G9 s9 ⟨rfl, hS9, hF9, h9⟩
    obtain ⟨e9, c9⟩ := h9
    · subst e9
      refine ⟨_, ZH1 hx (x := { startPc := 0, endPc := 9, handlerPc := 12, catchType := 13 }) (hT.trans rfl) rfl (by decide) kl_RL_13 cast_I, fun q9 => ?_⟩
      refine j_astore_n hx [(3, .ref q9), (0, .ref a), (1, .int (zI x1)), (2, .ref o)] dL_latest_12 (by decide) rfl ?_
      refine j_iconst hx dL_latest_13 ?_
      exact j_iret hx hq rfl (by decide) (by decide) dL_latest_14 ⟨1, rfl, rfl, hS9, zFr_t zFr_rf hF9 (by decide), ⟨by decide, by decide⟩, by omega⟩
  · refine kIP (fun r1 q1 => ?_)
    refine j_i2l hx dL_latest_7 (by omega) ?_
    refine j_last hx hG ho (by decide) rfl (zlen hG ho (n := 1) rfl rfl) (by omega) (by omega) (j := 0) rfl dL_latest_8 ?_
    obtain ⟨s8, e8⟩ : ∃ z, z = zU s0 o 0 r1 := ⟨_, rfl⟩
    rw [← e8]
    have hS8 : zSK G s8 := by rw [e8]; exact zSK_A hS0 ho rfl rfl rfl (by omega)
    have g8 : s8 o 0 = r1 := by rw [e8, zU_eq]
    refine j_goto hx 15 dL_latest_9 rfl ?_
    refine j_iconst hx dL_latest_15 ?_
    exact j_iret hx hq rfl (by decide) (by decide) dL_latest_16 ⟨0, rfl, rfl, hS8, zFr_u zFr_rf e8 ho (by decide), ⟨by decide, by decide⟩, by rw [g8]; omega⟩

theorem lk_RL_58 : LkV RL 58 RX11 yX11_calls cX11_calls 3 (some .int) 2 := ⟨km_RL_58, ki_yX11_calls, ks_RX11_yX11_calls, kn_RX11, kc_yX11_calls, rfl, by decide +kernel, by decide +kernel, by decide +kernel⟩
set_option maxHeartbeats 4000000 in
set_option maxRecDepth 20000 in
theorem c_L_calls {E : zE} {l : Launch} (hst : l.stackTraces = false) (a : Nat) (x1 : Int) (x2 : Int) (o : Nat) : ConH E l yL_calls cL_calls 5 (some .int) [(0, 10, 13, 19), (0, 10, 17, 13)] { frames := 8, cells := 1, slots := 6, locals := 133 } (fun G s vs => vs = [.ref a, .int (zI x1), .int (zI x2), .ref o] ∧ zGK G ∧ zSK G s ∧ zS0 G s ∧ (gT G a = 12) ∧ (-2147483648 ≤ x1 ∧ x1 ≤ 2147483647) ∧ (-2147483648 ≤ x2 ∧ x2 ≤ 2147483647) ∧ (gT G o = 120)) (fun G s _ => pI (fun r G2 s2 => G2 = G ∧ zSK G s2 ∧ zFr [12, 120] G s s2 ∧ (0 ≤ r ∧ r ≤ 2) ∧ (r = 1))) := by
  refine ConH.mk hst (by decide) (fun G s vs h => by rw [h.1]; exact Nat.le_of_ble_eq_true rfl) ?_
  rintro X G s0 vs ⟨rfl, hG, hS0, hF0, ha, hx1, hx2, ho⟩ rfl hx hT hq
  show JJ X E 5 G s0 0 0 [(0, .ref a), (1, .int (zI x1)), (2, .int (zI x2)), (3, .ref o)] 0 []
  refine j_aload_n hx 3 dL_calls_0 rfl ?_
  refine j_iconst hx dL_calls_1 ?_
  refine j_aload_n hx 0 dL_calls_2 rfl ?_
  refine j_iload_n hx 1 dL_calls_3 rfl ?_
  refine j_iload_n hx 2 dL_calls_4 rfl ?_
  refine j_callVH hx hG (c_X11_calls hst a x1 x2) lk_RL_58 ha (by decide) rfl rfl rfl rfl [.int (zI x1), .int (zI x2)] ⟨rfl, hG, hS0, ha, (by omega), (by omega), hF0⟩ rfl rfl ⟨by decide, by decide⟩ ⟨by decide, by decide⟩ (k2 := 1) (n2 := 6) rfl rfl (Nat.le_of_ble_eq_true rfl) dL_calls_5 ?_ ?_
  · rintro Ex9 G9 s9 ⟨rfl, hS9, hF9, h9⟩
    obtain ⟨e9, c9⟩ := h9
    · subst e9
      refine ⟨_, ZH1 hx (x := { startPc := 0, endPc := 10, handlerPc := 13, catchType := 19 }) (hT.trans rfl) rfl (by decide) kl_RL_19 cast_N, fun q9 => ?_⟩
      refine j_astore hx [(4, .ref q9), (0, .ref a), (1, .int (zI x1)), (2, .int (zI x2)), (3, .ref o)] dL_calls_13 (by decide) rfl ?_
      refine j_iconst hx dL_calls_15 ?_
      exact j_iret hx hq rfl (by decide) (by decide) dL_calls_16 ⟨1, rfl, rfl, hS9, zFr_t zFr_rf hF9 (by decide), ⟨by decide, by decide⟩, by omega⟩
  · intro v9 G9 s9 h9; exact h9.elim

theorem lk_RL_61 : LkV RL 61 RX11 yX11_won cX11_won 2 (some .int) 1 := ⟨km_RL_61, ki_yX11_won, ks_RX11_yX11_won, kn_RX11, kc_yX11_won, rfl, by decide +kernel, by decide +kernel, by decide +kernel⟩
set_option maxHeartbeats 4000000 in
set_option maxRecDepth 20000 in
theorem c_L_won {E : zE} {l : Launch} (hst : l.stackTraces = false) (a : Nat) (x1 : Int) (o : Nat) : ConH E l yL_won cL_won 4 (some .int) [(0, 9, 12, 19)] { frames := 8, cells := 1, slots := 6, locals := 132 } (fun G s vs => vs = [.ref a, .int (zI x1), .ref o] ∧ zGK G ∧ zSK G s ∧ zS0 G s ∧ (gT G a = 12) ∧ (-2147483648 ≤ x1 ∧ x1 ≤ 2147483647) ∧ (gT G o = 120)) (fun G s _ => pI (fun r G2 s2 => G2 = G ∧ zSK G s2 ∧ zFr [12, 120] G s s2 ∧ (0 ≤ r ∧ r ≤ 2) ∧ (r = 1))) := by
  refine ConH.mk hst (by decide) (fun G s vs h => by rw [h.1]; exact Nat.le_of_ble_eq_true rfl) ?_
  rintro X G s0 vs ⟨rfl, hG, hS0, hF0, ha, hx1, ho⟩ rfl hx hT hq
  show JJ X E 4 G s0 0 0 [(0, .ref a), (1, .int (zI x1)), (2, .ref o)] 0 []
  refine j_aload_n hx 2 dL_won_0 rfl ?_
  refine j_iconst hx dL_won_1 ?_
  refine j_aload_n hx 0 dL_won_2 rfl ?_
  refine j_iload_n hx 1 dL_won_3 rfl ?_
  refine j_callVH hx hG (c_X11_won hst a x1) lk_RL_61 ha (by decide) rfl rfl rfl rfl [.int (zI x1)] ⟨rfl, hG, hS0, ha, (by omega), hF0⟩ rfl rfl ⟨by decide, by decide⟩ ⟨by decide, by decide⟩ (k2 := 1) (n2 := 6) rfl rfl (Nat.le_of_ble_eq_true rfl) dL_won_4 ?_ ?_
  · rintro Ex9 G9 s9 ⟨rfl, hS9, hF9, h9⟩
    obtain ⟨e9, c9⟩ := h9
    · subst e9
      refine ⟨_, ZH1 hx (x := { startPc := 0, endPc := 9, handlerPc := 12, catchType := 19 }) (hT.trans rfl) rfl (by decide) kl_RL_19 cast_N, fun q9 => ?_⟩
      refine j_astore_n hx [(3, .ref q9), (0, .ref a), (1, .int (zI x1)), (2, .ref o)] dL_won_12 (by decide) rfl ?_
      refine j_iconst hx dL_won_13 ?_
      exact j_iret hx hq rfl (by decide) (by decide) dL_won_14 ⟨1, rfl, rfl, hS9, zFr_t zFr_rf hF9 (by decide), ⟨by decide, by decide⟩, by omega⟩
  · intro v9 G9 s9 h9; exact h9.elim

theorem lk_RL_64 : LkV RL 64 RX11 yX11_ends cX11_ends 2 (some .int) 1 := ⟨km_RL_64, ki_yX11_ends, ks_RX11_yX11_ends, kn_RX11, kc_yX11_ends, rfl, by decide +kernel, by decide +kernel, by decide +kernel⟩
set_option maxHeartbeats 4000000 in
set_option maxRecDepth 20000 in
theorem c_L_ends {E : zE} {l : Launch} (hst : l.stackTraces = false) (a : Nat) (x1 : Int) (o : Nat) : ConH E l yL_ends cL_ends 4 (some .int) [(0, 9, 12, 13)] { frames := 8, cells := 1, slots := 6, locals := 134 } (fun G s vs => vs = [.ref a, .int (zI x1), .ref o] ∧ zGK G ∧ zSK G s ∧ zS0 G s ∧ (gT G a = 12) ∧ (-2147483648 ≤ x1 ∧ x1 ≤ 2147483647) ∧ (gT G o = 120)) (fun G s _ => pI (fun r G2 s2 => G2 = G ∧ zSK G s2 ∧ zFr [1, 3, 4, 7, 12, 44, 49, 50, 54, 120] G s s2 ∧ (0 ≤ r ∧ r ≤ 2) ∧ (((0 ≤ x1 ∧ x1 ≤ 3) → r = 0 ∧ (-1) ≤ s2 o 0 ∧ s2 o 0 ≤ 1 ∧ ((x1 = 0 → s2 o 0 = -1) ∧ (x1 = 1 → s2 o 0 = 0) ∧ (x1 = 2 → s2 o 0 = 1) ∧ (x1 = 3 → s2 o 0 = 0))) ∧ (¬ (0 ≤ x1 ∧ x1 ≤ 3) → r = 1)))) := by
  refine ConH.mk hst (by decide) (fun G s vs h => by rw [h.1]; exact Nat.le_of_ble_eq_true rfl) ?_
  rintro X G s0 vs ⟨rfl, hG, hS0, hF0, ha, hx1, ho⟩ rfl hx hT hq
  show JJ X E 4 G s0 0 0 [(0, .ref a), (1, .int (zI x1)), (2, .ref o)] 0 []
  refine j_aload_n hx 2 dL_ends_0 rfl ?_
  refine j_iconst hx dL_ends_1 ?_
  refine j_aload_n hx 0 dL_ends_2 rfl ?_
  refine j_iload_n hx 1 dL_ends_3 rfl ?_
  refine j_callVH hx hG (c_X11_ends hst a x1) lk_RL_64 ha (by decide) rfl rfl rfl rfl [.int (zI x1)] ⟨rfl, hG, hS0, ha, (by omega), hF0⟩ rfl rfl ⟨by decide, by decide⟩ ⟨by decide, by decide⟩ (k2 := 1) (n2 := 6) rfl rfl (Nat.le_of_ble_eq_true rfl) dL_ends_4 ?_ ?_
  · rintro Ex9 G9 s9 ⟨rfl, hS9, hF9, h9⟩
    obtain ⟨e9, c9⟩ := h9
    · subst e9
      refine ⟨_, ZH1 hx (x := { startPc := 0, endPc := 9, handlerPc := 12, catchType := 13 }) (hT.trans rfl) rfl (by decide) kl_RL_13 cast_I, fun q9 => ?_⟩
      refine j_astore_n hx [(3, .ref q9), (0, .ref a), (1, .int (zI x1)), (2, .ref o)] dL_ends_12 (by decide) rfl ?_
      refine j_iconst hx dL_ends_13 ?_
      exact j_iret hx hq rfl (by decide) (by decide) dL_ends_14 ⟨1, rfl, rfl, hS9, zFr_t zFr_rf hF9 (by decide), ⟨by decide, by decide⟩, by omega⟩
  · refine kIM (fun r1 s1 hS1 hF1 q1 => ?_)
    refine j_i2l hx dL_ends_7 (by omega) ?_
    refine j_last hx hG ho (by decide) rfl (zlen hG ho (n := 1) rfl rfl) (by omega) (by omega) (j := 0) rfl dL_ends_8 ?_
    obtain ⟨s8, e8⟩ : ∃ z, z = zU s1 o 0 r1 := ⟨_, rfl⟩
    rw [← e8]
    have hS8 : zSK G s8 := by rw [e8]; exact zSK_A hS1 ho rfl rfl rfl (by omega)
    have g8 : s8 o 0 = r1 := by rw [e8, zU_eq]
    refine j_goto hx 15 dL_ends_9 rfl ?_
    refine j_iconst hx dL_ends_15 ?_
    exact j_iret hx hq rfl (by decide) (by decide) dL_ends_16 ⟨0, rfl, rfl, hS8, zFr_u (zFr_t zFr_rf hF1 (by decide)) e8 ho (by decide), ⟨by decide, by decide⟩, by rw [g8]; omega⟩

theorem lk_RL_67 : LkV RL 67 RX11 yX11_chance cX11_chance 9 (some .int) 3 := ⟨km_RL_67, ki_yX11_chance, ks_RX11_yX11_chance, kn_RX11, kc_yX11_chance, rfl, by decide +kernel, by decide +kernel, by decide +kernel⟩
set_option maxHeartbeats 4000000 in
set_option maxRecDepth 20000 in
theorem c_L_chance {E : zE} {l : Launch} (hst : l.stackTraces = false) (a : Nat) (x1 : Int) (x2 : Int) (x3 : Int) (o : Nat) : ConH E l yL_chance cL_chance 6 (some .int) [(0, 12, 15, 19), (0, 12, 19, 13)] { frames := 8, cells := 1, slots := 6, locals := 139 } (fun G s vs => vs = [.ref a, .int (zI x1), .int (zI x2), .int (zI x3), .ref o] ∧ zGK G ∧ zSK G s ∧ zS0 G s ∧ (gT G a = 12) ∧ (-2147483648 ≤ x1 ∧ x1 ≤ 2147483647) ∧ (-2147483648 ≤ x2 ∧ x2 ≤ 2147483647) ∧ (-2147483648 ≤ x3 ∧ x3 ≤ 2147483647) ∧ (gT G o = 120)) (fun G s _ => pI (fun r G2 s2 => G2 = G ∧ zSK G s2 ∧ zFr [12, 120] G s s2 ∧ (0 ≤ r ∧ r ≤ 2) ∧ (r = 1))) := by
  refine ConH.mk hst (by decide) (fun G s vs h => by rw [h.1]; exact Nat.le_of_ble_eq_true rfl) ?_
  rintro X G s0 vs ⟨rfl, hG, hS0, hF0, ha, hx1, hx2, hx3, ho⟩ rfl hx hT hq
  show JJ X E 6 G s0 0 0 [(0, .ref a), (1, .int (zI x1)), (2, .int (zI x2)), (3, .int (zI x3)), (4, .ref o)] 0 []
  refine j_aload hx 4 dL_chance_0 rfl ?_
  refine j_iconst hx dL_chance_2 ?_
  refine j_aload_n hx 0 dL_chance_3 rfl ?_
  refine j_iload_n hx 1 dL_chance_4 rfl ?_
  refine j_iload_n hx 2 dL_chance_5 rfl ?_
  refine j_iload_n hx 3 dL_chance_6 rfl ?_
  refine j_callVH hx hG (c_X11_chance hst a x1 x2 x3) lk_RL_67 ha (by decide) rfl rfl rfl rfl [.int (zI x1), .int (zI x2), .int (zI x3)] ⟨rfl, hG, hS0, ha, (by omega), (by omega), (by omega), hF0⟩ rfl rfl ⟨by decide, by decide⟩ ⟨by decide, by decide⟩ (k2 := 1) (n2 := 6) rfl rfl (Nat.le_of_ble_eq_true rfl) dL_chance_7 ?_ ?_
  · rintro Ex9 G9 s9 ⟨rfl, hS9, hF9, h9⟩
    obtain ⟨e9, c9⟩ := h9
    · subst e9
      refine ⟨_, ZH1 hx (x := { startPc := 0, endPc := 12, handlerPc := 15, catchType := 19 }) (hT.trans rfl) rfl (by decide) kl_RL_19 cast_N, fun q9 => ?_⟩
      refine j_astore hx [(5, .ref q9), (0, .ref a), (1, .int (zI x1)), (2, .int (zI x2)), (3, .int (zI x3)), (4, .ref o)] dL_chance_15 (by decide) rfl ?_
      refine j_iconst hx dL_chance_17 ?_
      exact j_iret hx hq rfl (by decide) (by decide) dL_chance_18 ⟨1, rfl, rfl, hS9, zFr_t zFr_rf hF9 (by decide), ⟨by decide, by decide⟩, by omega⟩
  · intro v9 G9 s9 h9; exact h9.elim

theorem lk_RL_71 : LkV RL 71 RX11 yX11_waits cX11_waits 7 (some .int) 4 := ⟨km_RL_71, ki_yX11_waits, ks_RX11_yX11_waits, kn_RX11, kc_yX11_waits, rfl, by decide +kernel, by decide +kernel, by decide +kernel⟩
set_option maxHeartbeats 4000000 in
set_option maxRecDepth 20000 in
theorem c_L_waits {E : zE} {l : Launch} (hst : l.stackTraces = false) (a : Nat) (x1 : Int) (x2 : Int) (x3 : Int) (x4 : Int) (o : Nat) : ConH E l yL_waits cL_waits 7 (some .int) [(0, 14, 17, 13)] { frames := 9, cells := 4, slots := 24, locals := 163 } (fun G s vs => vs = [.ref a, .int (zI x1), .int (zI x2), .int (zI x3), .int (zI x4), .ref o] ∧ zGK G ∧ zSK G s ∧ zS0 G s ∧ (gT G a = 12) ∧ (-2147483648 ≤ x1 ∧ x1 ≤ 2147483647) ∧ (-2147483648 ≤ x2 ∧ x2 ≤ 2147483647) ∧ (-2147483648 ≤ x3 ∧ x3 ≤ 2147483647) ∧ (-2147483648 ≤ x4 ∧ x4 ≤ 2147483647) ∧ (gT G o = 120)) (fun G s _ => pI (fun r G2 s2 => G2 = G ∧ zSK G s2 ∧ zFr [12, 120] G s s2 ∧ (0 ≤ r ∧ r ≤ 2) ∧ (((1 ≤ x2 ∧ x2 ≤ 99 ∧ 0 ≤ x1 ∧ x1 ≤ x2 ∧ 0 ≤ x3 ∧ x3 ≤ 99 ∧ 0 ≤ x4 ∧ x4 ≤ 99) → r = 0 ∧ 0 ≤ s2 o 0 ∧ s2 o 0 ≤ 17 ∧ ((s2 o 0 ≤ 16 → 16 * (x1 * x3 - (x2 - x1) * x4) ≤ s2 o 0 * (x1 * x3))) ∧ ((1 ≤ s2 o 0 → (s2 o 0 - 1) * (x1 * x3) < 16 * (x1 * x3 - (x2 - x1) * x4)))) ∧ (¬ (1 ≤ x2 ∧ x2 ≤ 99 ∧ 0 ≤ x1 ∧ x1 ≤ x2 ∧ 0 ≤ x3 ∧ x3 ≤ 99 ∧ 0 ≤ x4 ∧ x4 ≤ 99) → r = 1)))) := by
  refine ConH.mk hst (by decide) (fun G s vs h => by rw [h.1]; exact Nat.le_of_ble_eq_true rfl) ?_
  rintro X G s0 vs ⟨rfl, hG, hS0, hF0, ha, hx1, hx2, hx3, hx4, ho⟩ rfl hx hT hq
  show JJ X E 7 G s0 0 0 [(0, .ref a), (1, .int (zI x1)), (2, .int (zI x2)), (3, .int (zI x3)), (4, .int (zI x4)), (5, .ref o)] 0 []
  refine j_aload hx 5 dL_waits_0 rfl ?_
  refine j_iconst hx dL_waits_2 ?_
  refine j_aload_n hx 0 dL_waits_3 rfl ?_
  refine j_iload_n hx 1 dL_waits_4 rfl ?_
  refine j_iload_n hx 2 dL_waits_5 rfl ?_
  refine j_iload_n hx 3 dL_waits_6 rfl ?_
  refine j_iload hx 4 dL_waits_7 rfl ?_
  refine j_callVH hx hG (c_X11_waits hst a x1 x2 x3 x4) lk_RL_71 ha (by decide) rfl rfl rfl rfl [.int (zI x1), .int (zI x2), .int (zI x3), .int (zI x4)] ⟨rfl, hG, hS0, ha, (by omega), (by omega), (by omega), (by omega), hF0⟩ rfl rfl ⟨by decide, by decide⟩ ⟨by decide, by decide⟩ (k2 := 4) (n2 := 24) rfl rfl (Nat.le_of_ble_eq_true rfl) dL_waits_9 ?_ ?_
  · rintro Ex9 G9 s9 ⟨rfl, hS9, hF9, h9⟩
    obtain ⟨e9, c9⟩ := h9
    · subst e9
      refine ⟨_, ZH1 hx (x := { startPc := 0, endPc := 14, handlerPc := 17, catchType := 13 }) (hT.trans rfl) rfl (by decide) kl_RL_13 cast_I, fun q9 => ?_⟩
      refine j_astore hx [(6, .ref q9), (0, .ref a), (1, .int (zI x1)), (2, .int (zI x2)), (3, .int (zI x3)), (4, .int (zI x4)), (5, .ref o)] dL_waits_17 (by decide) rfl ?_
      refine j_iconst hx dL_waits_19 ?_
      exact j_iret hx hq rfl (by decide) (by decide) dL_waits_20 ⟨1, rfl, rfl, hS9, zFr_t zFr_rf hF9 (by decide), ⟨by decide, by decide⟩, by omega⟩
  · refine kIP (fun r1 q1 => ?_)
    refine j_i2l hx dL_waits_12 (by omega) ?_
    refine j_last hx hG ho (by decide) rfl (zlen hG ho (n := 1) rfl rfl) (by omega) (by omega) (j := 0) rfl dL_waits_13 ?_
    obtain ⟨s8, e8⟩ : ∃ z, z = zU s0 o 0 r1 := ⟨_, rfl⟩
    rw [← e8]
    have hS8 : zSK G s8 := by rw [e8]; exact zSK_A hS0 ho rfl rfl rfl (by omega)
    have g8 : s8 o 0 = r1 := by rw [e8, zU_eq]
    refine j_goto hx 21 dL_waits_14 rfl ?_
    refine j_iconst hx dL_waits_21 ?_
    exact j_iret hx hq rfl (by decide) (by decide) dL_waits_22 ⟨0, rfl, rfl, hS8, zFr_u zFr_rf e8 ho (by decide), ⟨by decide, by decide⟩, by rw [g8]; omega⟩

theorem lk_RL_75 : LkV RL 75 RX11 yX11_ahead cX11_ahead 5 (some .int) 4 := ⟨km_RL_75, ki_yX11_ahead, ks_RX11_yX11_ahead, kn_RX11, kc_yX11_ahead, rfl, by decide +kernel, by decide +kernel, by decide +kernel⟩
set_option maxHeartbeats 4000000 in
set_option maxRecDepth 20000 in
theorem c_L_ahead {E : zE} {l : Launch} (hst : l.stackTraces = false) (a : Nat) (x1 : Int) (x2 : Int) (x3 : Int) (x4 : Int) (o : Nat) : ConH E l yL_ahead cL_ahead 7 (some .int) [(0, 14, 17, 13)] { frames := 9, cells := 4, slots := 24, locals := 161 } (fun G s vs => vs = [.ref a, .int (zI x1), .int (zI x2), .int (zI x3), .int (zI x4), .ref o] ∧ zGK G ∧ zSK G s ∧ zS0 G s ∧ (gT G a = 12) ∧ (-2147483648 ≤ x1 ∧ x1 ≤ 2147483647) ∧ (-2147483648 ≤ x2 ∧ x2 ≤ 2147483647) ∧ (-2147483648 ≤ x3 ∧ x3 ≤ 2147483647) ∧ (-2147483648 ≤ x4 ∧ x4 ≤ 2147483647) ∧ (gT G o = 120)) (fun G s _ => pI (fun r G2 s2 => G2 = G ∧ zSK G s2 ∧ zFr [12, 120] G s s2 ∧ (0 ≤ r ∧ r ≤ 2) ∧ (((1 ≤ x2 ∧ x2 ≤ 99 ∧ 0 ≤ x1 ∧ x1 ≤ x2 ∧ 0 ≤ x3 ∧ x3 ≤ 99 ∧ 0 ≤ x4 ∧ x4 ≤ 99) → r = 0 ∧ (-9801) ≤ s2 o 0 ∧ s2 o 0 ≤ 9801 ∧ (s2 o 0 = x1 * x3 - (x2 - x1) * x4)) ∧ (¬ (1 ≤ x2 ∧ x2 ≤ 99 ∧ 0 ≤ x1 ∧ x1 ≤ x2 ∧ 0 ≤ x3 ∧ x3 ≤ 99 ∧ 0 ≤ x4 ∧ x4 ≤ 99) → r = 1)))) := by
  refine ConH.mk hst (by decide) (fun G s vs h => by rw [h.1]; exact Nat.le_of_ble_eq_true rfl) ?_
  rintro X G s0 vs ⟨rfl, hG, hS0, hF0, ha, hx1, hx2, hx3, hx4, ho⟩ rfl hx hT hq
  show JJ X E 7 G s0 0 0 [(0, .ref a), (1, .int (zI x1)), (2, .int (zI x2)), (3, .int (zI x3)), (4, .int (zI x4)), (5, .ref o)] 0 []
  refine j_aload hx 5 dL_ahead_0 rfl ?_
  refine j_iconst hx dL_ahead_2 ?_
  refine j_aload_n hx 0 dL_ahead_3 rfl ?_
  refine j_iload_n hx 1 dL_ahead_4 rfl ?_
  refine j_iload_n hx 2 dL_ahead_5 rfl ?_
  refine j_iload_n hx 3 dL_ahead_6 rfl ?_
  refine j_iload hx 4 dL_ahead_7 rfl ?_
  refine j_callVH hx hG (c_X11_ahead hst a x1 x2 x3 x4) lk_RL_75 ha (by decide) rfl rfl rfl rfl [.int (zI x1), .int (zI x2), .int (zI x3), .int (zI x4)] ⟨rfl, hG, hS0, ha, (by omega), (by omega), (by omega), (by omega), hF0⟩ rfl rfl ⟨by decide, by decide⟩ ⟨by decide, by decide⟩ (k2 := 4) (n2 := 24) rfl rfl (Nat.le_of_ble_eq_true rfl) dL_ahead_9 ?_ ?_
  · rintro Ex9 G9 s9 ⟨rfl, hS9, hF9, h9⟩
    obtain ⟨e9, c9⟩ := h9
    · subst e9
      refine ⟨_, ZH1 hx (x := { startPc := 0, endPc := 14, handlerPc := 17, catchType := 13 }) (hT.trans rfl) rfl (by decide) kl_RL_13 cast_I, fun q9 => ?_⟩
      refine j_astore hx [(6, .ref q9), (0, .ref a), (1, .int (zI x1)), (2, .int (zI x2)), (3, .int (zI x3)), (4, .int (zI x4)), (5, .ref o)] dL_ahead_17 (by decide) rfl ?_
      refine j_iconst hx dL_ahead_19 ?_
      exact j_iret hx hq rfl (by decide) (by decide) dL_ahead_20 ⟨1, rfl, rfl, hS9, zFr_t zFr_rf hF9 (by decide), ⟨by decide, by decide⟩, by omega⟩
  · refine kIP (fun r1 q1 => ?_)
    refine j_i2l hx dL_ahead_12 (by omega) ?_
    refine j_last hx hG ho (by decide) rfl (zlen hG ho (n := 1) rfl rfl) (by omega) (by omega) (j := 0) rfl dL_ahead_13 ?_
    obtain ⟨s8, e8⟩ : ∃ z, z = zU s0 o 0 r1 := ⟨_, rfl⟩
    rw [← e8]
    have hS8 : zSK G s8 := by rw [e8]; exact zSK_A hS0 ho rfl rfl rfl (by omega)
    have g8 : s8 o 0 = r1 := by rw [e8, zU_eq]
    refine j_goto hx 21 dL_ahead_14 rfl ?_
    refine j_iconst hx dL_ahead_21 ?_
    exact j_iret hx hq rfl (by decide) (by decide) dL_ahead_22 ⟨0, rfl, rfl, hS8, zFr_u zFr_rf e8 ho (by decide), ⟨by decide, by decide⟩, by rw [g8]; omega⟩

theorem lk_RL_78 : LkV RL 78 RX11 yX11_moments cX11_moments 4 (some .int) 3 := ⟨km_RL_78, ki_yX11_moments, ks_RX11_yX11_moments, kn_RX11, kc_yX11_moments, rfl, by decide +kernel, by decide +kernel, by decide +kernel⟩
set_option maxHeartbeats 4000000 in
set_option maxRecDepth 20000 in
theorem c_L_moments {E : zE} {l : Launch} (hst : l.stackTraces = false) (a : Nat) (x1 : Int) (x2 : Int) (x3 : Int) (o : Nat) : ConH E l yL_moments cL_moments 6 (some .int) [(0, 12, 15, 13)] { frames := 8, cells := 3, slots := 18, locals := 136 } (fun G s vs => vs = [.ref a, .int (zI x1), .int (zI x2), .int (zI x3), .ref o] ∧ zGK G ∧ zSK G s ∧ zS0 G s ∧ (gT G a = 12) ∧ (-2147483648 ≤ x1 ∧ x1 ≤ 2147483647) ∧ (-2147483648 ≤ x2 ∧ x2 ≤ 2147483647) ∧ (-2147483648 ≤ x3 ∧ x3 ≤ 2147483647) ∧ (gT G o = 120)) (fun G s _ => pI (fun r G2 s2 => G2 = G ∧ zSK G s2 ∧ zFr [12, 120] G s s2 ∧ (0 ≤ r ∧ r ≤ 2) ∧ (((x1 = 0 ∧ x2 = 0 ∧ 0 ≤ x3 ∧ x3 ≤ 99) → r = 0 ∧ 0 ≤ s2 o 0 ∧ s2 o 0 ≤ 0) ∧ (¬ (x1 = 0 ∧ x2 = 0 ∧ 0 ≤ x3 ∧ x3 ≤ 99) → r = 1)))) := by
  refine ConH.mk hst (by decide) (fun G s vs h => by rw [h.1]; exact Nat.le_of_ble_eq_true rfl) ?_
  rintro X G s0 vs ⟨rfl, hG, hS0, hF0, ha, hx1, hx2, hx3, ho⟩ rfl hx hT hq
  show JJ X E 6 G s0 0 0 [(0, .ref a), (1, .int (zI x1)), (2, .int (zI x2)), (3, .int (zI x3)), (4, .ref o)] 0 []
  refine j_aload hx 4 dL_moments_0 rfl ?_
  refine j_iconst hx dL_moments_2 ?_
  refine j_aload_n hx 0 dL_moments_3 rfl ?_
  refine j_iload_n hx 1 dL_moments_4 rfl ?_
  refine j_iload_n hx 2 dL_moments_5 rfl ?_
  refine j_iload_n hx 3 dL_moments_6 rfl ?_
  refine j_callVH hx hG (c_X11_moments hst a x1 x2 x3) lk_RL_78 ha (by decide) rfl rfl rfl rfl [.int (zI x1), .int (zI x2), .int (zI x3)] ⟨rfl, hG, hS0, ha, (by omega), (by omega), (by omega), hF0⟩ rfl rfl ⟨by decide, by decide⟩ ⟨by decide, by decide⟩ (k2 := 3) (n2 := 18) rfl rfl (Nat.le_of_ble_eq_true rfl) dL_moments_7 ?_ ?_
  · rintro Ex9 G9 s9 ⟨rfl, hS9, hF9, h9⟩
    obtain ⟨e9, c9⟩ := h9
    · subst e9
      refine ⟨_, ZH1 hx (x := { startPc := 0, endPc := 12, handlerPc := 15, catchType := 13 }) (hT.trans rfl) rfl (by decide) kl_RL_13 cast_I, fun q9 => ?_⟩
      refine j_astore hx [(5, .ref q9), (0, .ref a), (1, .int (zI x1)), (2, .int (zI x2)), (3, .int (zI x3)), (4, .ref o)] dL_moments_15 (by decide) rfl ?_
      refine j_iconst hx dL_moments_17 ?_
      exact j_iret hx hq rfl (by decide) (by decide) dL_moments_18 ⟨1, rfl, rfl, hS9, zFr_t zFr_rf hF9 (by decide), ⟨by decide, by decide⟩, by omega⟩
  · refine kIP (fun r1 q1 => ?_)
    refine j_i2l hx dL_moments_10 (by omega) ?_
    refine j_last hx hG ho (by decide) rfl (zlen hG ho (n := 1) rfl rfl) (by omega) (by omega) (j := 0) rfl dL_moments_11 ?_
    obtain ⟨s8, e8⟩ : ∃ z, z = zU s0 o 0 r1 := ⟨_, rfl⟩
    rw [← e8]
    have hS8 : zSK G s8 := by rw [e8]; exact zSK_A hS0 ho rfl rfl rfl (by omega)
    have g8 : s8 o 0 = r1 := by rw [e8, zU_eq]
    refine j_goto hx 19 dL_moments_12 rfl ?_
    refine j_iconst hx dL_moments_19 ?_
    exact j_iret hx hq rfl (by decide) (by decide) dL_moments_20 ⟨0, rfl, rfl, hS8, zFr_u zFr_rf e8 ho (by decide), ⟨by decide, by decide⟩, by rw [g8]; omega⟩

theorem lk_RL_81 : LkV RL 81 RX11 yX11_rests cX11_rests 7 (some .int) 2 := ⟨km_RL_81, ki_yX11_rests, ks_RX11_yX11_rests, kn_RX11, kc_yX11_rests, rfl, by decide +kernel, by decide +kernel, by decide +kernel⟩
set_option maxHeartbeats 4000000 in
set_option maxRecDepth 20000 in
theorem c_L_rests {E : zE} {l : Launch} (hst : l.stackTraces = false) (a : Nat) (x1 : Int) (x2 : Int) (o : Nat) : ConH E l yL_rests cL_rests 5 (some .int) [(0, 10, 13, 13)] { frames := 8, cells := 2, slots := 12, locals := 139 } (fun G s vs => vs = [.ref a, .int (zI x1), .int (zI x2), .ref o] ∧ zGK G ∧ zSK G s ∧ zS0 G s ∧ (gT G a = 12) ∧ (-2147483648 ≤ x1 ∧ x1 ≤ 2147483647) ∧ (-2147483648 ≤ x2 ∧ x2 ≤ 2147483647) ∧ (gT G o = 120)) (fun G s _ => pI (fun r G2 s2 => G2 = G ∧ zSK G s2 ∧ zFr [12, 120] G s s2 ∧ (0 ≤ r ∧ r ≤ 2) ∧ (((0 ≤ x1 ∧ x1 ≤ 99 ∧ 0 ≤ x2 ∧ x2 ≤ 1) → r = 0 ∧ 0 ≤ s2 o 0 ∧ s2 o 0 ≤ 1 ∧ ((x2 = 0 → s2 o 0 = 1) ∧ (x2 ≠ 0 → s2 o 0 = 0))) ∧ (¬ (0 ≤ x1 ∧ x1 ≤ 99 ∧ 0 ≤ x2 ∧ x2 ≤ 1) → r = 1)))) := by
  refine ConH.mk hst (by decide) (fun G s vs h => by rw [h.1]; exact Nat.le_of_ble_eq_true rfl) ?_
  rintro X G s0 vs ⟨rfl, hG, hS0, hF0, ha, hx1, hx2, ho⟩ rfl hx hT hq
  show JJ X E 5 G s0 0 0 [(0, .ref a), (1, .int (zI x1)), (2, .int (zI x2)), (3, .ref o)] 0 []
  refine j_aload_n hx 3 dL_rests_0 rfl ?_
  refine j_iconst hx dL_rests_1 ?_
  refine j_aload_n hx 0 dL_rests_2 rfl ?_
  refine j_iload_n hx 1 dL_rests_3 rfl ?_
  refine j_iload_n hx 2 dL_rests_4 rfl ?_
  refine j_callVH hx hG (c_X11_rests hst a x1 x2) lk_RL_81 ha (by decide) rfl rfl rfl rfl [.int (zI x1), .int (zI x2)] ⟨rfl, hG, hS0, ha, (by omega), (by omega), hF0⟩ rfl rfl ⟨by decide, by decide⟩ ⟨by decide, by decide⟩ (k2 := 2) (n2 := 12) rfl rfl (Nat.le_of_ble_eq_true rfl) dL_rests_5 ?_ ?_
  · rintro Ex9 G9 s9 ⟨rfl, hS9, hF9, h9⟩
    obtain ⟨e9, c9⟩ := h9
    · subst e9
      refine ⟨_, ZH1 hx (x := { startPc := 0, endPc := 10, handlerPc := 13, catchType := 13 }) (hT.trans rfl) rfl (by decide) kl_RL_13 cast_I, fun q9 => ?_⟩
      refine j_astore hx [(4, .ref q9), (0, .ref a), (1, .int (zI x1)), (2, .int (zI x2)), (3, .ref o)] dL_rests_13 (by decide) rfl ?_
      refine j_iconst hx dL_rests_15 ?_
      exact j_iret hx hq rfl (by decide) (by decide) dL_rests_16 ⟨1, rfl, rfl, hS9, zFr_t zFr_rf hF9 (by decide), ⟨by decide, by decide⟩, by omega⟩
  · refine kIP (fun r1 q1 => ?_)
    refine j_i2l hx dL_rests_8 (by omega) ?_
    refine j_last hx hG ho (by decide) rfl (zlen hG ho (n := 1) rfl rfl) (by omega) (by omega) (j := 0) rfl dL_rests_9 ?_
    obtain ⟨s8, e8⟩ : ∃ z, z = zU s0 o 0 r1 := ⟨_, rfl⟩
    rw [← e8]
    have hS8 : zSK G s8 := by rw [e8]; exact zSK_A hS0 ho rfl rfl rfl (by omega)
    have g8 : s8 o 0 = r1 := by rw [e8, zU_eq]
    refine j_goto hx 17 dL_rests_10 rfl ?_
    refine j_iconst hx dL_rests_17 ?_
    exact j_iret hx hq rfl (by decide) (by decide) dL_rests_18 ⟨0, rfl, rfl, hS8, zFr_u zFr_rf e8 ho (by decide), ⟨by decide, by decide⟩, by rw [g8]; omega⟩

theorem lk_RL_84 : LkV RL 84 RX11 yX11_remember cX11_remember 4 (some .int) 3 := ⟨km_RL_84, ki_yX11_remember, ks_RX11_yX11_remember, kn_RX11, kc_yX11_remember, rfl, by decide +kernel, by decide +kernel, by decide +kernel⟩
set_option maxHeartbeats 4000000 in
set_option maxRecDepth 20000 in
theorem c_L_remember {E : zE} {l : Launch} (hst : l.stackTraces = false) (a : Nat) (x1 : Int) (x2 : Int) (x3 : Int) (o : Nat) : ConH E l yL_remember cL_remember 6 (some .int) [(0, 12, 15, 19), (0, 12, 19, 13)] { frames := 8, cells := 1, slots := 6, locals := 134 } (fun G s vs => vs = [.ref a, .int (zI x1), .int (zI x2), .int (zI x3), .ref o] ∧ zGK G ∧ zSK G s ∧ zS0 G s ∧ (gT G a = 12) ∧ (-2147483648 ≤ x1 ∧ x1 ≤ 2147483647) ∧ (-2147483648 ≤ x2 ∧ x2 ≤ 2147483647) ∧ (-2147483648 ≤ x3 ∧ x3 ≤ 2147483647) ∧ (gT G o = 120)) (fun G s _ => pI (fun r G2 s2 => G2 = G ∧ zSK G s2 ∧ zFr [12, 120] G s s2 ∧ (0 ≤ r ∧ r ≤ 2) ∧ (r = 1))) := by
  refine ConH.mk hst (by decide) (fun G s vs h => by rw [h.1]; exact Nat.le_of_ble_eq_true rfl) ?_
  rintro X G s0 vs ⟨rfl, hG, hS0, hF0, ha, hx1, hx2, hx3, ho⟩ rfl hx hT hq
  show JJ X E 6 G s0 0 0 [(0, .ref a), (1, .int (zI x1)), (2, .int (zI x2)), (3, .int (zI x3)), (4, .ref o)] 0 []
  refine j_aload hx 4 dL_remember_0 rfl ?_
  refine j_iconst hx dL_remember_2 ?_
  refine j_aload_n hx 0 dL_remember_3 rfl ?_
  refine j_iload_n hx 1 dL_remember_4 rfl ?_
  refine j_iload_n hx 2 dL_remember_5 rfl ?_
  refine j_iload_n hx 3 dL_remember_6 rfl ?_
  refine j_callVH hx hG (c_X11_remember hst a x1 x2 x3) lk_RL_84 ha (by decide) rfl rfl rfl rfl [.int (zI x1), .int (zI x2), .int (zI x3)] ⟨rfl, hG, hS0, ha, (by omega), (by omega), (by omega), hF0⟩ rfl rfl ⟨by decide, by decide⟩ ⟨by decide, by decide⟩ (k2 := 1) (n2 := 6) rfl rfl (Nat.le_of_ble_eq_true rfl) dL_remember_7 ?_ ?_
  · rintro Ex9 G9 s9 ⟨rfl, hS9, hF9, h9⟩
    obtain ⟨e9, c9⟩ := h9
    · subst e9
      refine ⟨_, ZH1 hx (x := { startPc := 0, endPc := 12, handlerPc := 15, catchType := 19 }) (hT.trans rfl) rfl (by decide) kl_RL_19 cast_N, fun q9 => ?_⟩
      refine j_astore hx [(5, .ref q9), (0, .ref a), (1, .int (zI x1)), (2, .int (zI x2)), (3, .int (zI x3)), (4, .ref o)] dL_remember_15 (by decide) rfl ?_
      refine j_iconst hx dL_remember_17 ?_
      exact j_iret hx hq rfl (by decide) (by decide) dL_remember_18 ⟨1, rfl, rfl, hS9, zFr_t zFr_rf hF9 (by decide), ⟨by decide, by decide⟩, by omega⟩
  · intro v9 G9 s9 h9; exact h9.elim

theorem lk_RL_87 : LkV RL 87 RX11 yX11_odds cX11_odds 4 (some .long) 3 := ⟨km_RL_87, ki_yX11_odds, ks_RX11_yX11_odds, kn_RX11, kc_yX11_odds, rfl, by decide +kernel, by decide +kernel, by decide +kernel⟩
set_option maxHeartbeats 4000000 in
set_option maxRecDepth 20000 in
theorem c_L_odds {E : zE} {l : Launch} (hst : l.stackTraces = false) (a : Nat) (x1 : Int) (x2 : Int) (x3 : Int) (o : Nat) : ConH E l yL_odds cL_odds 6 (some .int) [(0, 11, 14, 19), (0, 11, 18, 13)] { frames := 8, cells := 1, slots := 6, locals := 134 } (fun G s vs => vs = [.ref a, .int (zI x1), .int (zI x2), .int (zI x3), .ref o] ∧ zGK G ∧ zSK G s ∧ zS0 G s ∧ (gT G a = 12) ∧ (-2147483648 ≤ x1 ∧ x1 ≤ 2147483647) ∧ (-2147483648 ≤ x2 ∧ x2 ≤ 2147483647) ∧ (-2147483648 ≤ x3 ∧ x3 ≤ 2147483647) ∧ (gT G o = 120)) (fun G s _ => pI (fun r G2 s2 => G2 = G ∧ zSK G s2 ∧ zFr [12, 120] G s s2 ∧ (0 ≤ r ∧ r ≤ 2) ∧ (r = 1))) := by
  refine ConH.mk hst (by decide) (fun G s vs h => by rw [h.1]; exact Nat.le_of_ble_eq_true rfl) ?_
  rintro X G s0 vs ⟨rfl, hG, hS0, hF0, ha, hx1, hx2, hx3, ho⟩ rfl hx hT hq
  show JJ X E 6 G s0 0 0 [(0, .ref a), (1, .int (zI x1)), (2, .int (zI x2)), (3, .int (zI x3)), (4, .ref o)] 0 []
  refine j_aload hx 4 dL_odds_0 rfl ?_
  refine j_iconst hx dL_odds_2 ?_
  refine j_aload_n hx 0 dL_odds_3 rfl ?_
  refine j_iload_n hx 1 dL_odds_4 rfl ?_
  refine j_iload_n hx 2 dL_odds_5 rfl ?_
  refine j_iload_n hx 3 dL_odds_6 rfl ?_
  refine j_callVH hx hG (c_X11_odds hst a x1 x2 x3) lk_RL_87 ha (by decide) rfl rfl rfl rfl [.int (zI x1), .int (zI x2), .int (zI x3)] ⟨rfl, hG, hS0, ha, (by omega), (by omega), (by omega), hF0⟩ rfl rfl ⟨by decide, by decide⟩ ⟨by decide, by decide⟩ (k2 := 1) (n2 := 6) rfl rfl (Nat.le_of_ble_eq_true rfl) dL_odds_7 ?_ ?_
  · rintro Ex9 G9 s9 ⟨rfl, hS9, hF9, h9⟩
    obtain ⟨e9, c9⟩ := h9
    · subst e9
      refine ⟨_, ZH1 hx (x := { startPc := 0, endPc := 11, handlerPc := 14, catchType := 19 }) (hT.trans rfl) rfl (by decide) kl_RL_19 cast_N, fun q9 => ?_⟩
      refine j_astore hx [(5, .ref q9), (0, .ref a), (1, .int (zI x1)), (2, .int (zI x2)), (3, .int (zI x3)), (4, .ref o)] dL_odds_14 (by decide) rfl ?_
      refine j_iconst hx dL_odds_16 ?_
      exact j_iret hx hq rfl (by decide) (by decide) dL_odds_17 ⟨1, rfl, rfl, hS9, zFr_t zFr_rf hF9 (by decide), ⟨by decide, by decide⟩, by omega⟩
  · intro v9 G9 s9 h9; exact h9.elim

theorem lk_RL_91 : LkV RL 91 RX11 yX11_lot cX11_lot 9 (some .int) 3 := ⟨km_RL_91, ki_yX11_lot, ks_RX11_yX11_lot, kn_RX11, kc_yX11_lot, rfl, by decide +kernel, by decide +kernel, by decide +kernel⟩
set_option maxHeartbeats 4000000 in
set_option maxRecDepth 20000 in
theorem c_L_lot {E : zE} {l : Launch} (hst : l.stackTraces = false) (a : Nat) (x1 : Int) (x2 : Int) (x3 : Int) (o : Nat) : ConH E l yL_lot cL_lot 6 (some .int) [(0, 12, 15, 13)] { frames := 8, cells := 2, slots := 12, locals := 141 } (fun G s vs => vs = [.ref a, .int (zI x1), .int (zI x2), .int (zI x3), .ref o] ∧ zGK G ∧ zSK G s ∧ zS0 G s ∧ (gT G a = 12) ∧ (-2147483648 ≤ x1 ∧ x1 ≤ 2147483647) ∧ (-2147483648 ≤ x2 ∧ x2 ≤ 2147483647) ∧ (-2147483648 ≤ x3 ∧ x3 ≤ 2147483647) ∧ (gT G o = 120)) (fun G s _ => pI (fun r G2 s2 => G2 = G ∧ zSK G s2 ∧ zFr [1, 3, 4, 7, 12, 44, 49, 50, 54, 120] G s s2 ∧ (0 ≤ r ∧ r ≤ 2) ∧ (((1 ≤ x2 ∧ x2 ≤ 20 ∧ 0 ≤ x3 ∧ x3 ≤ 5) → r = 0 ∧ 0 ≤ s2 o 0 ∧ s2 o 0 ≤ 0) ∧ (¬ (1 ≤ x2 ∧ x2 ≤ 20 ∧ 0 ≤ x3 ∧ x3 ≤ 5) → r = 1)))) := by
  refine ConH.mk hst (by decide) (fun G s vs h => by rw [h.1]; exact Nat.le_of_ble_eq_true rfl) ?_
  rintro X G s0 vs ⟨rfl, hG, hS0, hF0, ha, hx1, hx2, hx3, ho⟩ rfl hx hT hq
  show JJ X E 6 G s0 0 0 [(0, .ref a), (1, .int (zI x1)), (2, .int (zI x2)), (3, .int (zI x3)), (4, .ref o)] 0 []
  refine j_aload hx 4 dL_lot_0 rfl ?_
  refine j_iconst hx dL_lot_2 ?_
  refine j_aload_n hx 0 dL_lot_3 rfl ?_
  refine j_iload_n hx 1 dL_lot_4 rfl ?_
  refine j_iload_n hx 2 dL_lot_5 rfl ?_
  refine j_iload_n hx 3 dL_lot_6 rfl ?_
  refine j_callVH hx hG (c_X11_lot hst a x1 x2 x3) lk_RL_91 ha (by decide) rfl rfl rfl rfl [.int (zI x1), .int (zI x2), .int (zI x3)] ⟨rfl, hG, hS0, ha, (by omega), (by omega), (by omega), hF0⟩ rfl rfl ⟨by decide, by decide⟩ ⟨by decide, by decide⟩ (k2 := 2) (n2 := 12) rfl rfl (Nat.le_of_ble_eq_true rfl) dL_lot_7 ?_ ?_
  · rintro Ex9 G9 s9 ⟨rfl, hS9, hF9, h9⟩
    obtain ⟨e9, c9⟩ := h9
    · subst e9
      refine ⟨_, ZH1 hx (x := { startPc := 0, endPc := 12, handlerPc := 15, catchType := 13 }) (hT.trans rfl) rfl (by decide) kl_RL_13 cast_I, fun q9 => ?_⟩
      refine j_astore hx [(5, .ref q9), (0, .ref a), (1, .int (zI x1)), (2, .int (zI x2)), (3, .int (zI x3)), (4, .ref o)] dL_lot_15 (by decide) rfl ?_
      refine j_iconst hx dL_lot_17 ?_
      exact j_iret hx hq rfl (by decide) (by decide) dL_lot_18 ⟨1, rfl, rfl, hS9, zFr_t zFr_rf hF9 (by decide), ⟨by decide, by decide⟩, by omega⟩
  · refine kIM (fun r1 s1 hS1 hF1 q1 => ?_)
    refine j_i2l hx dL_lot_10 (by omega) ?_
    refine j_last hx hG ho (by decide) rfl (zlen hG ho (n := 1) rfl rfl) (by omega) (by omega) (j := 0) rfl dL_lot_11 ?_
    obtain ⟨s8, e8⟩ : ∃ z, z = zU s1 o 0 r1 := ⟨_, rfl⟩
    rw [← e8]
    have hS8 : zSK G s8 := by rw [e8]; exact zSK_A hS1 ho rfl rfl rfl (by omega)
    have g8 : s8 o 0 = r1 := by rw [e8, zU_eq]
    refine j_goto hx 19 dL_lot_12 rfl ?_
    refine j_iconst hx dL_lot_19 ?_
    exact j_iret hx hq rfl (by decide) (by decide) dL_lot_20 ⟨0, rfl, rfl, hS8, zFr_u (zFr_t zFr_rf hF1 (by decide)) e8 ho (by decide), ⟨by decide, by decide⟩, by rw [g8]; omega⟩

theorem lk_RL_94 : LkV RL 94 RX11 yX11_film cX11_film 10 (some .int) 5 := ⟨km_RL_94, ki_yX11_film, ks_RX11_yX11_film, kn_RX11, kc_yX11_film, rfl, by decide +kernel, by decide +kernel, by decide +kernel⟩
set_option maxHeartbeats 4000000 in
set_option maxRecDepth 20000 in
theorem c_L_film {E : zE} {l : Launch} (hst : l.stackTraces = false) (a : Nat) (x1 : Int) (x2 : Int) (x3 : Int) (x4 : Int) (x5 : Int) (o : Nat) : ConH E l yL_film cL_film 8 (some .int) [(0, 16, 19, 13)] { frames := 8, cells := 5, slots := 30, locals := 142 } (fun G s vs => vs = [.ref a, .int (zI x1), .int (zI x2), .int (zI x3), .int (zI x4), .int (zI x5), .ref o] ∧ zGK G ∧ zSK G s ∧ zS0 G s ∧ (gT G a = 12) ∧ (-2147483648 ≤ x1 ∧ x1 ≤ 2147483647) ∧ (-2147483648 ≤ x2 ∧ x2 ≤ 2147483647) ∧ (-2147483648 ≤ x3 ∧ x3 ≤ 2147483647) ∧ (-2147483648 ≤ x4 ∧ x4 ≤ 2147483647) ∧ (-2147483648 ≤ x5 ∧ x5 ≤ 2147483647) ∧ (gT G o = 120)) (fun G s _ => pI (fun r G2 s2 => G2 = G ∧ zSK G s2 ∧ zFr [12, 120] G s s2 ∧ (0 ≤ r ∧ r ≤ 2) ∧ (((0 ≤ x1 ∧ x1 ≤ x2 ∧ x2 ≤ 99 ∧ 0 ≤ x3 ∧ x3 ≤ x4 ∧ x4 ≤ 99 ∧ 0 ≤ x5 ∧ x5 ≤ 2) → r = 0 ∧ 0 ≤ s2 o 0 ∧ s2 o 0 ≤ 10000 ∧ ((x5 = 0 → s2 o 0 = zFE x1 x3 x4 (x2 + 1 - x1).toNat)) ∧ ((x5 = 1 → s2 o 0 = zFB x1 x3 x4 (x2 + 1 - x1).toNat)) ∧ ((x5 = 2 → s2 o 0 = (x2 - x1 + 1) * (x4 - x3 + 1)))) ∧ (¬ (0 ≤ x1 ∧ x1 ≤ x2 ∧ x2 ≤ 99 ∧ 0 ≤ x3 ∧ x3 ≤ x4 ∧ x4 ≤ 99 ∧ 0 ≤ x5 ∧ x5 ≤ 2) → r = 1)))) := by
  refine ConH.mk hst (by decide) (fun G s vs h => by rw [h.1]; exact Nat.le_of_ble_eq_true rfl) ?_
  rintro X G s0 vs ⟨rfl, hG, hS0, hF0, ha, hx1, hx2, hx3, hx4, hx5, ho⟩ rfl hx hT hq
  show JJ X E 8 G s0 0 0 [(0, .ref a), (1, .int (zI x1)), (2, .int (zI x2)), (3, .int (zI x3)), (4, .int (zI x4)), (5, .int (zI x5)), (6, .ref o)] 0 []
  refine j_aload hx 6 dL_film_0 rfl ?_
  refine j_iconst hx dL_film_2 ?_
  refine j_aload_n hx 0 dL_film_3 rfl ?_
  refine j_iload_n hx 1 dL_film_4 rfl ?_
  refine j_iload_n hx 2 dL_film_5 rfl ?_
  refine j_iload_n hx 3 dL_film_6 rfl ?_
  refine j_iload hx 4 dL_film_7 rfl ?_
  refine j_iload hx 5 dL_film_9 rfl ?_
  refine j_callVH hx hG (c_X11_film hst a x1 x2 x3 x4 x5) lk_RL_94 ha (by decide) rfl rfl rfl rfl [.int (zI x1), .int (zI x2), .int (zI x3), .int (zI x4), .int (zI x5)] ⟨rfl, hG, hS0, ha, (by omega), (by omega), (by omega), (by omega), (by omega), hF0⟩ rfl rfl ⟨by decide, by decide⟩ ⟨by decide, by decide⟩ (k2 := 5) (n2 := 30) rfl rfl (Nat.le_of_ble_eq_true rfl) dL_film_11 ?_ ?_
  · rintro Ex9 G9 s9 ⟨rfl, hS9, hF9, h9⟩
    obtain ⟨e9, c9⟩ := h9
    · subst e9
      refine ⟨_, ZH1 hx (x := { startPc := 0, endPc := 16, handlerPc := 19, catchType := 13 }) (hT.trans rfl) rfl (by decide) kl_RL_13 cast_I, fun q9 => ?_⟩
      refine j_astore hx [(7, .ref q9), (0, .ref a), (1, .int (zI x1)), (2, .int (zI x2)), (3, .int (zI x3)), (4, .int (zI x4)), (5, .int (zI x5)), (6, .ref o)] dL_film_19 (by decide) rfl ?_
      refine j_iconst hx dL_film_21 ?_
      exact j_iret hx hq rfl (by decide) (by decide) dL_film_22 ⟨1, rfl, rfl, hS9, zFr_t zFr_rf hF9 (by decide), ⟨by decide, by decide⟩, by omega⟩
  · refine kIP (fun r1 q1 => ?_)
    refine j_i2l hx dL_film_14 (by omega) ?_
    refine j_last hx hG ho (by decide) rfl (zlen hG ho (n := 1) rfl rfl) (by omega) (by omega) (j := 0) rfl dL_film_15 ?_
    obtain ⟨s8, e8⟩ : ∃ z, z = zU s0 o 0 r1 := ⟨_, rfl⟩
    rw [← e8]
    have hS8 : zSK G s8 := by rw [e8]; exact zSK_A hS0 ho rfl rfl rfl (by omega)
    have g8 : s8 o 0 = r1 := by rw [e8, zU_eq]
    refine j_goto hx 23 dL_film_16 rfl ?_
    refine j_iconst hx dL_film_23 ?_
    exact j_iret hx hq rfl (by decide) (by decide) dL_film_24 ⟨0, rfl, rfl, hS8, zFr_u zFr_rf e8 ho (by decide), ⟨by decide, by decide⟩, by rw [g8]; omega⟩

theorem lk_RL_98 : LkV RL 98 RX11 yX11_laws cX11_laws 3 (some .int) 2 := ⟨km_RL_98, ki_yX11_laws, ks_RX11_yX11_laws, kn_RX11, kc_yX11_laws, rfl, by decide +kernel, by decide +kernel, by decide +kernel⟩
set_option maxHeartbeats 4000000 in
set_option maxRecDepth 20000 in
theorem c_L_laws {E : zE} {l : Launch} (hst : l.stackTraces = false) (a : Nat) (x1 : Int) (x2 : Int) (o : Nat) : ConH E l yL_laws cL_laws 5 (some .int) [(0, 10, 13, 13)] { frames := 8, cells := 2, slots := 12, locals := 135 } (fun G s vs => vs = [.ref a, .int (zI x1), .int (zI x2), .ref o] ∧ zGK G ∧ zSK G s ∧ zS0 G s ∧ (gT G a = 12) ∧ (-2147483648 ≤ x1 ∧ x1 ≤ 2147483647) ∧ (-2147483648 ≤ x2 ∧ x2 ≤ 2147483647) ∧ (gT G o = 120)) (fun G s _ => pI (fun r G2 s2 => G2 = G ∧ zSK G s2 ∧ zFr [1, 3, 4, 7, 12, 44, 49, 50, 54, 120] G s s2 ∧ (0 ≤ r ∧ r ≤ 2) ∧ (((0 ≤ x1 ∧ x1 ≤ 8 ∧ 0 ≤ x2 ∧ x2 ≤ 1) → r = 0 ∧ (-1) ≤ s2 o 0 ∧ s2 o 0 ≤ 0 ∧ ((x2 = 0 → s2 o 0 = -1) ∧ (x2 ≠ 0 → s2 o 0 = 0))) ∧ (¬ (0 ≤ x1 ∧ x1 ≤ 8 ∧ 0 ≤ x2 ∧ x2 ≤ 1) → r = 1)))) := by
  refine ConH.mk hst (by decide) (fun G s vs h => by rw [h.1]; exact Nat.le_of_ble_eq_true rfl) ?_
  rintro X G s0 vs ⟨rfl, hG, hS0, hF0, ha, hx1, hx2, ho⟩ rfl hx hT hq
  show JJ X E 5 G s0 0 0 [(0, .ref a), (1, .int (zI x1)), (2, .int (zI x2)), (3, .ref o)] 0 []
  refine j_aload_n hx 3 dL_laws_0 rfl ?_
  refine j_iconst hx dL_laws_1 ?_
  refine j_aload_n hx 0 dL_laws_2 rfl ?_
  refine j_iload_n hx 1 dL_laws_3 rfl ?_
  refine j_iload_n hx 2 dL_laws_4 rfl ?_
  refine j_callVH hx hG (c_X11_laws hst a x1 x2) lk_RL_98 ha (by decide) rfl rfl rfl rfl [.int (zI x1), .int (zI x2)] ⟨rfl, hG, hS0, ha, (by omega), (by omega), hF0⟩ rfl rfl ⟨by decide, by decide⟩ ⟨by decide, by decide⟩ (k2 := 2) (n2 := 12) rfl rfl (Nat.le_of_ble_eq_true rfl) dL_laws_5 ?_ ?_
  · rintro Ex9 G9 s9 ⟨rfl, hS9, hF9, h9⟩
    obtain ⟨e9, c9⟩ := h9
    · subst e9
      refine ⟨_, ZH1 hx (x := { startPc := 0, endPc := 10, handlerPc := 13, catchType := 13 }) (hT.trans rfl) rfl (by decide) kl_RL_13 cast_I, fun q9 => ?_⟩
      refine j_astore hx [(4, .ref q9), (0, .ref a), (1, .int (zI x1)), (2, .int (zI x2)), (3, .ref o)] dL_laws_13 (by decide) rfl ?_
      refine j_iconst hx dL_laws_15 ?_
      exact j_iret hx hq rfl (by decide) (by decide) dL_laws_16 ⟨1, rfl, rfl, hS9, zFr_t zFr_rf hF9 (by decide), ⟨by decide, by decide⟩, by omega⟩
  · refine kIM (fun r1 s1 hS1 hF1 q1 => ?_)
    refine j_i2l hx dL_laws_8 (by omega) ?_
    refine j_last hx hG ho (by decide) rfl (zlen hG ho (n := 1) rfl rfl) (by omega) (by omega) (j := 0) rfl dL_laws_9 ?_
    obtain ⟨s8, e8⟩ : ∃ z, z = zU s1 o 0 r1 := ⟨_, rfl⟩
    rw [← e8]
    have hS8 : zSK G s8 := by rw [e8]; exact zSK_A hS1 ho rfl rfl rfl (by omega)
    have g8 : s8 o 0 = r1 := by rw [e8, zU_eq]
    refine j_goto hx 17 dL_laws_10 rfl ?_
    refine j_iconst hx dL_laws_17 ?_
    exact j_iret hx hq rfl (by decide) (by decide) dL_laws_18 ⟨0, rfl, rfl, hS8, zFr_u (zFr_t zFr_rf hF1 (by decide)) e8 ho (by decide), ⟨by decide, by decide⟩, by rw [g8]; omega⟩

theorem lk_RL_101 : LkV RL 101 RX11 yX11_entry cX11_entry 3 (some .int) 2 := ⟨km_RL_101, ki_yX11_entry, ks_RX11_yX11_entry, kn_RX11, kc_yX11_entry, rfl, by decide +kernel, by decide +kernel, by decide +kernel⟩
set_option maxHeartbeats 4000000 in
set_option maxRecDepth 20000 in
theorem c_L_entry {E : zE} {l : Launch} (hst : l.stackTraces = false) (a : Nat) (x1 : Int) (x2 : Int) (o : Nat) : ConH E l yL_entry cL_entry 5 (some .int) [(0, 10, 13, 13)] { frames := 8, cells := 1, slots := 6, locals := 135 } (fun G s vs => vs = [.ref a, .int (zI x1), .int (zI x2), .ref o] ∧ zGK G ∧ zSK G s ∧ zS0 G s ∧ (gT G a = 12) ∧ (-2147483648 ≤ x1 ∧ x1 ≤ 2147483647) ∧ (-2147483648 ≤ x2 ∧ x2 ≤ 2147483647) ∧ (gT G o = 120)) (fun G s _ => pI (fun r G2 s2 => G2 = G ∧ zSK G s2 ∧ zFr [12, 120] G s s2 ∧ (0 ≤ r ∧ r ≤ 2) ∧ (((0 ≤ x2 ∧ x2 ≤ 1) → r = 0 ∧ (-1) ≤ s2 o 0 ∧ s2 o 0 ≤ (-1)) ∧ (¬ (0 ≤ x2 ∧ x2 ≤ 1) → r = 1)))) := by
  refine ConH.mk hst (by decide) (fun G s vs h => by rw [h.1]; exact Nat.le_of_ble_eq_true rfl) ?_
  rintro X G s0 vs ⟨rfl, hG, hS0, hF0, ha, hx1, hx2, ho⟩ rfl hx hT hq
  show JJ X E 5 G s0 0 0 [(0, .ref a), (1, .int (zI x1)), (2, .int (zI x2)), (3, .ref o)] 0 []
  refine j_aload_n hx 3 dL_entry_0 rfl ?_
  refine j_iconst hx dL_entry_1 ?_
  refine j_aload_n hx 0 dL_entry_2 rfl ?_
  refine j_iload_n hx 1 dL_entry_3 rfl ?_
  refine j_iload_n hx 2 dL_entry_4 rfl ?_
  refine j_callVH hx hG (c_X11_entry hst a x1 x2) lk_RL_101 ha (by decide) rfl rfl rfl rfl [.int (zI x1), .int (zI x2)] ⟨rfl, hG, hS0, ha, (by omega), (by omega), hF0⟩ rfl rfl ⟨by decide, by decide⟩ ⟨by decide, by decide⟩ (k2 := 1) (n2 := 6) rfl rfl (Nat.le_of_ble_eq_true rfl) dL_entry_5 ?_ ?_
  · rintro Ex9 G9 s9 ⟨rfl, hS9, hF9, h9⟩
    obtain ⟨e9, c9⟩ := h9
    · subst e9
      refine ⟨_, ZH1 hx (x := { startPc := 0, endPc := 10, handlerPc := 13, catchType := 13 }) (hT.trans rfl) rfl (by decide) kl_RL_13 cast_I, fun q9 => ?_⟩
      refine j_astore hx [(4, .ref q9), (0, .ref a), (1, .int (zI x1)), (2, .int (zI x2)), (3, .ref o)] dL_entry_13 (by decide) rfl ?_
      refine j_iconst hx dL_entry_15 ?_
      exact j_iret hx hq rfl (by decide) (by decide) dL_entry_16 ⟨1, rfl, rfl, hS9, zFr_t zFr_rf hF9 (by decide), ⟨by decide, by decide⟩, by omega⟩
  · refine kIP (fun r1 q1 => ?_)
    refine j_i2l hx dL_entry_8 (by omega) ?_
    refine j_last hx hG ho (by decide) rfl (zlen hG ho (n := 1) rfl rfl) (by omega) (by omega) (j := 0) rfl dL_entry_9 ?_
    obtain ⟨s8, e8⟩ : ∃ z, z = zU s0 o 0 r1 := ⟨_, rfl⟩
    rw [← e8]
    have hS8 : zSK G s8 := by rw [e8]; exact zSK_A hS0 ho rfl rfl rfl (by omega)
    have g8 : s8 o 0 = r1 := by rw [e8, zU_eq]
    refine j_goto hx 17 dL_entry_10 rfl ?_
    refine j_iconst hx dL_entry_17 ?_
    exact j_iret hx hq rfl (by decide) (by decide) dL_entry_18 ⟨0, rfl, rfl, hS8, zFr_u zFr_rf e8 ho (by decide), ⟨by decide, by decide⟩, by rw [g8]; omega⟩

