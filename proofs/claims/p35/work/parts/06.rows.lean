abbrev xp (X : zX) : Program := X.1
abbrev xl (X : zX) : Launch := X.2.1
abbrev xe (X : zX) : Env := X.2.2.1
abbrev xR (X : zX) : Room := X.2.2.2.1
abbrev xs (X : zX) : State := X.2.2.2.2.1
abbrev xm (X : zX) : MethodId := X.2.2.2.2.2.1
abbrev xa (X : zX) : Array Value := X.2.2.2.2.2.2.1
abbrev xb (X : zX) : List Frame := X.2.2.2.2.2.2.2.1
abbrev xh (X : zX) : Method := X.2.2.2.2.2.2.2.2.1
abbrev xc (X : zX) : Code := X.2.2.2.2.2.2.2.2.2.1
abbrev xQ (X : zX) : State → Prop := X.2.2.2.2.2.2.2.2.2.2
def WX (X : zX) (H : Heap) (locs : List Loc) (k n : Nat) (g : JFrame) : Prop := W (xp X) (xl X) (xe X) (xR X) (xs X) (xm X) (xa X) (xb X) (xh X) (xc X) H locs k n (xQ X) g
/-- THE JUDGEMENT: from this place, with these locals and this stack, over every heap that holds the world, the walk goes on well -/
def JJ (X : zX) (E : zE) (nL : Nat) (Γ : zG) (σ : zS) (k n : Nat) (L : List (Nat × Value)) (pc : Nat) (st : List Value) : Prop :=
  ∀ (H : Heap) (locs : List Loc) (ls : Array Slot), zR E Γ σ H → va_S (zA E) (xs X).heap H locs → lv_has ls nL L → WX X H locs k n (F0 (xm X) pc ls st)
def CX (X : zX) (E : zE) (own : String) (y : MethodName) (cc : ByteArray) (nL : Nat) (ret : Option FieldType) (R : Room) : Prop :=
  (xp X).tables.exec = Jvm.exec ∧ (xc X).code = cc ∧ (xc X).maxLocals = nL ∧ (xs X).vm.findClass own = some (xm X).cls ∧ (∀ w ∈ tblG, w.before (xa X) (xs X) = true) ∧ zO E (xs X) (xs X).heap ∧ (xh X).locks = false ∧ (xh X).sig.returnType = ret ∧ E.2.2.1 ≤ (xs X).heap.size ∧ xR X = R ∧ (xh X).name = y.name ∧ (xl X).stackTraces = false
section JR
variable {X : zX} {E : zE} {own : String} {y : MethodName} {cc : ByteArray} {nL : Nat} {ret : Option FieldType} {R : Room} {Γ : zG} {σ : zS} {k n : Nat} {L : List (Nat × Value)} {pc pc2 : Nat} {st : List Value}
theorem j_iconst (hx : CX X E own y cc nL ret R) {c : Int} (d : Dc cc pc (.iconst c) 1 pc2) (kk : JJ X E nL Γ σ k n L pc2 (.int (zI c) :: st)) : JJ X E nL Γ σ k n L pc st := by
  intro H locs ls hR hS hl
  obtain ⟨d1, rfl⟩ := d
  exact lv_iconst hx.1 hx.2.1 d1 rfl (kk H locs ls hR hS hl)
theorem j_bipush (hx : CX X E own y cc nL ret R) {c : Int} (d : Dc cc pc (.bipush c) 2 pc2) (hc : (Int8.ofInt c).toInt32 = zI c) (kk : JJ X E nL Γ σ k n L pc2 (.int (zI c) :: st)) : JJ X E nL Γ σ k n L pc st := by
  intro H locs ls hR hS hl
  obtain ⟨d1, rfl⟩ := d
  exact lv_bipush hx.1 hx.2.1 d1 hc (kk H locs ls hR hS hl)
theorem j_sipush (hx : CX X E own y cc nL ret R) {c : Int} (d : Dc cc pc (.sipush c) 3 pc2) (hc : (Int16.ofInt c).toInt32 = zI c) (kk : JJ X E nL Γ σ k n L pc2 (.int (zI c) :: st)) : JJ X E nL Γ σ k n L pc st := by
  intro H locs ls hR hS hl
  obtain ⟨d1, rfl⟩ := d
  exact lv_sipush hx.1 hx.2.1 d1 hc (kk H locs ls hR hS hl)
theorem j_lconst (hx : CX X E own y cc nL ret R) {c : Fin 2} (d : Dc cc pc (.lconst c) 1 pc2) (kk : JJ X E nL Γ σ k n L pc2 (.long (zL (c : Nat)) :: st)) : JJ X E nL Γ σ k n L pc st := by
  intro H locs ls hR hS hl
  obtain ⟨d1, rfl⟩ := d
  exact lv_lconst hx.1 hx.2.1 d1 rfl (kk H locs ls hR hS hl)
theorem j_null (hx : CX X E own y cc nL ret R) (d : Dc cc pc .aconst_null 1 pc2) (kk : JJ X E nL Γ σ k n L pc2 (.null :: st)) : JJ X E nL Γ σ k n L pc st := by
  intro H locs ls hR hS hl
  obtain ⟨d1, rfl⟩ := d
  exact lv_null hx.1 hx.2.1 d1 (kk H locs ls hR hS hl)
theorem j_ldc (hx : CX X E own y cc nL ret R) {i : Nat} {v : Int32} {c : Int} (d : Dc cc pc (.ldc i) 2 pc2) (hw : Cond.constant own i v ∈ tblG) (hc : v = zI c) (kk : JJ X E nL Γ σ k n L pc2 (.int (zI c) :: st)) : JJ X E nL Γ σ k n L pc st := by
  intro H locs ls hR hS hl
  obtain ⟨d1, rfl⟩ := d
  subst hc
  exact lv_ldc hx.1 hx.2.1 hx.2.2.2.1 (hx.2.2.2.2.1 _ hw) d1 (kk H locs ls hR hS hl)
theorem j_ldcw (hx : CX X E own y cc nL ret R) {i : Nat} {v : Int32} {c : Int} (d : Dc cc pc (.ldc_w i) 3 pc2) (hw : Cond.constant own i v ∈ tblG) (hc : v = zI c) (kk : JJ X E nL Γ σ k n L pc2 (.int (zI c) :: st)) : JJ X E nL Γ σ k n L pc st := by
  intro H locs ls hR hS hl
  obtain ⟨d1, rfl⟩ := d
  subst hc
  exact lv_ldcw hx.1 hx.2.1 hx.2.2.2.1 (hx.2.2.2.2.1 _ hw) d1 (kk H locs ls hR hS hl)
theorem j_ldc2 (hx : CX X E own y cc nL ret R) {i : Nat} {v : Int64} {c : Int} (d : Dc cc pc (.ldc2_w i) 3 pc2) (hw : Cond.constantLong own i v ∈ tblG) (hc : v = zL c) (kk : JJ X E nL Γ σ k n L pc2 (.long (zL c) :: st)) : JJ X E nL Γ σ k n L pc st := by
  intro H locs ls hR hS hl
  obtain ⟨d1, rfl⟩ := d
  subst hc
  exact lv_ldc2 hx.1 hx.2.1 hx.2.2.2.1 (hx.2.2.2.2.1 _ hw) d1 (kk H locs ls hR hS hl)
/-! loads: q is the place in the list of locals -/
theorem j_iload_n (hx : CX X E own y cc nL ret R) (q : Nat) {i : Fin 4} {v : Int32} (d : Dc cc pc (.iload_n i) 1 pc2) (hq : L[q]? = some ((i : Nat), .int v)) (kk : JJ X E nL Γ σ k n L pc2 (.int v :: st)) : JJ X E nL Γ σ k n L pc st := by
  intro H locs ls hR hS hl
  obtain ⟨d1, rfl⟩ := d
  exact lv_iload_n hx.1 hx.2.1 d1 rfl (lv_at hl q hq) (kk H locs ls hR hS hl)
theorem j_iload (hx : CX X E own y cc nL ret R) (q : Nat) {i : Nat} {v : Int32} (d : Dc cc pc (.iload i) 2 pc2) (hq : L[q]? = some (i, .int v)) (kk : JJ X E nL Γ σ k n L pc2 (.int v :: st)) : JJ X E nL Γ σ k n L pc st := by
  intro H locs ls hR hS hl
  obtain ⟨d1, rfl⟩ := d
  exact lv_iload hx.1 hx.2.1 d1 (lv_at hl q hq) (kk H locs ls hR hS hl)
theorem j_lload_n (hx : CX X E own y cc nL ret R) (q : Nat) {i : Fin 4} {v : Int64} (d : Dc cc pc (.lload_n i) 1 pc2) (hq : L[q]? = some ((i : Nat), .long v)) (kk : JJ X E nL Γ σ k n L pc2 (.long v :: st)) : JJ X E nL Γ σ k n L pc st := by
  intro H locs ls hR hS hl
  obtain ⟨d1, rfl⟩ := d
  exact lv_lload_n hx.1 hx.2.1 d1 rfl (lv_at hl q hq) (kk H locs ls hR hS hl)
theorem j_lload (hx : CX X E own y cc nL ret R) (q : Nat) {i : Nat} {v : Int64} (d : Dc cc pc (.lload i) 2 pc2) (hq : L[q]? = some (i, .long v)) (kk : JJ X E nL Γ σ k n L pc2 (.long v :: st)) : JJ X E nL Γ σ k n L pc st := by
  intro H locs ls hR hS hl
  obtain ⟨d1, rfl⟩ := d
  exact lv_lload hx.1 hx.2.1 d1 (lv_at hl q hq) (kk H locs ls hR hS hl)
theorem j_aload_n (hx : CX X E own y cc nL ret R) (q : Nat) {i : Fin 4} {v : Nat} (d : Dc cc pc (.aload_n i) 1 pc2) (hq : L[q]? = some ((i : Nat), .ref v)) (kk : JJ X E nL Γ σ k n L pc2 (.ref v :: st)) : JJ X E nL Γ σ k n L pc st := by
  intro H locs ls hR hS hl
  obtain ⟨d1, rfl⟩ := d
  exact lv_aload_n hx.1 hx.2.1 d1 rfl (lv_at hl q hq) (kk H locs ls hR hS hl)
theorem j_aload (hx : CX X E own y cc nL ret R) (q : Nat) {i : Nat} {v : Nat} (d : Dc cc pc (.aload i) 2 pc2) (hq : L[q]? = some (i, .ref v)) (kk : JJ X E nL Γ σ k n L pc2 (.ref v :: st)) : JJ X E nL Γ σ k n L pc st := by
  intro H locs ls hR hS hl
  obtain ⟨d1, rfl⟩ := d
  exact lv_aload hx.1 hx.2.1 d1 (lv_at hl q hq) (kk H locs ls hR hS hl)
theorem j_aload_nN (hx : CX X E own y cc nL ret R) (q : Nat) {i : Fin 4} (d : Dc cc pc (.aload_n i) 1 pc2) (hq : L[q]? = some ((i : Nat), .null)) (kk : JJ X E nL Γ σ k n L pc2 (.null :: st)) : JJ X E nL Γ σ k n L pc st := by
  intro H locs ls hR hS hl
  obtain ⟨d1, rfl⟩ := d
  exact lv_aload_nN hx.1 hx.2.1 d1 rfl (lv_at hl q hq) (kk H locs ls hR hS hl)
theorem j_aloadN (hx : CX X E own y cc nL ret R) (q : Nat) {i : Nat} (d : Dc cc pc (.aload i) 2 pc2) (hq : L[q]? = some (i, .null)) (kk : JJ X E nL Γ σ k n L pc2 (.null :: st)) : JJ X E nL Γ σ k n L pc st := by
  intro H locs ls hR hS hl
  obtain ⟨d1, rfl⟩ := d
  exact lv_aloadN hx.1 hx.2.1 d1 (lv_at hl q hq) (kk H locs ls hR hS hl)
/-! stores into locals: the new list of locals is named -/
theorem j_istore_n (hx : CX X E own y cc nL ret R) {i : Fin 4} {v : Int32} (L2 : List (Nat × Value)) (d : Dc cc pc (.istore_n i) 1 pc2) (hn : (i : Nat) < nL) (hL : ((i : Nat), Value.int v) :: L.filter (fun q => !(q.1 == (i : Nat)) && !(q.1 + 1 == (i : Nat) && q.2.category == 2)) = L2) (kk : JJ X E nL Γ σ k n L2 pc2 st) : JJ X E nL Γ σ k n L pc (.int v :: st) := by
  intro H locs ls hR hS hl
  obtain ⟨d1, rfl⟩ := d
  exact lv_istore_n hx.1 hx.2.1 d1 rfl hl hn hL (fun ls2 hl2 => kk H locs ls2 hR hS hl2)
theorem j_istore (hx : CX X E own y cc nL ret R) {i : Nat} {v : Int32} (L2 : List (Nat × Value)) (d : Dc cc pc (.istore i) 2 pc2) (hn : i < nL) (hL : (i, Value.int v) :: L.filter (fun q => !(q.1 == i) && !(q.1 + 1 == i && q.2.category == 2)) = L2) (kk : JJ X E nL Γ σ k n L2 pc2 st) : JJ X E nL Γ σ k n L pc (.int v :: st) := by
  intro H locs ls hR hS hl
  obtain ⟨d1, rfl⟩ := d
  exact lv_istore hx.1 hx.2.1 d1 hl hn hL (fun ls2 hl2 => kk H locs ls2 hR hS hl2)
theorem j_lstore_n (hx : CX X E own y cc nL ret R) {i : Fin 4} {v : Int64} (L2 : List (Nat × Value)) (d : Dc cc pc (.lstore_n i) 1 pc2) (hn : (i : Nat) + 1 < nL) (hL : ((i : Nat), Value.long v) :: L.filter (fun q => !(q.1 == (i : Nat)) && (!(q.1 == (i : Nat) + 1) && !(q.1 + 1 == (i : Nat) && q.2.category == 2))) = L2) (kk : JJ X E nL Γ σ k n L2 pc2 st) : JJ X E nL Γ σ k n L pc (.long v :: st) := by
  intro H locs ls hR hS hl
  obtain ⟨d1, rfl⟩ := d
  exact lv_lstore_n hx.1 hx.2.1 d1 rfl hl hn hL (fun ls2 hl2 => kk H locs ls2 hR hS hl2)
theorem j_lstore (hx : CX X E own y cc nL ret R) {i : Nat} {v : Int64} (L2 : List (Nat × Value)) (d : Dc cc pc (.lstore i) 2 pc2) (hn : i + 1 < nL) (hL : (i, Value.long v) :: L.filter (fun q => !(q.1 == i) && (!(q.1 == i + 1) && !(q.1 + 1 == i && q.2.category == 2))) = L2) (kk : JJ X E nL Γ σ k n L2 pc2 st) : JJ X E nL Γ σ k n L pc (.long v :: st) := by
  intro H locs ls hR hS hl
  obtain ⟨d1, rfl⟩ := d
  exact lv_lstore hx.1 hx.2.1 d1 hl hn hL (fun ls2 hl2 => kk H locs ls2 hR hS hl2)
theorem j_astore_n (hx : CX X E own y cc nL ret R) {i : Fin 4} {v : Nat} (L2 : List (Nat × Value)) (d : Dc cc pc (.astore_n i) 1 pc2) (hn : (i : Nat) < nL) (hL : ((i : Nat), Value.ref v) :: L.filter (fun q => !(q.1 == (i : Nat)) && !(q.1 + 1 == (i : Nat) && q.2.category == 2)) = L2) (kk : JJ X E nL Γ σ k n L2 pc2 st) : JJ X E nL Γ σ k n L pc (.ref v :: st) := by
  intro H locs ls hR hS hl
  obtain ⟨d1, rfl⟩ := d
  exact lv_astore_n hx.1 hx.2.1 d1 rfl hl hn hL (fun ls2 hl2 => kk H locs ls2 hR hS hl2)
theorem j_astore (hx : CX X E own y cc nL ret R) {i : Nat} {v : Nat} (L2 : List (Nat × Value)) (d : Dc cc pc (.astore i) 2 pc2) (hn : i < nL) (hL : (i, Value.ref v) :: L.filter (fun q => !(q.1 == i) && !(q.1 + 1 == i && q.2.category == 2)) = L2) (kk : JJ X E nL Γ σ k n L2 pc2 st) : JJ X E nL Γ σ k n L pc (.ref v :: st) := by
  intro H locs ls hR hS hl
  obtain ⟨d1, rfl⟩ := d
  exact lv_astore hx.1 hx.2.1 d1 hl hn hL (fun ls2 hl2 => kk H locs ls2 hR hS hl2)
theorem j_astore_nN (hx : CX X E own y cc nL ret R) {i : Fin 4} (L2 : List (Nat × Value)) (d : Dc cc pc (.astore_n i) 1 pc2) (hn : (i : Nat) < nL) (hL : ((i : Nat), Value.null) :: L.filter (fun q => !(q.1 == (i : Nat)) && !(q.1 + 1 == (i : Nat) && q.2.category == 2)) = L2) (kk : JJ X E nL Γ σ k n L2 pc2 st) : JJ X E nL Γ σ k n L pc (.null :: st) := by
  intro H locs ls hR hS hl
  obtain ⟨d1, rfl⟩ := d
  exact lv_astore_nN hx.1 hx.2.1 d1 rfl hl hn hL (fun ls2 hl2 => kk H locs ls2 hR hS hl2)
theorem j_astoreN (hx : CX X E own y cc nL ret R) {i : Nat} (L2 : List (Nat × Value)) (d : Dc cc pc (.astore i) 2 pc2) (hn : i < nL) (hL : (i, Value.null) :: L.filter (fun q => !(q.1 == i) && !(q.1 + 1 == i && q.2.category == 2)) = L2) (kk : JJ X E nL Γ σ k n L2 pc2 st) : JJ X E nL Γ σ k n L pc (.null :: st) := by
  intro H locs ls hR hS hl
  obtain ⟨d1, rfl⟩ := d
  exact lv_astoreN hx.1 hx.2.1 d1 hl hn hL (fun ls2 hl2 => kk H locs ls2 hR hS hl2)
theorem j_iinc (hx : CX X E own y cc nL ret R) (q : Nat) {i : Nat} {c a r : Int} (L2 : List (Nat × Value)) (d : Dc cc pc (.iinc i c) 3 pc2) (hq : L[q]? = some (i, .int (zI a))) (hr : a + c = r) (hn : i < nL) (hL : (i, Value.int (zI r)) :: L.filter (fun q => !(q.1 == i) && !(q.1 + 1 == i && q.2.category == 2)) = L2) (kk : JJ X E nL Γ σ k n L2 pc2 st) : JJ X E nL Γ σ k n L pc st := by
  intro H locs ls hR hS hl
  obtain ⟨d1, rfl⟩ := d
  exact lv_iinc hx.1 hx.2.1 d1 hl hq (by show zI a + zI c = zI r; rw [zI_add, hr]) hn hL (fun ls2 hl2 => kk H locs ls2 hR hS hl2)
theorem j_iincN (hx : CX X E own y cc nL ret R) (q : Nat) {i : Nat} {c a : Int} (L2 : Int → List (Nat × Value)) (d : Dc cc pc (.iinc i c) 3 pc2) (hq : L[q]? = some (i, .int (zI a))) (hn : i < nL) (hL : ∀ v, (i, Value.int (zI v)) :: L.filter (fun q => !(q.1 == i) && !(q.1 + 1 == i && q.2.category == 2)) = L2 v) (kk : ∀ v : Int, -2147483648 ≤ v → v ≤ 2147483647 → (-2147483648 ≤ a + c → a + c ≤ 2147483647 → v = a + c) → JJ X E nL Γ σ k n (L2 v) pc2 st) : JJ X E nL Γ σ k n L pc st := by
  have h := kk (zI (a + c)).toInt (zI_rg _).1 (zI_rg _).2 (fun h1 h2 => zI_int h1 h2)
  intro H locs ls hR hS hl
  obtain ⟨d1, rfl⟩ := d
  exact lv_iinc hx.1 hx.2.1 d1 hl hq (by show zI a + zI c = zI (zI (a + c)).toInt; rw [zI_add, zI_self]) hn (hL _) (fun ls2 hl2 => h H locs ls2 hR hS hl2)
/-- fewer locals -/
theorem j_sub (ks : List Nat) (L2 : List (Nat × Value)) (hL : lv_pick L ks = L2) (kk : JJ X E nL Γ σ k n L2 pc st) : JJ X E nL Γ σ k n L pc st := fun H locs ls hR hS hl => kk H locs ls hR hS (lv_sub hl ks hL)
/-! the stack, numbers -/
theorem j_dup (hx : CX X E own y cc nL ret R) {v : Value} (d : Dc cc pc .dup 1 pc2) (hv : v.category = 1) (kk : JJ X E nL Γ σ k n L pc2 (v :: v :: st)) : JJ X E nL Γ σ k n L pc (v :: st) := by
  intro H locs ls hR hS hl
  obtain ⟨d1, rfl⟩ := d
  exact lv_dup hx.1 hx.2.1 d1 hv (kk H locs ls hR hS hl)
theorem j_dup2 (hx : CX X E own y cc nL ret R) {v w : Value} (d : Dc cc pc .dup2 1 pc2) (hv : v.category = 1) (hw : w.category = 1) (kk : JJ X E nL Γ σ k n L pc2 (v :: w :: v :: w :: st)) : JJ X E nL Γ σ k n L pc (v :: w :: st) := by
  intro H locs ls hR hS hl
  obtain ⟨d1, rfl⟩ := d
  exact lv_dup2_11 hx.1 hx.2.1 d1 hv hw (kk H locs ls hR hS hl)
theorem j_pop (hx : CX X E own y cc nL ret R) {v : Value} (d : Dc cc pc .pop 1 pc2) (hv : v.category = 1) (kk : JJ X E nL Γ σ k n L pc2 st) : JJ X E nL Γ σ k n L pc (v :: st) := by
  intro H locs ls hR hS hl
  obtain ⟨d1, rfl⟩ := d
  exact lv_pop hx.1 hx.2.1 d1 hv (kk H locs ls hR hS hl)
theorem j_iadd (hx : CX X E own y cc nL ret R) {a b r : Int} (d : Dc cc pc .iadd 1 pc2) (hr : a + b = r) (kk : JJ X E nL Γ σ k n L pc2 (.int (zI r) :: st)) : JJ X E nL Γ σ k n L pc (.int (zI b) :: .int (zI a) :: st) := by
  intro H locs ls hR hS hl
  obtain ⟨d1, rfl⟩ := d
  refine lv_iadd hx.1 hx.2.1 d1 ?_
  rw [zI_add, hr]
  exact kk H locs ls hR hS hl
theorem j_isub (hx : CX X E own y cc nL ret R) {a b r : Int} (d : Dc cc pc .isub 1 pc2) (hr : a - b = r) (kk : JJ X E nL Γ σ k n L pc2 (.int (zI r) :: st)) : JJ X E nL Γ σ k n L pc (.int (zI b) :: .int (zI a) :: st) := by
  intro H locs ls hR hS hl
  obtain ⟨d1, rfl⟩ := d
  refine lv_isub hx.1 hx.2.1 d1 ?_
  rw [zI_sub, hr]
  exact kk H locs ls hR hS hl
theorem j_imul (hx : CX X E own y cc nL ret R) {a b r : Int} (d : Dc cc pc .imul 1 pc2) (hr : a * b = r) (kk : JJ X E nL Γ σ k n L pc2 (.int (zI r) :: st)) : JJ X E nL Γ σ k n L pc (.int (zI b) :: .int (zI a) :: st) := by
  intro H locs ls hR hS hl
  obtain ⟨d1, rfl⟩ := d
  refine lv_imul hx.1 hx.2.1 d1 ?_
  rw [zI_mul, hr]
  exact kk H locs ls hR hS hl
theorem j_ineg (hx : CX X E own y cc nL ret R) {a r : Int} (d : Dc cc pc .ineg 1 pc2) (hr : -a = r) (kk : JJ X E nL Γ σ k n L pc2 (.int (zI r) :: st)) : JJ X E nL Γ σ k n L pc (.int (zI a) :: st) := by
  intro H locs ls hR hS hl
  obtain ⟨d1, rfl⟩ := d
  refine lv_ineg hx.1 hx.2.1 d1 ?_
  rw [zI_neg, hr]
  exact kk H locs ls hR hS hl
/-- a number that may be out of the range gets a name: the same, if it is in the range -/
theorem j_norm {a : Int} (kk : ∀ v : Int, -2147483648 ≤ v → v ≤ 2147483647 → (-2147483648 ≤ a → a ≤ 2147483647 → v = a) → JJ X E nL Γ σ k n L pc (.int (zI v) :: st)) : JJ X E nL Γ σ k n L pc (.int (zI a) :: st) := by
  have h := kk (zI a).toInt (zI_rg _).1 (zI_rg _).2 (fun h1 h2 => zI_int h1 h2)
  rw [zI_self] at h
  exact h
theorem j_any {x : Int32} (kk : ∀ v : Int, -2147483648 ≤ v → v ≤ 2147483647 → v = x.toInt → JJ X E nL Γ σ k n L pc (.int (zI v) :: st)) : JJ X E nL Γ σ k n L pc (.int x :: st) := by
  have h := kk x.toInt (zI_rg _).1 (zI_rg _).2 rfl
  rw [zI_self] at h
  exact h
theorem j_anyl {x : Int64} (kk : ∀ v : Int, -9223372036854775808 ≤ v → v ≤ 9223372036854775807 → v = x.toInt → JJ X E nL Γ σ k n L pc (.long (zL v) :: st)) : JJ X E nL Γ σ k n L pc (.long x :: st) := by
  have h := kk x.toInt (zL_rg _).1 (zL_rg _).2 rfl
  rw [zL_self] at h
  exact h
/-! branches: on whole numbers that are in the range of int -/
theorem j_icmp_eq (hx : CX X E own y cc nL ret R) {a b off : Int} (tgt : Nat) (d : Dc cc pc (.if_icmp .eq off) 3 pc2) (ht : (pc : Int) + off = (tgt : Int)) (ha : -2147483648 ≤ a ∧ a ≤ 2147483647) (hb : -2147483648 ≤ b ∧ b ≤ 2147483647) (kt : a = b → JJ X E nL Γ σ k n L tgt st) (kf : a ≠ b → JJ X E nL Γ σ k n L pc2 st) : JJ X E nL Γ σ k n L pc (.int (zI b) :: .int (zI a) :: st) := by
  intro H locs ls hR hS hl
  obtain ⟨d1, rfl⟩ := d
  exact lv_icmp_eq hx.1 hx.2.1 d1 ht (fun h => kt ((zI_eq ha hb).mp h) H locs ls hR hS hl) (fun h => kf (fun z => h ((zI_eq ha hb).mpr z)) H locs ls hR hS hl)
theorem j_icmp_ne (hx : CX X E own y cc nL ret R) {a b off : Int} (tgt : Nat) (d : Dc cc pc (.if_icmp .ne off) 3 pc2) (ht : (pc : Int) + off = (tgt : Int)) (ha : -2147483648 ≤ a ∧ a ≤ 2147483647) (hb : -2147483648 ≤ b ∧ b ≤ 2147483647) (kt : a ≠ b → JJ X E nL Γ σ k n L tgt st) (kf : a = b → JJ X E nL Γ σ k n L pc2 st) : JJ X E nL Γ σ k n L pc (.int (zI b) :: .int (zI a) :: st) := by
  intro H locs ls hR hS hl
  obtain ⟨d1, rfl⟩ := d
  exact lv_icmp_ne hx.1 hx.2.1 d1 ht (fun h => kt (fun z => h ((zI_eq ha hb).mpr z)) H locs ls hR hS hl) (fun h => kf ((zI_eq ha hb).mp h) H locs ls hR hS hl)
theorem j_icmp_lt (hx : CX X E own y cc nL ret R) {a b off : Int} (tgt : Nat) (d : Dc cc pc (.if_icmp .lt off) 3 pc2) (ht : (pc : Int) + off = (tgt : Int)) (ha : -2147483648 ≤ a ∧ a ≤ 2147483647) (hb : -2147483648 ≤ b ∧ b ≤ 2147483647) (kt : a < b → JJ X E nL Γ σ k n L tgt st) (kf : b ≤ a → JJ X E nL Γ σ k n L pc2 st) : JJ X E nL Γ σ k n L pc (.int (zI b) :: .int (zI a) :: st) := by
  intro H locs ls hR hS hl
  obtain ⟨d1, rfl⟩ := d
  exact lv_icmp_lt hx.1 hx.2.1 d1 ht (fun h => kt ((zI_lt ha hb).mp h) H locs ls hR hS hl) (fun h => kf (Int.not_lt.mp fun z => h ((zI_lt ha hb).mpr z)) H locs ls hR hS hl)
theorem j_icmp_ge (hx : CX X E own y cc nL ret R) {a b off : Int} (tgt : Nat) (d : Dc cc pc (.if_icmp .ge off) 3 pc2) (ht : (pc : Int) + off = (tgt : Int)) (ha : -2147483648 ≤ a ∧ a ≤ 2147483647) (hb : -2147483648 ≤ b ∧ b ≤ 2147483647) (kt : b ≤ a → JJ X E nL Γ σ k n L tgt st) (kf : a < b → JJ X E nL Γ σ k n L pc2 st) : JJ X E nL Γ σ k n L pc (.int (zI b) :: .int (zI a) :: st) := by
  intro H locs ls hR hS hl
  obtain ⟨d1, rfl⟩ := d
  exact lv_icmp_ge hx.1 hx.2.1 d1 ht (fun h => kt ((zI_le hb ha).mp h) H locs ls hR hS hl) (fun h => kf (Int.not_le.mp fun z => h ((zI_le hb ha).mpr z)) H locs ls hR hS hl)
theorem j_icmp_gt (hx : CX X E own y cc nL ret R) {a b off : Int} (tgt : Nat) (d : Dc cc pc (.if_icmp .gt off) 3 pc2) (ht : (pc : Int) + off = (tgt : Int)) (ha : -2147483648 ≤ a ∧ a ≤ 2147483647) (hb : -2147483648 ≤ b ∧ b ≤ 2147483647) (kt : b < a → JJ X E nL Γ σ k n L tgt st) (kf : a ≤ b → JJ X E nL Γ σ k n L pc2 st) : JJ X E nL Γ σ k n L pc (.int (zI b) :: .int (zI a) :: st) := by
  intro H locs ls hR hS hl
  obtain ⟨d1, rfl⟩ := d
  exact lv_icmp_gt hx.1 hx.2.1 d1 ht (fun h => kt ((zI_lt hb ha).mp h) H locs ls hR hS hl) (fun h => kf (Int.not_lt.mp fun z => h ((zI_lt hb ha).mpr z)) H locs ls hR hS hl)
theorem j_icmp_le (hx : CX X E own y cc nL ret R) {a b off : Int} (tgt : Nat) (d : Dc cc pc (.if_icmp .le off) 3 pc2) (ht : (pc : Int) + off = (tgt : Int)) (ha : -2147483648 ≤ a ∧ a ≤ 2147483647) (hb : -2147483648 ≤ b ∧ b ≤ 2147483647) (kt : a ≤ b → JJ X E nL Γ σ k n L tgt st) (kf : b < a → JJ X E nL Γ σ k n L pc2 st) : JJ X E nL Γ σ k n L pc (.int (zI b) :: .int (zI a) :: st) := by
  intro H locs ls hR hS hl
  obtain ⟨d1, rfl⟩ := d
  exact lv_icmp_le hx.1 hx.2.1 d1 ht (fun h => kt ((zI_le ha hb).mp h) H locs ls hR hS hl) (fun h => kf (Int.not_le.mp fun z => h ((zI_le ha hb).mpr z)) H locs ls hR hS hl)
theorem j_if_eq (hx : CX X E own y cc nL ret R) {a off : Int} (tgt : Nat) (d : Dc cc pc (.ifCond .eq off) 3 pc2) (ht : (pc : Int) + off = (tgt : Int)) (ha : -2147483648 ≤ a ∧ a ≤ 2147483647) (kt : a = 0 → JJ X E nL Γ σ k n L tgt st) (kf : a ≠ 0 → JJ X E nL Γ σ k n L pc2 st) : JJ X E nL Γ σ k n L pc (.int (zI a) :: st) := by
  intro H locs ls hR hS hl
  obtain ⟨d1, rfl⟩ := d
  have hb : -2147483648 ≤ (0 : Int) ∧ (0 : Int) ≤ 2147483647 := by omega
  exact lv_if_eq hx.1 hx.2.1 d1 ht (fun h => kt ((zI_eq ha hb).mp h) H locs ls hR hS hl) (fun h => kf (fun z => h ((zI_eq ha hb).mpr z)) H locs ls hR hS hl)
theorem j_if_ne (hx : CX X E own y cc nL ret R) {a off : Int} (tgt : Nat) (d : Dc cc pc (.ifCond .ne off) 3 pc2) (ht : (pc : Int) + off = (tgt : Int)) (ha : -2147483648 ≤ a ∧ a ≤ 2147483647) (kt : a ≠ 0 → JJ X E nL Γ σ k n L tgt st) (kf : a = 0 → JJ X E nL Γ σ k n L pc2 st) : JJ X E nL Γ σ k n L pc (.int (zI a) :: st) := by
  intro H locs ls hR hS hl
  obtain ⟨d1, rfl⟩ := d
  have hb : -2147483648 ≤ (0 : Int) ∧ (0 : Int) ≤ 2147483647 := by omega
  exact lv_if_ne hx.1 hx.2.1 d1 ht (fun h => kt (fun z => h ((zI_eq ha hb).mpr z)) H locs ls hR hS hl) (fun h => kf ((zI_eq ha hb).mp h) H locs ls hR hS hl)
theorem j_if_lt (hx : CX X E own y cc nL ret R) {a off : Int} (tgt : Nat) (d : Dc cc pc (.ifCond .lt off) 3 pc2) (ht : (pc : Int) + off = (tgt : Int)) (ha : -2147483648 ≤ a ∧ a ≤ 2147483647) (kt : a < 0 → JJ X E nL Γ σ k n L tgt st) (kf : 0 ≤ a → JJ X E nL Γ σ k n L pc2 st) : JJ X E nL Γ σ k n L pc (.int (zI a) :: st) := by
  intro H locs ls hR hS hl
  obtain ⟨d1, rfl⟩ := d
  have hb : -2147483648 ≤ (0 : Int) ∧ (0 : Int) ≤ 2147483647 := by omega
  exact lv_if_lt hx.1 hx.2.1 d1 ht (fun h => kt ((zI_lt ha hb).mp h) H locs ls hR hS hl) (fun h => kf (Int.not_lt.mp fun z => h ((zI_lt ha hb).mpr z)) H locs ls hR hS hl)
theorem j_if_ge (hx : CX X E own y cc nL ret R) {a off : Int} (tgt : Nat) (d : Dc cc pc (.ifCond .ge off) 3 pc2) (ht : (pc : Int) + off = (tgt : Int)) (ha : -2147483648 ≤ a ∧ a ≤ 2147483647) (kt : 0 ≤ a → JJ X E nL Γ σ k n L tgt st) (kf : a < 0 → JJ X E nL Γ σ k n L pc2 st) : JJ X E nL Γ σ k n L pc (.int (zI a) :: st) := by
  intro H locs ls hR hS hl
  obtain ⟨d1, rfl⟩ := d
  have hb : -2147483648 ≤ (0 : Int) ∧ (0 : Int) ≤ 2147483647 := by omega
  exact lv_if_ge hx.1 hx.2.1 d1 ht (fun h => kt ((zI_le hb ha).mp h) H locs ls hR hS hl) (fun h => kf (Int.not_le.mp fun z => h ((zI_le hb ha).mpr z)) H locs ls hR hS hl)
theorem j_if_gt (hx : CX X E own y cc nL ret R) {a off : Int} (tgt : Nat) (d : Dc cc pc (.ifCond .gt off) 3 pc2) (ht : (pc : Int) + off = (tgt : Int)) (ha : -2147483648 ≤ a ∧ a ≤ 2147483647) (kt : 0 < a → JJ X E nL Γ σ k n L tgt st) (kf : a ≤ 0 → JJ X E nL Γ σ k n L pc2 st) : JJ X E nL Γ σ k n L pc (.int (zI a) :: st) := by
  intro H locs ls hR hS hl
  obtain ⟨d1, rfl⟩ := d
  have hb : -2147483648 ≤ (0 : Int) ∧ (0 : Int) ≤ 2147483647 := by omega
  exact lv_if_gt hx.1 hx.2.1 d1 ht (fun h => kt ((zI_lt hb ha).mp h) H locs ls hR hS hl) (fun h => kf (Int.not_lt.mp fun z => h ((zI_lt hb ha).mpr z)) H locs ls hR hS hl)
theorem j_if_le (hx : CX X E own y cc nL ret R) {a off : Int} (tgt : Nat) (d : Dc cc pc (.ifCond .le off) 3 pc2) (ht : (pc : Int) + off = (tgt : Int)) (ha : -2147483648 ≤ a ∧ a ≤ 2147483647) (kt : a ≤ 0 → JJ X E nL Γ σ k n L tgt st) (kf : 0 < a → JJ X E nL Γ σ k n L pc2 st) : JJ X E nL Γ σ k n L pc (.int (zI a) :: st) := by
  intro H locs ls hR hS hl
  obtain ⟨d1, rfl⟩ := d
  have hb : -2147483648 ≤ (0 : Int) ∧ (0 : Int) ≤ 2147483647 := by omega
  exact lv_if_le hx.1 hx.2.1 d1 ht (fun h => kt ((zI_le ha hb).mp h) H locs ls hR hS hl) (fun h => kf (Int.not_le.mp fun z => h ((zI_le ha hb).mpr z)) H locs ls hR hS hl)
theorem j_goto (hx : CX X E own y cc nL ret R) {off : Int} (tgt : Nat) (d : Dc cc pc (.goto off) 3 pc2) (ht : (pc : Int) + off = (tgt : Int)) (kk : JJ X E nL Γ σ k n L tgt st) : JJ X E nL Γ σ k n L pc st := by
  intro H locs ls hR hS hl
  exact lv_goto hx.1 hx.2.1 d.1 ht (kk H locs ls hR hS hl)
theorem j_ifnull (hx : CX X E own y cc nL ret R) {v : Nat} {off : Int} (d : Dc cc pc (.ifnull off) 3 pc2) (kk : JJ X E nL Γ σ k n L pc2 st) : JJ X E nL Γ σ k n L pc (.ref v :: st) := by
  intro H locs ls hR hS hl
  obtain ⟨d1, rfl⟩ := d
  exact lv_ifnull hx.1 hx.2.1 d1 (kk H locs ls hR hS hl)
theorem j_ifnullN (hx : CX X E own y cc nL ret R) {off : Int} (tgt : Nat) (d : Dc cc pc (.ifnull off) 3 pc2) (ht : (pc : Int) + off = (tgt : Int)) (kk : JJ X E nL Γ σ k n L tgt st) : JJ X E nL Γ σ k n L pc (.null :: st) := by
  intro H locs ls hR hS hl
  exact lv_ifnullN hx.1 hx.2.1 d.1 ht (kk H locs ls hR hS hl)
theorem j_ifnonnull (hx : CX X E own y cc nL ret R) {v : Nat} {off : Int} (tgt : Nat) (d : Dc cc pc (.ifnonnull off) 3 pc2) (ht : (pc : Int) + off = (tgt : Int)) (kk : JJ X E nL Γ σ k n L tgt st) : JJ X E nL Γ σ k n L pc (.ref v :: st) := by
  intro H locs ls hR hS hl
  exact lv_ifnonnull hx.1 hx.2.1 d.1 ht (kk H locs ls hR hS hl)
theorem j_ifnonnullN (hx : CX X E own y cc nL ret R) {off : Int} (d : Dc cc pc (.ifnonnull off) 3 pc2) (kk : JJ X E nL Γ σ k n L pc2 st) : JJ X E nL Γ σ k n L pc (.null :: st) := by
  intro H locs ls hR hS hl
  obtain ⟨d1, rfl⟩ := d
  exact lv_ifnonnullN hx.1 hx.2.1 d1 (kk H locs ls hR hS hl)
theorem j_switchIn (hx : CX X E own y cc nL ret R) {dflt lo hi a off : Int} {offs : Array Int} {len : Nat} (tgt : Nat) (d : Dc cc pc (.tableswitch dflt lo hi offs) len pc2) (ha : -2147483648 ≤ a ∧ a ≤ 2147483647) (h1 : lo ≤ a) (h2 : a ≤ hi) (ho : offs[(a - lo).toNat]? = some off) (ht : (pc : Int) + off = (tgt : Int)) (kk : JJ X E nL Γ σ k n L tgt st) : JJ X E nL Γ σ k n L pc (.int (zI a) :: st) := by
  intro H locs ls hR hS hl
  exact lv_tableIn hx.1 hx.2.1 d.1 (by rw [zI_int ha.1 ha.2]; omega) (by rw [zI_int ha.1 ha.2]; omega) (by rw [zI_int ha.1 ha.2]; exact ho) ht (kk H locs ls hR hS hl)
theorem j_switchOut (hx : CX X E own y cc nL ret R) {dflt lo hi a : Int} {offs : Array Int} {len : Nat} (tgt : Nat) (d : Dc cc pc (.tableswitch dflt lo hi offs) len pc2) (ha : -2147483648 ≤ a ∧ a ≤ 2147483647) (h : a < lo ∨ hi < a) (ht : (pc : Int) + dflt = (tgt : Int)) (kk : JJ X E nL Γ σ k n L tgt st) : JJ X E nL Γ σ k n L pc (.int (zI a) :: st) := by
  intro H locs ls hR hS hl
  exact lv_tableOut hx.1 hx.2.1 d.1 (by rw [zI_int ha.1 ha.2]; exact h) ht (kk H locs ls hR hS hl)
/-! division, bits -/
theorem zdiv_abs (a b : Int) (hb : b ≠ 0) : (a.tdiv b).natAbs ≤ a.natAbs := by
  rw [Int.natAbs_tdiv]
  exact Nat.div_le_self _ _
theorem j_idiv (hx : CX X E own y cc nL ret R) {a b : Int} (d : Dc cc pc .idiv 1 pc2) (ha : -2147483648 ≤ a ∧ a ≤ 2147483647) (hb : -2147483648 ≤ b ∧ b ≤ 2147483647) (h0 : b ≠ 0) (kk : ∀ v : Int, -2147483648 ≤ v → v ≤ 2147483647 → (0 ≤ a → 0 < b → v = a / b) → JJ X E nL Γ σ k n L pc2 (.int (zI v) :: st)) : JJ X E nL Γ σ k n L pc (.int (zI b) :: .int (zI a) :: st) := by
  intro H locs ls hR hS hl
  obtain ⟨d1, rfl⟩ := d
  refine lv_idiv hx.1 hx.2.1 d1 (fun z => h0 ((zI_eq hb (by omega)).mp z)) ?_
  refine j_any (E := E) (nL := nL) (Γ := Γ) (σ := σ) (L := L) (pc := pc + 1) (st := st) (x := zI a / zI b) (fun v h1 h2 h3 => kk v h1 h2 (fun z1 z2 => ?_)) H locs ls hR hS hl
  rw [h3, Int32.toInt_div_of_ne_right _ _ (fun z => ?_), zI_int ha.1 ha.2, zI_int hb.1 hb.2, Int.tdiv_eq_ediv_of_nonneg z1]
  have := (zI_eq (b := -1) hb (by omega)).mp (show zI b = zI (-1) from z)
  omega
theorem j_irem (hx : CX X E own y cc nL ret R) {a b : Int} (d : Dc cc pc .irem 1 pc2) (ha : -2147483648 ≤ a ∧ a ≤ 2147483647) (hb : -2147483648 ≤ b ∧ b ≤ 2147483647) (h0 : b ≠ 0) (kk : ∀ v : Int, -2147483648 ≤ v → v ≤ 2147483647 → (0 ≤ a → 0 < b → v = a % b) → (0 < b → -b < v ∧ v < b) → JJ X E nL Γ σ k n L pc2 (.int (zI v) :: st)) : JJ X E nL Γ σ k n L pc (.int (zI b) :: .int (zI a) :: st) := by
  intro H locs ls hR hS hl
  obtain ⟨d1, rfl⟩ := d
  refine lv_irem hx.1 hx.2.1 d1 (fun z => h0 ((zI_eq hb (by omega)).mp z)) ?_
  refine j_any (E := E) (nL := nL) (Γ := Γ) (σ := σ) (L := L) (pc := pc + 1) (st := st) (x := zI a - zI a / zI b * zI b) (fun v h1 h2 h3 => ?_) H locs ls hR hS hl
  rw [rem_toInt, zI_int ha.1 ha.2, zI_int hb.1 hb.2] at h3
  refine kk v h1 h2 (fun z1 z2 => ?_) (fun z => ?_)
  · rw [h3, Int.tmod_eq_emod_of_nonneg z1]
  · rw [h3]; exact tmod_bounds z
theorem zand_nat (x y : Int32) (h : 0 ≤ y.toInt) : 0 ≤ (x &&& y).toInt ∧ (x &&& y).toInt ≤ y.toInt := by
  have e : (x &&& y).toBitVec = x.toBitVec &&& y.toBitVec := Int32.toBitVec_and x y
  have h1 : y.toBitVec.toInt = (y.toBitVec.toNat : Int) := by
    have h2 : 0 ≤ y.toBitVec.toInt := h
    rw [BitVec.toInt_eq_toNat_cond] at h2 ⊢
    have := y.toBitVec.isLt
    split at h2 <;> simp_all <;> omega
  have h3 : (x.toBitVec &&& y.toBitVec).toNat ≤ y.toBitVec.toNat := by rw [BitVec.toNat_and]; exact Nat.and_le_right
  have h5 : y.toBitVec.toNat < 2 ^ 31 := by
    have h6 : y.toBitVec.toInt < 2 ^ 31 := Int32.toInt_lt y
    omega
  have h4 : (x.toBitVec &&& y.toBitVec).toInt = ((x.toBitVec &&& y.toBitVec).toNat : Int) := by
    rw [BitVec.toInt_eq_toNat_cond, if_pos (by omega)]
  have g1 : (x &&& y).toInt = (x.toBitVec &&& y.toBitVec).toInt := by show (x &&& y).toBitVec.toInt = _; rw [e]
  have g2 : y.toInt = y.toBitVec.toInt := rfl
  omega
theorem j_iand (hx : CX X E own y cc nL ret R) {a b : Int} (d : Dc cc pc .iand 1 pc2) (ha : -2147483648 ≤ a ∧ a ≤ 2147483647) (hb : -2147483648 ≤ b ∧ b ≤ 2147483647) (kk : ∀ v : Int, -2147483648 ≤ v → v ≤ 2147483647 → (0 ≤ a → 0 ≤ v ∧ v ≤ a) → (0 ≤ b → 0 ≤ v ∧ v ≤ b) → v = (zI a &&& zI b).toInt → JJ X E nL Γ σ k n L pc2 (.int (zI v) :: st)) : JJ X E nL Γ σ k n L pc (.int (zI b) :: .int (zI a) :: st) := by
  intro H locs ls hR hS hl
  obtain ⟨d1, rfl⟩ := d
  refine lv_iand hx.1 hx.2.1 d1 ?_
  refine j_any (E := E) (nL := nL) (Γ := Γ) (σ := σ) (L := L) (pc := pc + 1) (st := st) (x := zI a &&& zI b) (fun v h1 h2 h3 => ?_) H locs ls hR hS hl
  refine kk v h1 h2 (fun z => ?_) (fun z => ?_) h3
  · have h4 := zand_nat (zI b) (zI a) (by rw [zI_int ha.1 ha.2]; exact z)
    rw [zI_int ha.1 ha.2, Int32.and_comm] at h4
    rw [h3]; exact h4
  · have h4 := zand_nat (zI a) (zI b) (by rw [zI_int hb.1 hb.2]; exact z)
    rw [zI_int hb.1 hb.2] at h4
    rw [h3]; exact h4
theorem j_ior (hx : CX X E own y cc nL ret R) {x y2 : Int32} (d : Dc cc pc .ior 1 pc2) (kk : ∀ v : Int, -2147483648 ≤ v → v ≤ 2147483647 → JJ X E nL Γ σ k n L pc2 (.int (zI v) :: st)) : JJ X E nL Γ σ k n L pc (.int y2 :: .int x :: st) := by
  intro H locs ls hR hS hl
  obtain ⟨d1, rfl⟩ := d
  exact lv_ior hx.1 hx.2.1 d1 (j_any (fun v h1 h2 _ => kk v h1 h2) H locs ls hR hS hl)
theorem j_ixor (hx : CX X E own y cc nL ret R) {x y2 : Int32} (d : Dc cc pc .ixor 1 pc2) (kk : ∀ v : Int, -2147483648 ≤ v → v ≤ 2147483647 → JJ X E nL Γ σ k n L pc2 (.int (zI v) :: st)) : JJ X E nL Γ σ k n L pc (.int y2 :: .int x :: st) := by
  intro H locs ls hR hS hl
  obtain ⟨d1, rfl⟩ := d
  exact lv_ixor hx.1 hx.2.1 d1 (j_any (fun v h1 h2 _ => kk v h1 h2) H locs ls hR hS hl)
theorem j_ishl (hx : CX X E own y cc nL ret R) {x y2 : Int32} (d : Dc cc pc .ishl 1 pc2) (kk : ∀ v : Int, -2147483648 ≤ v → v ≤ 2147483647 → JJ X E nL Γ σ k n L pc2 (.int (zI v) :: st)) : JJ X E nL Γ σ k n L pc (.int y2 :: .int x :: st) := by
  intro H locs ls hR hS hl
  obtain ⟨d1, rfl⟩ := d
  exact lv_ishl hx.1 hx.2.1 d1 (j_any (fun v h1 h2 _ => kk v h1 h2) H locs ls hR hS hl)
theorem j_iushr (hx : CX X E own y cc nL ret R) {x y2 : Int32} (d : Dc cc pc .iushr 1 pc2) (kk : ∀ v : Int, -2147483648 ≤ v → v ≤ 2147483647 → JJ X E nL Γ σ k n L pc2 (.int (zI v) :: st)) : JJ X E nL Γ σ k n L pc (.int y2 :: .int x :: st) := by
  intro H locs ls hR hS hl
  obtain ⟨d1, rfl⟩ := d
  exact lv_iushr hx.1 hx.2.1 d1 rfl (j_any (fun v h1 h2 _ => kk v h1 h2) H locs ls hR hS hl)
theorem zshr_toInt (a s : Int32) (j : Nat) (hs : (s.toBitVec.smod 32).toNat = j) : (a >>> s).toInt = a.toInt / 2 ^ j := by
  rw [pk_shr a s j hs, Int.shiftRight_eq_div_pow]
  norm_cast
theorem j_ishr (hx : CX X E own y cc nL ret R) {a b : Int} (j : Nat) (p : Int) (d : Dc cc pc .ishr 1 pc2) (ha : -2147483648 ≤ a ∧ a ≤ 2147483647) (hs : ((zI b &&& 31).toBitVec.smod 32).toNat = j) (hp : (2 : Int) ^ j = p) (hp0 : 0 < p) (kk : ∀ v : Int, -2147483648 ≤ v → v ≤ 2147483647 → p * v ≤ a → a < p * v + p → JJ X E nL Γ σ k n L pc2 (.int (zI v) :: st)) : JJ X E nL Γ σ k n L pc (.int (zI b) :: .int (zI a) :: st) := by
  intro H locs ls hR hS hl
  obtain ⟨d1, rfl⟩ := d
  refine lv_ishr hx.1 hx.2.1 d1 ?_
  refine j_any (E := E) (nL := nL) (Γ := Γ) (σ := σ) (L := L) (pc := pc + 1) (st := st) (x := zI a >>> (zI b &&& 31)) (fun v h1 h2 h3 => ?_) H locs ls hR hS hl
  rw [zshr_toInt _ _ j hs, zI_int ha.1 ha.2, hp] at h3
  have h4 := Int.mul_ediv_add_emod a p
  have h5 := Int.emod_nonneg a (show p ≠ 0 by omega)
  have h6 := Int.emod_lt_of_pos a hp0
  rw [← h3] at h4
  exact kk v h1 h2 (by omega) (by omega)
theorem j_i2b (hx : CX X E own y cc nL ret R) {x : Int32} (d : Dc cc pc .i2b 1 pc2) (kk : ∀ v : Int, -128 ≤ v → v ≤ 127 → JJ X E nL Γ σ k n L pc2 (.int (zI v) :: st)) : JJ X E nL Γ σ k n L pc (.int x :: st) := by
  intro H locs ls hR hS hl
  obtain ⟨d1, rfl⟩ := d
  refine lv_i2b hx.1 hx.2.1 d1 rfl ?_
  refine j_any (E := E) (nL := nL) (Γ := Γ) (σ := σ) (L := L) (pc := pc + 1) (st := st) (x := x.toInt8.toInt32) (fun v _ _ h3 => ?_) H locs ls hR hS hl
  rw [Int8.toInt_toInt32] at h3
  have h4 := Int8.le_toInt x.toInt8
  have h5 := Int8.toInt_lt x.toInt8
  exact kk v (by omega) (by omega)
/-! longs -/
theorem j_i2l (hx : CX X E own y cc nL ret R) {a : Int} (d : Dc cc pc .i2l 1 pc2) (ha : -2147483648 ≤ a ∧ a ≤ 2147483647) (kk : JJ X E nL Γ σ k n L pc2 (.long (zL a) :: st)) : JJ X E nL Γ σ k n L pc (.int (zI a) :: st) := by
  intro H locs ls hR hS hl
  obtain ⟨d1, rfl⟩ := d
  refine lv_i2l hx.1 hx.2.1 d1 (v := zL a) ?_ (kk H locs ls hR hS hl)
  rw [← Int64.toInt_inj, Int32.toInt_toInt64, zI_int ha.1 ha.2, zL_int (by omega) (by omega)]
theorem j_l2i (hx : CX X E own y cc nL ret R) {a : Int} (d : Dc cc pc .l2i 1 pc2) (ha : -9223372036854775808 ≤ a ∧ a ≤ 9223372036854775807) (kk : ∀ v : Int, -2147483648 ≤ v → v ≤ 2147483647 → (-2147483648 ≤ a → a ≤ 2147483647 → v = a) → JJ X E nL Γ σ k n L pc2 (.int (zI v) :: st)) : JJ X E nL Γ σ k n L pc (.long (zL a) :: st) := by
  intro H locs ls hR hS hl
  obtain ⟨d1, rfl⟩ := d
  refine lv_l2i hx.1 hx.2.1 d1 rfl ?_
  refine j_any (E := E) (nL := nL) (Γ := Γ) (σ := σ) (L := L) (pc := pc + 1) (st := st) (x := (zL a).toInt32) (fun v h1 h2 h3 => kk v h1 h2 (fun z1 z2 => ?_)) H locs ls hR hS hl
  rw [h3, Int64.toInt_toInt32, zL_int ha.1 ha.2]
  exact Int.bmod_eq_of_le (by omega) (by omega)
theorem zL_lt {a b : Int} (ha : -9223372036854775808 ≤ a ∧ a ≤ 9223372036854775807) (hb : -9223372036854775808 ≤ b ∧ b ≤ 9223372036854775807) : zL a < zL b ↔ a < b := by
  rw [Int64.lt_iff_toInt_lt, zL_int ha.1 ha.2, zL_int hb.1 hb.2]
theorem zL_eq {a b : Int} (ha : -9223372036854775808 ≤ a ∧ a ≤ 9223372036854775807) (hb : -9223372036854775808 ≤ b ∧ b ≤ 9223372036854775807) : zL a = zL b ↔ a = b := by
  rw [← Int64.toInt_inj, zL_int ha.1 ha.2, zL_int hb.1 hb.2]
theorem j_lcmp (hx : CX X E own y cc nL ret R) {a b : Int} (d : Dc cc pc .lcmp 1 pc2) (ha : -9223372036854775808 ≤ a ∧ a ≤ 9223372036854775807) (hb : -9223372036854775808 ≤ b ∧ b ≤ 9223372036854775807) (kk : ∀ v : Int, (a < b → v = -1) → (a = b → v = 0) → (b < a → v = 1) → JJ X E nL Γ σ k n L pc2 (.int (zI v) :: st)) : JJ X E nL Γ σ k n L pc (.long (zL b) :: .long (zL a) :: st) := by
  intro H locs ls hR hS hl
  obtain ⟨d1, rfl⟩ := d
  refine W.lcmp hx.1 hx.2.1 d1 ?_
  have e : lg_cmp (zL a) (zL b) = zI (if b < a then 1 else if a = b then 0 else -1) := by
    unfold lg_cmp
    have h1 := zL_lt hb ha
    have h2 := zL_eq ha hb
    by_cases c1 : b < a
    · rw [if_pos (h1.mpr c1), if_pos c1]; rfl
    · rw [if_neg (fun z => c1 (h1.mp z)), if_neg c1]
      by_cases c2 : a = b
      · rw [if_pos (h2.mpr c2), if_pos c2]; rfl
      · rw [if_neg (fun z => c2 (h2.mp z)), if_neg c2]; rfl
  rw [e]
  refine kk _ (fun z => ?_) (fun z => ?_) (fun z => ?_) H locs ls hR hS hl
  · rw [if_neg (by omega), if_neg (by omega)]
  · rw [if_neg (by omega), if_pos z]
  · rw [if_pos z]
theorem j_ladd (hx : CX X E own y cc nL ret R) {x z : Int64} (d : Dc cc pc .ladd 1 pc2) (kk : ∀ v : Int, -9223372036854775808 ≤ v → v ≤ 9223372036854775807 → JJ X E nL Γ σ k n L pc2 (.long (zL v) :: st)) : JJ X E nL Γ σ k n L pc (.long z :: .long x :: st) := by
  intro H locs ls hR hS hl
  obtain ⟨d1, rfl⟩ := d
  exact lv_ladd hx.1 hx.2.1 d1 (j_anyl (fun v h1 h2 _ => kk v h1 h2) H locs ls hR hS hl)
theorem j_lmul (hx : CX X E own y cc nL ret R) {x z : Int64} (d : Dc cc pc .lmul 1 pc2) (kk : ∀ v : Int, -9223372036854775808 ≤ v → v ≤ 9223372036854775807 → JJ X E nL Γ σ k n L pc2 (.long (zL v) :: st)) : JJ X E nL Γ σ k n L pc (.long z :: .long x :: st) := by
  intro H locs ls hR hS hl
  obtain ⟨d1, rfl⟩ := d
  exact lv_lmul hx.1 hx.2.1 d1 (j_anyl (fun v h1 h2 _ => kk v h1 h2) H locs ls hR hS hl)
theorem j_land (hx : CX X E own y cc nL ret R) {x z : Int64} (d : Dc cc pc .land 1 pc2) (kk : ∀ v : Int, -9223372036854775808 ≤ v → v ≤ 9223372036854775807 → JJ X E nL Γ σ k n L pc2 (.long (zL v) :: st)) : JJ X E nL Γ σ k n L pc (.long z :: .long x :: st) := by
  intro H locs ls hR hS hl
  obtain ⟨d1, rfl⟩ := d
  exact lv_land hx.1 hx.2.1 d1 (j_anyl (fun v h1 h2 _ => kk v h1 h2) H locs ls hR hS hl)
theorem j_lor (hx : CX X E own y cc nL ret R) {x z : Int64} (d : Dc cc pc .lor 1 pc2) (kk : ∀ v : Int, -9223372036854775808 ≤ v → v ≤ 9223372036854775807 → JJ X E nL Γ σ k n L pc2 (.long (zL v) :: st)) : JJ X E nL Γ σ k n L pc (.long z :: .long x :: st) := by
  intro H locs ls hR hS hl
  obtain ⟨d1, rfl⟩ := d
  exact lv_lor hx.1 hx.2.1 d1 (j_anyl (fun v h1 h2 _ => kk v h1 h2) H locs ls hR hS hl)
theorem j_lxor (hx : CX X E own y cc nL ret R) {x z : Int64} (d : Dc cc pc .lxor 1 pc2) (kk : ∀ v : Int, -9223372036854775808 ≤ v → v ≤ 9223372036854775807 → JJ X E nL Γ σ k n L pc2 (.long (zL v) :: st)) : JJ X E nL Γ σ k n L pc (.long z :: .long x :: st) := by
  intro H locs ls hR hS hl
  obtain ⟨d1, rfl⟩ := d
  exact lv_lxor hx.1 hx.2.1 d1 (j_anyl (fun v h1 h2 _ => kk v h1 h2) H locs ls hR hS hl)
theorem j_lshl (hx : CX X E own y cc nL ret R) {x : Int64} {z : Int32} (d : Dc cc pc .lshl 1 pc2) (kk : ∀ v : Int, -9223372036854775808 ≤ v → v ≤ 9223372036854775807 → JJ X E nL Γ σ k n L pc2 (.long (zL v) :: st)) : JJ X E nL Γ σ k n L pc (.int z :: .long x :: st) := by
  intro H locs ls hR hS hl
  obtain ⟨d1, rfl⟩ := d
  exact lv_lshl hx.1 hx.2.1 d1 rfl (j_anyl (fun v h1 h2 _ => kk v h1 h2) H locs ls hR hS hl)
theorem j_lushr (hx : CX X E own y cc nL ret R) {x : Int64} {z : Int32} (d : Dc cc pc .lushr 1 pc2) (kk : ∀ v : Int, -9223372036854775808 ≤ v → v ≤ 9223372036854775807 → JJ X E nL Γ σ k n L pc2 (.long (zL v) :: st)) : JJ X E nL Γ σ k n L pc (.int z :: .long x :: st) := by
  intro H locs ls hR hS hl
  obtain ⟨d1, rfl⟩ := d
  exact lv_lushr hx.1 hx.2.1 d1 rfl (j_anyl (fun v h1 h2 _ => kk v h1 h2) H locs ls hR hS hl)
theorem j_ldiv (hx : CX X E own y cc nL ret R) {x : Int64} {b : Int} (d : Dc cc pc .ldiv 1 pc2) (hb : -9223372036854775808 ≤ b ∧ b ≤ 9223372036854775807) (h0 : b ≠ 0) (kk : ∀ v : Int, -9223372036854775808 ≤ v → v ≤ 9223372036854775807 → JJ X E nL Γ σ k n L pc2 (.long (zL v) :: st)) : JJ X E nL Γ σ k n L pc (.long (zL b) :: .long x :: st) := by
  intro H locs ls hR hS hl
  obtain ⟨d1, rfl⟩ := d
  exact lv_ldiv hx.1 hx.2.1 d1 (fun z => h0 ((zL_eq hb (by omega)).mp z)) (j_anyl (fun v h1 h2 _ => kk v h1 h2) H locs ls hR hS hl)
theorem j_lrem (hx : CX X E own y cc nL ret R) {x : Int64} {b : Int} (d : Dc cc pc .lrem 1 pc2) (hb : -9223372036854775808 ≤ b ∧ b ≤ 9223372036854775807) (h0 : b ≠ 0) (kk : ∀ v : Int, -9223372036854775808 ≤ v → v ≤ 9223372036854775807 → JJ X E nL Γ σ k n L pc2 (.long (zL v) :: st)) : JJ X E nL Γ σ k n L pc (.long (zL b) :: .long x :: st) := by
  intro H locs ls hR hS hl
  obtain ⟨d1, rfl⟩ := d
  exact lv_lrem hx.1 hx.2.1 d1 (fun z => h0 ((zL_eq hb (by omega)).mp z)) (j_anyl (fun v h1 h2 _ => kk v h1 h2) H locs ls hR hS hl)

end JR
/-! the heap -/
theorem zF_obj {E : zE} {Γ : zG} {σ : zS} {a t ci N : Nat} (ht : gT Γ a = t) (hk : tK t = 1) (hc : tC t = ci) (hN : tN t = N) : zF E Γ σ a = .inr (ci, (List.range N).map (fun j => zV (sK t j) (gP Γ a j) (σ a j))) := by
  unfold zF
  rw [ht]
  simp only [zC, hk, hc, hN]
theorem zF_i {E : zE} {Γ : zG} {σ : zS} {a t : Nat} (ht : gT Γ a = t) (hk : tK t = 2) : zF E Γ σ a = .inl (E.2.1 2, gN Γ a, .inl (fun j => zI (σ a j))) := by
  unfold zF
  rw [ht]
  simp only [zC, hk]
theorem zF_l {E : zE} {Γ : zG} {σ : zS} {a t : Nat} (ht : gT Γ a = t) (hk : tK t = 3) : zF E Γ σ a = .inl (E.2.1 3, gN Γ a, .inr (.inl (fun j => zL (σ a j)))) := by
  unfold zF
  rw [ht]
  simp only [zC, hk]
theorem zF_b {E : zE} {Γ : zG} {σ : zS} {a t : Nat} (ht : gT Γ a = t) (hk : tK t = 4) : zF E Γ σ a = .inl (E.2.1 4, gN Γ a, .inl (fun j => zI (σ a j))) := by
  unfold zF
  rw [ht]
  simp only [zC, hk]
theorem zF_z {E : zE} {Γ : zG} {σ : zS} {a t : Nat} (ht : gT Γ a = t) (hk : tK t = 5) : zF E Γ σ a = .inl (E.2.1 5, gN Γ a, .inl (fun j => zI (σ a j))) := by
  unfold zF
  rw [ht]
  simp only [zC, hk]
theorem zF_p {E : zE} {Γ : zG} {σ : zS} {a t : Nat} (ht : gT Γ a = t) (hk : tK t = 6) : zF E Γ σ a = .inl (E.2.1 6, gN Γ a, .inr (.inr (.inr (.inr (fun j => zQ (σ a j)))))) := by
  unfold zF
  rw [ht]
  simp only [zC, hk]
theorem zF_r {E : zE} {Γ : zG} {σ : zS} {a t : Nat} (ht : gT Γ a = t) (hk : tK t = 7) : zF E Γ σ a = .inl (E.2.1 7, gN Γ a, .inr (.inr (.inr (.inr (fun j => zQ (σ a j)))))) := by
  unfold zF
  rw [ht]
  simp only [zC, hk]
theorem zF_ne {E : zE} {Γ : zG} {σ : zS} {a k b : Nat} {v : Int} (h : b ≠ a) : zF E Γ (zU σ a k v) b = zF E Γ σ b := by
  unfold zF
  rw [zU_ne h]
/-- the place of a cell in the world -/
theorem zat {E : zE} {Γ : zG} {σ : zS} {a : Nat} (ha : a ∈ Γ.1) : ∃ q0 : Nat, (zW E Γ σ)[q0]? = some (a, zF E Γ σ a) := by
  obtain ⟨q0, hq⟩ := va_pl_get (X := []) (f := zF E Γ σ) ha
  exact ⟨q0, hq⟩
theorem zset {E : zE} {Γ : zG} {σ : zS} {a k q0 : Nat} {v : Int} {A : Nat → Prop} (hD : va_D A (zW E Γ σ)) (ha : a ∈ Γ.1) (hq : (zW E Γ σ)[q0]? = some (a, zF E Γ σ a)) : (zW E Γ σ).set q0 (a, zF E Γ (zU σ a k v) a) = zW E Γ (zU σ a k v) := by
  have h := va_pl_set (X := []) (f := zF E Γ σ) (e := zF E Γ (zU σ a k v) a) hD ha hq
  refine (show (zW E Γ σ).set q0 _ = _ from h).trans ?_
  show va_pl _ _ = va_pl _ _
  refine va_pl_congr fun b => ?_
  by_cases hb : b = a
  · subst hb; rw [va_up_self]
  · rw [va_up_ne _ _ hb, zF_ne hb]
theorem zlist {N k : Nat} {f g : Nat → Value} (h : ∀ j, j ≠ k → g j = f j) : ((List.range N).map f).set k (g k) = (List.range N).map g := by
  apply List.ext_getElem?
  intro j
  rw [List.getElem?_set]
  by_cases hj : k = j
  · subst hj
    by_cases hl : k < N
    · simp [hl]
    · simp [hl]
  · rw [if_neg hj]
    simp only [List.getElem?_map]
    cases hr : (List.range N)[j]? with
    | none => rfl
    | some i =>
      have : i = j := by
        have h1 := List.getElem?_eq_some_iff.mp hr
        obtain ⟨h2, h3⟩ := h1
        simpa using h3.symm
      subst this
      simp only [Option.map_some]
      rw [h i (Ne.symm hj)]
section JH
variable {X : zX} {E : zE} {own : String} {y : MethodName} {cc : ByteArray} {nL : Nat} {ret : Option FieldType} {R : Room} {Γ : zG} {σ : zS} {k n : Nat} {L : List (Nat × Value)} {pc pc2 : Nat} {st : List Value}
theorem j_getf (hx : CX X E own y cc nL ret R) (hG : zGK Γ) {a t ci N idx : Nat} {C ref : String} {T : u_T} (ht : gT Γ a = t) (ht0 : t ≠ 0) (hk : tK t = 1) (hc : tC t = ci) (hN : tN t = N) (hcl : vwCl[ci]? = some (C, T, N)) (hin : ∀ w ∈ u_ws C T N, w ∈ tblG) (k1 : Nat) (hlt : k1 < N) (hlink : Cond.fieldLink own idx ref (T k1).2.1 (T k1).2.2.1 ∈ tblG) (href : (T k1).1 = ref) (d : Dc cc pc (.getfield idx) 3 pc2) {v : Value} (hv : zV (sK t k1) (gP Γ a k1) (σ a k1) = v) (kk : JJ X E nL Γ σ k n L pc2 (v :: st)) : JJ X E nL Γ σ k n L pc (.ref a :: st) := by
  intro H locs ls hR hS hl
  obtain ⟨d1, rfl⟩ := d
  obtain ⟨q0, hq⟩ := zat (E := E) (σ := σ) (zin hG ht ht0)
  rw [zF_obj ht hk hc hN] at hq
  exact va_get hx.1 hx.2.1 hx.2.2.2.2.1 hin hx.2.2.2.1 hx.2.2.2.2.2.1.1 hR.1 q0 hq hcl k1 hlt (hx.2.2.2.2.1 _ hlink) (fun x h => by rw [← href]; exact h) (v := v) (by simp [hlt, hv]) d1 (kk H locs ls hR hS hl)
theorem j_getfN (hx : CX X E own y cc nL ret R) (hG : zGK Γ) {a t ci N idx : Nat} {C ref host : String} {T : u_T} (ht : gT Γ a = t) (ht0 : t ≠ 0) (hk : tK t = 1) (hc : tC t = ci) (hN : tN t = N) (hcl : vwCl[ci]? = some (C, T, N)) (hin : ∀ w ∈ u_ws C T N, w ∈ tblG) (k1 : Nat) (hlt : k1 < N) (hlink : Cond.fieldLinkNest own idx ref (T k1).2.1 (T k1).2.2.1 host ∈ tblN) (href : (T k1).1 = ref) (d : Dc cc pc (.getfield idx) 3 pc2) {v : Value} (hv : zV (sK t k1) (gP Γ a k1) (σ a k1) = v) (kk : JJ X E nL Γ σ k n L pc2 (v :: st)) : JJ X E nL Γ σ k n L pc (.ref a :: st) := by
  intro H locs ls hR hS hl
  obtain ⟨d1, rfl⟩ := d
  obtain ⟨q0, hq⟩ := zat (E := E) (σ := σ) (zin hG ht ht0)
  rw [zF_obj ht hk hc hN] at hq
  exact va_getN hx.1 hx.2.1 hx.2.2.2.2.1 hin hx.2.2.2.1 hx.2.2.2.2.2.1.1 hR.1 q0 hq hcl k1 hlt (va_Nw.use rfl (hx.2.2.2.2.2.1.2.1 _ hlink)) (fun x h => by rw [← href]; exact h) (v := v) (by simp [hlt, hv]) d1 (kk H locs ls hR hS hl)
theorem zput {E : zE} {Γ : zG} {σ : zS} {a t ci N k1 : Nat} {x : Int} {v : Value} (ht : gT Γ a = t) (hk : tK t = 1) (hc : tC t = ci) (hN : tN t = N) (hv : zV (sK t k1) (gP Γ a k1) x = v) : (.inr (ci, ((List.range N).map (fun j => zV (sK t j) (gP Γ a j) (σ a j))).set k1 v) : va_E) = zF E Γ (zU σ a k1 x) a := by
  rw [zF_obj ht hk hc hN, ← hv]
  congr 2
  have h := zlist (N := N) (k := k1) (f := fun j => zV (sK t j) (gP Γ a j) (σ a j)) (g := fun j => zV (sK t j) (gP Γ a j) (zU σ a k1 x a j)) (fun j hj => by show zV _ _ _ = zV _ _ _; rw [zU_nk hj])
  rw [← h, zU_eq]
theorem j_putf (hx : CX X E own y cc nL ret R) (hG : zGK Γ) {a t ci N idx : Nat} {C ref : String} {T : u_T} {ty0 : Nat → FieldType} (ht : gT Γ a = t) (ht0 : t ≠ 0) (hk : tK t = 1) (hc : tC t = ci) (hN : tN t = N) (hcl : vwCl[ci]? = some (C, T, N)) (hin : ∀ w ∈ u_ws C T N, w ∈ tblG) (hty : ∀ k, k < N → parseFieldDescriptor (T k).2.2.1 = some (ty0 k)) (hnm : ∀ a, a < N → ∀ b, b < N → a ≠ b → (T a).2.1 ≠ (T b).2.1) (k1 : Nat) (hlt : k1 < N) (hlink : Cond.fieldLink own idx ref (T k1).2.1 (T k1).2.2.1 ∈ tblG) (href : (T k1).1 = ref) (hfin : (T k1).2.2.2 = false) (d : Dc cc pc (.putfield idx) 3 pc2) {v : Value} (hn : narrow (ty0 k1) v = v) (hfit : fits (ty0 k1) v = true) (x : Int) (hv : zV (sK t k1) (gP Γ a k1) x = v) (kk : JJ X E nL Γ (zU σ a k1 x) k n L pc2 st) : JJ X E nL Γ σ k n L pc (v :: .ref a :: st) := by
  intro H locs ls hR hS hl
  obtain ⟨d1, rfl⟩ := d
  have ha := zin hG ht ht0
  obtain ⟨q0, hq⟩ := zat (E := E) (σ := σ) ha
  have hq2 := hq
  rw [zF_obj ht hk hc hN] at hq2
  refine va_put hx.1 hx.2.1 hx.2.2.2.2.1 hin ty0 hty hnm hx.2.2.2.1 hx.2.2.2.2.2.1.1 hR.1 hR.2 hS q0 hq2 hcl k1 hlt (hx.2.2.2.2.1 _ hlink) (fun x h => by rw [← href]; exact h) hfin (hty k1 hlt) hn hfit (by simp [hlt]) d1 (fun H1 locs1 hP1 hD1 hS1 => ?_)
  rw [zput (E := E) ht hk hc hN hv, zset hR.2 ha hq] at hP1 hD1
  exact kk H1 locs1 ls ⟨hP1, hD1⟩ hS1 hl
theorem j_putfN (hx : CX X E own y cc nL ret R) (hG : zGK Γ) {a t ci N idx : Nat} {C ref host : String} {T : u_T} {ty0 : Nat → FieldType} (ht : gT Γ a = t) (ht0 : t ≠ 0) (hk : tK t = 1) (hc : tC t = ci) (hN : tN t = N) (hcl : vwCl[ci]? = some (C, T, N)) (hin : ∀ w ∈ u_ws C T N, w ∈ tblG) (hty : ∀ k, k < N → parseFieldDescriptor (T k).2.2.1 = some (ty0 k)) (hnm : ∀ a, a < N → ∀ b, b < N → a ≠ b → (T a).2.1 ≠ (T b).2.1) (k1 : Nat) (hlt : k1 < N) (hlink : Cond.fieldLinkNest own idx ref (T k1).2.1 (T k1).2.2.1 host ∈ tblN) (href : (T k1).1 = ref) (hfin : (T k1).2.2.2 = false) (d : Dc cc pc (.putfield idx) 3 pc2) {v : Value} (hn : narrow (ty0 k1) v = v) (hfit : fits (ty0 k1) v = true) (x : Int) (hv : zV (sK t k1) (gP Γ a k1) x = v) (kk : JJ X E nL Γ (zU σ a k1 x) k n L pc2 st) : JJ X E nL Γ σ k n L pc (v :: .ref a :: st) := by
  intro H locs ls hR hS hl
  obtain ⟨d1, rfl⟩ := d
  have ha := zin hG ht ht0
  obtain ⟨q0, hq⟩ := zat (E := E) (σ := σ) ha
  have hq2 := hq
  rw [zF_obj ht hk hc hN] at hq2
  refine va_putN hx.1 hx.2.1 hx.2.2.2.2.1 hin ty0 hty hnm hx.2.2.2.1 hx.2.2.2.2.2.1.1 hR.1 hR.2 hS q0 hq2 hcl k1 hlt (va_Nw.use rfl (hx.2.2.2.2.2.1.2.1 _ hlink)) (fun x h => by rw [← href]; exact h) hfin (hty k1 hlt) hn hfit (by simp [hlt]) d1 (fun H1 locs1 hP1 hD1 hS1 => ?_)
  rw [zput (E := E) ht hk hc hN hv, zset hR.2 ha hq] at hP1 hD1
  exact kk H1 locs1 ls ⟨hP1, hD1⟩ hS1 hl
theorem j_putF (hx : CX X E own y cc nL ret R) (hG : zGK Γ) {a t ci N idx : Nat} {C ref : String} {T : u_T} {ty0 : Nat → FieldType} (ht : gT Γ a = t) (ht0 : t ≠ 0) (hk : tK t = 1) (hc : tC t = ci) (hN : tN t = N) (hcl : vwCl[ci]? = some (C, T, N)) (hin : ∀ w ∈ u_ws C T N, w ∈ tblG) (hty : ∀ k, k < N → parseFieldDescriptor (T k).2.2.1 = some (ty0 k)) (hnm : ∀ a, a < N → ∀ b, b < N → a ≠ b → (T a).2.1 ≠ (T b).2.1) (k1 : Nat) (hlt : k1 < N) (hlink : Cond.fieldLink own idx ref (T k1).2.1 (T k1).2.2.1 ∈ tblG) (href : (T k1).1 = ref) (hfin : (T k1).2.2.2 = true) (hini : y.name = "<init>") (hown : (T k1).1 = own) (d : Dc cc pc (.putfield idx) 3 pc2) {v : Value} (hn : narrow (ty0 k1) v = v) (hfit : fits (ty0 k1) v = true) (x : Int) (hv : zV (sK t k1) (gP Γ a k1) x = v) (kk : JJ X E nL Γ (zU σ a k1 x) k n L pc2 st) : JJ X E nL Γ σ k n L pc (v :: .ref a :: st) := by
  intro H locs ls hR hS hl
  obtain ⟨d1, rfl⟩ := d
  have ha := zin hG ht ht0
  obtain ⟨q0, hq⟩ := zat (E := E) (σ := σ) ha
  have hq2 := hq
  rw [zF_obj ht hk hc hN] at hq2
  refine va_putF hx.1 hx.2.1 hx.2.2.2.2.1 hin ty0 hty hnm hx.2.2.2.1 hx.2.2.2.2.2.1.1 hR.1 hR.2 hS q0 hq2 hcl k1 hlt (hx.2.2.2.2.1 _ hlink) (fun x h => by rw [← href]; exact h) hfin (hx.2.2.2.2.2.2.2.2.2.2.1.trans hini) hown (hty k1 hlt) hn hfit (by simp [hlt]) d1 (fun H1 locs1 hP1 hD1 hS1 => ?_)
  rw [zput (E := E) ht hk hc hN hv, zset hR.2 ha hq] at hP1 hD1
  exact kk H1 locs1 ls ⟨hP1, hD1⟩ hS1 hl
/-! arrays -/
theorem zn_le {Γ : zG} (hG : zGK Γ) (a : Nat) : gN Γ a ≤ 1000000 := (hG.2.2.2 a).1
theorem zn46 {Γ : zG} {a : Nat} (hG : zGK Γ) (ht : gT Γ a = 46) : 0 ≤ (gN Γ a : Int) ∧ (gN Γ a : Int) ≤ 150 := by
  have := (hG.2.2.2 a).2 ht
  omega
theorem j_iald (hx : CX X E own y cc nL ret R) (hG : zGK Γ) {a t : Nat} {i m : Int} (ht : gT Γ a = t) (ht0 : t ≠ 0) (hk : tK t = 2) (hm : (gN Γ a : Int) = m) (h0 : 0 ≤ i) (h1 : i < m) {j : Nat} (hj : i.toNat = j) {v : Int} (hv : σ a j = v) (d : Dc cc pc .iaload 1 pc2) (kk : JJ X E nL Γ σ k n L pc2 (.int (zI v) :: st)) : JJ X E nL Γ σ k n L pc (.int (zI i) :: .ref a :: st) := by
  intro H locs ls hR hS hl
  obtain ⟨d1, rfl⟩ := d
  obtain ⟨q0, hq⟩ := zat (E := E) (σ := σ) (zin hG ht ht0)
  rw [zF_i ht hk] at hq
  have hb := zn_le hG a
  refine va_iald hx.1 hx.2.1 hx.2.2.2.2.2.1.1 hR.1 q0 0 hq rfl (zI_in h0 (by omega) hb) d1 ?_
  rw [zI_nat h0 (by omega), hj, hv]
  exact kk H locs ls hR hS hl
theorem j_lald (hx : CX X E own y cc nL ret R) (hG : zGK Γ) {a t : Nat} {i m : Int} (ht : gT Γ a = t) (ht0 : t ≠ 0) (hk : tK t = 3) (hm : (gN Γ a : Int) = m) (h0 : 0 ≤ i) (h1 : i < m) {j : Nat} (hj : i.toNat = j) {v : Int} (hv : σ a j = v) (d : Dc cc pc .laload 1 pc2) (kk : JJ X E nL Γ σ k n L pc2 (.long (zL v) :: st)) : JJ X E nL Γ σ k n L pc (.int (zI i) :: .ref a :: st) := by
  intro H locs ls hR hS hl
  obtain ⟨d1, rfl⟩ := d
  obtain ⟨q0, hq⟩ := zat (E := E) (σ := σ) (zin hG ht ht0)
  rw [zF_l ht hk] at hq
  have hb := zn_le hG a
  refine va_lald hx.1 hx.2.1 hx.2.2.2.2.2.1.1 hR.1 q0 1 hq rfl (zI_in h0 (by omega) hb) d1 ?_
  rw [zI_nat h0 (by omega), hj, hv]
  exact kk H locs ls hR hS hl
theorem j_bald (hx : CX X E own y cc nL ret R) (hG : zGK Γ) {a t : Nat} {i m : Int} (ht : gT Γ a = t) (ht0 : t ≠ 0) (hk : tK t = 4) (hm : (gN Γ a : Int) = m) (h0 : 0 ≤ i) (h1 : i < m) {j : Nat} (hj : i.toNat = j) {v : Int} (hv : σ a j = v) (d : Dc cc pc .baload 1 pc2) (kk : JJ X E nL Γ σ k n L pc2 (.int (zI v) :: st)) : JJ X E nL Γ σ k n L pc (.int (zI i) :: .ref a :: st) := by
  intro H locs ls hR hS hl
  obtain ⟨d1, rfl⟩ := d
  obtain ⟨q0, hq⟩ := zat (E := E) (σ := σ) (zin hG ht ht0)
  rw [zF_b ht hk] at hq
  have hb := zn_le hG a
  refine va_bald hx.1 hx.2.1 hx.2.2.2.2.2.1.1 hR.1 q0 2 hq rfl (zI_in h0 (by omega) hb) d1 ?_
  rw [zI_nat h0 (by omega), hj, hv]
  exact kk H locs ls hR hS hl
theorem j_zald (hx : CX X E own y cc nL ret R) (hG : zGK Γ) {a t : Nat} {i m : Int} (ht : gT Γ a = t) (ht0 : t ≠ 0) (hk : tK t = 5) (hm : (gN Γ a : Int) = m) (h0 : 0 ≤ i) (h1 : i < m) {j : Nat} (hj : i.toNat = j) {v : Int} (hv : σ a j = v) (d : Dc cc pc .baload 1 pc2) (kk : JJ X E nL Γ σ k n L pc2 (.int (zI v) :: st)) : JJ X E nL Γ σ k n L pc (.int (zI i) :: .ref a :: st) := by
  intro H locs ls hR hS hl
  obtain ⟨d1, rfl⟩ := d
  obtain ⟨q0, hq⟩ := zat (E := E) (σ := σ) (zin hG ht ht0)
  rw [zF_z ht hk] at hq
  have hb := zn_le hG a
  refine va_zald hx.1 hx.2.1 hx.2.2.2.2.2.1.1 hR.1 q0 3 hq rfl (zI_in h0 (by omega) hb) d1 ?_
  rw [zI_nat h0 (by omega), hj, hv]
  exact kk H locs ls hR hS hl
theorem j_iast (hx : CX X E own y cc nL ret R) (hG : zGK Γ) {a t : Nat} {i m x : Int} (ht : gT Γ a = t) (ht0 : t ≠ 0) (hk : tK t = 2) (hm : (gN Γ a : Int) = m) (h0 : 0 ≤ i) (h1 : i < m) {j : Nat} (hj : i.toNat = j) (d : Dc cc pc .iastore 1 pc2) (kk : JJ X E nL Γ (zU σ a j x) k n L pc2 st) : JJ X E nL Γ σ k n L pc (.int (zI x) :: .int (zI i) :: .ref a :: st) := by
  intro H locs ls hR hS hl
  obtain ⟨d1, rfl⟩ := d
  subst hj
  have ha := zin hG ht ht0
  obtain ⟨q0, hq⟩ := zat (E := E) (σ := σ) ha
  have hq2 := hq
  rw [zF_i ht hk] at hq2
  have hb := zn_le hG a
  refine va_iast hx.1 hx.2.1 hx.2.2.2.2.2.1.1 hR.1 hR.2 hS q0 0 hq2 rfl (zI_in h0 (by omega) hb) d1 (fun H1 locs1 hP1 hD1 hS1 => ?_)
  have e : (.inl (E.2.1 2, gN Γ a, .inl (upd (fun j => zI (σ a j)) (zI i).toNatClampNeg (zI x))) : va_E) = zF E Γ (zU σ a i.toNat x) a := by
    rw [zF_i ht hk, zI_nat h0 (by omega)]
    congr 4
    funext j
    by_cases hj : j = i.toNat
    · subst hj
      simp [upd, zU_eq]
    · simp [upd, hj, zU_nk hj]
  rw [e, zset hR.2 ha hq] at hP1 hD1
  exact kk H1 locs1 ls ⟨hP1, hD1⟩ hS1 hl
theorem j_last (hx : CX X E own y cc nL ret R) (hG : zGK Γ) {a t : Nat} {i m x : Int} (ht : gT Γ a = t) (ht0 : t ≠ 0) (hk : tK t = 3) (hm : (gN Γ a : Int) = m) (h0 : 0 ≤ i) (h1 : i < m) {j : Nat} (hj : i.toNat = j) (d : Dc cc pc .lastore 1 pc2) (kk : JJ X E nL Γ (zU σ a j x) k n L pc2 st) : JJ X E nL Γ σ k n L pc (.long (zL x) :: .int (zI i) :: .ref a :: st) := by
  intro H locs ls hR hS hl
  obtain ⟨d1, rfl⟩ := d
  subst hj
  have ha := zin hG ht ht0
  obtain ⟨q0, hq⟩ := zat (E := E) (σ := σ) ha
  have hq2 := hq
  rw [zF_l ht hk] at hq2
  have hb := zn_le hG a
  refine va_last hx.1 hx.2.1 hx.2.2.2.2.2.1.1 hR.1 hR.2 hS q0 1 hq2 rfl (zI_in h0 (by omega) hb) d1 (fun H1 locs1 hP1 hD1 hS1 => ?_)
  have e : (.inl (E.2.1 3, gN Γ a, .inr (.inl (vp_updL (fun j => zL (σ a j)) (zI i).toNatClampNeg (zL x)))) : va_E) = zF E Γ (zU σ a i.toNat x) a := by
    rw [zF_l ht hk, zI_nat h0 (by omega)]
    congr 5
    funext j
    by_cases hj : j = i.toNat
    · subst hj
      simp [vp_updL, zU_eq]
    · simp [vp_updL, hj, zU_nk hj]
  rw [e, zset hR.2 ha hq] at hP1 hD1
  exact kk H1 locs1 ls ⟨hP1, hD1⟩ hS1 hl
theorem j_bast (hx : CX X E own y cc nL ret R) (hG : zGK Γ) {a t : Nat} {i m x : Int} (ht : gT Γ a = t) (ht0 : t ≠ 0) (hk : tK t = 4) (hm : (gN Γ a : Int) = m) (h0 : 0 ≤ i) (h1 : i < m) {j : Nat} (hj : i.toNat = j) (hv : vp_nar .byte (zI x) = zI x) (d : Dc cc pc .bastore 1 pc2) (kk : JJ X E nL Γ (zU σ a j x) k n L pc2 st) : JJ X E nL Γ σ k n L pc (.int (zI x) :: .int (zI i) :: .ref a :: st) := by
  intro H locs ls hR hS hl
  obtain ⟨d1, rfl⟩ := d
  subst hj
  have ha := zin hG ht ht0
  obtain ⟨q0, hq⟩ := zat (E := E) (σ := σ) ha
  have hq2 := hq
  rw [zF_b ht hk] at hq2
  have hb := zn_le hG a
  refine va_bast hx.1 hx.2.1 hx.2.2.2.2.2.1.1 hR.1 hR.2 hS q0 2 hq2 rfl (zI_in h0 (by omega) hb) d1 (fun H1 locs1 hP1 hD1 hS1 => ?_)
  have e : (.inl (E.2.1 4, gN Γ a, .inl (upd (fun j => zI (σ a j)) (zI i).toNatClampNeg (vp_nar .byte (zI x)))) : va_E) = zF E Γ (zU σ a i.toNat x) a := by
    rw [zF_b ht hk, zI_nat h0 (by omega)]
    rw [hv]
    congr 4
    funext j
    by_cases hj : j = i.toNat
    · subst hj
      simp [upd, zU_eq]
    · simp [upd, hj, zU_nk hj]
  rw [e, zset hR.2 ha hq] at hP1 hD1
  exact kk H1 locs1 ls ⟨hP1, hD1⟩ hS1 hl
theorem j_zast (hx : CX X E own y cc nL ret R) (hG : zGK Γ) {a t : Nat} {i m x : Int} (ht : gT Γ a = t) (ht0 : t ≠ 0) (hk : tK t = 5) (hm : (gN Γ a : Int) = m) (h0 : 0 ≤ i) (h1 : i < m) {j : Nat} (hj : i.toNat = j) (hv : vp_nar .boolean (zI x) = zI x) (d : Dc cc pc .bastore 1 pc2) (kk : JJ X E nL Γ (zU σ a j x) k n L pc2 st) : JJ X E nL Γ σ k n L pc (.int (zI x) :: .int (zI i) :: .ref a :: st) := by
  intro H locs ls hR hS hl
  obtain ⟨d1, rfl⟩ := d
  subst hj
  have ha := zin hG ht ht0
  obtain ⟨q0, hq⟩ := zat (E := E) (σ := σ) ha
  have hq2 := hq
  rw [zF_z ht hk] at hq2
  have hb := zn_le hG a
  refine va_zast hx.1 hx.2.1 hx.2.2.2.2.2.1.1 hR.1 hR.2 hS q0 3 hq2 rfl (zI_in h0 (by omega) hb) d1 (fun H1 locs1 hP1 hD1 hS1 => ?_)
  have e : (.inl (E.2.1 5, gN Γ a, .inl (upd (fun j => zI (σ a j)) (zI i).toNatClampNeg (vp_nar .boolean (zI x)))) : va_E) = zF E Γ (zU σ a i.toNat x) a := by
    rw [zF_z ht hk, zI_nat h0 (by omega)]
    rw [hv]
    congr 4
    funext j
    by_cases hj : j = i.toNat
    · subst hj
      simp [upd, zU_eq]
    · simp [upd, hj, zU_nk hj]
  rw [e, zset hR.2 ha hq] at hP1 hD1
  exact kk H1 locs1 ls ⟨hP1, hD1⟩ hS1 hl
theorem zQ0 : zQ 0 = none := rfl
theorem zQp {v : Int} (h : 0 < v) : zQ v = some (v.toNat - 1) := by unfold zQ; rw [if_neg (by omega)]
theorem zQs (v : Nat) : zQ ((v : Int) + 1) = some v := by
  rw [zQp (by omega)]
  congr 1
theorem zvr {kd r b : Nat} (h : kd = 3) : zV kd r ((b : Int) + 1) = .ref b := by
  subst h
  exact congrArg va_rf (zQs b)
theorem j_alen (hx : CX X E own y cc nL ret R) (hG : zGK Γ) {a t : Nat} {m : Int} (ht : gT Γ a = t) (ht0 : t ≠ 0) (hk : 2 ≤ tK t ∧ tK t ≤ 7) (hm : (gN Γ a : Int) = m) (d : Dc cc pc .arraylength 1 pc2) (kk : JJ X E nL Γ σ k n L pc2 (.int (zI m) :: st)) : JJ X E nL Γ σ k n L pc (.ref a :: st) := by
  intro H locs ls hR hS hl
  obtain ⟨d1, rfl⟩ := d
  obtain ⟨q0, hq⟩ := zat (E := E) (σ := σ) (zin hG ht ht0)
  have hv : Int32.ofNat (gN Γ a) = zI m := by rw [← hm]; exact (Int32.ofInt_eq_ofNat).symm
  have hkk := kk H locs ls hR hS hl
  rcases (show tK t = 2 ∨ tK t = 3 ∨ tK t = 4 ∨ tK t = 5 ∨ tK t = 6 ∨ tK t = 7 by omega) with h | h | h | h | h | h
  · rw [zF_i ht h] at hq; exact va_alen hx.1 hx.2.1 hx.2.2.2.2.2.1.1 hR.1 q0 0 hq (ty := .int) rfl hv d1 hkk
  · rw [zF_l ht h] at hq; exact va_alen hx.1 hx.2.1 hx.2.2.2.2.2.1.1 hR.1 q0 1 hq (ty := .long) rfl hv d1 hkk
  · rw [zF_b ht h] at hq; exact va_alen hx.1 hx.2.1 hx.2.2.2.2.2.1.1 hR.1 q0 2 hq (ty := .byte) rfl hv d1 hkk
  · rw [zF_z ht h] at hq; exact va_alen hx.1 hx.2.1 hx.2.2.2.2.2.1.1 hR.1 q0 3 hq (ty := .boolean) rfl hv d1 hkk
  · rw [zF_p ht h] at hq; exact va_alen hx.1 hx.2.1 hx.2.2.2.2.2.1.1 hR.1 q0 4 hq (ty := .object "SnapHeaps$Plan") rfl hv d1 hkk
  · rw [zF_r ht h] at hq; exact va_alen hx.1 hx.2.1 hx.2.2.2.2.2.1.1 hR.1 q0 5 hq (ty := .object "SnapHeaps$Board") rfl hv d1 hkk
/-- an array of references is read: null, or a cell of its tag -/
theorem j_aald (hx : CX X E own y cc nL ret R) (hG : zGK Γ) (hSK : zSK Γ σ) {a t t2 : Nat} {i m : Int} (ht : gT Γ a = t) (ht0 : t ≠ 0) (hk : tK t = 6 ∨ tK t = 7) (hd : dq t = some t2) (hm : (gN Γ a : Int) = m) (h0 : 0 ≤ i) (h1 : i < m) (d : Dc cc pc .aaload 1 pc2) (kn : σ a i.toNat = 0 → JJ X E nL Γ σ k n L pc2 (.null :: st)) (kk : 0 < σ a i.toNat → gT Γ ((σ a i.toNat).toNat - 1) = t2 → JJ X E nL Γ σ k n L pc2 (.ref ((σ a i.toNat).toNat - 1) :: st)) : JJ X E nL Γ σ k n L pc (.int (zI i) :: .ref a :: st) := by
  intro H locs ls hR hS hl
  obtain ⟨d1, rfl⟩ := d
  obtain ⟨q0, hq⟩ := zat (E := E) (σ := σ) (zin hG ht ht0)
  have hb := zn_le hG a
  have hcase := hSK.2.2 a i.toNat t2 (by omega) (by rw [ht]; exact hd)
  have go : W (xp X) (xl X) (xe X) (xR X) (xs X) (xm X) (xa X) (xb X) (xh X) (xc X) H locs k n (xQ X) (F0 (xm X) (pc + 1) ls (va_rf (zQ (σ a i.toNat)) :: st)) := by
    rcases hcase with h | ⟨h, h2⟩
    · rw [h]; exact kn h H locs ls hR hS hl
    · rw [zQp h]; exact kk h h2 H locs ls hR hS hl
  rcases hk with hk | hk
  · rw [zF_p ht hk] at hq
    refine va_aldq hx.1 hx.2.1 hx.2.2.2.2.2.1.1 hR.1 q0 4 hq rfl (zI_in h0 (by omega) hb) d1 ?_
    rw [zI_nat h0 (by omega)]
    exact go
  · rw [zF_r ht hk] at hq
    refine va_aldq hx.1 hx.2.1 hx.2.2.2.2.2.1.1 hR.1 q0 5 hq rfl (zI_in h0 (by omega) hb) d1 ?_
    rw [zI_nat h0 (by omega)]
    exact go
theorem zq_up (f : Nat → Int) (j0 : Nat) (x : Int) (o : Option Nat) (ho : zQ x = o) : va_up (fun j => zQ (f j)) j0 o = fun j => zQ (if j = j0 then x else f j) := by
  funext j
  by_cases hj : j = j0
  · subst hj; rw [va_up_self, if_pos rfl, ho]
  · rw [va_up_ne _ _ hj, if_neg hj]
theorem zU_row (σ : zS) (a k : Nat) (v : Int) : zU σ a k v a = fun j => if j = k then v else σ a j := by simp [zU]
theorem j_aast6 (hx : CX X E own y cc nL ret R) (hG : zGK Γ) {a t b t2 ci N : Nat} {i m : Int} {T : u_T} (ht : gT Γ a = t) (ht0 : t ≠ 0) (hk : tK t = 6) (hb2 : gT Γ b = t2) (hb0 : t2 ≠ 0) (hk2 : tK t2 = 1) (hc2 : tC t2 = ci) (hN2 : tN t2 = N) (hcl : vwCl[ci]? = some ("SnapHeaps$Plan", T, N)) (hm : (gN Γ a : Int) = m) (h0 : 0 ≤ i) (h1 : i < m) (d : Dc cc pc .aastore 1 pc2) (kk : JJ X E nL Γ (zU σ a i.toNat ((b : Int) + 1)) k n L pc2 st) : JJ X E nL Γ σ k n L pc (.ref b :: .int (zI i) :: .ref a :: st) := by
  intro H locs ls hR hS hl
  obtain ⟨d1, rfl⟩ := d
  have ha := zin hG ht ht0
  obtain ⟨q0, hq⟩ := zat (E := E) (σ := σ) ha
  obtain ⟨q1, hq1⟩ := zat (E := E) (σ := σ) (zin hG hb2 hb0)
  rw [zF_obj hb2 hk2 hc2 hN2] at hq1
  have hq2 := hq
  rw [zF_p ht hk] at hq2
  have hb := zn_le hG a
  refine va_astq hx.1 hx.2.1 hx.2.2.2.2.2.1.1 hR.1 hR.2 hS q0 4 q1 ci hq2 rfl hq1 hcl (zI_in h0 (by omega) hb) d1 (fun H1 locs1 hP1 hD1 hS1 => ?_)
  have e : (.inl (E.2.1 6, gN Γ a, .inr (.inr (.inr (.inr (va_up (fun j => zQ (σ a j)) (zI i).toNatClampNeg (some b)))))) : va_E) = zF E Γ (zU σ a i.toNat ((b : Int) + 1)) a := by
    rw [zF_p ht hk, zI_nat h0 (by omega), zq_up _ _ _ _ (zQs b)]
    simp only [zU_row]
  rw [e, zset hR.2 ha hq] at hP1 hD1
  exact kk H1 locs1 ls ⟨hP1, hD1⟩ hS1 hl
theorem j_aast7 (hx : CX X E own y cc nL ret R) (hG : zGK Γ) {a t b t2 ci N : Nat} {i m : Int} {T : u_T} (ht : gT Γ a = t) (ht0 : t ≠ 0) (hk : tK t = 7) (hb2 : gT Γ b = t2) (hb0 : t2 ≠ 0) (hk2 : tK t2 = 1) (hc2 : tC t2 = ci) (hN2 : tN t2 = N) (hcl : vwCl[ci]? = some ("SnapHeaps$Board", T, N)) (hm : (gN Γ a : Int) = m) (h0 : 0 ≤ i) (h1 : i < m) (d : Dc cc pc .aastore 1 pc2) (kk : JJ X E nL Γ (zU σ a i.toNat ((b : Int) + 1)) k n L pc2 st) : JJ X E nL Γ σ k n L pc (.ref b :: .int (zI i) :: .ref a :: st) := by
  intro H locs ls hR hS hl
  obtain ⟨d1, rfl⟩ := d
  have ha := zin hG ht ht0
  obtain ⟨q0, hq⟩ := zat (E := E) (σ := σ) ha
  obtain ⟨q1, hq1⟩ := zat (E := E) (σ := σ) (zin hG hb2 hb0)
  rw [zF_obj hb2 hk2 hc2 hN2] at hq1
  have hq2 := hq
  rw [zF_r ht hk] at hq2
  have hb := zn_le hG a
  refine va_astq hx.1 hx.2.1 hx.2.2.2.2.2.1.1 hR.1 hR.2 hS q0 5 q1 ci hq2 rfl hq1 hcl (zI_in h0 (by omega) hb) d1 (fun H1 locs1 hP1 hD1 hS1 => ?_)
  have e : (.inl (E.2.1 7, gN Γ a, .inr (.inr (.inr (.inr (va_up (fun j => zQ (σ a j)) (zI i).toNatClampNeg (some b)))))) : va_E) = zF E Γ (zU σ a i.toNat ((b : Int) + 1)) a := by
    rw [zF_r ht hk, zI_nat h0 (by omega), zq_up _ _ _ _ (zQs b)]
    simp only [zU_row]
  rw [e, zset hR.2 ha hq] at hP1 hD1
  exact kk H1 locs1 ls ⟨hP1, hD1⟩ hS1 hl
theorem j_aastN (hx : CX X E own y cc nL ret R) (hG : zGK Γ) {a t : Nat} {i m : Int} (ht : gT Γ a = t) (ht0 : t ≠ 0) (hk : tK t = 6) (hm : (gN Γ a : Int) = m) (h0 : 0 ≤ i) (h1 : i < m) (d : Dc cc pc .aastore 1 pc2) (kk : JJ X E nL Γ (zU σ a i.toNat 0) k n L pc2 st) : JJ X E nL Γ σ k n L pc (.null :: .int (zI i) :: .ref a :: st) := by
  intro H locs ls hR hS hl
  obtain ⟨d1, rfl⟩ := d
  have ha := zin hG ht ht0
  obtain ⟨q0, hq⟩ := zat (E := E) (σ := σ) ha
  have hq2 := hq
  rw [zF_p ht hk] at hq2
  have hb := zn_le hG a
  refine va_astqN hx.1 hx.2.1 hx.2.2.2.2.2.1.1 hR.1 hR.2 hS q0 4 hq2 rfl (zI_in h0 (by omega) hb) d1 (fun H1 locs1 hP1 hD1 hS1 => ?_)
  have e : (.inl (E.2.1 6, gN Γ a, .inr (.inr (.inr (.inr (va_up (fun j => zQ (σ a j)) (zI i).toNatClampNeg none))))) : va_E) = zF E Γ (zU σ a i.toNat 0) a := by
    rw [zF_p ht hk, zI_nat h0 (by omega), zq_up _ _ _ _ zQ0]
    simp only [zU_row]
  rw [e, zset hR.2 ha hq] at hP1 hD1
  exact kk H1 locs1 ls ⟨hP1, hD1⟩ hS1 hl

end JH
/-! contracts -/
def zPc (E : zE) (Γ : zG) (σ : zS) (vs : List Value) : Array Value → State → Prop := va_Pc vs (fun U => E.2.2.1 ≤ U.heap.size ∧ zR E Γ σ U.heap ∧ zO E U U.heap)
def zQc (E : zE) (PP : Option Value → zG → zS → Prop) : Array Value → State → Outcome → State → Prop := fun _ st o t => (∃ (v : Option Value) (Γ : zG) (σ : zS), o = .returned v ∧ PP v Γ σ ∧ zR E Γ σ t.heap) ∧ va_F (zA E) st t
def zXc (E : zE) (PX : String → zG → zS → Prop) : String → State → State → Prop := fun Ex st t => (∃ (Γ : zG) (σ : zS), PX Ex Γ σ ∧ zR E Γ σ t.heap) ∧ va_F (zA E) st t
def Con (E : zE) (l : Launch) (y : MethodName) (cc : ByteArray) (nL : Nat) (ret : Option FieldType) (rm : Room) (Pre : zG → zS → List Value → Prop) (Post : zG → zS → List Value → Option Value → zG → zS → Prop) : Prop :=
  ∀ Γ σ vs, Pre Γ σ vs → Met l y (.code y cc nL ret :: tblG) rm (zPc E Γ σ vs) (zQc E (Post Γ σ vs)) rm.cells rm.slots (zA E)
def ConX (E : zE) (l : Launch) (y : MethodName) (cc : ByteArray) (nL : Nat) (ret : Option FieldType) (rm : Room) (Pre : zG → zS → List Value → Prop) (Post : zG → zS → List Value → Option Value → zG → zS → Prop) (PX : zG → zS → List Value → String → zG → zS → Prop) : Prop :=
  ∀ Γ σ vs, Pre Γ σ vs → vx_Met l y (.code y cc nL ret :: tblG) rm (zPc E Γ σ vs) (zQc E (Post Γ σ vs)) (zXc E (PX Γ σ vs)) rm.cells rm.slots (zA E)
/-- where the method must end: by returning; by returning or throwing -/
def CR (X : zX) (E : zE) (rm : Room) (PP : Option Value → zG → zS → Prop) : Prop := xQ X = MQ (xb X) (zQc E PP) (xa X) (xs X) rm.cells rm.slots (zA E) ∨ ∃ PX, xQ X = vx_MQ (xb X) (zQc E PP) (zXc E PX) (xa X) (xs X) rm.cells rm.slots (zA E)
def CT (X : zX) (E : zE) (rm : Room) (PP : Option Value → zG → zS → Prop) (PX : String → zG → zS → Prop) : Prop := xQ X = vx_MQ (xb X) (zQc E PP) (zXc E PX) (xa X) (xs X) rm.cells rm.slots (zA E) ∧ ∀ x ∈ (xc X).exceptionTable.toList, False
theorem CT.r {X : zX} {E : zE} {rm : Room} {PP : Option Value → zG → zS → Prop} {PX : String → zG → zS → Prop} (h : CT X E rm PP PX) : CR X E rm PP := Or.inr ⟨PX, h.1⟩
theorem zblind {E : zE} {Γ : zG} {σ : zS} {vs : List Value} : FrameBlind (zPc E Γ σ vs) := by
  intro a U g mk h
  obtain ⟨h1, h2, h3, h4⟩ := h
  exact ⟨h1, h2, h3, (zO_blind (U := U) (V := U.calling g mk a) rfl h4 : zO E (U.calling g mk a) U.heap)⟩
theorem zcode {y : MethodName} {cc : ByteArray} {nL : Nat} {ret : Option FieldType} (h : Cond.code y cc nL ret ∈ tblG) : GoodIn tblG (.code y cc nL ret :: tblG) := by
  intro w hw
  rcases List.mem_cons.mp hw with rfl | hw
  · exact ⟨h, good_of_word (tblG_good _ h)⟩
  · exact ⟨hw, good_of_word (tblG_good _ hw)⟩
theorem Con.mk {E : zE} {l : Launch} {y : MethodName} {cc : ByteArray} {nL : Nat} {ret : Option FieldType} {rm : Room} {Pre : zG → zS → List Value → Prop} {Post : zG → zS → List Value → Option Value → zG → zS → Prop} (hst : l.stackTraces = false) (hy : plainName y.cls = true) (hlen : ∀ Γ σ vs, Pre Γ σ vs → (lg_sl vs).length ≤ nL)
    (h : ∀ X Γ σ vs, Pre Γ σ vs → xl X = l → CX X E y.cls y cc nL ret rm → CR X E rm (Post Γ σ vs) → JJ X E nL Γ σ 0 0 (lv_args 0 vs) 0 []) : Con E l y cc nL ret rm Pre Post := by
  intro Γ σ vs hpre
  refine Met.ofW hy rfl ?_
  intro p e s m args below meth c s₁ B hml hv
  obtain ⟨rfl, hb, hR, hO⟩ := hv
  have hts : ∀ w ∈ (Cond.code y cc nL ret :: tblG), w.before vs.toArray s = true := atoms_spec (ws := Cond.code y cc nL ret :: tblG) B.pre
  have hJ := h (p, l, e, rm, s, m, vs.toArray, below, meth, c, MQ below (zQc E (Post Γ σ vs)) vs.toArray s rm.cells rm.slots (zA E)) Γ σ vs hpre rfl ⟨B.exec, B.bytes, hml, findClass_of_methodNamed B.named, fun w hw => hts w (List.mem_cons_of_mem _ hw), hO, B.notSynchronized, B.returns, hb, rfl, (name_of_methodNamed B.named B.method).1, hst⟩ (Or.inl rfl)
  have hl := lv_entry vs (hlen Γ σ vs hpre)
  rw [lg_entry_eq]
  exact hJ s.heap [] _ hR va_S.rf hl
theorem ConX.mk {E : zE} {l : Launch} {y : MethodName} {cc : ByteArray} {nL : Nat} {ret : Option FieldType} {rm : Room} {Pre : zG → zS → List Value → Prop} {Post : zG → zS → List Value → Option Value → zG → zS → Prop} {PX : zG → zS → List Value → String → zG → zS → Prop} (hst : l.stackTraces = false) (hy : plainName y.cls = true) (hlen : ∀ Γ σ vs, Pre Γ σ vs → (lg_sl vs).length ≤ nL)
    (h : ∀ X Γ σ vs, Pre Γ σ vs → xl X = l → CX X E y.cls y cc nL ret rm → CT X E rm (Post Γ σ vs) (PX Γ σ vs) → JJ X E nL Γ σ 0 0 (lv_args 0 vs) 0 []) : ConX E l y cc nL ret rm Pre Post PX := by
  intro Γ σ vs hpre
  refine vx_ofW hy rfl ?_
  intro p e s m args below meth c s₁ B hml hT hv
  obtain ⟨rfl, hb, hR, hO⟩ := hv
  have hts : ∀ w ∈ (Cond.code y cc nL ret :: tblG), w.before vs.toArray s = true := atoms_spec (ws := Cond.code y cc nL ret :: tblG) B.pre
  have hJ := h (p, l, e, rm, s, m, vs.toArray, below, meth, c, vx_MQ below (zQc E (Post Γ σ vs)) (zXc E (PX Γ σ vs)) vs.toArray s rm.cells rm.slots (zA E)) Γ σ vs hpre rfl ⟨B.exec, B.bytes, hml, findClass_of_methodNamed B.named, fun w hw => hts w (List.mem_cons_of_mem _ hw), hO, B.notSynchronized, B.returns, hb, rfl, (name_of_methodNamed B.named B.method).1, hst⟩ ⟨rfl, hT⟩
  have hl := lv_entry vs (hlen Γ σ vs hpre)
  rw [lg_entry_eq]
  exact hJ s.heap [] _ hR va_S.rf hl
/-! answers of a form -/
def pV (Q : zG → zS → Prop) : Option Value → zG → zS → Prop := fun v Γ σ => v = none ∧ Q Γ σ
def pI (Q : Int → zG → zS → Prop) : Option Value → zG → zS → Prop := fun v Γ σ => ∃ r : Int, v = some (.int (zI r)) ∧ Q r Γ σ
def pL (Q : Int → zG → zS → Prop) : Option Value → zG → zS → Prop := fun v Γ σ => ∃ r : Int, v = some (.long (zL r)) ∧ Q r Γ σ
def pR (Q : Nat → zG → zS → Prop) : Option Value → zG → zS → Prop := fun v Γ σ => ∃ r : Nat, v = some (.ref r) ∧ Q r Γ σ
def pN (Q0 : zG → zS → Prop) (Q : Nat → zG → zS → Prop) : Option Value → zG → zS → Prop := fun v Γ σ => (v = some .null ∧ Q0 Γ σ) ∨ ∃ r : Nat, v = some (.ref r) ∧ Q r Γ σ
section JC
variable {X : zX} {E : zE} {own : String} {y : MethodName} {cc : ByteArray} {nL : Nat} {ret : Option FieldType} {R : Room} {Γ : zG} {σ : zS} {k n : Nat} {L : List (Nat × Value)} {pc pc2 : Nat} {st rest : List Value} {rm : Room} {PP : Option Value → zG → zS → Prop} {PX : String → zG → zS → Prop}
theorem j_end (hq : CR X E rm PP) {H : Heap} {locs : List Loc} {g : JFrame} (hk : k ≤ rm.cells) (hn : n ≤ rm.slots) (h : W (xp X) (xl X) (xe X) (xR X) (xs X) (xm X) (xa X) (xb X) (xh X) (xc X) H locs rm.cells rm.slots (MQ (xb X) (zQc E PP) (xa X) (xs X) rm.cells rm.slots (zA E)) g) : WX X H locs k n g := by
  unfold WX
  refine W.widen hk hn ?_
  rcases hq with hq | ⟨PX, hq⟩
  · rw [hq]; exact h
  · rw [hq]; exact vx_ret h
theorem j_iret (hx : CX X E own y cc nL ret R) (hq : CR X E rm PP) (hret : ret = some .int) (hk : k ≤ rm.cells) (hn : n ≤ rm.slots) (d : Dc cc pc .ireturn 1 pc2) {v : Int32} (hp : PP (some (.int v)) Γ σ) : JJ X E nL Γ σ k n L pc [.int v] := by
  intro H locs ls hR hS hl
  exact j_end hq hk hn (W.iret hx.1 hx.2.1 (hx.2.2.2.2.2.2.2.1.trans hret) (fun t ht _ => ⟨⟨_, Γ, σ, rfl, hp, by rw [ht]; exact hR⟩, hS.F ht⟩) hS.2.2 d.1 hx.2.2.2.2.2.2.1)
theorem j_zret (hx : CX X E own y cc nL ret R) (hq : CR X E rm PP) (hret : ret = some .boolean) (hk : k ≤ rm.cells) (hn : n ≤ rm.slots) (d : Dc cc pc .ireturn 1 pc2) {v : Int} (hv : v = 0 ∨ v = 1) (hp : PP (some (.int (zI v))) Γ σ) : JJ X E nL Γ σ k n L pc [.int (zI v)] := by
  intro H locs ls hR hS hl
  exact j_end hq hk hn (W.zret hx.1 hx.2.1 (hx.2.2.2.2.2.2.2.1.trans hret) (by rcases hv with rfl | rfl <;> rfl) (fun t ht _ => ⟨⟨_, Γ, σ, rfl, hp, by rw [ht]; exact hR⟩, hS.F ht⟩) hS.2.2 d.1 hx.2.2.2.2.2.2.1)
theorem j_lret (hx : CX X E own y cc nL ret R) (hq : CR X E rm PP) (hret : ret = some .long) (hk : k ≤ rm.cells) (hn : n ≤ rm.slots) (d : Dc cc pc .lreturn 1 pc2) {v : Int64} (hp : PP (some (.long v)) Γ σ) : JJ X E nL Γ σ k n L pc [.long v] := by
  intro H locs ls hR hS hl
  exact j_end hq hk hn (W.lret hx.1 hx.2.1 (hx.2.2.2.2.2.2.2.1.trans hret) (fun t ht _ => ⟨⟨_, Γ, σ, rfl, hp, by rw [ht]; exact hR⟩, hS.F ht⟩) hS.2.2 d.1 hx.2.2.2.2.2.2.1)
theorem j_vret (hx : CX X E own y cc nL ret R) (hq : CR X E rm PP) (hret : ret = none) (hk : k ≤ rm.cells) (hn : n ≤ rm.slots) (d : Dc cc pc .return_ 1 pc2) (hp : PP none Γ σ) : JJ X E nL Γ σ k n L pc [] := by
  intro H locs ls hR hS hl
  exact j_end hq hk hn (W.vret hx.1 hx.2.1 (hx.2.2.2.2.2.2.2.1.trans hret) (fun t ht _ => ⟨⟨_, Γ, σ, rfl, hp, by rw [ht]; exact hR⟩, hS.F ht⟩) hS.2.2 d.1 hx.2.2.2.2.2.2.1)
theorem j_aret (hx : CX X E own y cc nL ret R) (hq : CR X E rm PP) {C : String} (hret : ret = some (.object C)) (hk : k ≤ rm.cells) (hn : n ≤ rm.slots) (d : Dc cc pc .areturn 1 pc2) {v : Value} (hv : v = .null ∨ ∃ a, v = .ref a) (hp : PP (some v) Γ σ) : JJ X E nL Γ σ k n L pc [v] := by
  intro H locs ls hR hS hl
  exact j_end hq hk hn (W.aret hx.1 hx.2.1 (hx.2.2.2.2.2.2.2.1.trans hret) (Or.inl ⟨_, rfl⟩) hv (fun t ht _ => ⟨⟨_, Γ, σ, rfl, hp, by rw [ht]; exact hR⟩, hS.F ht⟩) hS.2.2 d.1 hx.2.2.2.2.2.2.1)
/-- a call, from its run -/
theorem j_run {a : Array Value} {mc ms k2 n2 : Nat} (hk2 : k + mc = k2) (hn2 : n + ms = n2) (hpc : pc + 3 = pc2) (hrun : ∀ (H : Heap) (locs : List Loc) (ls : Array Slot), zR E Γ σ H → va_S (zA E) (xs X).heap H locs → lv_has ls nL L → va_Run (xp X) (xl X) (xe X) (xR X) (xs X) (xm X) (xa X) (xb X) (xh X) (xc X) H locs k n mc ms (F0 (xm X) pc ls st) rest (zQc E PP a) (zA E)) (kk : ∀ v Γ2 σ2, PP v Γ2 σ2 → JJ X E nL Γ2 σ2 k2 n2 L pc2 (v.toList ++ rest)) : JJ X E nL Γ σ k n L pc st := by
  subst hk2 hn2
  intro H locs ls hR hS hl T hT Xst
  obtain ⟨v, st₀, t, T', L1, h0, X', hL, e1, e2, ⟨⟨v1, Γ2, σ2, hv, hp, hR2⟩, hF⟩, stp⟩ := hrun H locs ls hR hS hl T hT Xst
  cases hv
  obtain ⟨k1, k2, k3⟩ := vx_keep h0 e1 hS (fun q _ h => h) (fun q h => h) hL hF
  obtain ⟨t2, a1, b1⟩ := kk v Γ2 σ2 hp T'.heap (locs ++ L1) ls (by rw [e1]; exact hR2) k3 hl T' rfl X'
  subst hpc
  exact ⟨t2, stp t2 a1, b1⟩
theorem j_runX {PPo : Option Value → zG → zS → Prop} {PXo : String → zG → zS → Prop} {a : Array Value} {mc ms k2 n2 : Nat} (hk2 : k + mc = k2) (hn2 : n + ms = n2) (hx : CX X E own y cc nL ret R) (hq : CT X E rm PPo PXo) (hk : k + mc ≤ rm.cells) (hn : n + ms ≤ rm.slots) (hpc : pc + 3 = pc2) (hrun : ∀ (H : Heap) (locs : List Loc) (ls : Array Slot), zR E Γ σ H → va_S (zA E) (xs X).heap H locs → lv_has ls nL L → vx_Run (xp X) (xl X) (xe X) (xR X) (xs X) (xm X) (xa X) (xb X) (xh X) (xc X) H locs k n mc ms (F0 (xm X) pc ls st) rest (zQc E PP a) (zXc E PX) (zA E)) (kx : ∀ Ex Γ2 σ2, PX Ex Γ2 σ2 → PXo Ex Γ2 σ2) (kk : ∀ v Γ2 σ2, PP v Γ2 σ2 → JJ X E nL Γ2 σ2 k2 n2 L pc2 (v.toList ++ rest)) : JJ X E nL Γ σ k n L pc st := by
  subst hk2 hn2
  intro H locs ls hR hS hl T hT Xst
  rcases hrun H locs ls hR hS hl T hT Xst with ⟨v, st₀, t, T', L1, h0, X', hL, e1, e2, ⟨⟨v1, Γ2, σ2, hv, hp, hR2⟩, hF⟩, stp⟩ | ⟨q, st₀, t, T', L1, Ex, ce, h0, X', hL, e1, e2, ⟨⟨Γ2, σ2, hp, hR2⟩, hF⟩, hce, hcv, hcl, stp⟩
  · cases hv
    obtain ⟨k1, k2, k3⟩ := vx_keep h0 e1 hS (fun q _ h => h) (fun q h => h) hL hF
    obtain ⟨t2, a1, b1⟩ := kk v Γ2 σ2 hp T'.heap (locs ++ L1) ls (by rw [e1]; exact hR2) k3 hl T' rfl X'
    subst hpc
    exact ⟨t2, stp t2 a1, b1⟩
  · obtain ⟨k1, k2, k3⟩ := vx_keep h0 e1 hS (fun q _ h => h) (fun q h => h) hL hF
    have hw : vx_W (xp X) (xl X) (xe X) (xR X) (xs X) (xm X) (xa X) (xb X) (xh X) (xc X) T'.heap (locs ++ L1) (k + mc) (n + ms) (xQ X) (F0 (xm X) pc ls rest) q := by
      rw [hq.1]
      refine vx_out (E := Ex) (ce := ce) (fun x hx2 => absurd (hq.2 x hx2) id) hx.2.2.2.2.2.2.1 (by rw [e1]; exact hce) hcv hcl (fun u hu _ => ⟨⟨Γ2, σ2, kx Ex Γ2 σ2 hp, by rw [hu, e1]; exact hR2⟩, k3.F hu⟩) k3.2.2 hk hn
    obtain ⟨t2, a1, b1⟩ := hw T' rfl X'
    exact ⟨t2, stp.trans a1, b1⟩
/-- what a link's words say -/
def LkV (own : String) (idx : Nat) (C : String) (yb : MethodName) (ccb : ByteArray) (nLb : Nat) (retb : Option FieldType) (na : Nat) : Prop := Cond.methodLink own idx yb ∈ tblG ∧ Cond.instanceMethod yb ∈ tblG ∧ Cond.selects C yb yb ∈ tblG ∧ Cond.initialized C ∈ tblG ∧ Cond.code yb ccb nLb retb ∈ tblG ∧ yb.cls = C ∧ yb.cls ≠ "java/lang/invoke/MethodHandle" ∧ yb.cls ≠ "java/lang/invoke/VarHandle" ∧ (parseMethodDescriptor yb.desc).map (fun d => d.parameters.length) = some na
def LkS (own : String) (idx : Nat) (yb : MethodName) (ccb : ByteArray) (nLb : Nat) (retb : Option FieldType) (na : Nat) : Prop := Cond.methodLink own idx yb ∈ tblG ∧ Cond.static yb ∈ tblG ∧ Cond.initialized yb.cls ∈ tblG ∧ Cond.code yb ccb nLb retb ∈ tblG ∧ yb.cls ≠ "java/lang/invoke/MethodHandle" ∧ yb.cls ≠ "java/lang/invoke/VarHandle" ∧ (parseMethodDescriptor yb.desc).map (fun d => d.parameters.length) = some na
def LkSN (own : String) (idx : Nat) (host : String) (yb : MethodName) (ccb : ByteArray) (nLb : Nat) (retb : Option FieldType) (na : Nat) : Prop := Cond.methodLinkNest own idx yb host ∈ tblN ∧ Cond.static yb ∈ tblG ∧ Cond.initialized yb.cls ∈ tblG ∧ Cond.code yb ccb nLb retb ∈ tblG ∧ yb.cls ≠ "java/lang/invoke/MethodHandle" ∧ yb.cls ≠ "java/lang/invoke/VarHandle" ∧ (parseMethodDescriptor yb.desc).map (fun d => d.parameters.length) = some na
def LkI (own : String) (idx : Nat) (yb : MethodName) (ccb : ByteArray) (nLb : Nat) (na : Nat) : Prop := Cond.methodLink own idx yb ∈ tblG ∧ Cond.instanceMethod yb ∈ tblG ∧ Cond.initialized yb.cls ∈ tblG ∧ Cond.code yb ccb nLb none ∈ tblG ∧ yb.name = "<init>" ∧ yb.cls ≠ "java/lang/invoke/MethodHandle" ∧ yb.cls ≠ "java/lang/invoke/VarHandle" ∧ (parseMethodDescriptor yb.desc).map (fun d => d.parameters.length) = some na
def LkIN (own : String) (idx : Nat) (host : String) (yb : MethodName) (ccb : ByteArray) (nLb : Nat) (na : Nat) : Prop := Cond.methodLinkNest own idx yb host ∈ tblN ∧ Cond.instanceMethod yb ∈ tblG ∧ Cond.initialized yb.cls ∈ tblG ∧ Cond.code yb ccb nLb none ∈ tblG ∧ yb.name = "<init>" ∧ yb.cls ≠ "java/lang/invoke/MethodHandle" ∧ yb.cls ≠ "java/lang/invoke/VarHandle" ∧ (parseMethodDescriptor yb.desc).map (fun d => d.parameters.length) = some na
theorem zcallee (hx : CX X E own y cc nL ret R) {H : Heap} {locs : List Loc} (hR : zR E Γ σ H) (hS : va_S (zA E) (xs X).heap H locs) (vs : List Value) : ∀ U : State, U.heap = H → (xs X).WarmedH U.vm → zPc E Γ σ vs vs.toArray U := by
  intro U hU hW
  refine ⟨rfl, ?_, by rw [hU]; exact hR, ?_⟩
  · rw [hU]; exact Nat.le_trans hx.2.2.2.2.2.2.2.2.1 hS.1
  · rw [hU]; exact zO_go hx.2.2.2.2.2.1 hW hS
theorem zrecv (hx : CX X E own y cc nL ret R) (hG : zGK Γ) {a t ci N : Nat} {C : String} {T : u_T} (ht : gT Γ a = t) (ht0 : t ≠ 0) (hk : tK t = 1) (hc : tC t = ci) (hN : tN t = N) (hcl : vwCl[ci]? = some (C, T, N)) {H : Heap} (hR : zR E Γ σ H) : ∃ cell : Cell, H[a]? = some cell ∧ cell.vm.isStatics = false ∧ (xs X).vm.findClass C = some cell.cls := by
  obtain ⟨q0, hq⟩ := zat (E := E) (σ := σ) (zin hG ht ht0)
  rw [zF_obj ht hk hc hN] at hq
  exact va_recv hx.2.2.2.2.2.1.1 hR.1 hcl hq
theorem j_callV (hx : CX X E own y cc nL ret R) (hG : zGK Γ) {idx na nLb t ci N a : Nat} {C : String} {yb : MethodName} {ccb : ByteArray} {retb : Option FieldType} {rmb : Room} {Pre : zG → zS → List Value → Prop} {Post : zG → zS → List Value → Option Value → zG → zS → Prop} {T : u_T} (con : Con E (xl X) yb ccb nLb retb rmb Pre Post) (lk : LkV own idx C yb ccb nLb retb na) (ht : gT Γ a = t) (ht0 : t ≠ 0) (hk : tK t = 1) (hc : tC t = ci) (hN : tN t = N) (hcl : vwCl[ci]? = some (C, T, N)) (vs : List Value) (hpre : Pre Γ σ (.ref a :: vs)) (hna : vs.length = na) (hst : st = vs.reverse ++ .ref a :: rest) (hrm : rmb.frames + 1 ≤ R.frames ∧ 8 + (nLb + 11) + rmb.locals ≤ R.locals) (hf : k + rmb.cells ≤ R.cells ∧ n + rmb.slots ≤ R.slots) {k2 n2 : Nat} (hk2 : k + rmb.cells = k2) (hn2 : n + rmb.slots = n2) (hw : (rest.map fun v => v.category).sum ≤ 8) (d : Dc cc pc (.invokevirtual idx) 3 pc2) (kk : ∀ v Γ2 σ2, Post Γ σ (.ref a :: vs) v Γ2 σ2 → JJ X E nL Γ2 σ2 k2 n2 L pc2 (v.toList ++ rest)) : JJ X E nL Γ σ k n L pc st := by
  obtain ⟨l1, l2, l3, l4, l5, l6, l7, l8, l9⟩ := lk
  subst l6
  obtain ⟨rfl⟩ : xR X = R := hx.2.2.2.2.2.2.2.2.2.1
  have ok := hx.2.2.2.2.1
  refine j_run hk2 hn2 (PP := Post Γ σ (.ref a :: vs)) (a := (Value.ref a :: vs).toArray) d.2 (fun H locs ls hR hS hl => ?_) kk
  exact va_runV ⟨hx.1, hx.2.1, hx.2.2.1, hx.2.2.2.1, ok⟩ (con Γ σ _ hpre) ⟨callB_of na ok (zcode l5) rfl rfl rfl (ok _ l4) (ok _ l1) ⟨l7, l8, l9⟩ hrm, ok _ l2, ok _ l3⟩ ⟨zblind, zrecv hx hG ht ht0 hk hc hN hcl hR, zcallee hx hR hS (.ref a :: vs)⟩ rfl hna hl.1 hst (lv_room hw) d.1 hf
theorem j_callVX (hx : CX X E own y cc nL ret R) (hq : CT X E rm PP PX) (hG : zGK Γ) {idx na nLb t ci N a : Nat} {C : String} {yb : MethodName} {ccb : ByteArray} {retb : Option FieldType} {rmb : Room} {Pre : zG → zS → List Value → Prop} {Post : zG → zS → List Value → Option Value → zG → zS → Prop} {PXb : zG → zS → List Value → String → zG → zS → Prop} {T : u_T} (con : ConX E (xl X) yb ccb nLb retb rmb Pre Post PXb) (lk : LkV own idx C yb ccb nLb retb na) (ht : gT Γ a = t) (ht0 : t ≠ 0) (hk : tK t = 1) (hc : tC t = ci) (hN : tN t = N) (hcl : vwCl[ci]? = some (C, T, N)) (vs : List Value) (hpre : Pre Γ σ (.ref a :: vs)) (hna : vs.length = na) (hst : st = vs.reverse ++ .ref a :: rest) (hrm : rmb.frames + 1 ≤ R.frames ∧ 8 + (nLb + 11) + rmb.locals ≤ R.locals) (hf : k + rmb.cells ≤ R.cells ∧ n + rmb.slots ≤ R.slots) {k2 n2 : Nat} (hk2 : k + rmb.cells = k2) (hn2 : n + rmb.slots = n2) (hw : (rest.map fun v => v.category).sum ≤ 8) (hfo : k + rmb.cells ≤ rm.cells ∧ n + rmb.slots ≤ rm.slots) (d : Dc cc pc (.invokevirtual idx) 3 pc2) (kx : ∀ Ex Γ2 σ2, PXb Γ σ (.ref a :: vs) Ex Γ2 σ2 → PX Ex Γ2 σ2) (kk : ∀ v Γ2 σ2, Post Γ σ (.ref a :: vs) v Γ2 σ2 → JJ X E nL Γ2 σ2 k2 n2 L pc2 (v.toList ++ rest)) : JJ X E nL Γ σ k n L pc st := by
  obtain ⟨l1, l2, l3, l4, l5, l6, l7, l8, l9⟩ := lk
  subst l6
  obtain ⟨rfl⟩ : xR X = R := hx.2.2.2.2.2.2.2.2.2.1
  have ok := hx.2.2.2.2.1
  refine j_runX hk2 hn2 (PP := Post Γ σ (.ref a :: vs)) (PX := PXb Γ σ (.ref a :: vs)) (a := (Value.ref a :: vs).toArray) hx hq hfo.1 hfo.2 d.2 (fun H locs ls hR hS hl => ?_) kx kk
  exact vx_runV ⟨hx.1, hx.2.1, hx.2.2.1, hx.2.2.2.1, ok⟩ (con Γ σ _ hpre) ⟨callB_of na ok (zcode l5) rfl rfl rfl (ok _ l4) (ok _ l1) ⟨l7, l8, l9⟩ hrm, ok _ l2, ok _ l3⟩ ⟨zblind, zrecv hx hG ht ht0 hk hc hN hcl hR, zcallee hx hR hS (.ref a :: vs)⟩ rfl hna hl.1 hst (lv_room hw) d.1 hf
theorem j_callS (hx : CX X E own y cc nL ret R) {idx na nLb : Nat} {yb : MethodName} {ccb : ByteArray} {retb : Option FieldType} {rmb : Room} {Pre : zG → zS → List Value → Prop} {Post : zG → zS → List Value → Option Value → zG → zS → Prop} (con : Con E (xl X) yb ccb nLb retb rmb Pre Post) (lk : LkS own idx yb ccb nLb retb na) (vs : List Value) (hpre : Pre Γ σ vs) (hna : vs.length = na) (hst : st = vs.reverse ++ rest) (hrm : rmb.frames + 1 ≤ R.frames ∧ 8 + (nLb + 11) + rmb.locals ≤ R.locals) (hf : k + rmb.cells ≤ R.cells ∧ n + rmb.slots ≤ R.slots) {k2 n2 : Nat} (hk2 : k + rmb.cells = k2) (hn2 : n + rmb.slots = n2) (hw : (rest.map fun v => v.category).sum ≤ 8) (d : Dc cc pc (.invokestatic idx) 3 pc2) (kk : ∀ v Γ2 σ2, Post Γ σ vs v Γ2 σ2 → JJ X E nL Γ2 σ2 k2 n2 L pc2 (v.toList ++ rest)) : JJ X E nL Γ σ k n L pc st := by
  obtain ⟨l1, l2, l4, l5, l7, l8, l9⟩ := lk
  obtain ⟨rfl⟩ : xR X = R := hx.2.2.2.2.2.2.2.2.2.1
  have ok := hx.2.2.2.2.1
  refine j_run hk2 hn2 (PP := Post Γ σ vs) (a := vs.toArray) d.2 (fun H locs ls hR hS hl => ?_) kk
  exact va_runS ⟨hx.1, hx.2.1, hx.2.2.1, hx.2.2.2.1, ok⟩ (con Γ σ _ hpre) ⟨callB_of na ok (zcode l5) rfl rfl rfl (ok _ l4) (ok _ l1) ⟨l7, l8, l9⟩ hrm, ok _ l2⟩ ⟨zblind, zcallee hx hR hS vs⟩ rfl hna hl.1 hst (lv_room hw) d.1 hf
theorem j_callSN (hx : CX X E own y cc nL ret R) {idx na nLb : Nat} {host : String} {yb : MethodName} {ccb : ByteArray} {retb : Option FieldType} {rmb : Room} {Pre : zG → zS → List Value → Prop} {Post : zG → zS → List Value → Option Value → zG → zS → Prop} (con : Con E (xl X) yb ccb nLb retb rmb Pre Post) (lk : LkSN own idx host yb ccb nLb retb na) (vs : List Value) (hpre : Pre Γ σ vs) (hna : vs.length = na) (hst : st = vs.reverse ++ rest) (hrm : rmb.frames + 1 ≤ R.frames ∧ 8 + (nLb + 11) + rmb.locals ≤ R.locals) (hf : k + rmb.cells ≤ R.cells ∧ n + rmb.slots ≤ R.slots) {k2 n2 : Nat} (hk2 : k + rmb.cells = k2) (hn2 : n + rmb.slots = n2) (hw : (rest.map fun v => v.category).sum ≤ 8) (d : Dc cc pc (.invokestatic idx) 3 pc2) (kk : ∀ v Γ2 σ2, Post Γ σ vs v Γ2 σ2 → JJ X E nL Γ2 σ2 k2 n2 L pc2 (v.toList ++ rest)) : JJ X E nL Γ σ k n L pc st := by
  obtain ⟨l1, l2, l4, l5, l7, l8, l9⟩ := lk
  obtain ⟨rfl⟩ : xR X = R := hx.2.2.2.2.2.2.2.2.2.1
  have ok := hx.2.2.2.2.1
  refine j_run hk2 hn2 (PP := Post Γ σ vs) (a := vs.toArray) d.2 (fun H locs ls hR hS hl => ?_) kk
  exact va_runSN ⟨hx.1, hx.2.1, hx.2.2.1, hx.2.2.2.1, ok⟩ (con Γ σ _ hpre) ⟨⟨⟨rfl, rfl, hrm.1, hrm.2, pay_in ok (zcode l5), List.mem_cons_self⟩, ok _ l5, ok _ l4, ⟨l7, l8⟩, fun sig h => by rw [h] at l9; exact (Option.some.inj l9).symm, va_Nw.use rfl (hx.2.2.2.2.2.1.2.1 _ l1)⟩, ok _ l2, trivial⟩ ⟨zblind, zcallee hx hR hS vs⟩ rfl hna hl.1 hst (lv_room hw) d.1 hf
theorem j_callI (hx : CX X E own y cc nL ret R) {idx na nLb a : Nat} {yb : MethodName} {ccb : ByteArray} {rmb : Room} {Pre : zG → zS → List Value → Prop} {Post : zG → zS → List Value → Option Value → zG → zS → Prop} (con : Con E (xl X) yb ccb nLb none rmb Pre Post) (lk : LkI own idx yb ccb nLb na) (vs : List Value) (hpre : Pre Γ σ (.ref a :: vs)) (hna : vs.length = na) (hst : st = vs.reverse ++ .ref a :: rest) (hrm : rmb.frames + 1 ≤ R.frames ∧ 8 + (nLb + 11) + rmb.locals ≤ R.locals) (hf : k + rmb.cells ≤ R.cells ∧ n + rmb.slots ≤ R.slots) {k2 n2 : Nat} (hk2 : k + rmb.cells = k2) (hn2 : n + rmb.slots = n2) (hw : (rest.map fun v => v.category).sum ≤ 8) (d : Dc cc pc (.invokespecial idx) 3 pc2) (kk : ∀ v Γ2 σ2, Post Γ σ (.ref a :: vs) v Γ2 σ2 → JJ X E nL Γ2 σ2 k2 n2 L pc2 (v.toList ++ rest)) : JJ X E nL Γ σ k n L pc st := by
  obtain ⟨l1, l2, l4, l5, l6, l7, l8, l9⟩ := lk
  obtain ⟨rfl⟩ : xR X = R := hx.2.2.2.2.2.2.2.2.2.1
  have ok := hx.2.2.2.2.1
  refine j_run hk2 hn2 (PP := Post Γ σ (.ref a :: vs)) (a := (Value.ref a :: vs).toArray) d.2 (fun H locs ls hR hS hl => ?_) kk
  exact va_runI ⟨hx.1, hx.2.1, hx.2.2.1, hx.2.2.2.1, ok⟩ (con Γ σ _ hpre) (cwI na ok (zcode l5) rfl rfl rfl (ok _ l4) (ok _ l1) (ok _ l2) l6 ⟨l7, l8, l9⟩ hrm) ⟨zblind, zcallee hx hR hS (.ref a :: vs)⟩ rfl hna hl.1 hst (lv_room hw) d.1 hf
theorem j_callIN (hx : CX X E own y cc nL ret R) {idx na nLb a : Nat} {host : String} {yb : MethodName} {ccb : ByteArray} {rmb : Room} {Pre : zG → zS → List Value → Prop} {Post : zG → zS → List Value → Option Value → zG → zS → Prop} (con : Con E (xl X) yb ccb nLb none rmb Pre Post) (lk : LkIN own idx host yb ccb nLb na) (vs : List Value) (hpre : Pre Γ σ (.ref a :: vs)) (hna : vs.length = na) (hst : st = vs.reverse ++ .ref a :: rest) (hrm : rmb.frames + 1 ≤ R.frames ∧ 8 + (nLb + 11) + rmb.locals ≤ R.locals) (hf : k + rmb.cells ≤ R.cells ∧ n + rmb.slots ≤ R.slots) {k2 n2 : Nat} (hk2 : k + rmb.cells = k2) (hn2 : n + rmb.slots = n2) (hw : (rest.map fun v => v.category).sum ≤ 8) (d : Dc cc pc (.invokespecial idx) 3 pc2) (kk : ∀ v Γ2 σ2, Post Γ σ (.ref a :: vs) v Γ2 σ2 → JJ X E nL Γ2 σ2 k2 n2 L pc2 (v.toList ++ rest)) : JJ X E nL Γ σ k n L pc st := by
  obtain ⟨l1, l2, l4, l5, l6, l7, l8, l9⟩ := lk
  obtain ⟨rfl⟩ : xR X = R := hx.2.2.2.2.2.2.2.2.2.1
  have ok := hx.2.2.2.2.1
  refine j_run hk2 hn2 (PP := Post Γ σ (.ref a :: vs)) (a := (Value.ref a :: vs).toArray) d.2 (fun H locs ls hR hS hl => ?_) kk
  exact va_runIN ⟨hx.1, hx.2.1, hx.2.2.1, hx.2.2.2.1, ok⟩ (con Γ σ _ hpre) ⟨⟨⟨rfl, rfl, hrm.1, hrm.2, pay_in ok (zcode l5), List.mem_cons_self⟩, ok _ l5, ok _ l4, ⟨l7, l8⟩, fun sig h => by rw [h] at l9; exact (Option.some.inj l9).symm, va_Nw.use rfl (hx.2.2.2.2.2.1.2.1 _ l1)⟩, l6, ok _ l2⟩ ⟨zblind, zcallee hx hR hS (.ref a :: vs)⟩ rfl hna hl.1 hst (lv_room hw) d.1 hf
theorem kV {Q : zG → zS → Prop} {k2 n2 : Nat} (h : ∀ Γ2 σ2, Q Γ2 σ2 → JJ X E nL Γ2 σ2 k2 n2 L pc2 rest) : ∀ v Γ2 σ2, pV Q v Γ2 σ2 → JJ X E nL Γ2 σ2 k2 n2 L pc2 (v.toList ++ rest) := by
  rintro _ Γ2 σ2 ⟨rfl, q⟩
  exact h Γ2 σ2 q
theorem kI {Q : Int → zG → zS → Prop} {k2 n2 : Nat} (h : ∀ r Γ2 σ2, Q r Γ2 σ2 → JJ X E nL Γ2 σ2 k2 n2 L pc2 (.int (zI r) :: rest)) : ∀ v Γ2 σ2, pI Q v Γ2 σ2 → JJ X E nL Γ2 σ2 k2 n2 L pc2 (v.toList ++ rest) := by
  rintro _ Γ2 σ2 ⟨r, rfl, q⟩
  exact h r Γ2 σ2 q
theorem kL {Q : Int → zG → zS → Prop} {k2 n2 : Nat} (h : ∀ r Γ2 σ2, Q r Γ2 σ2 → JJ X E nL Γ2 σ2 k2 n2 L pc2 (.long (zL r) :: rest)) : ∀ v Γ2 σ2, pL Q v Γ2 σ2 → JJ X E nL Γ2 σ2 k2 n2 L pc2 (v.toList ++ rest) := by
  rintro _ Γ2 σ2 ⟨r, rfl, q⟩
  exact h r Γ2 σ2 q
theorem kR {Q : Nat → zG → zS → Prop} {k2 n2 : Nat} (h : ∀ r Γ2 σ2, Q r Γ2 σ2 → JJ X E nL Γ2 σ2 k2 n2 L pc2 (.ref r :: rest)) : ∀ v Γ2 σ2, pR Q v Γ2 σ2 → JJ X E nL Γ2 σ2 k2 n2 L pc2 (v.toList ++ rest) := by
  rintro _ Γ2 σ2 ⟨r, rfl, q⟩
  exact h r Γ2 σ2 q
theorem kN {Q0 : zG → zS → Prop} {Q : Nat → zG → zS → Prop} {k2 n2 : Nat} (h0 : ∀ Γ2 σ2, Q0 Γ2 σ2 → JJ X E nL Γ2 σ2 k2 n2 L pc2 (.null :: rest)) (h : ∀ r Γ2 σ2, Q r Γ2 σ2 → JJ X E nL Γ2 σ2 k2 n2 L pc2 (.ref r :: rest)) : ∀ v Γ2 σ2, pN Q0 Q v Γ2 σ2 → JJ X E nL Γ2 σ2 k2 n2 L pc2 (v.toList ++ rest) := by
  rintro _ Γ2 σ2 (⟨rfl, q⟩ | ⟨r, rfl, q⟩)
  · exact h0 Γ2 σ2 q
  · exact h r Γ2 σ2 q
theorem j_widen {k2 n2 : Nat} (hk : k ≤ k2) (hn : n ≤ n2) (kk : JJ X E nL Γ σ k2 n2 L pc st) : JJ X E nL Γ σ k n L pc st := fun H locs ls hR hS hl => W.widen hk hn (kk H locs ls hR hS hl)
theorem zne {a b t u : Nat} (ha : gT Γ a = t) (hb : gT Γ b = u) (h : u ≠ t) : b ≠ a := fun z => h (by rw [← hb, z, ha])
end JC
/-- only cells of these tags have changed -/
def zFr (ts : List Nat) (G : zG) (s s2 : zS) : Prop := ∀ b, gT G b ∉ ts → s2 b = s b
theorem zFr_rf {ts : List Nat} {G : zG} {s : zS} : zFr ts G s s := fun _ _ => rfl
theorem zFr_u {ts : List Nat} {G : zG} {s s1 s2 : zS} {a k t : Nat} {v : Int} (h : zFr ts G s s1) (e : s2 = zU s1 a k v) (ht : gT G a = t) (hm : t ∈ ts) : zFr ts G s s2 := fun b hb => by
  rw [e, zU_ne (fun z => hb (by rw [z, ht]; exact hm))]
  exact h b hb
theorem zFr_t {ts ts2 : List Nat} {G : zG} {s s1 s2 : zS} (h : zFr ts G s s1) (h2 : zFr ts2 G s1 s2) (hs : ∀ t ∈ ts2, t ∈ ts) : zFr ts G s s2 := fun b hb => (h2 b (fun z => hb (hs _ z))).trans (h b hb)
theorem zFr_g {ts : List Nat} {G : zG} {s s2 : zS} {a k t : Nat} (h : zFr ts G s s2) (ht : gT G a = t) (hn : t ∉ ts) : s2 a k = s a k := by rw [h a (by rw [ht]; exact hn)]
section JK
variable {X : zX} {E : zE} {nL : Nat} {Γ : zG} {σ : zS} {k2 n2 : Nat} {L : List (Nat × Value)} {pc2 : Nat} {rest : List Value}
theorem kIP {Q : Int → Prop} (h : ∀ r, Q r → JJ X E nL Γ σ k2 n2 L pc2 (.int (zI r) :: rest)) : ∀ v Γ2 σ2, pI (fun r G2 s2 => G2 = Γ ∧ s2 = σ ∧ Q r) v Γ2 σ2 → JJ X E nL Γ2 σ2 k2 n2 L pc2 (v.toList ++ rest) := by
  rintro _ _ _ ⟨r, rfl, rfl, rfl, q⟩
  exact h r q
theorem kIM {ts : List Nat} {Q : Int → zS → Prop} (h : ∀ r s2, zSK Γ s2 → zFr ts Γ σ s2 → Q r s2 → JJ X E nL Γ s2 k2 n2 L pc2 (.int (zI r) :: rest)) : ∀ v Γ2 σ2, pI (fun r G2 s2 => G2 = Γ ∧ zSK Γ s2 ∧ zFr ts Γ σ s2 ∧ Q r s2) v Γ2 σ2 → JJ X E nL Γ2 σ2 k2 n2 L pc2 (v.toList ++ rest) := by
  rintro _ _ s2 ⟨r, rfl, rfl, hs, hf, q⟩
  exact h r s2 hs hf q
theorem kLP {Q : Int → Prop} (h : ∀ r, Q r → JJ X E nL Γ σ k2 n2 L pc2 (.long (zL r) :: rest)) : ∀ v Γ2 σ2, pL (fun r G2 s2 => G2 = Γ ∧ s2 = σ ∧ Q r) v Γ2 σ2 → JJ X E nL Γ2 σ2 k2 n2 L pc2 (v.toList ++ rest) := by
  rintro _ _ _ ⟨r, rfl, rfl, rfl, q⟩
  exact h r q
theorem kLM {ts : List Nat} {Q : Int → zS → Prop} (h : ∀ r s2, zSK Γ s2 → zFr ts Γ σ s2 → Q r s2 → JJ X E nL Γ s2 k2 n2 L pc2 (.long (zL r) :: rest)) : ∀ v Γ2 σ2, pL (fun r G2 s2 => G2 = Γ ∧ zSK Γ s2 ∧ zFr ts Γ σ s2 ∧ Q r s2) v Γ2 σ2 → JJ X E nL Γ2 σ2 k2 n2 L pc2 (v.toList ++ rest) := by
  rintro _ _ s2 ⟨r, rfl, rfl, hs, hf, q⟩
  exact h r s2 hs hf q
theorem kRP {Q : Nat → Prop} (h : ∀ r, Q r → JJ X E nL Γ σ k2 n2 L pc2 (.ref r :: rest)) : ∀ v Γ2 σ2, pR (fun r G2 s2 => G2 = Γ ∧ s2 = σ ∧ Q r) v Γ2 σ2 → JJ X E nL Γ2 σ2 k2 n2 L pc2 (v.toList ++ rest) := by
  rintro _ _ _ ⟨r, rfl, rfl, rfl, q⟩
  exact h r q
theorem kRM {ts : List Nat} {Q : Nat → zS → Prop} (h : ∀ r s2, zSK Γ s2 → zFr ts Γ σ s2 → Q r s2 → JJ X E nL Γ s2 k2 n2 L pc2 (.ref r :: rest)) : ∀ v Γ2 σ2, pR (fun r G2 s2 => G2 = Γ ∧ zSK Γ s2 ∧ zFr ts Γ σ s2 ∧ Q r s2) v Γ2 σ2 → JJ X E nL Γ2 σ2 k2 n2 L pc2 (v.toList ++ rest) := by
  rintro _ _ s2 ⟨r, rfl, rfl, hs, hf, q⟩
  exact h r s2 hs hf q
theorem kVP {Q : Prop} (h : Q → JJ X E nL Γ σ k2 n2 L pc2 rest) : ∀ v Γ2 σ2, pV (fun G2 s2 => G2 = Γ ∧ s2 = σ ∧ Q) v Γ2 σ2 → JJ X E nL Γ2 σ2 k2 n2 L pc2 (v.toList ++ rest) := by
  rintro _ _ _ ⟨rfl, rfl, rfl, q⟩
  exact h q
theorem kVM {ts : List Nat} {Q : zS → Prop} (h : ∀ s2, zSK Γ s2 → zFr ts Γ σ s2 → Q s2 → JJ X E nL Γ s2 k2 n2 L pc2 rest) : ∀ v Γ2 σ2, pV (fun G2 s2 => G2 = Γ ∧ zSK Γ s2 ∧ zFr ts Γ σ s2 ∧ Q s2) v Γ2 σ2 → JJ X E nL Γ2 σ2 k2 n2 L pc2 (v.toList ++ rest) := by
  rintro _ _ s2 ⟨rfl, rfl, hs, hf, q⟩
  exact h s2 hs hf q
theorem kNP {Q0 : Prop} {Q : Nat → Prop} (h0 : Q0 → JJ X E nL Γ σ k2 n2 L pc2 (.null :: rest)) (h : ∀ r, Q r → JJ X E nL Γ σ k2 n2 L pc2 (.ref r :: rest)) : ∀ v Γ2 σ2, pN (fun G2 s2 => G2 = Γ ∧ s2 = σ ∧ Q0) (fun r G2 s2 => G2 = Γ ∧ s2 = σ ∧ Q r) v Γ2 σ2 → JJ X E nL Γ2 σ2 k2 n2 L pc2 (v.toList ++ rest) := by
  rintro _ _ _ (⟨rfl, rfl, rfl, q⟩ | ⟨r, rfl, rfl, rfl, q⟩)
  · exact h0 q
  · exact h r q
theorem zSK_F {Γ : zG} {σ : zS} {a k t : Nat} {v lo hi : Int} (hS : zSK Γ σ) (ht : gT Γ a = t) (h1 : aq t k = none) (h2 : dq t = none) (h : fq t k = some (lo, hi)) (hv : lo ≤ v ∧ v ≤ hi) : zSK Γ (zU σ a k v) := zSK_f hS ht h1 h2 h hv
theorem zSK_A {Γ : zG} {σ : zS} {a k t : Nat} {v lo hi : Int} (hS : zSK Γ σ) (ht : gT Γ a = t) (h1 : fq t k = none) (h2 : dq t = none) (h : aq t k = some (lo, hi)) (hv : lo ≤ v ∧ v ≤ hi) : zSK Γ (zU σ a k v) := zSK_a hS ht h1 h2 h hv
theorem zlen {Γ : zG} {a t n : Nat} {m : Int} (hG : zGK Γ) (ht : gT Γ a = t) (h : lq t = some n) (hm : (n : Int) = m) : (gN Γ a : Int) = m := by rw [zn hG ht h]; exact hm
theorem znb {Γ : zG} (hG : zGK Γ) (a : Nat) : 0 ≤ (gN Γ a : Int) ∧ (gN Γ a : Int) ≤ 1000000 := by
  have := zn_le hG a
  omega
theorem zaI {Γ : zG} {σ : zS} {a t j : Nat} {lo hi i m : Int} (hS : zSK Γ σ) (ht : gT Γ a = t) (h : aq t j = some (lo, hi)) (hm : (gN Γ a : Int) = m) (h0 : 0 ≤ i) (h1 : i < m) (hj : i.toNat = j) : lo ≤ σ a j ∧ σ a j ≤ hi := za hS ht h (by omega)
theorem zmulnn {a b A B : Int} (ha : 0 ≤ a ∧ a ≤ A) (hb : 0 ≤ b ∧ b ≤ B) : 0 ≤ a * b ∧ a * b ≤ A * B := ⟨Int.mul_nonneg ha.1 hb.1, Int.mul_le_mul ha.2 hb.2 hb.1 (by omega)⟩
theorem znar_b {x : Int} (h : -128 ≤ x ∧ x ≤ 127) : vp_nar .byte (zI x) = zI x := by
  rw [vp_nar_byte, ← Int32.toInt_inj, Int8.toInt_toInt32, Int32.toInt_toInt8, zI_int (by omega) (by omega)]
  exact Int.bmod_eq_of_le (by omega) (by omega)
theorem znar_z {x : Int} (h : 0 ≤ x ∧ x ≤ 1) : vp_nar .boolean (zI x) = zI x := by
  rcases (show x = 0 ∨ x = 1 by omega) with rfl | rfl <;> rfl
theorem zdyn {Γ : zG} {b t : Nat} (h : gT Γ b = t) : ((b : Int) + 1) = 0 ∨ (0 < ((b : Int) + 1) ∧ gT Γ (((b : Int) + 1).toNat - 1) = t) := Or.inr ⟨by omega, by rw [show ((b : Int) + 1).toNat - 1 = b by omega]; exact h⟩
theorem kst_min : Cond.static Lib.Math.min.name ∈ tblG := kst_yJ9_min_7cf53
theorem kst_max : Cond.static Lib.Math.max.name ∈ tblG := kst_yJ9_max_7cf53
theorem kc_Lib_Math_min_name : Cond.code Lib.Math.min.name Lib.Math.min.code 2 (some .int) ∈ tblG := kc_yJ9_min_7cf53
theorem kc_Lib_Math_max_name : Cond.code Lib.Math.max.name Lib.Math.max.code 2 (some .int) ∈ tblG := kc_yJ9_max_7cf53
section JM
variable {own : String} {y : MethodName} {cc : ByteArray} {ret : Option FieldType} {R : Room} {k n pc idx : Nat} {st : List Value}
theorem j_mmin (hx : CX X E own y cc nL ret R) {a b : Int} (hm : Cond.methodLink own idx Lib.Math.min.name ∈ tblG) (hs : Cond.static Lib.Math.min.name ∈ tblG) (hi : Cond.initialized "java/lang/Math" ∈ tblG) (hc : Cond.code Lib.Math.min.name Lib.Math.min.code 2 (some .int) ∈ tblG) (ha : -2147483648 ≤ a ∧ a ≤ 2147483647) (hb : -2147483648 ≤ b ∧ b ≤ 2147483647) (hf : 1 ≤ R.frames ∧ (st.map fun v => v.category).sum + 13 ≤ R.locals) (hck : k ≤ R.cells ∧ n ≤ R.slots) (d : Dc cc pc (.invokestatic idx) 3 pc2) (kk : ∀ v : Int, v ≤ a → v ≤ b → (v = a ∨ v = b) → JJ X E nL Γ σ k n L pc2 (.int (zI v) :: st)) : JJ X E nL Γ σ k n L pc (.int (zI b) :: .int (zI a) :: st) := by
  intro H locs ls hR hS hl
  obtain ⟨d1, rfl⟩ := d
  obtain ⟨rfl⟩ : xR X = R := hx.2.2.2.2.2.2.2.2.2.1
  have ok := hx.2.2.2.2.1
  refine va_mmin hx.1 hx.2.1 (hx.2.2.1.trans hl.1.symm) hx.2.2.2.1 (ok _ hm) (ok _ hs) (ok _ hi) (ok _ hc) hf.1 hf.2 hck.1 hck.2 d1 ?_
  have e : (if zI b < zI a then zI b else zI a) = zI (if b < a then b else a) := by
    simp only [zI_lt hb ha]
    split <;> rfl
  rw [e]
  exact kk _ (by split <;> omega) (by split <;> omega) (by split <;> omega) H locs ls hR hS hl
theorem j_mmax (hx : CX X E own y cc nL ret R) {a b : Int} (hm : Cond.methodLink own idx Lib.Math.max.name ∈ tblG) (hs : Cond.static Lib.Math.max.name ∈ tblG) (hi : Cond.initialized "java/lang/Math" ∈ tblG) (hc : Cond.code Lib.Math.max.name Lib.Math.max.code 2 (some .int) ∈ tblG) (ha : -2147483648 ≤ a ∧ a ≤ 2147483647) (hb : -2147483648 ≤ b ∧ b ≤ 2147483647) (hf : 1 ≤ R.frames ∧ (st.map fun v => v.category).sum + 13 ≤ R.locals) (hck : k ≤ R.cells ∧ n ≤ R.slots) (d : Dc cc pc (.invokestatic idx) 3 pc2) (kk : ∀ v : Int, a ≤ v → b ≤ v → (v = a ∨ v = b) → JJ X E nL Γ σ k n L pc2 (.int (zI v) :: st)) : JJ X E nL Γ σ k n L pc (.int (zI b) :: .int (zI a) :: st) := by
  intro H locs ls hR hS hl
  obtain ⟨d1, rfl⟩ := d
  obtain ⟨rfl⟩ : xR X = R := hx.2.2.2.2.2.2.2.2.2.1
  have ok := hx.2.2.2.2.1
  refine va_mmax hx.1 hx.2.1 (hx.2.2.1.trans hl.1.symm) hx.2.2.2.1 (ok _ hm) (ok _ hs) (ok _ hi) (ok _ hc) hf.1 hf.2 hck.1 hck.2 d1 ?_
  have e : (if zI a < zI b then zI b else zI a) = zI (if a < b then b else a) := by
    simp only [zI_lt ha hb]
    split <;> rfl
  rw [e]
  exact kk _ (by split <;> omega) (by split <;> omega) (by split <;> omega) H locs ls hR hS hl
end JM
end JK
