/-! arrays that are copied; a plan made out of its draft -/
def zFill (σ : zS) (q : Nat) (f : Nat → Int) : zS := fun b => if b = q then f else σ b
theorem zFi_eq {σ : zS} {q : Nat} {f : Nat → Int} : zFill σ q f q = f := by simp [zFill]
theorem zFi_ne {σ : zS} {q b : Nat} {f : Nat → Int} (h : b ≠ q) : zFill σ q f b = σ b := by simp [zFill, h]
theorem zFi_Z {σ : zS} {q : Nat} {f : Nat → Int} : zFill (zZero σ q) q f = zFill σ q f := by
  funext b
  by_cases h : b = q
  · subst h; rw [zFi_eq, zFi_eq]
  · rw [zFi_ne h, zFi_ne h, zZ_ne h]
theorem ar46 {n : Nat} (h : n ≤ 150) : zArr 46 n := ⟨by decide, fun _ => rfl, fun m h => (by cases h), ⟨by omega, fun _ => h⟩, fun _ => rfl, fun k r h => (by cases h; exact ⟨by decide, by decide⟩), fun _ => rfl, fun k v h => (by cases h)⟩
theorem zW_fill {E : zE} {Γ : zG} {σ : zS} {q t N : Nat} {e : va_E} {f : Nat → Int} (hq : q ∉ Γ.1) (he : ∀ r : Nat → Nat, zC E t N r f = e) : zW E Γ σ ++ [(q, e)] = zW E (zPush Γ q t N) (zFill σ q f) := by
  unfold zW
  rw [va_pl_push hq]
  show va_pl (Γ.1 ++ [q]) _ = va_pl (Γ.1 ++ [q]) _
  apply va_pl_congr
  intro b
  by_cases hb : b = q
  · subst hb
    rw [va_up_self]
    unfold zF
    rw [gT_eq, gN_eq, zFi_eq]
    exact (he _).symm
  · rw [va_up_ne _ _ hb]
    unfold zF
    rw [gT_ne hb, gN_ne hb, zFi_ne hb]
    rfl
theorem zSK_fill {Γ : zG} {σ : zS} {q n : Nat} {f : Nat → Int} (hS : zSK Γ σ) (hq : gT Γ q = 0) (hf : ∀ j, j < n → -2147483648 ≤ f j ∧ f j ≤ 2147483647) : zSK (zPush Γ q 46 n) (zFill σ q f) := by
  refine ⟨fun a k r hr => ?_, fun a k r hk hr => ?_, fun a k u hk hu => ?_⟩
  · by_cases hb : a = q
    · subst hb; rw [gT_eq] at hr; cases hr
    · rw [gT_ne hb] at hr; rw [zFi_ne hb]; exact hS.1 a k r hr
  · by_cases hb : a = q
    · subst hb; rw [gT_eq] at hr; rw [gN_eq] at hk; rw [zFi_eq]; cases hr; exact hf k hk
    · rw [gT_ne hb] at hr; rw [gN_ne hb] at hk; rw [zFi_ne hb]; exact hS.2.1 a k r hk hr
  · by_cases hb : a = q
    · subst hb; rw [gT_eq] at hu; cases hu
    · rw [gT_ne hb] at hu; rw [gN_ne hb] at hk; rw [zFi_ne hb]
      rcases hS.2.2 a k u hk hu with h | ⟨h, h9⟩
      · exact Or.inl h
      · exact Or.inr ⟨h, gT_put hq h9 (dq_ne hu)⟩
theorem zsetF {E : zE} {Γ : zG} {σ : zS} {a q0 : Nat} {h : Nat → Int} {A : Nat → Prop} (hD : va_D A (zW E Γ σ)) (ha : a ∈ Γ.1) (hq : (zW E Γ σ)[q0]? = some (a, zF E Γ σ a)) : (zW E Γ σ).set q0 (a, zF E Γ (zFill σ a h) a) = zW E Γ (zFill σ a h) := by
  have h1 := va_pl_set (X := []) (f := zF E Γ σ) (e := zF E Γ (zFill σ a h) a) hD ha hq
  refine (show (zW E Γ σ).set q0 _ = _ from h1).trans ?_
  show va_pl _ _ = va_pl _ _
  refine va_pl_congr fun b => ?_
  by_cases hb : b = a
  · subst hb; rw [va_up_self]
  · rw [va_up_ne _ _ hb]; unfold zF; rw [zFi_ne hb]
theorem eBI : "[" ++ FieldType.int.toString = "[I" := by
  first
    | rfl
    | decide
    | simp [FieldType.toString]
def yClone : MethodName := ⟨"[I", "clone", "()Ljava/lang/Object;"⟩
def yCloneO : MethodName := ⟨"java/lang/Object", "clone", "()Ljava/lang/Object;"⟩
def yCopy : MethodName := ⟨"java/lang/System", "arraycopy", "(Ljava/lang/Object;ILjava/lang/Object;II)V"⟩
theorem kz_same : Cond.sameMethod "[I" "java/lang/Object" "clone" "()Ljava/lang/Object;" ∈ tblG := tg (List.mem_of_getElem? (i := 1093) (by decide +kernel)) (by decide +kernel)
theorem kz_nat : Cond.native yCloneO ∈ tblG := tg (List.mem_of_getElem? (i := 1094) (by decide +kernel)) (by decide +kernel)
theorem kz_inst : Cond.instanceMethod yCloneO ∈ tblG := tg (List.mem_of_getElem? (i := 1095) (by decide +kernel)) (by decide +kernel)
theorem kz_sel : Cond.selects "[I" yClone yCloneO ∈ tblG := tg (List.mem_of_getElem? (i := 1096) (by decide +kernel)) (by decide +kernel)
theorem kz_cast : Cond.castable "[I" "java/lang/Cloneable" ∈ tblM := List.mem_filter.mpr ⟨List.mem_of_getElem? (i := 1097) (by decide +kernel), rfl⟩
theorem kz_cst : Cond.static yCopy ∈ tblG := tg (List.mem_of_getElem? (i := 1101) (by decide +kernel)) (by decide +kernel)
theorem kz_cnat : Cond.native yCopy ∈ tblG := tg (List.mem_of_getElem? (i := 1102) (by decide +kernel)) (by decide +kernel)
theorem kz_ini : Cond.initialized "java/lang/System" ∈ tblG := tg (List.mem_of_getElem? (i := 143) (by decide +kernel)) (by decide +kernel)
section PL
variable {X : zX} {E : zE} {own : String} {y : MethodName} {cc : ByteArray} {nL : Nat} {ret : Option FieldType} {R rm : Room} {PP : Option Value → zG → zS → Prop} {Γ : zG} {σ : zS} {k n : Nat} {L : List (Nat × Value)} {pc pc2 : Nat} {st : List Value}
theorem j_copyA (hx : CX X E own y cc nL ret R) (hG : zGK Γ) {idx a b t u : Nat} {m : Int} (hl : Cond.methodLink own idx yCopy ∈ tblG) (ha : gT Γ a = t) (hb : gT Γ b = u) (ht : tK t = 2) (hu : tK u = 2) (t0 : t ≠ 0) (u0 : u ≠ 0) (m0 : 0 ≤ m) (m1 : m ≤ gN Γ b ∧ m ≤ gN Γ a) (hf : 1 ≤ R.frames ∧ (st.map fun v => v.category).sum + (nativeFrameWords "java/lang/System" "arraycopy" 5 + 11) ≤ R.locals) (d : Dc cc pc (.invokestatic idx) 3 pc2) (kk : JJ X E nL Γ (zFill σ a (fun j => if j < m.toNat then σ b j else σ a j)) k n L pc2 st) : JJ X E nL Γ σ k n L pc (.int (zI m) :: .int (zI 0) :: .ref a :: .int (zI 0) :: .ref b :: st) := by
  intro H locs ls hR hS hlv
  obtain ⟨d1, rfl⟩ := d
  obtain ⟨rfl⟩ : xR X = R := hx.2.2.2.2.2.2.2.2.2.1
  have ok := hx.2.2.2.2.1
  have ia := zin hG ha t0
  have ib := zin hG hb u0
  obtain ⟨qa, hqa⟩ := zat (E := E) (σ := σ) ia
  obtain ⟨qb, hqb⟩ := zat (E := E) (σ := σ) ib
  have hqa2 := hqa
  have hqb2 := hqb
  rw [zF_i ha ht] at hqa2
  rw [zF_i hb hu] at hqb2
  have nb := zn_le hG b
  have z0 : (zI 0).toNatClampNeg = 0 := zI_nat (by decide) (by decide)
  have zm : (zI m).toNatClampNeg = m.toNat := zI_nat m0 (by omega)
  refine va_copyi hx.1 hx.2.1 (hx.2.2.1.trans hlv.1.symm) hx.2.2.2.1 (ok _ hl) (ok _ kz_cnat) (ok _ kz_cst) (ok _ kz_ini) hx.2.2.2.2.2.1.1 hR.1 hR.2 hS qb qa 0 0 hqb2 hqa2 rfl rfl rfl (by decide) (by decide) (by rw [show (0 : Int32) = zI 0 from rfl, zI_lt (by omega) (by omega)]; omega) (by rw [z0, zm]; omega) (by rw [z0, zm]; omega) (fun _ _ => rfl) hf.1 hf.2 d1 (fun H1 locs1 hP1 hD1 hS1 => ?_)
  have e : (.inl (E.2.1 2, gN Γ a, .inl (va_cpy (fun j => zI (σ b j)) (fun j => zI (σ a j)) (zI 0).toNatClampNeg (zI 0).toNatClampNeg (zI m).toNatClampNeg)) : va_E) = zF E Γ (zFill σ a (fun j => if j < m.toNat then σ b j else σ a j)) a := by
    rw [zF_i ha ht, z0, zm, zFi_eq]
    congr 4
    funext j
    unfold va_cpy
    by_cases hj : j < m.toNat
    · rw [if_pos ⟨Nat.zero_le _, by omega⟩, if_pos hj, show 0 + (j - 0) = j by omega]
    · rw [if_neg (fun z => hj (by omega)), if_neg hj]
  rw [e, zsetF hR.2 ia hqa] at hP1 hD1
  exact kk H1 locs1 ls ⟨hP1, hD1⟩ hS1 hlv
theorem j_cloneA (hx : CX X E own y cc nL ret R) (hG : zGK Γ) {idx a t N : Nat} (hl : Cond.methodLink own idx yClone ∈ tblG) (ha : gT Γ a = t) (ht : tK t = 2) (t0 : t ≠ 0) (hN : gN Γ a = N) (hf : 1 ≤ R.frames ∧ (st.map fun v => v.category).sum + 14 ≤ R.locals) (hC : k + 1 ≤ R.cells ∧ n + N ≤ R.slots) (d : Dc cc pc (.invokevirtual idx) 3 pc2) (kk : ∀ q, gT Γ q = 0 → JJ X E nL (zPush Γ q t N) (zFill σ q (σ a)) (k + 1) (n + N) L pc2 (.ref q :: st)) : JJ X E nL Γ σ k n L pc (.ref a :: st) := by
  intro H locs ls hR hS hlv
  obtain ⟨d1, rfl⟩ := d
  obtain ⟨rfl⟩ : xR X = R := hx.2.2.2.2.2.2.2.2.2.1
  subst hN
  have ok := hx.2.2.2.2.1
  obtain ⟨q0, hq⟩ := zat (E := E) (σ := σ) (zin hG ha t0)
  rw [zF_i ha ht] at hq
  have hK := hx.2.2.2.2.2.1.1
  have hfit : ∀ (i : Nat) (v : Value), (vp_cell (E.2.1 2) (gN Γ a, .inl (fun j => zI (σ a j)))).slots[i]? = some v → fits .int v = true := by
    intro i v hv
    have hv2 : (arrV (E.2.1 2) (gN Γ a) (fun j => .int (zI (σ a j)))).slots[i]? = some v := hv
    by_cases hi : i < gN Γ a
    · rw [arrV_read _ _ hi] at hv2; cases hv2; rfl
    · rw [Array.getElem?_eq_none (by rw [arrV_size]; omega)] at hv2; cases hv2
  have hnm : (xs X).vm.findClass "[I" = some (E.2.1 2) := by
    rw [← eBI]; exact (hK.2 0 (E.2.1 2, .int) rfl).2
  refine va_clone hx.1 hx.2.1 (hx.2.2.1.trans hlv.1.symm) hx.2.2.2.1 (ok _ hl) (ok _ kz_same) (ok _ kz_nat) (ok _ kz_inst) (ok _ kz_sel) (hx.2.2.2.2.2.1.2.2.2.2.2.2.1 _ kz_cast) hK hR.1 hR.2 hS (fun q hq => Nat.le_trans hx.2.2.2.2.2.2.2.2.1 hq) q0 0 hq rfl hnm hfit hf.1 hf.2 hC.1 hC.2 d1 (fun q H1 hK1 hP1 hD1 hS1 => ?_)
  have hq' : q ∉ Γ.1 := va_pl_fresh2 (X := []) hD1
  rw [zW_fill (f := σ a) (t := t) (N := gN Γ a) hq' (fun r => by simp only [zC, ht])] at hP1 hD1
  exact kk q (zfree hG hq') H1 locs ls ⟨hP1, hD1⟩ hS1 hlv
theorem j_castA (hx : CX X E own y cc nL ret R) (hG : zGK Γ) {idx a t : Nat} (hl : Cond.classLink own idx "[I" ∈ tblG) (ha : gT Γ a = t) (ht : tK t = 2) (t0 : t ≠ 0) (d : Dc cc pc (.checkcast idx) 3 pc2) (kk : JJ X E nL Γ σ k n L pc2 (.ref a :: st)) : JJ X E nL Γ σ k n L pc (.ref a :: st) := by
  intro H locs ls hR hS hlv
  obtain ⟨d1, rfl⟩ := d
  have ok := hx.2.2.2.2.1
  obtain ⟨q0, hq⟩ := zat (E := E) (σ := σ) (zin hG ha t0)
  rw [zF_i ha ht] at hq
  have hK := hx.2.2.2.2.2.1.1
  have hnm : (xs X).vm.findClass "[I" = some (E.2.1 2) := by
    rw [← eBI]; exact (hK.2 0 (E.2.1 2, .int) rfl).2
  exact va_castA hx.1 hx.2.1 hx.2.2.2.1 (ok _ hl) hR.1 q0 hq hnm d1 (kk H locs ls hR hS hlv)
theorem j_aretA (hx : CX X E own y cc nL ret R) (hq : CR X E rm PP) {C : FieldType} (hret : ret = some (.array C)) (hk : k ≤ rm.cells) (hn : n ≤ rm.slots) (d : Dc cc pc .areturn 1 pc2) {v : Value} (hv : v = .null ∨ ∃ a, v = .ref a) (hp : PP (some v) Γ σ) : JJ X E nL Γ σ k n L pc [v] := by
  intro H locs ls hR hS hl
  exact j_end hq hk hn (W.aret hx.1 hx.2.1 (hx.2.2.2.2.2.2.2.1.trans hret) (Or.inr ⟨_, rfl⟩) hv (fun t ht _ => ⟨⟨_, Γ, σ, rfl, hp, by rw [ht]; exact hR⟩, hS.F ht⟩) hS.2.2 d.1 hx.2.2.2.2.2.2.1)
end PL
set_option maxHeartbeats 4000000 in
set_option maxRecDepth 20000 in
theorem c_J7_copyOf {E : zE} {l : Launch} (hst : l.stackTraces = false) (b0 : Nat) (x1 : Int) : Con E l yJ7_copyOf_59c91 cJ7_copyOf_59c91 3 (some (.array .int)) { frames := 3, cells := 1, slots := 150, locals := 120 } (fun G s vs => vs = [.ref b0, .int (zI x1)] ∧ zGK G ∧ zSK G s ∧ gT G b0 = 46 ∧ (0 ≤ x1 ∧ x1 ≤ 150)) (fun G s _ => pR (fun q G2 s2 => gT G q = 0 ∧ ∃ f : Nat → Int, G2 = zPush G q 46 x1.toNat ∧ s2 = zFill s q f ∧ ∀ j, j < x1.toNat → -2147483648 ≤ f j ∧ f j ≤ 2147483647)) := by
  refine Con.mk hst (by decide) (fun G s vs h => by rw [h.1]; exact Nat.le_of_ble_eq_true rfl) ?_
  rintro X G s0 vs ⟨rfl, hG, hS0, hb0, hx1⟩ rfl hx hq
  show JJ X E 3 G s0 0 0 [(0, .ref b0), (1, .int (zI x1))] 0 []
  have f1 := znb hG b0
  have hbd : ∀ j, j < gN G b0 → -2147483648 ≤ s0 b0 j ∧ s0 b0 j ≤ 2147483647 := fun j hj => za hS0 hb0 (lo := -2147483648) (hi := 2147483647) rfl hj
  refine j_iload_n hx 1 dJ7_copyOf_59c91_0 rfl ?_
  refine j_aload_n hx 0 dJ7_copyOf_59c91_1 rfl ?_
  refine j_alen hx hG hb0 (by decide) (by decide) rfl dJ7_copyOf_59c91_2 ?_
  refine j_icmp_ne hx 14 dJ7_copyOf_59c91_3 rfl (by omega) (by omega) (fun h => ?_) (fun h => ?_)
  · refine j_iload_n hx 1 dJ7_copyOf_59c91_14 rfl ?_
    refine j_newA hx hG (atype := .int) (ty := .int) (kd := 2) (t := 46) (N := x1.toNat) rfl ka_int rfl (fun _ _ h => h) (a := (x1.toNat, .inl (fun _ => zI 0))) (fun _ => rfl) (fun _ => rfl) (by omega) (by omega) (by show x1.toNat * 4 ≤ 536870912; omega) ⟨Nat.le_of_ble_eq_true rfl, by show 0 + x1.toNat ≤ 150; omega⟩ dJ7_copyOf_59c91_15 (fun q hq1 => ?_)
    have hG1 := zGK_push hG hq1 (ar46 (n := x1.toNat) (by omega))
    have hb1 : gT (zPush G q 46 x1.toNat) b0 = 46 := gT_put hq1 hb0 (by decide)
    have hbq : b0 ≠ q := fun e => by rw [e, hq1] at hb0; cases hb0
    have f2 := znb hG1 b0
    refine j_astore_n hx [(2, .ref q), (0, .ref b0), (1, .int (zI x1))] dJ7_copyOf_59c91_17 (by decide) rfl ?_
    refine j_aload_n hx 1 dJ7_copyOf_59c91_18 rfl ?_
    refine j_iconst hx dJ7_copyOf_59c91_19 ?_
    refine j_aload_n hx 0 dJ7_copyOf_59c91_20 rfl ?_
    refine j_iconst hx dJ7_copyOf_59c91_21 ?_
    refine j_aload_n hx 1 dJ7_copyOf_59c91_22 rfl ?_
    refine j_alen hx hG1 hb1 (by decide) (by decide) rfl dJ7_copyOf_59c91_23 ?_
    refine j_iload_n hx 2 dJ7_copyOf_59c91_24 rfl ?_
    refine j_mmin hx km_RJ7_304 kst_min kn_RJ9 kc_Lib_Math_min_name (by omega) (by omega) ⟨by decide, Nat.le_of_ble_eq_true rfl⟩ ⟨Nat.le_of_ble_eq_true rfl, by show 0 + x1.toNat ≤ 150; omega⟩ dJ7_copyOf_59c91_25 (fun v g1 g2 g3 => ?_)
    have gq : gN (zPush G q 46 x1.toNat) q = x1.toNat := gN_eq
    refine j_copyA hx hG1 km_RJ7_150 gT_eq hb1 rfl rfl (by decide) (by decide) (by omega) (by rw [gq]; omega) ⟨by decide, by decide⟩ dJ7_copyOf_59c91_28 ?_
    refine j_aload_n hx 0 dJ7_copyOf_59c91_31 rfl ?_
    refine j_aretA hx hq rfl (Nat.le_of_ble_eq_true rfl) (by show 0 + x1.toNat ≤ 150; omega) dJ7_copyOf_59c91_32 (Or.inr ⟨_, rfl⟩) ⟨q, rfl, hq1, _, rfl, zFi_Z, fun j hj => ?_⟩
    have e9 : gN (zPush G q 46 x1.toNat) b0 = gN G b0 := gN_ne hbq
    by_cases hj2 : j < v.toNat
    · rw [if_pos hj2, zZ_ne hbq]; exact hbd j (by omega)
    · rw [if_neg hj2, zZ_eq]; show -2147483648 ≤ (0 : Int) ∧ (0 : Int) ≤ 2147483647; decide
  · refine j_aload_n hx 0 dJ7_copyOf_59c91_6 rfl ?_
    refine j_cloneA hx hG km_RJ7_316 hb0 rfl (by decide) (N := x1.toNat) (by omega) ⟨by decide, by decide⟩ ⟨Nat.le_of_ble_eq_true rfl, by show 0 + x1.toNat ≤ 150; omega⟩ dJ7_copyOf_59c91_7 (fun q hq1 => ?_)
    refine j_castA hx (zGK_push hG hq1 (ar46 (n := x1.toNat) (by omega))) kl_RJ7_317 gT_eq rfl (by decide) dJ7_copyOf_59c91_10 ?_
    exact j_aretA hx hq rfl (Nat.le_of_ble_eq_true rfl) (by show 0 + x1.toNat ≤ 150; omega) dJ7_copyOf_59c91_13 (Or.inr ⟨_, rfl⟩) ⟨q, rfl, hq1, _, rfl, rfl, fun j hj => hbd j (by omega)⟩
/-! a plan, published -/
theorem zPub8 {Γ : zG} {σ : zS} {a q : Nat} (hG : zGK Γ) (hS : zSK Γ σ) (ha : gT Γ a = 28) (h0 : σ a 0 = (q : Int) + 1) (hq : gT Γ q = 46) (h1 : 0 ≤ σ a 1 ∧ σ a 1 ≤ 150) : zGK (zPubG Γ a 8 σ) ∧ zSK (zPubG Γ a 8 σ) σ := by
  have up : ∀ b u, gT Γ b = u → u ≠ 28 → gT (zPubG Γ a 8 σ) b = u := fun b u hb hu => by
    rw [pT_ne (fun e => hu (by rw [← hb, e, ha]))]; exact hb
  refine ⟨⟨fun b hb => ?_, fun b k u hu => ?_, fun b m hm => ?_, fun b => ⟨(hG.2.2.2 b).1, fun h => ?_⟩⟩, fun b k r hr => ?_, fun b k r hk hr => ?_, fun b k u hk hu => ?_⟩
  · by_cases e : b = a
    · subst e; exact hG.1 b (by rw [ha]; decide)
    · rw [pT_ne e] at hb; exact hG.1 b hb
  · by_cases e : b = a
    · subst e
      rw [pT_eq] at hu
      rw [pP_eq]
      cases k with
      | zero => cases hu; rw [h0, show ((q : Int) + 1).toNat - 1 = q by omega]; exact up q 46 hq (by decide)
      | succ k => cases hu
    · rw [pT_ne e] at hu
      rw [pP_ne e]
      refine up _ u (hG.2.1 b k u hu) (fun e2 => ?_)
      have := rq_lt hu
      omega
  · by_cases e : b = a
    · subst e; rw [pT_eq] at hm; cases hm
    · rw [pT_ne e] at hm; exact hG.2.2.1 b m hm
  · by_cases e : b = a
    · subst e; rw [pT_eq] at h; omega
    · rw [pT_ne e] at h; exact (hG.2.2.2 b).2 h
  · by_cases e : b = a
    · subst e
      rw [pT_eq] at hr
      cases k with
      | zero => cases hr
      | succ k => cases k with
        | zero => cases hr; exact h1
        | succ k => cases hr
    · rw [pT_ne e] at hr; exact hS.1 b k r hr
  · by_cases e : b = a
    · subst e; rw [pT_eq] at hr; cases hr
    · rw [pT_ne e] at hr; exact hS.2.1 b k r hk hr
  · by_cases e : b = a
    · subst e; rw [pT_eq] at hu; cases hu
    · rw [pT_ne e] at hu
      rcases hS.2.2 b k u hk hu with g | ⟨g, g2⟩
      · exact Or.inl g
      · refine Or.inr ⟨g, up _ u g2 (fun e2 => ?_)⟩
        have := dq_lt hu
        omega
theorem zPub8_R {E : zE} {H : Heap} {Γ : zG} {σ : zS} {a q : Nat} (ha : gT Γ a = 28) (h0 : σ a 0 = (q : Int) + 1) (hR : zR E Γ σ H) : zR E (zPubG Γ a 8 σ) σ H := by
  have e : zW E Γ σ = zW E (zPubG Γ a 8 σ) σ := by
    unfold zW
    show va_pl Γ.1 _ = va_pl Γ.1 _
    apply va_pl_congr
    intro b
    by_cases hb : b = a
    · subst hb
      rw [zF_obj (t := 28) ha rfl (rfl : tC 28 = tC 8) (rfl : tN 28 = tN 8), zF_obj (t := 8) pT_eq rfl rfl rfl]
      congr 2
      apply List.map_congr_left
      intro k hk
      have hk2 : k < 2 := List.mem_range.mp hk
      rcases (show k = 0 ∨ k = 1 by omega) with rfl | rfl
      · show va_rf (zQ (σ b 0)) = Value.ref (gP (zPubG Γ b 8 σ) b 0)
        have e1 : zQ ((q : Int) + 1) = some q := by
          unfold zQ
          rw [if_neg (by omega)]
          congr 1
        rw [pP_eq, h0, e1, show ((q : Int) + 1).toNat - 1 = q by omega]
        rfl
      · rfl
    · unfold zF
      rw [pT_ne hb, pN_all]
      congr 1
      funext k
      exact (pP_ne hb).symm
  unfold zR at hR ⊢
  rw [← e]
  exact hR
theorem j_pub8 {X : zX} {E : zE} {nL : Nat} {Γ : zG} {σ : zS} {a q k n : Nat} {L : List (Nat × Value)} {pc : Nat} {st : List Value} (ha : gT Γ a = 28) (h0 : σ a 0 = (q : Int) + 1) (kk : JJ X E nL (zPubG Γ a 8 σ) σ k n L pc st) : JJ X E nL Γ σ k n L pc st := fun H locs ls hR hS hl => kk H locs ls (zPub8_R ha h0 hR) hS hl
theorem zSK_raw8 {Γ : zG} {σ : zS} {a k : Nat} {v : Int} (hS : zSK Γ σ) (ha : gT Γ a = 28) : zSK Γ (zU σ a k v) := by
  refine ⟨fun b j r hr => ?_, fun b j r hj hr => ?_, fun b j r hj hr => ?_⟩
  · by_cases hb : b = a
    · subst hb; rw [ha] at hr; cases hr
    · rw [zU_ne hb]; exact hS.1 b j r hr
  · by_cases hb : b = a
    · subst hb; rw [ha] at hr; cases hr
    · rw [zU_ne hb]; exact hS.2.1 b j r hj hr
  · by_cases hb : b = a
    · subst hb; rw [ha] at hr; cases hr
    · rw [zU_ne hb]; exact hS.2.2 b j r hj hr
theorem lk_RX7_25 : LkS RX7 25 yJ7_copyOf_59c91 cJ7_copyOf_59c91 3 (some (.array .int)) 2 := ⟨km_RX7_25, kst_yJ7_copyOf_59c91, kn_RJ7, kc_yJ7_copyOf_59c91, by decide +kernel, by decide +kernel, by decide +kernel⟩
set_option maxHeartbeats 4000000 in
set_option maxRecDepth 20000 in
theorem c_X7_init_ {E : zE} {l : Launch} (hst : l.stackTraces = false) (a b1 : Nat) : Con E l yX7_init_ cX7_init_ 2 none { frames := 4, cells := 1, slots := 150, locals := 160 } (fun G s vs => vs = [.ref a, .ref b1] ∧ zGK G ∧ zSK G s ∧ gT G a = 28 ∧ gT G b1 = 8) (fun G s _ => pV (fun G2 s2 => zGK G2 ∧ zSK G2 s2 ∧ gT G2 a = 8 ∧ ∀ b, b ≠ a → gT G b ≠ 0 → gT G2 b = gT G b ∧ gN G2 b = gN G b ∧ (∀ k, gP G2 b k = gP G b k) ∧ s2 b = s b)) := by
  refine Con.mk hst (by decide) (fun G s vs h => by rw [h.1]; exact Nat.le_of_ble_eq_true rfl) ?_
  rintro X G s0 vs ⟨rfl, hG, hS0, ha, hb1⟩ rfl hx hq
  show JJ X E 2 G s0 0 0 [(0, .ref a), (1, .ref b1)] 0 []
  refine j_aload_n hx 0 dX7_init__0 rfl ?_
  refine j_objI hx km_RX7_3 ⟨by decide, by decide⟩ dX7_init__1 ?_
  refine j_aload_n hx 0 dX7_init__4 rfl ?_
  refine j_aload_n hx 1 dX7_init__5 rfl ?_
  refine g8_0 hx hG hb1 kf_RX7_11 dX7_init__6 ?_
  refine j_iconst hx dX7_init__9 ?_
  refine j_aload_n hx 1 dX7_init__10 rfl ?_
  have f1 := zf hS0 hb1 (k := 1) rfl
  refine g8_1 hx hG hb1 kf_RX7_15 rfl dX7_init__11 ?_
  refine j_mmax hx km_RX7_19 kst_max kn_RJ9 kc_Lib_Math_max_name ⟨by decide, by decide⟩ (by omega) ⟨by decide, Nat.le_of_ble_eq_true rfl⟩ ⟨by decide, by decide⟩ dX7_init__14 (fun v g1 g2 g3 => ?_)
  refine j_callS hx (c_J7_copyOf hst (gP G b1 0) v) lk_RX7_25 [.ref (gP G b1 0), .int (zI v)] ⟨rfl, hG, hS0, zr (k := 0) (t2 := 46) hG hb1 rfl, (by omega)⟩ rfl rfl ⟨by decide, by decide⟩ ⟨by decide, by decide⟩ (k2 := 1) (n2 := 150) rfl rfl (Nat.le_of_ble_eq_true rfl) dX7_init__17 ?_
  rintro _ _ _ ⟨q, rfl, hq0, f, rfl, rfl, hf⟩
  show JJ X E 2 (zPush G q 46 v.toNat) (zFill s0 q f) 1 150 [(0, .ref a), (1, .ref b1)] 20 [.ref q, .ref a]
  have hG1 := zGK_push hG hq0 (ar46 (n := v.toNat) (by omega))
  have hS1 := zSK_fill (n := v.toNat) hS0 hq0 hf
  have ha1 : gT (zPush G q 46 v.toNat) a = 28 := gT_put hq0 ha (by decide)
  have hb2 : gT (zPush G q 46 v.toNat) b1 = 8 := gT_put hq0 hb1 (by decide)
  have haq : a ≠ q := fun e => by rw [e, hq0] at ha; cases ha
  have hbq : b1 ≠ q := fun e => by rw [e, hq0] at hb1; cases hb1
  have hab : b1 ≠ a := fun e => by rw [e, ha] at hb1; cases hb1
  refine p28_0 hx hG1 ha1 kf_RX7_11 rfl rfl dX7_init__20 ?_
  refine j_aload_n hx 0 dX7_init__23 rfl ?_
  refine j_aload_n hx 1 dX7_init__24 rfl ?_
  refine g8_1 hx hG1 hb2 kf_RX7_15 (v := s0 b1 1) (by rw [zU_ne hab, zFi_ne hbq]) dX7_init__25 ?_
  refine p28_1 hx hG1 ha1 kf_RX7_15 dX7_init__28 ?_
  have h0 : zU (zU (zFill s0 q f) a 0 ((q : Int) + 1)) a 1 (s0 b1 1) a 0 = (q : Int) + 1 := by rw [zU_nk (by decide), zU_eq]
  have hS2 : zSK (zPush G q 46 v.toNat) (zU (zU (zFill s0 q f) a 0 ((q : Int) + 1)) a 1 (s0 b1 1)) := zSK_raw8 (zSK_raw8 hS1 ha1) ha1
  have hP := zPub8 hG1 hS2 ha1 h0 gT_eq (by rw [zU_eq]; exact f1)
  refine j_pub8 ha1 h0 ?_
  refine j_vret hx hq rfl (by decide) (by decide) dX7_init__31 ⟨rfl, hP.1, hP.2, pT_eq, fun b hba hb0 => ?_⟩
  have hbq2 : b ≠ q := fun e => hb0 (by rw [e]; exact hq0)
  exact ⟨by rw [pT_ne hba, gT_ne hbq2], by rw [pN_all, gN_ne hbq2], fun k => by rw [pP_ne hba]; rfl, by rw [zU_ne hba, zU_ne hba, zFi_ne hbq2]⟩
/-! what a call that makes a plan leaves -/
def zXt (ts : List Nat) (G : zG) (s : zS) (G2 : zG) (s2 : zS) : Prop := ∀ b, gT G b ≠ 0 → gT G2 b = gT G b ∧ gN G2 b = gN G b ∧ (∀ k, gP G2 b k = gP G b k) ∧ (gT G b ∉ ts → s2 b = s b)
theorem zXt_fr {ts : List Nat} {G : zG} {s s2 : zS} (h : zFr ts G s s2) : zXt ts G s G s2 := fun b _ => ⟨rfl, rfl, fun _ => rfl, h b⟩
theorem zXt_new {ts ts2 : List Nat} {G G2 : zG} {s s1 s2 s3 : zS} (h1 : zFr ts G s s1) (h2 : ∀ b, gT G b ≠ 0 → gT G2 b = gT G b ∧ gN G2 b = gN G b ∧ (∀ k, gP G2 b k = gP G b k) ∧ s2 b = s1 b) (h3 : zFr ts2 G2 s2 s3) (hs : ∀ t ∈ ts2, t ∈ ts) : zXt ts G s G2 s3 := fun b hb => by
  obtain ⟨e1, e2, e3, e4⟩ := h2 b hb
  exact ⟨e1, e2, e3, fun ht => by rw [h3 b (fun z => ht (hs _ (by rw [← e1]; exact z))), e4, h1 b ht]⟩
theorem zXt_pre {ts ts2 : List Nat} {G G2 : zG} {s s1 s2 : zS} (h1 : zFr ts G s s1) (h2 : zXt ts2 G s1 G2 s2) (hs : ∀ t ∈ ts2, t ∈ ts) : zXt ts G s G2 s2 := fun b hb => by
  obtain ⟨e1, e2, e3, e4⟩ := h2 b hb
  exact ⟨e1, e2, e3, fun ht => by rw [e4 (fun z => ht (hs _ z)), h1 b ht]⟩
theorem zXt_app {ts ts1 ts2 : List Nat} {G G2 : zG} {s s1 s2 : zS} (h1 : zXt ts1 G s G2 s1) (h2 : zFr ts2 G2 s1 s2) (hs1 : ∀ t ∈ ts1, t ∈ ts) (hs : ∀ t ∈ ts2, t ∈ ts) : zXt ts G s G2 s2 := fun b hb => by
  obtain ⟨e1, e2, e3, e4⟩ := h1 b hb
  exact ⟨e1, e2, e3, fun ht => by rw [h2 b (fun z => ht (hs _ (by rw [← e1]; exact z))), e4 (fun z => ht (hs1 _ z))]⟩
set_option maxHeartbeats 4000000 in
set_option maxRecDepth 20000 in
theorem c_X3_setPlan {E : zE} {l : Launch} (hst : l.stackTraces = false) (a : Nat) (x1 : Int) (b2 : Nat) : Con E l yX3_setPlan cX3_setPlan 3 none { frames := 0, cells := 0, slots := 0, locals := 0 } (fun G s vs => vs = [.ref a, .int (zI x1), .ref b2] ∧ zGK G ∧ zSK G s ∧ (gT G a = 4) ∧ ((-2147483648) ≤ x1 ∧ x1 ≤ 2147483647) ∧ (gT G b2 = 8)) (fun G s _ => pV (fun G2 s2 => G2 = G ∧ zSK G s2 ∧ zFr [49] G s s2 ∧ True)) := by
  refine Con.mk hst (by decide) (fun G s vs h => by rw [h.1]; exact Nat.le_of_ble_eq_true rfl) ?_
  rintro X G s0 vs ⟨rfl, hG, hS0, ha, hx1, hb2⟩ rfl hx hq
  show JJ X E 3 G s0 0 0 [(0, .ref a), (1, .int (zI x1)), (2, .ref b2)] 0 []
  refine j_iload_n hx 1 dX3_setPlan_0 rfl ?_
  refine j_if_lt hx 20 dX3_setPlan_1 rfl (by omega) (fun h1 => ?_) (fun h1 => ?_)
  · skip
    exact j_vret hx hq rfl (by decide) (by decide) dX3_setPlan_20 ⟨rfl, rfl, hS0, zFr_rf, trivial⟩
  · skip
    refine j_iload_n hx 1 dX3_setPlan_4 rfl ?_
    refine j_aload_n hx 0 dX3_setPlan_5 rfl ?_
    refine g4_3 hx hG ha kf_RX3_24 dX3_setPlan_6 ?_
    refine j_alen hx hG (zr (k := 3) (t2 := 49) hG ha rfl) (by decide) (by decide) (zlen hG (zr (k := 3) (t2 := 49) hG ha rfl) (n := 6) rfl rfl) dX3_setPlan_9 ?_
    refine j_icmp_ge hx 20 dX3_setPlan_10 rfl (by omega) ⟨by decide, by decide⟩ (fun h2 => ?_) (fun h2 => ?_)
    · skip
      exact j_vret hx hq rfl (by decide) (by decide) dX3_setPlan_20 ⟨rfl, rfl, hS0, zFr_rf, trivial⟩
    · skip
      refine j_aload_n hx 0 dX3_setPlan_13 rfl ?_
      refine g4_3 hx hG ha kf_RX3_24 dX3_setPlan_14 ?_
      refine j_iload_n hx 1 dX3_setPlan_17 rfl ?_
      refine j_aload_n hx 2 dX3_setPlan_18 rfl ?_
      refine j_aast6 hx hG (zr (k := 3) (t2 := 49) hG ha rfl) (by decide) rfl hb2 (by decide) rfl rfl rfl rfl (zlen hG (zr (k := 3) (t2 := 49) hG ha rfl) (n := 6) rfl rfl) (by omega) (by omega) dX3_setPlan_19 ?_
      obtain ⟨s1, e_s1⟩ : ∃ z, z = zU s0 (gP G a 3) (x1).toNat ((b2 : Int) + 1) := ⟨_, rfl⟩
      rw [← e_s1]
      have hS_s1 : zSK G s1 := by rw [e_s1]; exact zSK_d hS0 (zr (k := 3) (t2 := 49) hG ha rfl) (fun _ => rfl) (fun _ => rfl) rfl (zdyn hb2)
      exact j_vret hx hq rfl (by decide) (by decide) dX3_setPlan_20 ⟨rfl, rfl, hS_s1, (zFr_u zFr_rf e_s1 (zr (k := 3) (t2 := 49) hG ha rfl) (by decide)), trivial⟩

theorem lk_RX11_354 : LkV RX11 354 RX7 yX7_read cX7_read 2 none 1 := ⟨km_RX11_354, ki_yX7_read, ks_RX7_yX7_read, kn_RX7, kc_yX7_read, rfl, by decide +kernel, by decide +kernel, by decide +kernel⟩
theorem lk_RX11_355 : LkI RX11 355 yX7_init_ cX7_init_ 2 1 := ⟨km_RX11_355, ki_yX7_init_, kn_RX7, kc_yX7_init_, rfl, by decide +kernel, by decide +kernel, by decide +kernel⟩
theorem lk_RX11_358 : LkV RX11 358 RX3 yX3_setPlan cX3_setPlan 3 none 2 := ⟨km_RX11_358, ki_yX3_setPlan, ks_RX3_yX3_setPlan, kn_RX3, kc_yX3_setPlan, rfl, by decide +kernel, by decide +kernel, by decide +kernel⟩
set_option maxHeartbeats 4000000 in
set_option maxRecDepth 20000 in
theorem c_X11_takePlan {E : zE} {l : Launch} (hst : l.stackTraces = false) (a : Nat) (x1 : Int) (x2 : Int) : Con E l yX11_takePlan cX11_takePlan 3 (some .int) { frames := 29, cells := 2, slots := 152, locals := 729 } (fun G s vs => vs = [.ref a, .int (zI x1), .int (zI x2)] ∧ zGK G ∧ zSK G s ∧ (gT G a = 12) ∧ ((-2147483648) ≤ x1 ∧ x1 ≤ 2147483647) ∧ (0 ≤ x2 ∧ x2 ≤ 150)) (fun G s _ => pI (fun r G2 s2 => zGK G2 ∧ zSK G2 s2 ∧ zXt [5, 8, 10, 46, 49] G s G2 s2 ∧ ((-2147483648) ≤ r ∧ r ≤ 2147483647))) := by
  refine Con.mk hst (by decide) (fun G s vs h => by rw [h.1]; exact Nat.le_of_ble_eq_true rfl) ?_
  rintro X G s0 vs ⟨rfl, hG, hS0, ha, hx1, hx2⟩ rfl hx hq
  show JJ X E 3 G s0 0 0 [(0, .ref a), (1, .int (zI x1)), (2, .int (zI x2))] 0 []
  refine j_aload_n hx 0 dX11_takePlan_0 rfl ?_
  refine g12_0 hx hG ha kf_RX11_10 dX11_takePlan_1 ?_
  refine j_iload_n hx 2 dX11_takePlan_4 rfl ?_
  refine j_callV hx hG (c_X9_open hst (gP G a 0) x2) lk_RX11_102 (zr (k := 0) (t2 := 10) hG ha rfl) (by decide) rfl rfl rfl rfl [.int (zI x2)] ⟨rfl, hG, hS0, (zr (k := 0) (t2 := 10) hG ha rfl), (by omega)⟩ rfl rfl ⟨by decide, by decide⟩ ⟨by decide, by decide⟩ (k2 := 0) (n2 := 0) rfl rfl (Nat.le_of_ble_eq_true rfl) dX11_takePlan_5 (kVM (fun s1 hS_s1 hF_s1 q2 => ?_))
  refine j_aload_n hx 0 dX11_takePlan_8 rfl ?_
  refine g12_3 hx hG ha kf_RX11_29 dX11_takePlan_9 ?_
  refine j_aload_n hx 0 dX11_takePlan_12 rfl ?_
  refine g12_0 hx hG ha kf_RX11_10 dX11_takePlan_13 ?_
  refine j_callV hx hG (c_X7_read hst (gP G a 3) (gP G a 0)) lk_RX11_354 (zr (k := 3) (t2 := 8) hG ha rfl) (by decide) rfl rfl rfl rfl [.ref (gP G a 0)] ⟨rfl, hG, hS_s1, (zr (k := 3) (t2 := 8) hG ha rfl), (zr (k := 0) (t2 := 10) hG ha rfl)⟩ rfl rfl ⟨by decide, by decide⟩ ⟨by decide, by decide⟩ (k2 := 0) (n2 := 0) rfl rfl (Nat.le_of_ble_eq_true rfl) dX11_takePlan_16 (kVM (fun s2 hS_s2 hF_s2 q4 => ?_))
  refine j_aload_n hx 0 dX11_takePlan_19 rfl ?_
  refine g12_0 hx hG ha kf_RX11_10 dX11_takePlan_20 ?_
  have f5 := zf hS_s2 (zr (k := 0) (t2 := 10) hG ha rfl) (k := 4) rfl
  refine gN10_4 hx hG (zr (k := 0) (t2 := 10) hG ha rfl) kf_RX11_109 rfl dX11_takePlan_23 ?_
  refine j_if_ne hx 62 dX11_takePlan_26 rfl (by omega) (fun h6 => ?_) (fun h6 => ?_)
  · skip
    refine j_aload_n hx 0 dX11_takePlan_62 rfl ?_
    refine g12_0 hx hG ha kf_RX11_10 dX11_takePlan_63 ?_
    refine j_iconst hx dX11_takePlan_66 ?_
    refine j_callV hx hG (c_X9_close hst (gP G a 0) 1) lk_RX11_130 (zr (k := 0) (t2 := 10) hG ha rfl) (by decide) rfl rfl rfl rfl [.int (zI 1)] ⟨rfl, hG, hS_s2, (zr (k := 0) (t2 := 10) hG ha rfl), (by omega)⟩ rfl rfl ⟨by decide, by decide⟩ ⟨by decide, by decide⟩ (k2 := 0) (n2 := 0) rfl rfl (Nat.le_of_ble_eq_true rfl) dX11_takePlan_67 (kIM (fun v7 s3 hS_s3 hF_s3 q8 => ?_))
    exact j_iret hx hq rfl (by decide) (by decide) dX11_takePlan_70 ⟨v7, rfl, hG, hS_s3, zXt_fr (zFr_t (zFr_t (zFr_t zFr_rf hF_s1 (by decide)) hF_s2 (by decide)) hF_s3 (by decide)), (by omega)⟩
  · skip
    refine j_aload_n hx 0 dX11_takePlan_29 rfl ?_
    refine g12_6 hx hG ha kf_RX11_48 dX11_takePlan_30 ?_
    refine j_iload_n hx 1 dX11_takePlan_33 rfl ?_
    refine j_newO hx hG (t := 28) inX7 tyX7_ok kl_RX11_26 kt_RX7 kn_RX7 rfl hf_8 he_8 ⟨Nat.le_of_ble_eq_true rfl, Nat.le_of_ble_eq_true rfl⟩ dX11_takePlan_34 (fun q1 hq1 => ?_)
    have hG1 := zGK_push hG hq1 ar_28_0
    have ha1 : gT (zPush G q1 28 0) a = 12 := gT_put hq1 ha (by decide)
    have hS1 := zSK_push hS_s2 hq1 ar_28_0
    refine j_dup hx dX11_takePlan_37 rfl ?_
    refine j_aload_n hx 0 dX11_takePlan_38 rfl ?_
    refine g12_3 hx hG1 ha1 kf_RX11_29 dX11_takePlan_39 ?_
    refine j_callI hx (c_X7_init_ hst q1 (gP G a 3)) lk_RX11_355 [.ref (gP G a 3)] ⟨rfl, hG1, hS1, gT_eq, gT_put hq1 (zr (k := 3) (t2 := 8) hG ha rfl) (by decide)⟩ rfl rfl ⟨by decide, by decide⟩ ⟨by decide, by decide⟩ (k2 := 2) (n2 := 152) rfl rfl (Nat.le_of_ble_eq_true rfl) dX11_takePlan_42 ?_
    rintro _ G2 s4 ⟨rfl, hG2, hS_s4, hp2, hY2⟩
    have hX2 : ∀ b, gT G b ≠ 0 → gT G2 b = gT G b ∧ gN G2 b = gN G b ∧ (∀ k, gP G2 b k = gP G b k) ∧ s4 b = s2 b := fun b hb => by
      have hbq : b ≠ q1 := fun e => hb (by rw [e]; exact hq1)
      obtain ⟨e1, e2, e3, e4⟩ := hY2 b hbq (by rw [gT_ne hbq]; exact hb)
      exact ⟨by rw [e1, gT_ne hbq], by rw [e2, gN_ne hbq], e3, by rw [e4, zZ_ne hbq]⟩
    have ha2 : gT G2 a = 12 := by rw [(hX2 a (by rw [ha]; decide)).1]; exact ha
    have ge := (hX2 a (by rw [ha]; decide)).2.2.1
    show JJ X E 3 G2 s4 2 152 [(0, .ref a), (1, .int (zI x1)), (2, .int (zI x2))] 45 [.ref q1, .int (zI x1), .ref (gP G a 6)]
    rw [← ge 6]
    refine j_callV hx hG2 (c_X3_setPlan hst (gP G2 a 6) x1 q1) lk_RX11_358 (zr (k := 6) (t2 := 4) hG2 ha2 rfl) (by decide) rfl rfl rfl rfl [.int (zI x1), .ref q1] ⟨rfl, hG2, hS_s4, (zr (k := 6) (t2 := 4) hG2 ha2 rfl), (by omega), hp2⟩ rfl rfl ⟨by decide, by decide⟩ ⟨by decide, by decide⟩ (k2 := 2) (n2 := 152) rfl rfl (Nat.le_of_ble_eq_true rfl) dX11_takePlan_45 (kVM (fun s5 hS_s5 hF_s5 q10 => ?_))
    refine j_aload_n hx 0 dX11_takePlan_48 rfl ?_
    refine g12_9 hx hG2 ha2 kf_RX11_69 dX11_takePlan_49 ?_
    refine j_aload_n hx 0 dX11_takePlan_52 rfl ?_
    refine g12_6 hx hG2 ha2 kf_RX11_48 dX11_takePlan_53 ?_
    have f11 := zf hS_s4 (zr (k := 6) (t2 := 4) hG2 ha2 rfl) (k := 10) rfl
    refine gN4_10 hx hG2 (zr (k := 6) (t2 := 4) hG2 ha2 rfl) kf_RX11_165 (v := (s4 (gP G2 a 6) 10)) (by rw [(zFr_g hF_s5 (zr (k := 6) (t2 := 4) hG2 ha2 rfl) (by decide))]) dX11_takePlan_56 ?_
    refine j_callV hx hG2 (c_X4_settle hst (gP G2 a 9) ((s4 (gP G2 a 6) 10))) lk_RX11_124 (zr (k := 9) (t2 := 5) hG2 ha2 rfl) (by decide) rfl rfl rfl rfl [.int (zI ((s4 (gP G2 a 6) 10)))] ⟨rfl, hG2, hS_s5, (zr (k := 9) (t2 := 5) hG2 ha2 rfl), (by omega)⟩ rfl rfl ⟨by decide, by decide⟩ ⟨by decide, by decide⟩ (k2 := 2) (n2 := 152) rfl rfl (Nat.le_of_ble_eq_true rfl) dX11_takePlan_59 (kVM (fun s6 hS_s6 hF_s6 q13 => ?_))
    refine j_aload_n hx 0 dX11_takePlan_62 rfl ?_
    refine g12_0 hx hG2 ha2 kf_RX11_10 dX11_takePlan_63 ?_
    refine j_iconst hx dX11_takePlan_66 ?_
    refine j_callV hx hG2 (c_X9_close hst (gP G2 a 0) 1) lk_RX11_130 (zr (k := 0) (t2 := 10) hG2 ha2 rfl) (by decide) rfl rfl rfl rfl [.int (zI 1)] ⟨rfl, hG2, hS_s6, (zr (k := 0) (t2 := 10) hG2 ha2 rfl), (by omega)⟩ rfl rfl ⟨by decide, by decide⟩ ⟨by decide, by decide⟩ (k2 := 2) (n2 := 152) rfl rfl (Nat.le_of_ble_eq_true rfl) dX11_takePlan_67 (kIM (fun v14 s7 hS_s7 hF_s7 q15 => ?_))
    exact j_iret hx hq rfl (by decide) (by decide) dX11_takePlan_70 ⟨v14, rfl, hG2, hS_s7, zXt_new (ts2 := [5, 8, 10, 46, 49]) (zFr_t (zFr_t zFr_rf hF_s1 (by decide)) hF_s2 (by decide)) hX2 (zFr_t (zFr_t (zFr_t zFr_rf hF_s5 (by decide)) hF_s6 (by decide)) hF_s7 (by decide)) (by decide), (by omega)⟩

theorem lk_RX11_143 : LkV RX11 143 RX11 yX11_takePlan cX11_takePlan 3 (some .int) 2 := ⟨km_RX11_143, ki_yX11_takePlan, ks_RX11_yX11_takePlan, kn_RX11, kc_yX11_takePlan, rfl, by decide +kernel, by decide +kernel, by decide +kernel⟩
set_option maxHeartbeats 4000000 in
set_option maxRecDepth 20000 in
theorem c_X11_plan {E : zE} {l : Launch} (hst : l.stackTraces = false) (a : Nat) (x1 : Int) (x2 : Int) : ConX E l yX11_plan cX11_plan 3 (some .int) { frames := 30, cells := 4, slots := 164, locals := 751 } (fun G s vs => vs = [.ref a, .int (zI x1), .int (zI x2)] ∧ zGK G ∧ zSK G s ∧ (gT G a = 12) ∧ ((-2147483648) ≤ x1 ∧ x1 ≤ 2147483647) ∧ ((-2147483648) ≤ x2 ∧ x2 ≤ 2147483647)) (fun G s _ => pI (fun r G2 s2 => zGK G2 ∧ zSK G2 s2 ∧ zXt [5, 8, 10, 46, 49] G s G2 s2 ∧ ((-2147483648) ≤ r ∧ r ≤ 2147483647))) (fun G s _ Ex G2 s2 => G2 = G ∧ zSK G s2 ∧ zFr [5, 8, 10, 12, 46, 49] G s s2 ∧ ((Ex = "java/lang/IllegalArgumentException" ∧ (True)) ∨ (Ex = "java/util/NoSuchElementException" ∧ (True)))) := by
  refine ConX.mk hst (by decide) (fun G s vs h => by rw [h.1]; exact Nat.le_of_ble_eq_true rfl) ?_
  rintro X G s0 vs ⟨rfl, hG, hS0, ha, hx1, hx2⟩ rfl hx hq
  show JJ X E 3 G s0 0 0 [(0, .ref a), (1, .int (zI x1)), (2, .int (zI x2))] 0 []
  refine j_aload_n hx 0 dX11_plan_0 rfl ?_
  refine j_iload_n hx 1 dX11_plan_1 rfl ?_
  refine j_callVX hx hq hG (c_X11_needPlayer hst a x1) lk_RX11_134 ha (by decide) rfl rfl rfl rfl [.int (zI x1)] ⟨rfl, hG, hS0, ha, (by omega)⟩ rfl rfl ⟨by decide, by decide⟩ ⟨by decide, by decide⟩ (k2 := 1) (n2 := 6) rfl rfl (Nat.le_of_ble_eq_true rfl) ⟨by decide, by decide⟩ dX11_plan_2 (by rintro Ex9 G9 s9 ⟨rfl, hS9, hF9, e9, c9⟩; exact ⟨rfl, hS9, (zFr_t zFr_rf hF9 (by decide)), Or.inr ⟨e9, by first | trivial | omega⟩⟩) (kVP (fun q2 => ?_))
  refine j_aload_n hx 0 dX11_plan_5 rfl ?_
  refine j_iload_n hx 2 dX11_plan_6 rfl ?_
  refine j_iconst hx dX11_plan_7 ?_
  refine j_sipush hx dX11_plan_8 rfl ?_
  refine j_aload_n hx 0 dX11_plan_11 rfl ?_
  refine g12_0 hx hG ha kf_RX11_10 dX11_plan_12 ?_
  have f3 := zf hS0 (zr (k := 0) (t2 := 10) hG ha rfl) (k := 1) rfl
  refine gN10_1 hx hG (zr (k := 0) (t2 := 10) hG ha rfl) kf_RX11_94 rfl dX11_plan_15 ?_
  refine j_mmin hx km_RX11_137 kst_min kn_RJ9 kc_Lib_Math_min_name ⟨by decide, by decide⟩ (by omega) ⟨by decide, Nat.le_of_ble_eq_true rfl⟩ ⟨by decide, by decide⟩ dX11_plan_18 (fun v4 f5 f6 f7 => ?_)
  refine j_callVX hx hq hG (c_X11_needRange hst a x2 0 v4) lk_RX11_98 ha (by decide) rfl rfl rfl rfl [.int (zI x2), .int (zI 0), .int (zI v4)] ⟨rfl, hG, hS0, ha, (by omega), (by omega), (by omega)⟩ rfl rfl ⟨by decide, by decide⟩ ⟨by decide, by decide⟩ (k2 := 2) (n2 := 12) rfl rfl (Nat.le_of_ble_eq_true rfl) ⟨by decide, by decide⟩ dX11_plan_21 (by rintro Ex9 G9 s9 ⟨rfl, hS9, hF9, e9, c9⟩; exact ⟨rfl, hS9, (zFr_t zFr_rf hF9 (by decide)), Or.inl ⟨e9, by first | trivial | omega⟩⟩) (kVP (fun q9 => ?_))
  refine j_aload_n hx 0 dX11_plan_24 rfl ?_
  refine j_iload_n hx 1 dX11_plan_25 rfl ?_
  refine j_iload_n hx 2 dX11_plan_26 rfl ?_
  refine j_callV hx hG (c_X11_takePlan hst a x1 x2) lk_RX11_143 ha (by decide) rfl rfl rfl rfl [.int (zI x1), .int (zI x2)] ⟨rfl, hG, hS0, ha, (by omega), (by omega)⟩ rfl rfl ⟨by decide, by decide⟩ ⟨by decide, by decide⟩ (k2 := 4) (n2 := 164) rfl rfl (Nat.le_of_ble_eq_true rfl) dX11_plan_27 ?_
  rintro _ G9 s9 ⟨r9, rfl, hG9, hS9, hX9, h9⟩
  exact j_iret hx hq.r rfl (by decide) (by decide) dX11_plan_30 ⟨r9, rfl, hG9, hS9, zXt_pre zFr_rf hX9 (by decide), h9⟩

set_option maxHeartbeats 4000000 in
set_option maxRecDepth 20000 in
theorem c_X11_guess {E : zE} {l : Launch} (hst : l.stackTraces = false) (a : Nat) (x1 : Int) (x2 : Int) : ConX E l yX11_guess cX11_guess 3 (some .int) { frames := 30, cells := 4, slots := 164, locals := 751 } (fun G s vs => vs = [.ref a, .int (zI x1), .int (zI x2)] ∧ zGK G ∧ zSK G s ∧ (gT G a = 12) ∧ ((-2147483648) ≤ x1 ∧ x1 ≤ 2147483647) ∧ ((-2147483648) ≤ x2 ∧ x2 ≤ 2147483647)) (fun G s _ => pI (fun r G2 s2 => zGK G2 ∧ zSK G2 s2 ∧ zXt [5, 8, 10, 46, 49] G s G2 s2 ∧ ((-2147483648) ≤ r ∧ r ≤ 2147483647))) (fun G s _ Ex G2 s2 => G2 = G ∧ zSK G s2 ∧ zFr [5, 8, 10, 12, 46, 49] G s s2 ∧ ((Ex = "java/lang/IllegalArgumentException" ∧ (True)) ∨ (Ex = "java/util/NoSuchElementException" ∧ (True)))) := by
  refine ConX.mk hst (by decide) (fun G s vs h => by rw [h.1]; exact Nat.le_of_ble_eq_true rfl) ?_
  rintro X G s0 vs ⟨rfl, hG, hS0, ha, hx1, hx2⟩ rfl hx hq
  show JJ X E 3 G s0 0 0 [(0, .ref a), (1, .int (zI x1)), (2, .int (zI x2))] 0 []
  refine j_aload_n hx 0 dX11_guess_0 rfl ?_
  refine j_iload_n hx 1 dX11_guess_1 rfl ?_
  refine j_callVX hx hq hG (c_X11_needPlayer hst a x1) lk_RX11_134 ha (by decide) rfl rfl rfl rfl [.int (zI x1)] ⟨rfl, hG, hS0, ha, (by omega)⟩ rfl rfl ⟨by decide, by decide⟩ ⟨by decide, by decide⟩ (k2 := 1) (n2 := 6) rfl rfl (Nat.le_of_ble_eq_true rfl) ⟨by decide, by decide⟩ dX11_guess_2 (by rintro Ex9 G9 s9 ⟨rfl, hS9, hF9, e9, c9⟩; exact ⟨rfl, hS9, (zFr_t zFr_rf hF9 (by decide)), Or.inr ⟨e9, by first | trivial | omega⟩⟩) (kVP (fun q2 => ?_))
  refine j_aload_n hx 0 dX11_guess_5 rfl ?_
  refine j_iload_n hx 2 dX11_guess_6 rfl ?_
  refine j_iconst hx dX11_guess_7 ?_
  refine j_sipush hx dX11_guess_8 rfl ?_
  refine j_aload_n hx 0 dX11_guess_11 rfl ?_
  refine g12_0 hx hG ha kf_RX11_10 dX11_guess_12 ?_
  have f3 := zf hS0 (zr (k := 0) (t2 := 10) hG ha rfl) (k := 1) rfl
  refine gN10_1 hx hG (zr (k := 0) (t2 := 10) hG ha rfl) kf_RX11_94 rfl dX11_guess_15 ?_
  refine j_mmin hx km_RX11_137 kst_min kn_RJ9 kc_Lib_Math_min_name ⟨by decide, by decide⟩ (by omega) ⟨by decide, Nat.le_of_ble_eq_true rfl⟩ ⟨by decide, by decide⟩ dX11_guess_18 (fun v4 f5 f6 f7 => ?_)
  refine j_callVX hx hq hG (c_X11_needRange hst a x2 0 v4) lk_RX11_98 ha (by decide) rfl rfl rfl rfl [.int (zI x2), .int (zI 0), .int (zI v4)] ⟨rfl, hG, hS0, ha, (by omega), (by omega), (by omega)⟩ rfl rfl ⟨by decide, by decide⟩ ⟨by decide, by decide⟩ (k2 := 2) (n2 := 12) rfl rfl (Nat.le_of_ble_eq_true rfl) ⟨by decide, by decide⟩ dX11_guess_21 (by rintro Ex9 G9 s9 ⟨rfl, hS9, hF9, e9, c9⟩; exact ⟨rfl, hS9, (zFr_t zFr_rf hF9 (by decide)), Or.inl ⟨e9, by first | trivial | omega⟩⟩) (kVP (fun q9 => ?_))
  refine j_aload_n hx 0 dX11_guess_24 rfl ?_
  refine j_iconst hx dX11_guess_25 ?_
  refine j_iload_n hx 1 dX11_guess_26 rfl ?_
  refine j_iadd hx (r := x1 + 3) dX11_guess_27 (by omega) ?_
  refine j_norm (fun v10 f11 f12 f13 => ?_)
  refine j_iload_n hx 2 dX11_guess_28 rfl ?_
  refine j_callV hx hG (c_X11_takePlan hst a v10 x2) lk_RX11_143 ha (by decide) rfl rfl rfl rfl [.int (zI v10), .int (zI x2)] ⟨rfl, hG, hS0, ha, (by omega), (by omega)⟩ rfl rfl ⟨by decide, by decide⟩ ⟨by decide, by decide⟩ (k2 := 4) (n2 := 164) rfl rfl (Nat.le_of_ble_eq_true rfl) dX11_guess_29 ?_
  rintro _ G9 s9 ⟨r9, rfl, hG9, hS9, hX9, h9⟩
  exact j_iret hx hq.r rfl (by decide) (by decide) dX11_guess_32 ⟨r9, rfl, hG9, hS9, zXt_pre zFr_rf hX9 (by decide), h9⟩

