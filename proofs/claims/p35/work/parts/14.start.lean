theorem ar_120_1 : zArr 120 1 := ⟨by decide, fun _ => rfl, fun m h => (by cases h; rfl), by decide, fun _ => rfl, fun k r h => (by cases h; exact ⟨by decide, by decide⟩), fun _ => rfl, fun k v h => (by cases h)⟩
theorem lk_RL_104 : LkI RL 104 yX11_init cX11_init 1 0 := ⟨km_RL_104, ki_yX11_init, kn_RX11, kc_yX11_init, rfl, by decide +kernel, by decide +kernel, by decide +kernel⟩
theorem lk_RL_107 : LkI RL 107 yX12_init cX12_init 1 0 := ⟨km_RL_107, ki_yX12_init, kn_RX12, kc_yX12_init, rfl, by decide +kernel, by decide +kernel, by decide +kernel⟩
def tRep : Nat → Nat := fun i => match i with
  | 0 => 0
  | 1 => 1
  | 2 => 2
  | 3 => 3
  | 4 => 4
  | 5 => 5
  | 6 => 6
  | 7 => 7
  | 8 => 8
  | 9 => 9
  | 10 => 10
  | 11 => 11
  | 12 => 12
  | 13 => 13
  | 14 => 14
  | 15 => 17
  | 16 => 18
  | 17 => 19
  | _ => 0
def tWi : Nat → Nat := fun i => match i with
  | 0 => 852
  | 1 => 943
  | 2 => 948
  | 3 => 965
  | 4 => 966
  | 5 => 975
  | 6 => 976
  | 7 => 977
  | 8 => 1052
  | 9 => 1062
  | 10 => 1063
  | 11 => 1064
  | 12 => 1065
  | 13 => 1070
  | 14 => 1071
  | 15 => 1077
  | 16 => 1078
  | 17 => 1079
  | 18 => 1081
  | 19 => 1082
  | 20 => 1843
  | 21 => 1849
  | 22 => 1850
  | 23 => 1851
  | 24 => 1852
  | 25 => 1853
  | 26 => 1854
  | 27 => 1855
  | 28 => 1917
  | 29 => 1922
  | 30 => 1923
  | 31 => 1924
  | 32 => 1925
  | 33 => 1926
  | 34 => 1927
  | 35 => 1928
  | 36 => 1937
  | 37 => 1938
  | _ => 0
def pEx : List Nat := [100, 110, 120, 127, 135, 143, 152, 159, 185, 192, 201, 209, 217, 224, 232, 257, 265, 272]
def pCo : List Nat := [101, 111, 121, 128, 136, 144, 153, 160, 186, 193, 202, 210, 218, 225, 233, 258, 266, 273]
def pAr : List Nat := [102, 112, 122, 129, 137, 145, 154, 161, 187, 194, 203, 211, 219, 226, 234, 259, 267, 274]
def pLe : List Nat := [103, 113, 123, 130, 138, 146, 155, 162, 188, 195, 204, 212, 220, 227, 235, 260, 268, 275]
def pEl : List (List Nat) := [[104, 105, 106, 107, 108, 109], [114, 115, 116, 117, 118, 119], [124, 125, 126], [131, 132, 133, 134], [139, 140, 141, 142], [147, 148, 149, 150, 151], [156, 157, 158], [163, 164, 165, 166], [189, 190, 191], [196, 197, 198, 199, 200], [205, 206, 207, 208], [213, 214, 215, 216], [221, 222, 223], [228, 229, 230, 231], [236, 237, 238, 239], [261, 262, 263, 264], [269, 270, 271], [276, 277]]
def pEq : List Nat := [0, 0, 0, 0, 0, 0, 0, 0, 0, 0, 0, 0, 0, 0, 0, 247, 256, 0, 0, 0, 288, 296, 306, 316, 324, 333, 343, 354, 362, 372, 381, 389, 398, 407, 416, 425, 433, 440]

def G00 : zG := ([], fun _ => 0, fun _ => 0, fun _ _ => 0)
theorem zOK00 {s : zS} : zOK G00 s := ⟨⟨fun a h => absurd rfl h, fun a k t h => (by cases h), fun a n h => (by cases h), fun a => ⟨Nat.zero_le _, fun _ => Nat.zero_le _⟩⟩, ⟨fun a k q h => (by cases h), fun a k q h => absurd h (Nat.not_lt_zero _), fun a k t h => absurd h (Nat.not_lt_zero _)⟩, ⟨fun a k v h => (by cases h), fun a k v h => absurd h (Nat.not_lt_zero _)⟩⟩
set_option maxHeartbeats 4000000 in
set_option maxRecDepth 20000 in
theorem w_start {X : zX} {E : zE} {s0 : zS} {b L0 : Nat} {ys : Nat → Int} (hL : LX X E b) (h0 : L0 ≤ 3072) (hs : ZS X E b L0 ys) (hy : ∀ j, -2147483648 ≤ ys j ∧ ys j ≤ 2147483647) : JJ X E 8 G00 s0 0 0 [(0, .ref b)] 0 [] := by
  have hx := hL.1
  have hst := hx.2.2.2.2.2.2.2.2.2.2.2
  have hO : zOK G00 s0 := zOK00
  refine j_newO hx hO.1 (t := 32) inX11 tyX11_ok kl_RL_8 kt_RX11 kn_RX11 rfl hf_12 he_12 ⟨by decide, by decide⟩ dL_law__0 (fun q1 hq1 => ?_)
  refine j_dup hx dL_law__3 rfl ?_
  have hO1 := zOK_push hO hq1 ar_32_0
  refine j_callI hx (c_X11_init hst q1) lk_RL_104 [] ⟨rfl, hO1, gT_eq, fun k => by rw [zZ_eq]⟩ rfl rfl ⟨by decide, by decide⟩ ⟨by decide, by decide⟩ (k2 := 372) (n2 := 56127) rfl rfl (Nat.le_of_ble_eq_true rfl) dL_law__4 (kV (fun G1 s1 hP1 => ?_))
  obtain ⟨hO2, ha1, hY1, hN1⟩ := hP1
  refine j_astore_n hx [(1, .ref q1), (0, .ref b)] dL_law__7 (by decide) rfl ?_
  refine j_newO hx hO2.1 (t := 33) inX12 tyX12_ok kl_RL_105 kt_RX12 kn_RX12 rfl hf_13 he_13 ⟨by decide, by decide⟩ dL_law__8 (fun q2 hq2 => ?_)
  refine j_dup hx dL_law__11 rfl ?_
  have hO3 := zOK_push hO2 hq2 ar_33_0
  have hC3 : ∀ c, c ≠ q2 → gT (zPush G1 q2 33 0) c ≠ 0 → zCl (gT (zPush G1 q2 33 0) c) := fun c hc hc0 => by
    rw [gT_ne hc] at hc0 ⊢
    by_cases e : c = q1
    · rw [e, ha1]; decide
    · exact hN1 c e ((gT_ne e).trans rfl) hc0
  refine j_callI hx (c_X12_init hst q2) lk_RL_107 [] ⟨rfl, hO3, gT_eq, fun k => by rw [zZ_eq], hC3⟩ rfl rfl ⟨by decide, by decide⟩ ⟨by decide, by decide⟩ (k2 := 409) (n2 := 339630) rfl rfl (Nat.le_of_ble_eq_true rfl) dL_law__12 (kV (fun G4 s4 hP4 => ?_))
  obtain ⟨hG4, hS4, hI4, hm4, hY4⟩ := hP4
  have h12 : q1 ≠ q2 := fun e => by rw [e, hq2] at ha1; cases ha1
  have ha3 : gT (zPush G1 q2 33 0) q1 = 12 := (gT_ne h12).trans ha1
  have ha4 : gT G4 q1 = 12 := (hY4 q1 h12 (by rw [ha3]; decide)).1.trans ha3
  refine j_astore_n hx [(2, .ref q2), (1, .ref q1), (0, .ref b)] dL_law__15 (by decide) rfl ?_
  refine j_iconst hx dL_law__16 ?_
  refine j_newA hx hG4 (atype := .long) (ty := .long) (kd := 3) (t := 120) (N := 1) rfl ka_long rfl (fun _ _ h => h) (a := (1, .inr (.inl (fun _ => zL 0)))) (fun _ => rfl) (fun _ => rfl) rfl (by decide) (by decide) ⟨by decide, by decide⟩ dL_law__17 (fun q3 hq3 => ?_)
  refine j_astore_n hx [(3, .ref q3), (2, .ref q2), (1, .ref q1), (0, .ref b)] dL_law__19 (by decide) rfl ?_
  refine j_iconst hx dL_law__20 ?_
  refine j_istore hx [(4, .int (zI 0)), (3, .ref q3), (2, .ref q2), (1, .ref q1), (0, .ref b)] dL_law__21 (by decide) rfl ?_
  have hX : zXt [] G4 s4 (zPush G4 q3 120 1) (zZero s4 q3) := fun c hc => by
    have e : c ≠ q3 := fun e => hc (by rw [e]; exact hq3)
    exact ⟨gT_ne e, gN_ne e, fun _ => rfl, fun _ => zZ_ne e⟩
  have e24 : zZero s4 q3 q2 24 = s4 q2 24 := by rw [zZ_ne (fun e => by rw [e, hq3] at hm4; cases hm4)]
  have hI : zInv (zPush G4 q3 120 1) (zZero s4 q3) q2 0 := zInv_Xt hI4 (Int.le_refl 0) hG4 hm4 hX (by decide) e24
  exact w_loop hL hs hy h0 512 _ _ 0 0 _ _ (zGK_push hG4 hq3 ar_120_1) (zSK_push hS4 hq3 ar_120_1) hI (by omega) (by omega) (gT_put hq3 ha4 (by decide)) (gT_put hq3 hm4 (by decide)) gT_eq (by omega) (by omega) (by omega) (by omega) (by omega)
theorem w_known {s : State} {b : Nat} (c0 : ClassId) (hts : ∀ w ∈ tblG, w.before #[Value.ref b] s = true) : ∃ f : Nat → ClassId × (Nat → Nat), ∀ k q, vwCl[k]? = some q → u_Kn s q.1 q.2.1 q.2.2 (f k).1 (f k).2 := by
  refine (Classical.skolem (b := fun _ : Nat => ClassId × (Nat → Nat)) (p := fun (k : Nat) (z : ClassId × (Nat → Nat)) => ∀ q, vwCl[k]? = some q → u_Kn s q.1 q.2.1 q.2.2 z.1 z.2)).mp (fun k => ?_)
  match k with
  | 0 => obtain ⟨c, i, h⟩ := u_known hts inX0 (hts _ kt_RX0); exact ⟨(c, i), fun q hq => by cases hq; exact h⟩
  | 1 => obtain ⟨c, i, h⟩ := u_known hts inX1 (hts _ kt_RX1); exact ⟨(c, i), fun q hq => by cases hq; exact h⟩
  | 2 => obtain ⟨c, i, h⟩ := u_known hts inX2 (hts _ kt_RX2); exact ⟨(c, i), fun q hq => by cases hq; exact h⟩
  | 3 => obtain ⟨c, i, h⟩ := u_known hts inX3 (hts _ kt_RX3); exact ⟨(c, i), fun q hq => by cases hq; exact h⟩
  | 4 => obtain ⟨c, i, h⟩ := u_known hts inX4 (hts _ kt_RX4); exact ⟨(c, i), fun q hq => by cases hq; exact h⟩
  | 5 => obtain ⟨c, i, h⟩ := u_known hts inX5 (hts _ kt_RX5); exact ⟨(c, i), fun q hq => by cases hq; exact h⟩
  | 6 => obtain ⟨c, i, h⟩ := u_known hts inX6 (hts _ kt_RX6); exact ⟨(c, i), fun q hq => by cases hq; exact h⟩
  | 7 => obtain ⟨c, i, h⟩ := u_known hts inX7 (hts _ kt_RX7); exact ⟨(c, i), fun q hq => by cases hq; exact h⟩
  | 8 => obtain ⟨c, i, h⟩ := u_known hts inX8 (hts _ kt_RX8); exact ⟨(c, i), fun q hq => by cases hq; exact h⟩
  | 9 => obtain ⟨c, i, h⟩ := u_known hts inX9 (hts _ kt_RX9); exact ⟨(c, i), fun q hq => by cases hq; exact h⟩
  | 10 => obtain ⟨c, i, h⟩ := u_known hts inX10 (hts _ kt_RX10); exact ⟨(c, i), fun q hq => by cases hq; exact h⟩
  | 11 => obtain ⟨c, i, h⟩ := u_known hts inX11 (hts _ kt_RX11); exact ⟨(c, i), fun q hq => by cases hq; exact h⟩
  | 12 => obtain ⟨c, i, h⟩ := u_known hts inX12 (hts _ kt_RX12); exact ⟨(c, i), fun q hq => by cases hq; exact h⟩
  | k + 13 => exact ⟨(c0, fun _ => 0), fun q hq => by cases hq⟩
theorem w_arr {s : State} {b : Nat} {ty : FieldType} (h : (Cond.arrayClass ty).before #[Value.ref b] s = true) : ∃ c, ArrOfT s c ty ∧ s.vm.findClass ("[" ++ ty.toString) = some c := by
  obtain ⟨c, k, comp, h1, h2, h3⟩ := Cond.arrayClass_spec h
  exact ⟨c, fun n z => ⟨fun k h => (by cases h), k, h2, comp, h3⟩, h1⟩
theorem w_arrO {s : State} {b : Nat} {C : String} (h : (Cond.arrayOver (.object C)).before #[Value.ref b] s = true) : ∃ c, ArrOfT s c (.object C) ∧ va_RA s c (.object C) := by
  obtain ⟨comp, c, k, h1, h2, h3, h4, h5⟩ := Cond.arrayOver_spec h
  exact ⟨c, fun n z => ⟨fun k h => (by cases h), k, h3, comp, h4⟩, k, comp, h3, h4, h1, h5⟩
theorem w_nest {w : Cond} (h : isNest w = true) {A : Array Value} {U : State} (hZ : w.before A U = true) : va_Nw w U := by
  cases w <;> first | exact va_Nw.of rfl hZ | exact absurd h Bool.false_ne_true
theorem w_more {w : Cond} (h : isMore w = true) {A : Array Value} {U : State} (hZ : w.before A U = true) : va_Nw w U := by
  cases w <;> first | exact va_Nw.of rfl hZ | exact absurd h Bool.false_ne_true
def tmT : Nat → Term := fun i => Term.string (tOwn (tRep i)) (tIdx (tRep i))
abbrev flatS : List Cond := flatC (Jvm.Cond.and given_1 narrow_1)
set_option maxRecDepth 100000 in
theorem tx_ex : ∀ i, i < txN → flatS[pEx.getD i 0]? = some (Cond.exactly (tmT i) "java/lang/String") := by decide +kernel
set_option maxRecDepth 100000 in
theorem tx_co : ∀ i, i < txN → flatS[pCo.getD i 0]? = some (Cond.eq (.field (tmT i) "java/lang/String" "coder" "B") (.int 0)) := by decide +kernel
set_option maxRecDepth 100000 in
theorem tx_ar : ∀ i, i < txN → flatS[pAr.getD i 0]? = some (Cond.arrayOf (.field (tmT i) "java/lang/String" "value" "[B") .byte) := by decide +kernel
set_option maxRecDepth 100000 in
theorem tx_le : ∀ i, i < txN → flatS[pLe.getD i 0]? = some (Cond.eq (.length (.field (tmT i) "java/lang/String" "value" "[B")) (.int (Int32.ofNat (tLen.getD i 0)))) := by decide +kernel
set_option maxRecDepth 100000 in
theorem tx_el : ∀ i, i < txN → ∀ j, j < tLen.getD i 0 → flatS[(pEl.getD i []).getD j 0]? = some (Cond.eq (.elem (.field (tmT i) "java/lang/String" "value" "[B") (.int (Int32.ofNat j))) (.int ((tByt.getD i []).getD j 0))) := by decide +kernel
set_option maxRecDepth 100000 in
theorem tx_eq : ∀ c, c < tK9 → tRep (tMap c) = c ∨ flatS[pEq.getD c 0]? = some (Cond.eq (tmT (tMap c)) (Term.string (tOwn c) (tIdx c))) := by decide +kernel
theorem tx_map : ∀ c, c < tK9 → tMap c < txN := by decide +kernel
set_option maxRecDepth 100000 in
theorem tx_wd : ∀ c, c < tK9 → lw_tbl[tWi c]? = some (Cond.stringRef (tOwn c) (tIdx c) (tTxt c)) := by decide +kernel
theorem tx_len : ∀ i, i < txN → tLen.getD i 0 < 2 ^ 31 := by decide +kernel
theorem tx_key : ∀ i, i < txN → ∀ j, j < txN → Int32.ofNat (tLen.getD i 0) = Int32.ofNat (tLen.getD j 0) → (∀ k, k < tLen.getD i 0 → k < tLen.getD j 0 → (tByt.getD i []).getD k 0 = (tByt.getD j []).getD k 0) → i = j := by decide +kernel
theorem tx_S {args : Array Value} {s : State} {A : Nat → Prop} (hs : ∀ w ∈ flatS, w.before args s = true) (hA : ∀ a : Nat, a < s.heap.size → ¬ A a) : ∃ adK adV : Nat → Nat, vk_S txN tLen tByt adK adV A s s.heap ∧ ∀ i, i < txN → (tmT i).eval args s none [] s = some (.ref (adK i)) := by
  have h0 : ∀ i : Nat, ∃ q : Nat × Nat, i < txN → (tmT i).eval args s none [] s = some (.ref q.1) ∧ va_O "java/lang/String" q.1 A s s.heap ∧ va_OF "java/lang/String" "coder" "B" (.int 0) q.1 A s s.heap ∧ va_OF "java/lang/String" "value" "[B" (.ref q.2) q.1 A s s.heap ∧ va_T .byte q.2 (tLen.getD i 0) (fun j => .int ((tByt.getD i []).getD j 0)) A s s.heap := by
    intro i
    by_cases hi : i < txN
    · obtain ⟨a, c, cA, kA, q1, q2, q3, q4, q5, q6, -⟩ := Cond.exactly_spec (args := args) (first := s) (o := none) (s := s) (idx := []) (t := tmT i) (cls := "java/lang/String") (hs _ (List.mem_of_getElem? (tx_ex i hi)))
      obtain ⟨t, ht, hT⟩ := va_Tof (f := fun j => .int ((tByt.getD i []).getD j 0)) (A := A) (tx_len i hi) (hs _ (List.mem_of_getElem? (tx_ar i hi))) (va_eqt (hs _ (List.mem_of_getElem? (tx_le i hi)))) (fun j hj => va_eqt (hs _ (List.mem_of_getElem? (tx_el i hi j hj)))) hA
      exact ⟨(a, t), fun _ => ⟨q1, ⟨cA, q3, q5, by rw [q6]; exact q2, hA a (Array.getElem?_eq_some_iff.mp q3).1⟩, vk_OFof q1 (va_eqt (hs _ (List.mem_of_getElem? (tx_co i hi)))) hA, vk_OFof q1 ht hA, hT⟩⟩
    · exact ⟨(0, 0), fun h => absurd h hi⟩
  obtain ⟨ad, had⟩ := Classical.axiomOfChoice h0
  refine ⟨fun i => (ad i).1, fun i => (ad i).2, ⟨fun i hi => (had i hi).2, fun i j hi hj e => ?_⟩, fun i hi => (had i hi).1⟩
  have ea : (ad i).1 = (ad j).1 := e
  obtain ⟨-, -, -, ⟨cf, k, fi, f, cell, f1, f2, f3, f4, f5, f6⟩, hTi⟩ := had i hi
  obtain ⟨-, -, -, ⟨cf2, k2, fi2, f2', cell2, g1, g2, g3, g4, g5, g6⟩, hTj⟩ := had j hj
  rw [f1] at g1
  cases g1
  rw [← ea, f3] at g3
  cases g3
  rw [f5] at g5
  have ev : (ad i).2 = (ad j).2 := Value.ref.inj (Option.some.inj g5)
  obtain ⟨c1, t1, t2, t3, t4, t5, t6, t7⟩ := hTi
  obtain ⟨c2, u1, u2, u3, u4, u5, u6, u7⟩ := hTj
  rw [← ev, t1] at u1
  cases u1
  exact tx_key i hi j hj (t5.symm.trans u5) (fun k hk hk2 => Value.int.inj (Option.some.inj ((t6 k hk).symm.trans (u6 k hk2))))
theorem tx_ext {N : Nat} {len : List Nat} {byt : List (List Int32)} {adK adK2 adV : Nat → Nat} {A : Nat → Prop} {U : State} {H : Heap} (h : vk_S N len byt adK adV A U H) (he : ∀ i, i < N → adK2 i = adK i) : vk_S N len byt adK2 adV A U H := ⟨fun i hi => by rw [he i hi]; exact h.1 i hi, fun i j hi hj e => h.2 i j hi hj (by rw [← he i hi, ← he j hj]; exact e)⟩
def zE0 (f : Nat → ClassId × (Nat → Nat)) (g : Nat → ClassId) (n a1 a2 : Nat) (ad av : Nat → Nat) : zE := ((fun k => (f k).1, fun k => (f k).2), g, n, (fun k => if k = 100 then a1 else if k = 101 then a2 else ad k), av)
/-- YOUR PART: from the entry, for every script of at most 3072 ints, the law comes to its end with true ('hflags': the launch's flags, for a law that throws: no stack traces) -/
theorem whole_start {p : Program} {e : Env} {s : State} {m : MethodId} {below : List Frame} {meth : Method} {c : Code} (l : Launch) (hflags : l.flags = flags0) {b L : Nat} {xs : Nat → Int32} (hL : L ≤ 3072) (C0 : lw_At p s m meth c b L xs) : W p l e room_1 s m #[Value.ref b] below meth c s.heap [] 0 0 (lw_Z below #[Value.ref b] s) (entryFrame m ([Value.ref b] : List Value).toArray 8) := by
  obtain ⟨hx, hb, hr, hml, hown, hts, hX, hbl, hlocks, hgv⟩ := id C0
  have hs := flat_of_before _ hgv
  have hG : ∀ w ∈ tblG, w.before #[Value.ref b] s = true := fun w h => hts w (tblG_in w h)
  have hA : ∀ a : Nat, a < s.heap.size → ¬ (s.heap.size ≤ a) := fun a h => Nat.not_le.mpr h
  obtain ⟨f, hf⟩ := w_known m.cls hG
  obtain ⟨cI, hI1, hI2⟩ := w_arr (hG _ ka_int)
  obtain ⟨cJ, hJ1, hJ2⟩ := w_arr (hG _ ka_long)
  obtain ⟨cB, hB1, hB2⟩ := w_arr (hG _ ka_byte)
  obtain ⟨cZ, hZ1, hZ2⟩ := w_arr (hG _ ka_boolean)
  have hp0 : (Cond.arrayOver (.object "SnapHeaps$Plan")).before #[Value.ref b] s = true := hts _ (List.mem_of_getElem? (i := 312) (by decide +kernel))
  have hb0 : (Cond.arrayOver (.object "SnapHeaps$Board")).before #[Value.ref b] s = true := hts _ (List.mem_of_getElem? (i := 416) (by decide +kernel))
  obtain ⟨cP, hP1, hP2⟩ := w_arrO hp0
  obtain ⟨cO, hO1, hO2⟩ := w_arrO hb0
  obtain ⟨a1, -, -, -, e1, -⟩ := Cond.exactly_spec (hs (Cond.exactly (.string "SnapHeaps" 351) "java/lang/String") (by decide +kernel))
  obtain ⟨a2, -, -, -, e2, -⟩ := Cond.exactly_spec (hs (Cond.exactly (.string "SnapHeaps" 344) "java/lang/String") (by decide +kernel))
  have hth : (Cond.initialized Bundle.tN).before #[Value.ref b] s = true := hts _ (List.mem_of_getElem? (i := 132) (by decide +kernel))
  have hu1 : (Cond.isRef (.static Bundle.tN "UNASSIGNED_STACK" Bundle.steD)).before #[Value.ref b] s = true := hs _ (by decide +kernel)
  have hu2 : (Cond.isRef (.static Bundle.tN "SUPPRESSED_SENTINEL" Bundle.listD)).before #[Value.ref b] s = true := hs _ (by decide +kernel)
  have hc : (Cond.not (.castable "java/lang/IllegalArgumentException" "java/util/NoSuchElementException")).before #[Value.ref b] s = true := hs _ (by decide +kernel)
  obtain ⟨ad, av, hTS, hTE⟩ := tx_S (A := fun q => s.heap.size ≤ q) hs hA
  have hev : ∀ c, c < tK9 → (Term.string (tOwn c) (tIdx c)).eval #[Value.ref b] s none [] s = some (.ref (ad (tMap c))) := fun c hc => by
    rcases tx_eq c hc with h | h
    · have := hTE (tMap c) (tx_map c hc)
      unfold tmT at this
      rw [h] at this
      exact this
    · exact va_eqR (hs _ (List.mem_of_getElem? h)) (hTE (tMap c) (tx_map c hc))
  have hcs : (Term.static "java/lang/String" "COMPACT_STRINGS" "Z").eval #[Value.ref b] s none [] s = some (.int 1) := va_eqt (hs (Cond.eq (.static "java/lang/String" "COMPACT_STRINGS" "Z") (.int 1)) (by decide +kernel))
  have hsf : (Cond.isRef (.static "jdk/internal/util/Preconditions" "SIOOBE_FORMATTER" "Ljava/util/function/BiFunction;")).before #[Value.ref b] s = true := hs _ (by decide +kernel)
  have hst1 : (Cond.initialized "java/lang/String").before #[Value.ref b] s = true := hts _ (List.mem_of_getElem? (i := 138) (by decide +kernel))
  have hpc1 : (Cond.initialized "jdk/internal/util/Preconditions").before #[Value.ref b] s = true := hts _ (List.mem_of_getElem? (i := 140) (by decide +kernel))
  have hlim : ∀ c, c < txN → c ≠ 100 ∧ c ≠ 101 := by decide +kernel
  have had2 : ∀ c, c < txN → (if c = 100 then a1 else if c = 101 then a2 else ad c) = ad c := fun c hc => by rw [if_neg (hlim c hc).1, if_neg (hlim c hc).2]
  obtain ⟨E, rfl⟩ : ∃ E, E = zE0 f (fun k => match k with | 2 => cI | 3 => cJ | 4 => cB | 5 => cZ | 6 => cP | _ => cO) s.heap.size a1 a2 ad av := ⟨_, rfl⟩
  have hK : va_K (fun k => (f k).1, fun k => (f k).2) vwCl [(cI, .int), (cJ, .long), (cB, .byte), (cZ, .boolean), (cP, .object "SnapHeaps$Plan"), (cO, .object "SnapHeaps$Board")] s := by
    refine ⟨hf, fun k q hq => ?_⟩
    match k, hq with
    | 0, hq => cases hq; exact ⟨hI1, hI2⟩
    | 1, hq => cases hq; exact ⟨hJ1, hJ2⟩
    | 2, hq => cases hq; exact ⟨hB1, hB2⟩
    | 3, hq => cases hq; exact ⟨hZ1, hZ2⟩
    | 4, hq => cases hq; exact ⟨hP1, hP2⟩
    | 5, hq => cases hq; exact ⟨hO1, hO2⟩
    | k + 6, hq => cases hq
  have hO : zO (zE0 f (fun k => match k with | 2 => cI | 3 => cJ | 4 => cB | 5 => cZ | 6 => cP | _ => cO) s.heap.size a1 a2 ad av) s s.heap := ⟨hK, fun w hw => w_nest (tblN_is w hw) (hts w (tblN_in w hw)), ⟨vk_R.of (hts _ (List.mem_of_getElem? (i := 800) (by decide +kernel))) e1, tx_ext hTS had2, fun c hc => vk_R.of (hts _ (List.mem_of_getElem? (tx_wd c hc))) ((hev c hc).trans (congrArg (fun z => some (Value.ref z)) (had2 _ (tx_map c hc)).symm)), va_Zof (hts _ (List.mem_of_getElem? (i := 878) (by decide +kernel))) hst1 hcs hA, va_Zqof (hts _ (List.mem_of_getElem? (i := 894) (by decide +kernel))) hpc1 hsf hA⟩, vk_R.of (hts _ (List.mem_of_getElem? (i := 1017) (by decide +kernel))) e2, vx_Zqof (hts _ (List.mem_of_getElem? (i := 787) (by decide +kernel))) hth hu1 hA, vx_Zqof (hts _ (List.mem_of_getElem? (i := 789) (by decide +kernel))) hth hu2 hA, fun w hw => w_more (tblM_is w hw) (hts w (List.mem_filter.mp hw).1), va_AO.of hp0, va_AO.of hb0, va_Nc.of hc⟩
  have hst : l.stackTraces = false := by unfold Launch.stackTraces; rw [hflags]; decide
  have hLX : LX (p, l, e, room_1, s, m, #[Value.ref b], below, meth, c, lw_Z below #[Value.ref b] s) (zE0 f (fun k => match k with | 2 => cI | 3 => cJ | 4 => cB | 5 => cZ | 6 => cP | _ => cO) s.heap.size a1 a2 ad av) b := ⟨⟨hx, hb, hml, hown, hG, hO, hlocks, hr, Nat.le_refl _, rfl, rfl, hst⟩, rfl, rfl, rfl⟩
  have hZS : ZS (p, l, e, room_1, s, m, #[Value.ref b], below, meth, c, lw_Z below #[Value.ref b] s) (zE0 f (fun k => match k with | 2 => cI | 3 => cJ | 4 => cB | 5 => cZ | 6 => cP | _ => cO) s.heap.size a1 a2 ad av) b L (fun j => (xs j).toInt) := by
    refine ⟨?_, hbl, Nat.not_le.mpr hbl⟩
    rw [show (fun j => zI ((fun j => (xs j).toInt) j)) = xs from funext fun j => zI_self _]
    exact hX
  have hW := w_start (s0 := fun _ _ => 0) hLX hL hZS (fun j => zI_rg _)
  have hl := lv_entry ([.ref b]) (n := 8) (Nat.le_of_ble_eq_true rfl)
  rw [lg_entry_eq]
  generalize (lg_sl ([.ref b]) ++ List.replicate (8 - (lg_sl ([.ref b])).length) Slot.unset).toArray = ls at hl ⊢
  have hl : lv_has ls 8 [(0, .ref b)] := hl
  exact hW s.heap [] ls ⟨fun k q h => (by cases h), ⟨fun i j p q h => (by cases h), fun k q h => (by cases h)⟩⟩ va_S.rf hl
-- ===== YOUR PART ENDS =====
set_option maxHeartbeats 4000000 in
theorem lw_walk (l : Launch) (hflags : l.flags = flags0) (b : Addr) (xs : List Int32) : MetFree l x (headSpec (Jvm.Cond.code x code maxLocals ret :: tables_1) room_1) (lw_P b xs) (fun _ _ _ _ _ => True) lw_Q := by
  refine MetFree.of_bodyS (code := code) (maxLocals := maxLocals) (ret := ret) (by decide) ?_ ?_
  · intro args s m h hn
    obtain ⟨meth, c, h1, h2, h3, h4, h5, h6, -, -⟩ := Cond.code_spec hn (atoms_spec (ws := Jvm.Cond.code x code maxLocals ret :: tables_1) h _ List.mem_cons_self)
    exact ⟨meth, c, h1, h2, h3, h4, h5, h6⟩
  · intro p e s m args below meth c s₁ B hml0 hP _
    obtain ⟨rfl, hx, hbd, hgv⟩ := hP
    obtain ⟨scr, harrAt, hlist, hof, hsmall⟩ := hx
    obtain ⟨hcb, hkn, -, -⟩ := State.arrayAt?_spec harrAt
    have hown : s.vm.findClass R_law = some m.cls := findClass_of_methodNamed B.named
    have hts0 : ∀ c ∈ (Jvm.Cond.code x code maxLocals ret :: tables_1), c.before #[Value.ref b] s = true := atoms_spec (ws := Jvm.Cond.code x code maxLocals ret :: tables_1) B.pre
    have hts : ∀ w ∈ lw_tbl, w.before #[Value.ref b] s = true := k2_hts_sels lw_privs (fun w hw => hts0 w (List.mem_cons_of_mem _ hw)) lw_privs_ok
    have hml : c.maxLocals = 8 := B.maxLocals_eq (hts0 _ List.mem_cons_self)
    have X₀ : Stand p l e room_1 s m #[Value.ref b] below meth c s₁ [] 0 0 := Stand.of_body B
    have hh0 : s₁.heap = s.heap := by rw [B.state]; rfl
    have hsz : scr.slots.size = xs.length := by rw [← Array.length_toList, hlist, List.length_map]
    have hval : ∀ j : Nat, j < xs.length → scr.slots[j]? = some (.int (xs.getD j 0)) := fun j hj => by
      rw [← Array.getElem?_toList, hlist]
      simp [hj]
    have hbl : b < s.heap.size := (Array.getElem?_eq_some_iff.mp hcb).1
    have hX : va_X b xs.length (fun j => xs.getD j 0) s s.heap := ⟨scr, hcb, hof, hkn, hsz, hval⟩
    have K : W p l e room_1 s m #[Value.ref b] below meth c s₁.heap [] 0 0 (lw_Z below #[Value.ref b] s) (entryFrame m ([Value.ref b] : List Value).toArray 8) := by
      rw [hh0]
      exact whole_start l hflags hbd ⟨B.exec, B.bytes, B.returns, hml, hown, hts, hX, hbl, B.notSynchronized, hgv⟩
    obtain ⟨t, a1, o, b1, b2, b3⟩ := K s₁ rfl X₀
    exact ⟨t, o, a1, b1, b2, b3⟩
theorem lw_pre_spec {args : Array Value} {s : State} (h : (Jvm.Cond.and given_1 narrow_1).before args s = true) (hr : rest_1_c.before args s = true) : ∃ (b : Addr) (xs : List Int32), lw_P b xs args s := by
  have hs := flat_of_before _ h
  have hq := flat_of_before _ hr
  have hc : (Cond.count 1).before args s = true := hs _ (by decide +kernel)
  have harr : (Cond.arrayOf (.arg 0) .int).before args s = true := hs _ (by decide +kernel)
  have hle : (Cond.le (.length (.arg 0)) (.int 3072)).before args s = true := hs _ (by decide +kernel)
  have hlen : (Cond.isInt (.length (.arg 0))).before args s = true := hq _ (by decide +kernel)
  have hall : (Cond.all (.arg 0) (.isInt (.elem (.arg 0) (.index 0)))).before args s = true := hq _ (by decide +kernel)
  obtain ⟨b, xs, hb, hx⟩ := State.ints_of_pre rfl harr hlen hall
  have hsm : xs.length < 2 ^ 31 := hx.choose_spec.2.2.2
  have hev : (Term.length (.arg 0)).eval args s none [] s = some (.int xs.length.toInt32) := hx.length_eval hb
  have hv := Cond.le_ints hev (show (Term.int 3072).eval args s none [] s = some (.int 3072) from rfl)
  have hd : xs.length.toInt32 ≤ 3072 := by
    simpa [Cond.before, Cond.holds, hv] using hle
  have hN : xs.length ≤ 3072 := (Int32.ofNat_le_ofNat hsm (by decide)).mp (show Int32.ofNat xs.length ≤ Int32.ofNat 3072 from hd)
  exact ⟨b, xs, Cond.one_arg hc (show args[0]? = some (.ref b) from hb), hx, hN, h⟩
theorem lw_comes (l : Launch) (hflags : l.flags = flags0) : Comes l x (Jvm.Cond.code x code maxLocals ret :: tables_1) room_1 (fun tb e args s => Calls_1 tb e args s ∧ rest_1 tb e args s ∧ Pre_1 tb e args s)
    (fun _ _ args s o t => lw_Q args s o t) := by
  intro p e ha hc hk s m args below hf hfit hheap happ hpre
  obtain ⟨b, xs, hP⟩ := lw_pre_spec hpre.2.2 hpre.2.1
  obtain ⟨k, o, h1, h2, h3, hQ⟩ := lw_walk l hflags b xs p e ha hc hk s m args below hf ((Spec.applies_iff_loose hf).mp happ).1 hP trivial
  exact ⟨k, o, h1, h2, h3, hQ⟩
theorem lw_frame {s t : State} {o : Outcome} {args : Array Value} (h : Framed s o t [] 601024 7293034) :
    Framed s o t (fieldLocs frame_1_writes args s ++ arrayLocs frame_1_arrays args s ++ staticLocs frame_1_statics s) 601024 7293034 := h
theorem lw_limb (L : Cond) (hL : ∀ (args : Array Value) (s t : State), L.after args s (.returned (some (.int 1))) t = true) :
    ArmFor flags0 classFile x code maxLocals ret World_1 tables_1 room_1 Calls_1 rest_1 Pre_1
      (fun tb e a s o t => postC L tb e a s o t ∧ Framed s o t (fieldLocs frame_1_writes a s ++ arrayLocs frame_1_arrays a s ++ staticLocs frame_1_statics s) 601024 7293034) := by
  intro l hflags _ _ p e ha hc hk s m args below hf hfit hheap happ hpre
  obtain ⟨k, o, h1, h2, h3, rfl, hF⟩ := lw_comes l hflags p e ha hc hk s m args below hf hfit hheap happ hpre
  exact ⟨k, _, h1, h2, h3, hL args s _, lw_frame hF⟩
theorem i_vc : Claimed_1_1 ∧ Claimed_1_2 := ⟨lw_limb limb_1_1 (fun args s t => by simp [limb_1_1, Cond.after, Cond.holds, Cond.value]), lw_limb limb_1_2 (fun args s t => Cond.after_iff.mpr (by
  first | (rw [show limb_1_2 = Cond.eq .result (.int 1) from rfl, Cond.eq_ints (x := 1) (y := 1) rfl rfl]; simp; done) | (simp [limb_1_2, Cond.value, Term.eval]; done)))⟩
