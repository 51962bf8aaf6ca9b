theorem ar_120_1 : zArr 120 1 := ⟨by decide, fun _ => rfl, fun m h => (by cases h; rfl), by decide, fun _ => rfl, fun k r h => (by cases h; exact ⟨by decide, by decide⟩), fun _ => rfl, fun k v h => (by cases h)⟩
theorem lk_RL_104 : LkI RL 104 yX11_init cX11_init 1 0 := ⟨km_RL_104, ki_yX11_init, kn_RX11, kc_yX11_init, rfl, by decide +kernel, by decide +kernel, by decide +kernel⟩
theorem lk_RL_107 : LkI RL 107 yX12_init cX12_init 1 0 := ⟨km_RL_107, ki_yX12_init, kn_RX12, kc_yX12_init, rfl, by decide +kernel, by decide +kernel, by decide +kernel⟩
def G00 : zG := ([], fun _ => 0, fun _ => 0, fun _ _ => 0)
theorem zOK00 {s : zS} : zOK G00 s := ⟨⟨fun a h => absurd rfl h, fun a k t h => (by cases h), fun a n h => (by cases h), fun a => Nat.zero_le _⟩, ⟨fun a k q h => (by cases h), fun a k q h => absurd h (Nat.not_lt_zero _), fun a k t h => absurd h (Nat.not_lt_zero _)⟩, ⟨fun a k v h => (by cases h), fun a k v h => absurd h (Nat.not_lt_zero _)⟩⟩
set_option maxHeartbeats 4000000 in
set_option maxRecDepth 20000 in
theorem w_start {X : zX} {E : zE} {s0 : zS} {b L0 : Nat} {ys : Nat → Int} (hL : LX X E b) (h0 : L0 ≤ 6) (hs : ZS X E b L0 ys) (hy : ∀ j, -2147483648 ≤ ys j ∧ ys j ≤ 2147483647) : JJ X E 8 G00 s0 0 0 [(0, .ref b)] 0 [] := by
  have hx := hL.1
  have hst := hx.2.2.2.2.2.2.2.2.2.2.2
  have hO : zOK G00 s0 := zOK00
  refine j_newO hx hO.1 (t := 32) inX11 tyX11_ok kl_RL_8 kt_RX11 kn_RX11 rfl hf_12 he_12 ⟨by decide, by decide⟩ dL_law__0 (fun q1 hq1 => ?_)
  refine j_dup hx dL_law__3 rfl ?_
  have hO1 := zOK_push hO hq1 ar_32_0
  refine j_callI hx (c_X11_init hst q1) lk_RL_104 [] ⟨rfl, hO1, gT_eq, fun k => by rw [zZ_eq]⟩ rfl rfl ⟨by decide, by decide⟩ ⟨by decide, by decide⟩ (k2 := 372) (n2 := 56127) rfl rfl (Nat.le_of_ble_eq_true rfl) dL_law__4 (kV (fun G1 s1 hP1 => ?_))
  obtain ⟨hO2, ha1, hY1, hN1⟩ := hP1
  refine j_astore_n hx [(1, .ref q1), (0, .ref b)] dL_law__7 (by decide) rfl ?_
  refine j_newO hx hO2.1 (t := 33) inX12 tyX12_ok kl_RL_105 kt_RX12 kn_RX12 rfl hf_13 he_13 ⟨by decide, by decide⟩ dL_law__8 (fun q2 hq2 => ?_)
  refine j_dup hx dL_law__11 rfl ?_
  have hO3 := zOK_push hO2 hq2 ar_33_0
  have hC3 : ∀ c, c ≠ q2 → gT (zPush G1 q2 33 0) c ≠ 0 → zCl (gT (zPush G1 q2 33 0) c) := fun c hc hc0 => by
    rw [gT_ne hc] at hc0 ⊢
    by_cases e : c = q1
    · rw [e, ha1]; decide
    · exact hN1 c e ((gT_ne e).trans rfl) hc0
  refine j_callI hx (c_X12_init hst q2) lk_RL_107 [] ⟨rfl, hO3, gT_eq, fun k => by rw [zZ_eq], hC3⟩ rfl rfl ⟨by decide, by decide⟩ ⟨by decide, by decide⟩ (k2 := 409) (n2 := 339630) rfl rfl (Nat.le_of_ble_eq_true rfl) dL_law__12 (kV (fun G4 s4 hP4 => ?_))
  obtain ⟨hG4, hS4, hF4, hm4, hY4⟩ := hP4
  have h12 : q1 ≠ q2 := fun e => by rw [e, hq2] at ha1; cases ha1
  have ha3 : gT (zPush G1 q2 33 0) q1 = 12 := (gT_ne h12).trans ha1
  have ha4 : gT G4 q1 = 12 := (hY4 q1 h12 (by rw [ha3]; decide)).1.trans ha3
  refine j_astore_n hx [(2, .ref q2), (1, .ref q1), (0, .ref b)] dL_law__15 (by decide) rfl ?_
  refine j_iconst hx dL_law__16 ?_
  refine j_newA hx hG4 (atype := .long) (ty := .long) (kd := 3) (t := 120) (N := 1) rfl ka_long rfl (fun _ _ h => h) (a := (1, .inr (.inl (fun _ => zL 0)))) (fun _ => rfl) (fun _ => rfl) rfl (by decide) (by decide) ⟨by decide, by decide⟩ dL_law__17 (fun q3 hq3 => ?_)
  refine j_astore_n hx [(3, .ref q3), (2, .ref q2), (1, .ref q1), (0, .ref b)] dL_law__19 (by decide) rfl ?_
  refine j_iconst hx dL_law__20 ?_
  refine j_istore hx [(4, .int (zI 0)), (3, .ref q3), (2, .ref q2), (1, .ref q1), (0, .ref b)] dL_law__21 (by decide) rfl ?_
  have hF1 : ∀ c k v, f0 (gT (zPush G4 q3 120 1) c) k = some v → zZero s4 q3 c k = v := fun c k v hv => by
    by_cases e : c = q3
    · rw [e, gT_eq] at hv; cases hv
    · rw [gT_ne e] at hv; rw [zZ_ne e]; exact hF4.1 c k v hv
  have hF2 : ∀ c k v, k < gN (zPush G4 q3 120 1) c → a0 (gT (zPush G4 q3 120 1) c) k = some v → zZero s4 q3 c k = v := fun c k v hk hv => by
    by_cases e : c = q3
    · rw [e, gT_eq] at hv; cases hv
    · rw [gT_ne e] at hv; rw [gN_ne e] at hk; rw [zZ_ne e]; exact hF4.2 c k v hk hv
  have hF : zS0 (zPush G4 q3 120 1) (zZero s4 q3) := ⟨hF1, hF2⟩
  exact w_main hL (zGK_push hG4 hq3 ar_120_1) (zSK_push hS4 hq3 ar_120_1) hF (gT_put hq3 ha4 (by decide)) (gT_put hq3 hm4 (by decide)) gT_eq h0 hs hy
theorem w_known {s : State} {b : Nat} (c0 : ClassId) (hts : ∀ w ∈ tblG, w.before #[Value.ref b] s = true) : ∃ f : Nat → ClassId × (Nat → Nat), ∀ k q, vwCl[k]? = some q → u_Kn s q.1 q.2.1 q.2.2 (f k).1 (f k).2 := by
  refine (Classical.skolem (b := fun _ : Nat => ClassId × (Nat → Nat)) (p := fun (k : Nat) (z : ClassId × (Nat → Nat)) => ∀ q, vwCl[k]? = some q → u_Kn s q.1 q.2.1 q.2.2 z.1 z.2)).mp (fun k => ?_)
  match k with
  | 0 => obtain ⟨c, i, h⟩ := u_known hts inX0 (hts _ kt_RX0); exact ⟨(c, i), fun q hq => by cases hq; exact h⟩
  | 1 => obtain ⟨c, i, h⟩ := u_known hts inX1 (hts _ kt_RX1); exact ⟨(c, i), fun q hq => by cases hq; exact h⟩
  | 2 => obtain ⟨c, i, h⟩ := u_known hts inX2 (hts _ kt_RX2); exact ⟨(c, i), fun q hq => by cases hq; exact h⟩
  | 3 => obtain ⟨c, i, h⟩ := u_known hts inX3 (hts _ kt_RX3); exact ⟨(c, i), fun q hq => by cases hq; exact h⟩
  | 4 => obtain ⟨c, i, h⟩ := u_known hts inX4 (hts _ kt_RX4); exact ⟨(c, i), fun q hq => by cases hq; exact h⟩
  | 5 => obtain ⟨c, i, h⟩ := u_known hts inX5 (hts _ kt_RX5); exact ⟨(c, i), fun q hq => by cases hq; exact h⟩
  | 6 => obtain ⟨c, i, h⟩ := u_known hts inX6 (hts _ kt_RX6); exact ⟨(c, i), fun q hq => by cases hq; exact h⟩
  | 7 => obtain ⟨c, i, h⟩ := u_known hts inX7 (hts _ kt_RX7); exact ⟨(c, i), fun q hq => by cases hq; exact h⟩
  | 8 => obtain ⟨c, i, h⟩ := u_known hts inX8 (hts _ kt_RX8); exact ⟨(c, i), fun q hq => by cases hq; exact h⟩
  | 9 => obtain ⟨c, i, h⟩ := u_known hts inX9 (hts _ kt_RX9); exact ⟨(c, i), fun q hq => by cases hq; exact h⟩
  | 10 => obtain ⟨c, i, h⟩ := u_known hts inX10 (hts _ kt_RX10); exact ⟨(c, i), fun q hq => by cases hq; exact h⟩
  | 11 => obtain ⟨c, i, h⟩ := u_known hts inX11 (hts _ kt_RX11); exact ⟨(c, i), fun q hq => by cases hq; exact h⟩
  | 12 => obtain ⟨c, i, h⟩ := u_known hts inX12 (hts _ kt_RX12); exact ⟨(c, i), fun q hq => by cases hq; exact h⟩
  | k + 13 => exact ⟨(c0, fun _ => 0), fun q hq => by cases hq⟩
theorem w_arr {s : State} {b : Nat} {ty : FieldType} (h : (Cond.arrayClass ty).before #[Value.ref b] s = true) : ∃ c, ArrOfT s c ty ∧ s.vm.findClass ("[" ++ ty.toString) = some c := by
  obtain ⟨c, k, comp, h1, h2, h3⟩ := Cond.arrayClass_spec h
  exact ⟨c, fun n z => ⟨fun k h => (by cases h), k, h2, comp, h3⟩, h1⟩
theorem w_arrO {s : State} {b : Nat} {C : String} (h : (Cond.arrayOver (.object C)).before #[Value.ref b] s = true) : ∃ c, ArrOfT s c (.object C) ∧ va_RA s c (.object C) := by
  obtain ⟨comp, c, k, h1, h2, h3, h4, h5⟩ := Cond.arrayOver_spec h
  exact ⟨c, fun n z => ⟨fun k h => (by cases h), k, h3, comp, h4⟩, k, comp, h3, h4, h1, h5⟩
theorem w_nest {w : Cond} (h : isNest w = true) {A : Array Value} {U : State} (hZ : w.before A U = true) : va_Nw w U := by
  cases w <;> first | exact va_Nw.of rfl hZ | exact absurd h Bool.false_ne_true
theorem w_more {w : Cond} (h : isMore w = true) {A : Array Value} {U : State} (hZ : w.before A U = true) : va_Nw w U := by
  cases w <;> first | exact va_Nw.of rfl hZ | exact absurd h Bool.false_ne_true
def zE0 (f : Nat → ClassId × (Nat → Nat)) (g : Nat → ClassId) (n a1 a2 : Nat) : zE := ((fun k => (f k).1, fun k => (f k).2), g, n, (fun k => if k = 100 then a1 else a2), fun _ => 0)
/-- YOUR PART: from the entry, for every script of at most 6 ints, the law comes to its end with true ('hflags': the launch's flags, for a law that throws: no stack traces) -/
theorem whole_start {p : Program} {e : Env} {s : State} {m : MethodId} {below : List Frame} {meth : Method} {c : Code} (l : Launch) (hflags : l.flags = flags0) {b L : Nat} {xs : Nat → Int32} (hL : L ≤ 6) (C0 : lw_At p s m meth c b L xs) : W p l e room_1 s m #[Value.ref b] below meth c s.heap [] 0 0 (lw_Z below #[Value.ref b] s) (entryFrame m ([Value.ref b] : List Value).toArray 8) := by
  obtain ⟨hx, hb, hr, hml, hown, hts, hX, hbl, hlocks, hgv⟩ := id C0
  have hs := flat_of_before _ hgv
  have hG : ∀ w ∈ tblG, w.before #[Value.ref b] s = true := fun w h => hts w (tblG_in w h)
  have hA : ∀ a : Nat, a < s.heap.size → ¬ (s.heap.size ≤ a) := fun a h => Nat.not_le.mpr h
  obtain ⟨f, hf⟩ := w_known m.cls hG
  obtain ⟨cI, hI1, hI2⟩ := w_arr (hG _ ka_int)
  obtain ⟨cJ, hJ1, hJ2⟩ := w_arr (hG _ ka_long)
  obtain ⟨cB, hB1, hB2⟩ := w_arr (hG _ ka_byte)
  obtain ⟨cZ, hZ1, hZ2⟩ := w_arr (hG _ ka_boolean)
  have hp0 : (Cond.arrayOver (.object "SnapHeaps$Plan")).before #[Value.ref b] s = true := hts _ (List.mem_of_getElem? (i := 312) (by decide +kernel))
  have hb0 : (Cond.arrayOver (.object "SnapHeaps$Board")).before #[Value.ref b] s = true := hts _ (List.mem_of_getElem? (i := 416) (by decide +kernel))
  obtain ⟨cP, hP1, hP2⟩ := w_arrO hp0
  obtain ⟨cO, hO1, hO2⟩ := w_arrO hb0
  obtain ⟨a1, -, -, -, e1, -⟩ := Cond.exactly_spec (hs (Cond.exactly (.string "SnapHeaps" 351) "java/lang/String") (by decide +kernel))
  obtain ⟨a2, -, -, -, e2, -⟩ := Cond.exactly_spec (hs (Cond.exactly (.string "SnapHeaps" 344) "java/lang/String") (by decide +kernel))
  have hth : (Cond.initialized Bundle.tN).before #[Value.ref b] s = true := hts _ (List.mem_of_getElem? (i := 132) (by decide +kernel))
  have hu1 : (Cond.isRef (.static Bundle.tN "UNASSIGNED_STACK" Bundle.steD)).before #[Value.ref b] s = true := hs _ (by decide +kernel)
  have hu2 : (Cond.isRef (.static Bundle.tN "SUPPRESSED_SENTINEL" Bundle.listD)).before #[Value.ref b] s = true := hs _ (by decide +kernel)
  have hc : (Cond.not (.castable "java/lang/IllegalArgumentException" "java/util/NoSuchElementException")).before #[Value.ref b] s = true := hs _ (by decide +kernel)
  obtain ⟨E, rfl⟩ : ∃ E, E = zE0 f (fun k => match k with | 2 => cI | 3 => cJ | 4 => cB | 5 => cZ | 6 => cP | _ => cO) s.heap.size a1 a2 := ⟨_, rfl⟩
  have hK : va_K (fun k => (f k).1, fun k => (f k).2) vwCl [(cI, .int), (cJ, .long), (cB, .byte), (cZ, .boolean), (cP, .object "SnapHeaps$Plan"), (cO, .object "SnapHeaps$Board")] s := by
    refine ⟨hf, fun k q hq => ?_⟩
    match k, hq with
    | 0, hq => cases hq; exact ⟨hI1, hI2⟩
    | 1, hq => cases hq; exact ⟨hJ1, hJ2⟩
    | 2, hq => cases hq; exact ⟨hB1, hB2⟩
    | 3, hq => cases hq; exact ⟨hZ1, hZ2⟩
    | 4, hq => cases hq; exact ⟨hP1, hP2⟩
    | 5, hq => cases hq; exact ⟨hO1, hO2⟩
    | k + 6, hq => cases hq
  have hO : zO (zE0 f (fun k => match k with | 2 => cI | 3 => cJ | 4 => cB | 5 => cZ | 6 => cP | _ => cO) s.heap.size a1 a2) s s.heap := ⟨hK, fun w hw => w_nest (tblN_is w hw) (hts w (tblN_in w hw)), vk_R.of (hts _ (List.mem_of_getElem? (i := 800) (by decide +kernel))) e1, vk_R.of (hts _ (List.mem_of_getElem? (i := 1017) (by decide +kernel))) e2, vx_Zqof (hts _ (List.mem_of_getElem? (i := 787) (by decide +kernel))) hth hu1 hA, vx_Zqof (hts _ (List.mem_of_getElem? (i := 789) (by decide +kernel))) hth hu2 hA, fun w hw => w_more (tblM_is w hw) (hts w (List.mem_filter.mp hw).1), va_AO.of hp0, va_AO.of hb0, va_Nc.of hc⟩
  have hst : l.stackTraces = false := by unfold Launch.stackTraces; rw [hflags]; decide
  have hLX : LX (p, l, e, room_1, s, m, #[Value.ref b], below, meth, c, lw_Z below #[Value.ref b] s) (zE0 f (fun k => match k with | 2 => cI | 3 => cJ | 4 => cB | 5 => cZ | 6 => cP | _ => cO) s.heap.size a1 a2) b := ⟨⟨hx, hb, hml, hown, hG, hO, hlocks, hr, Nat.le_refl _, rfl, rfl, hst⟩, rfl, rfl, rfl⟩
  have hZS : ZS (p, l, e, room_1, s, m, #[Value.ref b], below, meth, c, lw_Z below #[Value.ref b] s) (zE0 f (fun k => match k with | 2 => cI | 3 => cJ | 4 => cB | 5 => cZ | 6 => cP | _ => cO) s.heap.size a1 a2) b L (fun j => (xs j).toInt) := by
    refine ⟨?_, hbl, Nat.not_le.mpr hbl⟩
    rw [show (fun j => zI ((fun j => (xs j).toInt) j)) = xs from funext fun j => zI_self _]
    exact hX
  have hW := w_start (s0 := fun _ _ => 0) hLX hL hZS (fun j => zI_rg _)
  have hl := lv_entry ([.ref b]) (n := 8) (Nat.le_of_ble_eq_true rfl)
  rw [lg_entry_eq]
  generalize (lg_sl ([.ref b]) ++ List.replicate (8 - (lg_sl ([.ref b])).length) Slot.unset).toArray = ls at hl ⊢
  have hl : lv_has ls 8 [(0, .ref b)] := hl
  exact hW s.heap [] ls ⟨fun k q h => (by cases h), ⟨fun i j p q h => (by cases h), fun k q h => (by cases h)⟩⟩ va_S.rf hl
-- ===== YOUR PART ENDS =====
set_option maxHeartbeats 4000000 in
theorem lw_walk (l : Launch) (hflags : l.flags = flags0) (b : Addr) (xs : List Int32) : MetFree l x (headSpec (Jvm.Cond.code x code maxLocals ret :: tables_1) room_1) (lw_P b xs) (fun _ _ _ _ _ => True) lw_Q := by
  refine MetFree.of_bodyS (code := code) (maxLocals := maxLocals) (ret := ret) (by decide) ?_ ?_
  · intro args s m h hn
    obtain ⟨meth, c, h1, h2, h3, h4, h5, h6, -, -⟩ := Cond.code_spec hn (atoms_spec (ws := Jvm.Cond.code x code maxLocals ret :: tables_1) h _ List.mem_cons_self)
    exact ⟨meth, c, h1, h2, h3, h4, h5, h6⟩
  · intro p e s m args below meth c s₁ B hml0 hP _
    obtain ⟨rfl, hx, hbd, hgv⟩ := hP
    obtain ⟨scr, harrAt, hlist, hof, hsmall⟩ := hx
    obtain ⟨hcb, hkn, -, -⟩ := State.arrayAt?_spec harrAt
    have hown : s.vm.findClass R_law = some m.cls := findClass_of_methodNamed B.named
    have hts0 : ∀ c ∈ (Jvm.Cond.code x code maxLocals ret :: tables_1), c.before #[Value.ref b] s = true := atoms_spec (ws := Jvm.Cond.code x code maxLocals ret :: tables_1) B.pre
    have hts : ∀ w ∈ lw_tbl, w.before #[Value.ref b] s = true := k2_hts_sels lw_privs (fun w hw => hts0 w (List.mem_cons_of_mem _ hw)) lw_privs_ok
    have hml : c.maxLocals = 8 := B.maxLocals_eq (hts0 _ List.mem_cons_self)
    have X₀ : Stand p l e room_1 s m #[Value.ref b] below meth c s₁ [] 0 0 := Stand.of_body B
    have hh0 : s₁.heap = s.heap := by rw [B.state]; rfl
    have hsz : scr.slots.size = xs.length := by rw [← Array.length_toList, hlist, List.length_map]
    have hval : ∀ j : Nat, j < xs.length → scr.slots[j]? = some (.int (xs.getD j 0)) := fun j hj => by
      rw [← Array.getElem?_toList, hlist]
      simp [hj]
    have hbl : b < s.heap.size := (Array.getElem?_eq_some_iff.mp hcb).1
    have hX : va_X b xs.length (fun j => xs.getD j 0) s s.heap := ⟨scr, hcb, hof, hkn, hsz, hval⟩
    have K : W p l e room_1 s m #[Value.ref b] below meth c s₁.heap [] 0 0 (lw_Z below #[Value.ref b] s) (entryFrame m ([Value.ref b] : List Value).toArray 8) := by
      rw [hh0]
      exact whole_start l hflags hbd ⟨B.exec, B.bytes, B.returns, hml, hown, hts, hX, hbl, B.notSynchronized, hgv⟩
    obtain ⟨t, a1, o, b1, b2, b3⟩ := K s₁ rfl X₀
    exact ⟨t, o, a1, b1, b2, b3⟩
theorem lw_pre_spec {args : Array Value} {s : State} (h : (Jvm.Cond.and given_1 narrow_1).before args s = true) (hr : rest_1_c.before args s = true) : ∃ (b : Addr) (xs : List Int32), lw_P b xs args s := by
  have hs := flat_of_before _ h
  have hq := flat_of_before _ hr
  have hc : (Cond.count 1).before args s = true := hs _ (by decide +kernel)
  have harr : (Cond.arrayOf (.arg 0) .int).before args s = true := hs _ (by decide +kernel)
  have hle : (Cond.le (.length (.arg 0)) (.int 6)).before args s = true := hs _ (by decide +kernel)
  have hlen : (Cond.isInt (.length (.arg 0))).before args s = true := hq _ (by decide +kernel)
  have hall : (Cond.all (.arg 0) (.isInt (.elem (.arg 0) (.index 0)))).before args s = true := hq _ (by decide +kernel)
  obtain ⟨b, xs, hb, hx⟩ := State.ints_of_pre rfl harr hlen hall
  have hsm : xs.length < 2 ^ 31 := hx.choose_spec.2.2.2
  have hev : (Term.length (.arg 0)).eval args s none [] s = some (.int xs.length.toInt32) := hx.length_eval hb
  have hv := Cond.le_ints hev (show (Term.int 6).eval args s none [] s = some (.int 6) from rfl)
  have hd : xs.length.toInt32 ≤ 6 := by
    simpa [Cond.before, Cond.holds, hv] using hle
  have hN : xs.length ≤ 6 := (Int32.ofNat_le_ofNat hsm (by decide)).mp (show Int32.ofNat xs.length ≤ Int32.ofNat 6 from hd)
  exact ⟨b, xs, Cond.one_arg hc (show args[0]? = some (.ref b) from hb), hx, hN, h⟩
theorem lw_comes (l : Launch) (hflags : l.flags = flags0) : Comes l x (Jvm.Cond.code x code maxLocals ret :: tables_1) room_1 (fun tb e args s => Calls_1 tb e args s ∧ rest_1 tb e args s ∧ Pre_1 tb e args s)
    (fun _ _ args s o t => lw_Q args s o t) := by
  intro p e ha hc hk s m args below hf hfit hheap happ hpre
  obtain ⟨b, xs, hP⟩ := lw_pre_spec hpre.2.2 hpre.2.1
  obtain ⟨k, o, h1, h2, h3, hQ⟩ := lw_walk l hflags b xs p e ha hc hk s m args below hf ((Spec.applies_iff_loose hf).mp happ).1 hP trivial
  exact ⟨k, o, h1, h2, h3, hQ⟩
theorem lw_frame {s t : State} {o : Outcome} {args : Array Value} (h : Framed s o t [] 600002 7302232) :
    Framed s o t (fieldLocs frame_1_writes args s ++ arrayLocs frame_1_arrays args s ++ staticLocs frame_1_statics s) 600002 7302232 := h
theorem lw_limb (L : Cond) (hL : ∀ (args : Array Value) (s t : State), L.after args s (.returned (some (.int 1))) t = true) :
    ArmFor flags0 classFile x code maxLocals ret World_1 tables_1 room_1 Calls_1 rest_1 Pre_1
      (fun tb e a s o t => postC L tb e a s o t ∧ Framed s o t (fieldLocs frame_1_writes a s ++ arrayLocs frame_1_arrays a s ++ staticLocs frame_1_statics s) 600002 7302232) := by
  intro l hflags _ _ p e ha hc hk s m args below hf hfit hheap happ hpre
  obtain ⟨k, o, h1, h2, h3, rfl, hF⟩ := lw_comes l hflags p e ha hc hk s m args below hf hfit hheap happ hpre
  exact ⟨k, _, h1, h2, h3, hL args s _, lw_frame hF⟩
theorem i_vc : Claimed_1_1 ∧ Claimed_1_2 := ⟨lw_limb limb_1_1 (fun args s t => by simp [limb_1_1, Cond.after, Cond.holds, Cond.value]), lw_limb limb_1_2 (fun args s t => Cond.after_iff.mpr (by
  first | (rw [show limb_1_2 = Cond.eq .result (.int 1) from rfl, Cond.eq_ints (x := 1) (y := 1) rfl rfl]; simp; done) | (simp [limb_1_2, Cond.value, Term.eval]; done)))⟩
