-- ===== end of PART A; then your names; then what follows =====
/-! THE CLAIM OUT OF ONE WALK OF THE LAW'S BODY. Your part is whole_start (and what it stands on); all else here is the same for every law, but numbers. -/
def R_law : String := "SnapHeapsLaw"
def lw_P (b : Addr) (xs : List Int32) (args : Array Value) (s : State) : Prop := args = #[.ref b] ∧ s.IntsAt b xs ∧ xs.length ≤ 3072 ∧ (Jvm.Cond.and given_1 narrow_1).before args s = true
def lw_Q (_ : Array Value) (s : State) (o : Outcome) (t : State) : Prop := o = .returned (some (.int 1)) ∧ Framed s o t [] 601024 7293034
def lw_Z (below : List Frame) (a : Array Value) (s : State) : State → Prop := fun t => ∃ o, t.status = .running ∧ Ended t below o ∧ lw_Q a s o t
/-- the law's own end, with 1 on the stack, nothing written that was there before, its room as the claim has it -/
theorem lw_ret {p : Program} {l : Launch} {e : Env} {s : State} {m : MethodId} {below : List Frame} {meth : Method} {c : Code} {b : Nat} (hx : p.tables.exec = Jvm.exec) (hb : c.code = code) (hr : meth.sig.returnType = ret) (hlocks : meth.locks = false) {pc : Nat} {H : Heap} {ls : Array Slot} (hdg : decode code pc = .ok (.ireturn, 1)) : W p l e room_1 s m #[Value.ref b] below meth c H [] 601024 7293034 (lw_Z below #[Value.ref b] s) (F0 m pc ls [.int 1]) := by
  intro T hT X
  obtain ⟨fs, hret, hrun, hended, hW, hframe⟩ := X.leave (v := some (.int 1)) (hlocks := hlocks) (fun h => by rw [hr] at h; cases h)
  have hmeth' : T.vm.method? m = some meth := X.method'
  refine ⟨T.setFrames fs, ?_, .returned (some (.int 1)), hrun, hended, rfl, ⟨_, rfl⟩, hW, hframe⟩
  jvm_step X.here [X.here.top, hx, hb, hdg, hmeth', hr, ret, narrow_b1]
  (try refine ⟨rfl, ?_⟩); (try refine ⟨rfl, ?_⟩)
  first | (intro acts; rw [hret _ acts rfl rfl rfl]) | rw [hret _ _ rfl rfl rfl]
  exact Steps.refl _
/-- what holds at the law's entry: the machine, the code, the tables' words (any of lw_tbl by 'hts w (by decide +kernel)'), the script of L ints xs at the cell b, what the Statement gives of the start (any of its parts by flat_of_before) -/
def lw_At (p : Program) (s : State) (m : MethodId) (meth : Method) (c : Code) (b L : Nat) (xs : Nat → Int32) : Prop :=
  p.tables.exec = Jvm.exec ∧ c.code = code ∧ meth.sig.returnType = ret ∧ c.maxLocals = 8 ∧ s.vm.findClass R_law = some m.cls ∧ (∀ w ∈ lw_tbl, w.before #[Value.ref b] s = true) ∧ va_X b L xs s s.heap ∧ b < s.heap.size ∧ meth.locks = false ∧ (Jvm.Cond.and given_1 narrow_1).before #[Value.ref b] s = true
def LX (X : zX) (E : zE) (b : Nat) : Prop := CX X E RL ⟨RL, (xh X).name, ""⟩ code 8 (some .boolean) room_1 ∧ xQ X = lw_Z (xb X) (xa X) (xs X) ∧ E.2.2.1 = (xs X).heap.size ∧ xa X = #[Value.ref b]
section LW
variable {X : zX} {E : zE} {G : zG} {s : zS} {k n k2 n2 nL : Nat} {L : List (Nat × Value)} {pc pc2 : Nat} {b : Nat} {st : List Value}
theorem j_wid (hk : k ≤ k2) (hn : n ≤ n2) (kk : JJ X E nL G s k2 n2 L pc st) : JJ X E nL G s k n L pc st := by
  intro H locs ls hR hS hl
  unfold WX
  exact W.widen hk hn (kk H locs ls hR hS hl)
theorem kIM2 {rest : List Value} {ts : List Nat} {Q : Int → zS → Prop} (h : ∀ r s2, zSK G s2 → zFr ts G s s2 → Q r s2 → JJ X E nL G s2 k2 n2 L pc2 (.int (zI r) :: rest)) : ∀ v Γ2 σ2, pI (fun r G2 s2 => G2 = G ∧ zSK G2 s2 ∧ zFr ts G s s2 ∧ Q r s2) v Γ2 σ2 → JJ X E nL Γ2 σ2 k2 n2 L pc2 (v.toList ++ rest) := by
  rintro v Γ2 σ2 ⟨r, rfl, e, hS, hF, q⟩
  subst e
  exact h r σ2 hS hF q
theorem j_lawend (hL : LX X E b) (hk : k ≤ 601024) (hn : n ≤ 7293034) (d : Dc code pc .ireturn 1 pc2) : JJ X E 8 G s k n L pc [.int (zI 1)] := by
  intro H locs ls hR hS hl
  obtain ⟨hx, hq, hE, ha⟩ := hL
  have hRm : xR X = room_1 := hx.2.2.2.2.2.2.2.2.2.1
  unfold WX
  rw [hq, hRm, ha]
  refine W.widen hk hn ?_
  refine va_forget (fun q hq2 => ?_) ?_
  · have := hS.2.2 q hq2
    rw [← hE]; exact this
  · exact lw_ret hx.1 hx.2.1 hx.2.2.2.2.2.2.2.1 hx.2.2.2.2.2.2.1 d.1
theorem w_tail (hL : LX X E b) {a m o : Nat} {i : Int} (hi0 : 0 ≤ i) (hi : i ≤ 3066) (kk : JJ X E 8 G s k n [(4, .int (zI (i + 6))), (3, .ref o), (2, .ref m), (1, .ref a), (0, .ref b)] 23 []) : JJ X E 8 G s k n [(4, .int (zI i)), (3, .ref o), (2, .ref m), (1, .ref a), (0, .ref b)] 1713 [] := by
  have hx := hL.1
  refine j_iinc hx 0 [(4, .int (zI (i + 6))), (3, .ref o), (2, .ref m), (1, .ref a), (0, .ref b)] dL_law__1713 rfl rfl (by decide) rfl ?_
  exact j_goto hx 23 dL_law__1716 rfl kk
end LW
theorem lk_RL_108 : LkV RL 108 RX11 yX11_feed cX11_feed 6 (some .int) 5 := ⟨km_RL_108, ki_yX11_feed, ks_RX11_yX11_feed, kn_RX11, kc_yX11_feed, rfl, by decide +kernel, by decide +kernel, by decide +kernel⟩
theorem lk_RL_111 : LkV RL 111 RX12 yX12_feed cX12_feed 8 (some .int) 5 := ⟨km_RL_111, ki_yX12_feed, ks_RX12_yX12_feed, kn_RX12, kc_yX12_feed, rfl, by decide +kernel, by decide +kernel, by decide +kernel⟩
set_option maxHeartbeats 4000000 in
set_option maxRecDepth 20000 in
theorem w_0 {X : zX} {E : zE} {G : zG} {s0 : zS} {b a m o L0 k n : Nat} {ys : Nat → Int} {i T : Int} (hL : LX X E b) (hG : zGK G) (hS0 : zSK G s0) (hI : zInv G s0 m T) (hT0 : 0 ≤ T) (hT : T ≤ 519000) (ha : gT G a = 12) (hm : gT G m = 13) (ho : gT G o = 120) (hs : ZS X E b L0 ys) (hy : ∀ j, -2147483648 ≤ ys j ∧ ys j ≤ 2147483647) (hi0 : 0 ≤ i) (hi : i + 6 ≤ L0) (hL0 : L0 ≤ 3072) (hk : k + 8 ≤ 601024) (hn : n + 400 ≤ 7293034) (kk : ∀ G2 s2, zGK G2 → zSK G2 s2 → zInv G2 s2 m (T + 1000) → gT G2 a = 12 → gT G2 m = 13 → gT G2 o = 120 → JJ X E 8 G2 s2 (k + 8) (n + 400) [(4, .int (zI i)), (3, .ref o), (2, .ref m), (1, .ref a), (0, .ref b)] 1713 []) : JJ X E 8 G s0 k n [(4, .int (zI i)), (3, .ref o), (2, .ref m), (1, .ref a), (0, .ref b)] 220 [] := by
  have hx := hL.1
  have hst := hx.2.2.2.2.2.2.2.2.2.2.2
  have hI0 := hI
  obtain ⟨hI1, hI2, hI3, hI4, hI5, hI6, hI7, hI8, hI9, hI10, hI11⟩ := hI
  have hy0 := hy (i).toNat
  have hy1 := hy (i + 1).toNat
  have hy2 := hy (i + 2).toNat
  have hy3 := hy (i + 3).toNat
  have hy4 := hy (i + 4).toNat
  have hy5 := hy (i + 5).toNat
  refine j_aload_n hx 3 dL_law__220 rfl ?_
  refine j_aload_n hx 4 dL_law__221 rfl ?_
  refine j_iload hx 0 dL_law__222 rfl ?_
  refine j_iconst hx dL_law__224 ?_
  refine j_iadd hx (r := i + 1) dL_law__225 rfl ?_
  refine j_sld hx hs (j := (i + 1).toNat) (by omega) (by omega) (by omega) dL_law__226 ?_
  refine j_aload_n hx 4 dL_law__227 rfl ?_
  refine j_iload hx 0 dL_law__228 rfl ?_
  refine j_iconst hx dL_law__230 ?_
  refine j_iadd hx (r := i + 2) dL_law__231 rfl ?_
  refine j_sld hx hs (j := (i + 2).toNat) (by omega) (by omega) (by omega) dL_law__232 ?_
  refine j_aload_n hx 4 dL_law__233 rfl ?_
  refine j_iload hx 0 dL_law__234 rfl ?_
  refine j_iconst hx dL_law__236 ?_
  refine j_iadd hx (r := i + 3) dL_law__237 rfl ?_
  refine j_sld hx hs (j := (i + 3).toNat) (by omega) (by omega) (by omega) dL_law__238 ?_
  refine j_aload_n hx 4 dL_law__239 rfl ?_
  refine j_iload hx 0 dL_law__240 rfl ?_
  refine j_iconst hx dL_law__242 ?_
  refine j_iadd hx (r := i + 4) dL_law__243 rfl ?_
  refine j_sld hx hs (j := (i + 4).toNat) (by omega) (by omega) (by omega) dL_law__244 ?_
  refine j_aload_n hx 4 dL_law__245 rfl ?_
  refine j_iload hx 0 dL_law__246 rfl ?_
  refine j_iconst hx dL_law__248 ?_
  refine j_iadd hx (r := i + 5) dL_law__249 rfl ?_
  refine j_sld hx hs (j := (i + 5).toNat) (by omega) (by omega) (by omega) dL_law__250 ?_
  refine j_callV hx hG (c_X11_feed hst a ((ys (i + 1).toNat)) ((ys (i + 2).toNat)) ((ys (i + 3).toNat)) ((ys (i + 4).toNat)) ((ys (i + 5).toNat))) lk_RL_108 ha (by decide) rfl rfl rfl rfl [.int (zI ((ys (i + 1).toNat))), .int (zI ((ys (i + 2).toNat))), .int (zI ((ys (i + 3).toNat))), .int (zI ((ys (i + 4).toNat))), .int (zI ((ys (i + 5).toNat)))] ⟨rfl, hG, hS0, ha, (by omega), (by omega), (by omega), (by omega), (by omega)⟩ rfl rfl ⟨by decide, by decide⟩ ⟨(by show k + 0 ≤ 601024; omega), (by show n + 0 ≤ 7293034; omega)⟩ (k2 := k) (n2 := n) rfl rfl (Nat.le_of_ble_eq_true rfl) dL_law__251 (kIM (fun v1 s1 hS_s1 hF_s1 q2 => ?_))
  refine j_pop hx dL_law__254 rfl ?_
  refine j_aload_n hx 2 dL_law__255 rfl ?_
  refine j_aload_n hx 4 dL_law__256 rfl ?_
  refine j_iload hx 0 dL_law__257 rfl ?_
  refine j_iconst hx dL_law__259 ?_
  refine j_iadd hx (r := i + 1) dL_law__260 rfl ?_
  refine j_sld hx hs (j := (i + 1).toNat) (by omega) (by omega) (by omega) dL_law__261 ?_
  refine j_aload_n hx 4 dL_law__262 rfl ?_
  refine j_iload hx 0 dL_law__263 rfl ?_
  refine j_iconst hx dL_law__265 ?_
  refine j_iadd hx (r := i + 2) dL_law__266 rfl ?_
  refine j_sld hx hs (j := (i + 2).toNat) (by omega) (by omega) (by omega) dL_law__267 ?_
  refine j_aload_n hx 4 dL_law__268 rfl ?_
  refine j_iload hx 0 dL_law__269 rfl ?_
  refine j_iconst hx dL_law__271 ?_
  refine j_iadd hx (r := i + 3) dL_law__272 rfl ?_
  refine j_sld hx hs (j := (i + 3).toNat) (by omega) (by omega) (by omega) dL_law__273 ?_
  refine j_aload_n hx 4 dL_law__274 rfl ?_
  refine j_iload hx 0 dL_law__275 rfl ?_
  refine j_iconst hx dL_law__277 ?_
  refine j_iadd hx (r := i + 4) dL_law__278 rfl ?_
  refine j_sld hx hs (j := (i + 4).toNat) (by omega) (by omega) (by omega) dL_law__279 ?_
  refine j_aload_n hx 4 dL_law__280 rfl ?_
  refine j_iload hx 0 dL_law__281 rfl ?_
  refine j_iconst hx dL_law__283 ?_
  refine j_iadd hx (r := i + 5) dL_law__284 rfl ?_
  refine j_sld hx hs (j := (i + 5).toNat) (by omega) (by omega) (by omega) dL_law__285 ?_
  have g3 : s1 m 3 = s0 m 3 := (by rw [(zFr_g hF_s1 hm (by decide))])
  have f4 := zf hS0 hm (k := 3) rfl
  have g5 : s1 m 4 = s0 m 4 := (by rw [(zFr_g hF_s1 hm (by decide))])
  have f6 := zf hS0 hm (k := 4) rfl
  have g7 : s1 m 5 = s0 m 5 := (by rw [(zFr_g hF_s1 hm (by decide))])
  have f8 := zf hS0 hm (k := 5) rfl
  have g9 : s1 m 7 = s0 m 7 := (by rw [(zFr_g hF_s1 hm (by decide))])
  have f10 := zf hS0 hm (k := 7) rfl
  have g11 : s1 m 21 = s0 m 21 := (by rw [(zFr_g hF_s1 hm (by decide))])
  have f12 := zf hS0 hm (k := 21) rfl
  have g13 : s1 m 22 = s0 m 22 := (by rw [(zFr_g hF_s1 hm (by decide))])
  have f14 := zf hS0 hm (k := 22) rfl
  have g15 : s1 m 23 = s0 m 23 := (by rw [(zFr_g hF_s1 hm (by decide))])
  have f16 := zf hS0 hm (k := 23) rfl
  have g17 : s1 m 24 = s0 m 24 := (by rw [(zFr_g hF_s1 hm (by decide))])
  have f18 := zf hS0 hm (k := 24) rfl
  have g19 : s1 m 38 = s0 m 38 := (by rw [(zFr_g hF_s1 hm (by decide))])
  have f20 := zf hS0 hm (k := 38) rfl
  have g21 : s1 m 51 = s0 m 51 := (by rw [(zFr_g hF_s1 hm (by decide))])
  have f22 := zf hS0 hm (k := 51) rfl
  have g23 : s1 m 52 = s0 m 52 := (by rw [(zFr_g hF_s1 hm (by decide))])
  have f24 := zf hS0 hm (k := 52) rfl
  refine j_callV hx hG (c_X12_feed hst m ((ys (i + 1).toNat)) ((ys (i + 2).toNat)) ((ys (i + 3).toNat)) ((ys (i + 4).toNat)) ((ys (i + 5).toNat))) lk_RL_111 hm (by decide) rfl rfl rfl rfl [.int (zI ((ys (i + 1).toNat))), .int (zI ((ys (i + 2).toNat))), .int (zI ((ys (i + 3).toNat))), .int (zI ((ys (i + 4).toNat))), .int (zI ((ys (i + 5).toNat)))] ⟨rfl, hG, hS_s1, hm, (by omega), (by omega), (by omega), (by omega), (by omega)⟩ rfl rfl ⟨by decide, by decide⟩ ⟨(by show k + 0 ≤ 601024; omega), (by show n + 0 ≤ 7293034; omega)⟩ (k2 := k) (n2 := n) rfl rfl (Nat.le_of_ble_eq_true rfl) dL_law__286 (kIM (fun v25 s2 hS_s2 hF_s2 q26 => ?_))
  refine j_pop hx dL_law__289 rfl ?_
  refine j_goto hx 1713 dL_law__290 rfl ?_
  have f27 := zf hS_s2 hm (k := 24) rfl
  exact j_wid (k2 := k + 8) (n2 := n + 400) (by omega) (by omega) (j_sub [0, 1, 2, 3, 4] [(4, .int (zI i)), (3, .ref o), (2, .ref m), (1, .ref a), (0, .ref b)] rfl (kk G s2 hG hS_s2 (zInv_fr (ts := [10, 13, 45, 72]) hI0 (by omega) hG hm (zFr_t (zFr_t zFr_rf hF_s1 (by decide)) hF_s2 (by decide)) (by decide) (by omega)) ha hm ho))

theorem lk_RL_112 : LkSH RL 112 yL_table cL_table 4 (some .int) [(0, 9, 12, 13)] 3 := ⟨km_RL_112, kst_yL_table, kn_RL, kc_yL_table, by decide +kernel, by decide +kernel, by decide +kernel⟩
theorem lk_RL_117 : LkV RL 117 RX12 yX12_table cX12_table 4 (some .int) 1 := ⟨km_RL_117, ki_yX12_table, ks_RX12_yX12_table, kn_RX12, kc_yX12_table, rfl, by decide +kernel, by decide +kernel, by decide +kernel⟩
set_option maxHeartbeats 4000000 in
set_option maxRecDepth 20000 in
theorem w_1 {X : zX} {E : zE} {G : zG} {s0 : zS} {b a m o L0 k n : Nat} {ys : Nat → Int} {i T : Int} (hL : LX X E b) (hG : zGK G) (hS0 : zSK G s0) (hI : zInv G s0 m T) (hT0 : 0 ≤ T) (hT : T ≤ 519000) (ha : gT G a = 12) (hm : gT G m = 13) (ho : gT G o = 120) (hs : ZS X E b L0 ys) (hy : ∀ j, -2147483648 ≤ ys j ∧ ys j ≤ 2147483647) (hi0 : 0 ≤ i) (hi : i + 6 ≤ L0) (hL0 : L0 ≤ 3072) (hk : k + 8 ≤ 601024) (hn : n + 400 ≤ 7293034) (kk : ∀ G2 s2, zGK G2 → zSK G2 s2 → zInv G2 s2 m (T + 1000) → gT G2 a = 12 → gT G2 m = 13 → gT G2 o = 120 → JJ X E 8 G2 s2 (k + 8) (n + 400) [(4, .int (zI i)), (3, .ref o), (2, .ref m), (1, .ref a), (0, .ref b)] 1713 []) : JJ X E 8 G s0 k n [(4, .int (zI i)), (3, .ref o), (2, .ref m), (1, .ref a), (0, .ref b)] 293 [] := by
  have hx := hL.1
  have hst := hx.2.2.2.2.2.2.2.2.2.2.2
  have hI0 := hI
  obtain ⟨hI1, hI2, hI3, hI4, hI5, hI6, hI7, hI8, hI9, hI10, hI11⟩ := hI
  have hy0 := hy (i).toNat
  have hy1 := hy (i + 1).toNat
  have hy2 := hy (i + 2).toNat
  have hy3 := hy (i + 3).toNat
  have hy4 := hy (i + 4).toNat
  have hy5 := hy (i + 5).toNat
  refine j_aload_n hx 3 dL_law__293 rfl ?_
  refine j_aload_n hx 4 dL_law__294 rfl ?_
  refine j_iload hx 0 dL_law__295 rfl ?_
  refine j_iconst hx dL_law__297 ?_
  refine j_iadd hx (r := i + 1) dL_law__298 rfl ?_
  refine j_sld hx hs (j := (i + 1).toNat) (by omega) (by omega) (by omega) dL_law__299 ?_
  refine j_aload_n hx 1 dL_law__300 rfl ?_
  refine j_callSH hx (c_L_table hst a ((ys (i + 1).toNat)) o) lk_RL_112 [.ref a, .int (zI ((ys (i + 1).toNat))), .ref o] ⟨rfl, hG, hS0, ha, (by omega), ho⟩ rfl rfl ⟨by decide, by decide⟩ ⟨(by show k + 1 ≤ 601024; omega), (by show n + 6 ≤ 7293034; omega)⟩ (k2 := k + 1) (n2 := n + 6) rfl rfl (Nat.le_of_ble_eq_true rfl) dL_law__301 (kIM2 (fun v1 s1 hS_s1 hF_s1 q2 => ?_))
  refine j_istore hx [(5, .int (zI v1)), (4, .int (zI i)), (3, .ref o), (2, .ref m), (1, .ref a), (0, .ref b)] dL_law__304 (by decide) rfl ?_
  refine j_aload_n hx 3 dL_law__306 rfl ?_
  refine j_aload_n hx 5 dL_law__307 rfl ?_
  refine j_iload hx 1 dL_law__308 rfl ?_
  refine j_iconst hx dL_law__310 ?_
  refine j_iadd hx (r := i + 1) dL_law__311 rfl ?_
  refine j_sld hx hs (j := (i + 1).toNat) (by omega) (by omega) (by omega) dL_law__312 ?_
  have g3 : zc (s1 (gP G m 27)) = zc (s0 (gP G m 27)) := by rw [hF_s1 (gP G m 27) (by rw [(zr (k := 27) (t2 := 84) hG hm rfl)]; decide)]
  have g4 : zc (s1 (gP G m 28)) = zc (s0 (gP G m 28)) := by rw [hF_s1 (gP G m 28) (by rw [(zr (k := 28) (t2 := 85) hG hm rfl)]; decide)]
  have g5 : s1 m 24 = s0 m 24 := (by rw [(zFr_g hF_s1 hm (by decide))])
  have f6 := zf hS0 hm (k := 24) rfl
  have g7 : s1 (gP G m 27) 488 = s0 (gP G m 27) 488 := (by rw [(zFr_g hF_s1 (zr (k := 27) (t2 := 84) hG hm rfl) (by decide))])
  have g8 : s1 (gP G m 28) 488 = s0 (gP G m 28) 488 := (by rw [(zFr_g hF_s1 (zr (k := 28) (t2 := 85) hG hm rfl) (by decide))])
  have g9 : s1 m 38 = s0 m 38 := (by rw [(zFr_g hF_s1 hm (by decide))])
  have f10 := zf hS0 hm (k := 38) rfl
  have g11 : s1 m 51 = s0 m 51 := (by rw [(zFr_g hF_s1 hm (by decide))])
  have f12 := zf hS0 hm (k := 51) rfl
  have g13 : s1 m 52 = s0 m 52 := (by rw [(zFr_g hF_s1 hm (by decide))])
  have f14 := zf hS0 hm (k := 52) rfl
  refine j_callV hx hG (c_X12_table hst m ((ys (i + 1).toNat))) lk_RL_117 hm (by decide) rfl rfl rfl rfl [.int (zI ((ys (i + 1).toNat)))] ⟨rfl, hG, hS_s1, hm, (by omega), (by omega), (by omega), ((by have q1 : s1 (gP G m 34) = s0 (gP G m 34) := (by rw [hF_s1 (gP G m 34) (by rw [(zr (k := 34) (t2 := 91) hG hm rfl)]; decide)]); have q2 : s1 (gP G m 35) = s0 (gP G m 35) := (by rw [hF_s1 (gP G m 35) (by rw [(zr (k := 35) (t2 := 92) hG hm rfl)]; decide)]); have q3 : s1 (gP G m 37) = s0 (gP G m 37) := (by rw [hF_s1 (gP G m 37) (by rw [(zr (k := 37) (t2 := 94) hG hm rfl)]; decide)]); rw [q1, q2, q3]; exact hI5)), ((by have q1 : s1 (gP G m 17) = s0 (gP G m 17) := (by rw [hF_s1 (gP G m 17) (by rw [(zr (k := 17) (t2 := 80) hG hm rfl)]; decide)]); rw [q1]; exact (zQn_nn hI6 (by omega))))⟩ rfl rfl ⟨by decide, by decide⟩ ⟨(by show k + 1 + 0 ≤ 601024; omega), (by show n + 6 + 0 ≤ 7293034; omega)⟩ (k2 := k + 1) (n2 := n + 6) rfl rfl (Nat.le_of_ble_eq_true rfl) dL_law__313 (kIM (fun v15 s2 hS_s2 hF_s2 q16 => ?_))
  refine j_istore hx [(6, .int (zI v15)), (5, .int (zI v1)), (4, .int (zI i)), (3, .ref o), (2, .ref m), (1, .ref a), (0, .ref b)] dL_law__316 (by decide) rfl ?_
  refine j_goto hx 1713 dL_law__318 rfl ?_
  have f17 := zf hS_s2 hm (k := 24) rfl
  have g18 : s2 (gP G m 57) 488 = s0 (gP G m 57) 488 := (by rw [(zFr_g hF_s2 (zr (k := 57) (t2 := 106) hG hm rfl) (by decide)), (zFr_g hF_s1 (zr (k := 57) (t2 := 106) hG hm rfl) (by decide))])
  have g19 : s2 (gP G m 57) 13709 = s0 (gP G m 57) 13709 := (by rw [(zFr_g hF_s2 (zr (k := 57) (t2 := 106) hG hm rfl) (by decide)), (zFr_g hF_s1 (zr (k := 57) (t2 := 106) hG hm rfl) (by decide))])
  have g20 : s2 (gP G m 57) 26930 = s0 (gP G m 57) 26930 := (by rw [(zFr_g hF_s2 (zr (k := 57) (t2 := 106) hG hm rfl) (by decide)), (zFr_g hF_s1 (zr (k := 57) (t2 := 106) hG hm rfl) (by decide))])
  exact j_wid (k2 := k + 8) (n2 := n + 400) (by omega) (by omega) (j_sub [2, 3, 4, 5, 6] [(4, .int (zI i)), (3, .ref o), (2, .ref m), (1, .ref a), (0, .ref b)] rfl (kk G s2 hG hS_s2 ⟨(by omega), (by omega), (by omega), (by omega), q16.2.2.2.2.2.1, (zQn_nn q16.2.2.2.2.2.2.1 (by omega)), (by have q1 : s2 (gP G m 55) = s0 (gP G m 55) := (by rw [hF_s2 (gP G m 55) (by rw [(zr (k := 55) (t2 := 104) hG hm rfl)]; decide), hF_s1 (gP G m 55) (by rw [(zr (k := 55) (t2 := 104) hG hm rfl)]; decide)]); rw [q1]; exact hI7), (by have q1 : s2 (gP G m 57) = s0 (gP G m 57) := (by rw [hF_s2 (gP G m 57) (by rw [(zr (k := 57) (t2 := 106) hG hm rfl)]; decide), hF_s1 (gP G m 57) (by rw [(zr (k := 57) (t2 := 106) hG hm rfl)]; decide)]); rw [q1]; exact hI8), (by omega), (by omega), (by omega)⟩ ha hm ho))

theorem lk_RL_118 : LkSH RL 118 yL_plan cL_plan 5 (some .int) [(0, 10, 13, 19), (0, 10, 17, 13)] 4 := ⟨km_RL_118, kst_yL_plan, kn_RL, kc_yL_plan, by decide +kernel, by decide +kernel, by decide +kernel⟩
theorem lk_RL_121 : LkV RL 121 RX12 yX12_plan cX12_plan 3 (some .int) 2 := ⟨km_RL_121, ki_yX12_plan, ks_RX12_yX12_plan, kn_RX12, kc_yX12_plan, rfl, by decide +kernel, by decide +kernel, by decide +kernel⟩
set_option maxHeartbeats 4000000 in
set_option maxRecDepth 20000 in
theorem w_2 {X : zX} {E : zE} {G : zG} {s0 : zS} {b a m o L0 k n : Nat} {ys : Nat → Int} {i T : Int} (hL : LX X E b) (hG : zGK G) (hS0 : zSK G s0) (hI : zInv G s0 m T) (hT0 : 0 ≤ T) (hT : T ≤ 519000) (ha : gT G a = 12) (hm : gT G m = 13) (ho : gT G o = 120) (hs : ZS X E b L0 ys) (hy : ∀ j, -2147483648 ≤ ys j ∧ ys j ≤ 2147483647) (hi0 : 0 ≤ i) (hi : i + 6 ≤ L0) (hL0 : L0 ≤ 3072) (hk : k + 8 ≤ 601024) (hn : n + 400 ≤ 7293034) (kk : ∀ G2 s2, zGK G2 → zSK G2 s2 → zInv G2 s2 m (T + 1000) → gT G2 a = 12 → gT G2 m = 13 → gT G2 o = 120 → JJ X E 8 G2 s2 (k + 8) (n + 400) [(4, .int (zI i)), (3, .ref o), (2, .ref m), (1, .ref a), (0, .ref b)] 1713 []) : JJ X E 8 G s0 k n [(4, .int (zI i)), (3, .ref o), (2, .ref m), (1, .ref a), (0, .ref b)] 321 [] := by
  have hx := hL.1
  have hst := hx.2.2.2.2.2.2.2.2.2.2.2
  have hI0 := hI
  obtain ⟨hI1, hI2, hI3, hI4, hI5, hI6, hI7, hI8, hI9, hI10, hI11⟩ := hI
  have hy0 := hy (i).toNat
  have hy1 := hy (i + 1).toNat
  have hy2 := hy (i + 2).toNat
  have hy3 := hy (i + 3).toNat
  have hy4 := hy (i + 4).toNat
  have hy5 := hy (i + 5).toNat
  refine j_aload_n hx 3 dL_law__321 rfl ?_
  refine j_aload_n hx 4 dL_law__322 rfl ?_
  refine j_iload hx 0 dL_law__323 rfl ?_
  refine j_iconst hx dL_law__325 ?_
  refine j_iadd hx (r := i + 1) dL_law__326 rfl ?_
  refine j_sld hx hs (j := (i + 1).toNat) (by omega) (by omega) (by omega) dL_law__327 ?_
  refine j_aload_n hx 4 dL_law__328 rfl ?_
  refine j_iload hx 0 dL_law__329 rfl ?_
  refine j_iconst hx dL_law__331 ?_
  refine j_iadd hx (r := i + 2) dL_law__332 rfl ?_
  refine j_sld hx hs (j := (i + 2).toNat) (by omega) (by omega) (by omega) dL_law__333 ?_
  refine j_aload_n hx 1 dL_law__334 rfl ?_
  refine j_callSH hx (c_L_plan hst a ((ys (i + 1).toNat)) ((ys (i + 2).toNat)) o) lk_RL_118 [.ref a, .int (zI ((ys (i + 1).toNat))), .int (zI ((ys (i + 2).toNat))), .ref o] ⟨rfl, hG, hS0, ha, (by omega), (by omega), ho⟩ rfl rfl ⟨by decide, by decide⟩ ⟨(by show k + 4 ≤ 601024; omega), (by show n + 164 ≤ 7293034; omega)⟩ (k2 := k + 4) (n2 := n + 164) rfl rfl (Nat.le_of_ble_eq_true rfl) dL_law__335 ?_
  rintro _ G2 s1 ⟨v1, rfl, hG2, hS_s1, hX2, h1⟩
  have ha2 : gT G2 a = 12 := by rw [(hX2 a (by rw [ha]; decide)).1]; exact ha
  have hm2 : gT G2 m = 13 := by rw [(hX2 m (by rw [hm]; decide)).1]; exact hm
  have ho2 : gT G2 o = 120 := by rw [(hX2 o (by rw [ho]; decide)).1]; exact ho
  have e24 : s1 m 24 = s0 m 24 := by rw [(hX2 m (by rw [hm]; decide)).2.2.2 (by rw [hm]; decide)]
  have hI9 := zInv_Xt hI0 (Int.le_refl T) hG hm hX2 (by decide) e24
  clear hI0 hI1 hI2 hI3 hI4 hI5 hI6 hI7 hI8 hI10 hI11
  obtain ⟨hJ1, hJ2, hJ3, hJ4, hJ5, hJ6, hJ7, hJ8, hJ9, hJ10, hJ11⟩ := hI9
  refine j_istore hx [(5, .int (zI v1)), (4, .int (zI i)), (3, .ref o), (2, .ref m), (1, .ref a), (0, .ref b)] dL_law__338 (by decide) rfl ?_
  refine j_aload_n hx 3 dL_law__340 rfl ?_
  refine j_aload_n hx 5 dL_law__341 rfl ?_
  refine j_iload hx 1 dL_law__342 rfl ?_
  refine j_iconst hx dL_law__344 ?_
  refine j_iadd hx (r := i + 1) dL_law__345 rfl ?_
  refine j_sld hx hs (j := (i + 1).toNat) (by omega) (by omega) (by omega) dL_law__346 ?_
  refine j_aload_n hx 5 dL_law__347 rfl ?_
  refine j_iload hx 1 dL_law__348 rfl ?_
  refine j_iconst hx dL_law__350 ?_
  refine j_iadd hx (r := i + 2) dL_law__351 rfl ?_
  refine j_sld hx hs (j := (i + 2).toNat) (by omega) (by omega) (by omega) dL_law__352 ?_
  have f2 := zf hS_s1 hm2 (k := 21) rfl
  have f3 := zf hS_s1 hm2 (k := 22) rfl
  have f4 := zf hS_s1 hm2 (k := 23) rfl
  have f5 := zf hS_s1 hm2 (k := 24) rfl
  have f6 := zf hS_s1 hm2 (k := 51) rfl
  have f7 := zf hS_s1 hm2 (k := 52) rfl
  refine j_callV hx hG2 (c_X12_plan hst m ((ys (i + 1).toNat)) ((ys (i + 2).toNat))) lk_RL_121 hm2 (by decide) rfl rfl rfl rfl [.int (zI ((ys (i + 1).toNat))), .int (zI ((ys (i + 2).toNat)))] ⟨rfl, hG2, hS_s1, hm2, (by omega), (by omega), (hJ5)⟩ rfl rfl ⟨by decide, by decide⟩ ⟨(by show k + 4 + 0 ≤ 601024; omega), (by show n + 164 + 0 ≤ 7293034; omega)⟩ (k2 := k + 4) (n2 := n + 164) rfl rfl (Nat.le_of_ble_eq_true rfl) dL_law__353 (kIM (fun v8 s2 hS_s2 hF_s2 q9 => ?_))
  refine j_istore hx [(6, .int (zI v8)), (5, .int (zI v1)), (4, .int (zI i)), (3, .ref o), (2, .ref m), (1, .ref a), (0, .ref b)] dL_law__356 (by decide) rfl ?_
  refine j_goto hx 1713 dL_law__358 rfl ?_
  have g10 : zc (s2 (gP G2 m 27)) = zc (s1 (gP G2 m 27)) := by rw [hF_s2 (gP G2 m 27) (by rw [(zr (k := 27) (t2 := 84) hG2 hm2 rfl)]; decide)]
  have g11 : s2 (gP G2 m 27) 488 = s1 (gP G2 m 27) 488 := (by rw [(zFr_g hF_s2 (zr (k := 27) (t2 := 84) hG2 hm2 rfl) (by decide))])
  have f12 := zf hS_s2 hm2 (k := 24) rfl
  have g13 : s2 (gP G2 m 57) 488 = s1 (gP G2 m 57) 488 := (by rw [(zFr_g hF_s2 (zr (k := 57) (t2 := 106) hG2 hm2 rfl) (by decide))])
  have g14 : s2 (gP G2 m 57) 13709 = s1 (gP G2 m 57) 13709 := (by rw [(zFr_g hF_s2 (zr (k := 57) (t2 := 106) hG2 hm2 rfl) (by decide))])
  have g15 : s2 (gP G2 m 57) 26930 = s1 (gP G2 m 57) 26930 := (by rw [(zFr_g hF_s2 (zr (k := 57) (t2 := 106) hG2 hm2 rfl) (by decide))])
  exact j_wid (k2 := k + 8) (n2 := n + 400) (by omega) (by omega) (j_sub [2, 3, 4, 5, 6] [(4, .int (zI i)), (3, .ref o), (2, .ref m), (1, .ref a), (0, .ref b)] rfl (kk G2 s2 hG2 hS_s2 ⟨(by omega), (by omega), (by omega), (by omega), q9.2.1, (by have q1 : s2 (gP G2 m 17) = s1 (gP G2 m 17) := (by rw [hF_s2 (gP G2 m 17) (by rw [(zr (k := 17) (t2 := 80) hG2 hm2 rfl)]; decide)]); rw [q1]; exact (zQn_nn hJ6 (by omega))), (by have q1 : s2 (gP G2 m 55) = s1 (gP G2 m 55) := (by rw [hF_s2 (gP G2 m 55) (by rw [(zr (k := 55) (t2 := 104) hG2 hm2 rfl)]; decide)]); rw [q1]; exact hJ7), (by have q1 : s2 (gP G2 m 57) = s1 (gP G2 m 57) := (by rw [hF_s2 (gP G2 m 57) (by rw [(zr (k := 57) (t2 := 106) hG2 hm2 rfl)]; decide)]); rw [q1]; exact hJ8), (by omega), (by omega), (by omega)⟩ ha2 hm2 ho2))

theorem lk_RL_122 : LkSH RL 122 yL_guess cL_guess 5 (some .int) [(0, 10, 13, 19), (0, 10, 17, 13)] 4 := ⟨km_RL_122, kst_yL_guess, kn_RL, kc_yL_guess, by decide +kernel, by decide +kernel, by decide +kernel⟩
theorem lk_RL_124 : LkV RL 124 RX12 yX12_guess cX12_guess 3 (some .int) 2 := ⟨km_RL_124, ki_yX12_guess, ks_RX12_yX12_guess, kn_RX12, kc_yX12_guess, rfl, by decide +kernel, by decide +kernel, by decide +kernel⟩
set_option maxHeartbeats 4000000 in
set_option maxRecDepth 20000 in
theorem w_3 {X : zX} {E : zE} {G : zG} {s0 : zS} {b a m o L0 k n : Nat} {ys : Nat → Int} {i T : Int} (hL : LX X E b) (hG : zGK G) (hS0 : zSK G s0) (hI : zInv G s0 m T) (hT0 : 0 ≤ T) (hT : T ≤ 519000) (ha : gT G a = 12) (hm : gT G m = 13) (ho : gT G o = 120) (hs : ZS X E b L0 ys) (hy : ∀ j, -2147483648 ≤ ys j ∧ ys j ≤ 2147483647) (hi0 : 0 ≤ i) (hi : i + 6 ≤ L0) (hL0 : L0 ≤ 3072) (hk : k + 8 ≤ 601024) (hn : n + 400 ≤ 7293034) (kk : ∀ G2 s2, zGK G2 → zSK G2 s2 → zInv G2 s2 m (T + 1000) → gT G2 a = 12 → gT G2 m = 13 → gT G2 o = 120 → JJ X E 8 G2 s2 (k + 8) (n + 400) [(4, .int (zI i)), (3, .ref o), (2, .ref m), (1, .ref a), (0, .ref b)] 1713 []) : JJ X E 8 G s0 k n [(4, .int (zI i)), (3, .ref o), (2, .ref m), (1, .ref a), (0, .ref b)] 361 [] := by
  have hx := hL.1
  have hst := hx.2.2.2.2.2.2.2.2.2.2.2
  have hI0 := hI
  obtain ⟨hI1, hI2, hI3, hI4, hI5, hI6, hI7, hI8, hI9, hI10, hI11⟩ := hI
  have hy0 := hy (i).toNat
  have hy1 := hy (i + 1).toNat
  have hy2 := hy (i + 2).toNat
  have hy3 := hy (i + 3).toNat
  have hy4 := hy (i + 4).toNat
  have hy5 := hy (i + 5).toNat
  refine j_aload_n hx 3 dL_law__361 rfl ?_
  refine j_aload_n hx 4 dL_law__362 rfl ?_
  refine j_iload hx 0 dL_law__363 rfl ?_
  refine j_iconst hx dL_law__365 ?_
  refine j_iadd hx (r := i + 1) dL_law__366 rfl ?_
  refine j_sld hx hs (j := (i + 1).toNat) (by omega) (by omega) (by omega) dL_law__367 ?_
  refine j_aload_n hx 4 dL_law__368 rfl ?_
  refine j_iload hx 0 dL_law__369 rfl ?_
  refine j_iconst hx dL_law__371 ?_
  refine j_iadd hx (r := i + 2) dL_law__372 rfl ?_
  refine j_sld hx hs (j := (i + 2).toNat) (by omega) (by omega) (by omega) dL_law__373 ?_
  refine j_aload_n hx 1 dL_law__374 rfl ?_
  refine j_callSH hx (c_L_guess hst a ((ys (i + 1).toNat)) ((ys (i + 2).toNat)) o) lk_RL_122 [.ref a, .int (zI ((ys (i + 1).toNat))), .int (zI ((ys (i + 2).toNat))), .ref o] ⟨rfl, hG, hS0, ha, (by omega), (by omega), ho⟩ rfl rfl ⟨by decide, by decide⟩ ⟨(by show k + 4 ≤ 601024; omega), (by show n + 164 ≤ 7293034; omega)⟩ (k2 := k + 4) (n2 := n + 164) rfl rfl (Nat.le_of_ble_eq_true rfl) dL_law__375 ?_
  rintro _ G2 s1 ⟨v1, rfl, hG2, hS_s1, hX2, h1⟩
  have ha2 : gT G2 a = 12 := by rw [(hX2 a (by rw [ha]; decide)).1]; exact ha
  have hm2 : gT G2 m = 13 := by rw [(hX2 m (by rw [hm]; decide)).1]; exact hm
  have ho2 : gT G2 o = 120 := by rw [(hX2 o (by rw [ho]; decide)).1]; exact ho
  have e24 : s1 m 24 = s0 m 24 := by rw [(hX2 m (by rw [hm]; decide)).2.2.2 (by rw [hm]; decide)]
  have hI9 := zInv_Xt hI0 (Int.le_refl T) hG hm hX2 (by decide) e24
  clear hI0 hI1 hI2 hI3 hI4 hI5 hI6 hI7 hI8 hI10 hI11
  obtain ⟨hJ1, hJ2, hJ3, hJ4, hJ5, hJ6, hJ7, hJ8, hJ9, hJ10, hJ11⟩ := hI9
  refine j_istore hx [(5, .int (zI v1)), (4, .int (zI i)), (3, .ref o), (2, .ref m), (1, .ref a), (0, .ref b)] dL_law__378 (by decide) rfl ?_
  refine j_aload_n hx 3 dL_law__380 rfl ?_
  refine j_aload_n hx 5 dL_law__381 rfl ?_
  refine j_iload hx 1 dL_law__382 rfl ?_
  refine j_iconst hx dL_law__384 ?_
  refine j_iadd hx (r := i + 1) dL_law__385 rfl ?_
  refine j_sld hx hs (j := (i + 1).toNat) (by omega) (by omega) (by omega) dL_law__386 ?_
  refine j_aload_n hx 5 dL_law__387 rfl ?_
  refine j_iload hx 1 dL_law__388 rfl ?_
  refine j_iconst hx dL_law__390 ?_
  refine j_iadd hx (r := i + 2) dL_law__391 rfl ?_
  refine j_sld hx hs (j := (i + 2).toNat) (by omega) (by omega) (by omega) dL_law__392 ?_
  have f2 := zf hS_s1 hm2 (k := 21) rfl
  have f3 := zf hS_s1 hm2 (k := 22) rfl
  have f4 := zf hS_s1 hm2 (k := 23) rfl
  have f5 := zf hS_s1 hm2 (k := 24) rfl
  have f6 := zf hS_s1 hm2 (k := 51) rfl
  have f7 := zf hS_s1 hm2 (k := 52) rfl
  refine j_callV hx hG2 (c_X12_guess hst m ((ys (i + 1).toNat)) ((ys (i + 2).toNat))) lk_RL_124 hm2 (by decide) rfl rfl rfl rfl [.int (zI ((ys (i + 1).toNat))), .int (zI ((ys (i + 2).toNat)))] ⟨rfl, hG2, hS_s1, hm2, (by omega), (by omega), (hJ5)⟩ rfl rfl ⟨by decide, by decide⟩ ⟨(by show k + 4 + 0 ≤ 601024; omega), (by show n + 164 + 0 ≤ 7293034; omega)⟩ (k2 := k + 4) (n2 := n + 164) rfl rfl (Nat.le_of_ble_eq_true rfl) dL_law__393 (kIM (fun v8 s2 hS_s2 hF_s2 q9 => ?_))
  refine j_istore hx [(6, .int (zI v8)), (5, .int (zI v1)), (4, .int (zI i)), (3, .ref o), (2, .ref m), (1, .ref a), (0, .ref b)] dL_law__396 (by decide) rfl ?_
  refine j_goto hx 1713 dL_law__398 rfl ?_
  have g10 : zc (s2 (gP G2 m 27)) = zc (s1 (gP G2 m 27)) := by rw [hF_s2 (gP G2 m 27) (by rw [(zr (k := 27) (t2 := 84) hG2 hm2 rfl)]; decide)]
  have g11 : s2 (gP G2 m 27) 488 = s1 (gP G2 m 27) 488 := (by rw [(zFr_g hF_s2 (zr (k := 27) (t2 := 84) hG2 hm2 rfl) (by decide))])
  have f12 := zf hS_s2 hm2 (k := 24) rfl
  have g13 : s2 (gP G2 m 57) 488 = s1 (gP G2 m 57) 488 := (by rw [(zFr_g hF_s2 (zr (k := 57) (t2 := 106) hG2 hm2 rfl) (by decide))])
  have g14 : s2 (gP G2 m 57) 13709 = s1 (gP G2 m 57) 13709 := (by rw [(zFr_g hF_s2 (zr (k := 57) (t2 := 106) hG2 hm2 rfl) (by decide))])
  have g15 : s2 (gP G2 m 57) 26930 = s1 (gP G2 m 57) 26930 := (by rw [(zFr_g hF_s2 (zr (k := 57) (t2 := 106) hG2 hm2 rfl) (by decide))])
  exact j_wid (k2 := k + 8) (n2 := n + 400) (by omega) (by omega) (j_sub [2, 3, 4, 5, 6] [(4, .int (zI i)), (3, .ref o), (2, .ref m), (1, .ref a), (0, .ref b)] rfl (kk G2 s2 hG2 hS_s2 ⟨(by omega), (by omega), (by omega), (by omega), q9.2.1, (by have q1 : s2 (gP G2 m 17) = s1 (gP G2 m 17) := (by rw [hF_s2 (gP G2 m 17) (by rw [(zr (k := 17) (t2 := 80) hG2 hm2 rfl)]; decide)]); rw [q1]; exact (zQn_nn hJ6 (by omega))), (by have q1 : s2 (gP G2 m 55) = s1 (gP G2 m 55) := (by rw [hF_s2 (gP G2 m 55) (by rw [(zr (k := 55) (t2 := 104) hG2 hm2 rfl)]; decide)]); rw [q1]; exact hJ7), (by have q1 : s2 (gP G2 m 57) = s1 (gP G2 m 57) := (by rw [hF_s2 (gP G2 m 57) (by rw [(zr (k := 57) (t2 := 106) hG2 hm2 rfl)]; decide)]); rw [q1]; exact hJ8), (by omega), (by omega), (by omega)⟩ ha2 hm2 ho2))

theorem lk_RL_125 : LkSH RL 125 yL_book cL_book 4 (some .int) [(0, 9, 12, 13)] 3 := ⟨km_RL_125, kst_yL_book, kn_RL, kc_yL_book, by decide +kernel, by decide +kernel, by decide +kernel⟩
theorem lk_RL_127 : LkV RL 127 RX12 yX12_book cX12_book 6 (some .int) 1 := ⟨km_RL_127, ki_yX12_book, ks_RX12_yX12_book, kn_RX12, kc_yX12_book, rfl, by decide +kernel, by decide +kernel, by decide +kernel⟩
set_option maxHeartbeats 4000000 in
set_option maxRecDepth 20000 in
theorem w_4 {X : zX} {E : zE} {G : zG} {s0 : zS} {b a m o L0 k n : Nat} {ys : Nat → Int} {i T : Int} (hL : LX X E b) (hG : zGK G) (hS0 : zSK G s0) (hI : zInv G s0 m T) (hT0 : 0 ≤ T) (hT : T ≤ 519000) (ha : gT G a = 12) (hm : gT G m = 13) (ho : gT G o = 120) (hs : ZS X E b L0 ys) (hy : ∀ j, -2147483648 ≤ ys j ∧ ys j ≤ 2147483647) (hi0 : 0 ≤ i) (hi : i + 6 ≤ L0) (hL0 : L0 ≤ 3072) (hk : k + 8 ≤ 601024) (hn : n + 400 ≤ 7293034) (kk : ∀ G2 s2, zGK G2 → zSK G2 s2 → zInv G2 s2 m (T + 1000) → gT G2 a = 12 → gT G2 m = 13 → gT G2 o = 120 → JJ X E 8 G2 s2 (k + 8) (n + 400) [(4, .int (zI i)), (3, .ref o), (2, .ref m), (1, .ref a), (0, .ref b)] 1713 []) : JJ X E 8 G s0 k n [(4, .int (zI i)), (3, .ref o), (2, .ref m), (1, .ref a), (0, .ref b)] 401 [] := by
  have hx := hL.1
  have hst := hx.2.2.2.2.2.2.2.2.2.2.2
  have hI0 := hI
  obtain ⟨hI1, hI2, hI3, hI4, hI5, hI6, hI7, hI8, hI9, hI10, hI11⟩ := hI
  have hy0 := hy (i).toNat
  have hy1 := hy (i + 1).toNat
  have hy2 := hy (i + 2).toNat
  have hy3 := hy (i + 3).toNat
  have hy4 := hy (i + 4).toNat
  have hy5 := hy (i + 5).toNat
  refine j_aload_n hx 3 dL_law__401 rfl ?_
  refine j_aload_n hx 4 dL_law__402 rfl ?_
  refine j_iload hx 0 dL_law__403 rfl ?_
  refine j_iconst hx dL_law__405 ?_
  refine j_iadd hx (r := i + 1) dL_law__406 rfl ?_
  refine j_sld hx hs (j := (i + 1).toNat) (by omega) (by omega) (by omega) dL_law__407 ?_
  refine j_aload_n hx 1 dL_law__408 rfl ?_
  refine j_callSH hx (c_L_book hst a ((ys (i + 1).toNat)) o) lk_RL_125 [.ref a, .int (zI ((ys (i + 1).toNat))), .ref o] ⟨rfl, hG, hS0, ha, (by omega), ho⟩ rfl rfl ⟨by decide, by decide⟩ ⟨(by show k + 1 ≤ 601024; omega), (by show n + 6 ≤ 7293034; omega)⟩ (k2 := k + 1) (n2 := n + 6) rfl rfl (Nat.le_of_ble_eq_true rfl) dL_law__409 (kIM2 (fun v1 s1 hS_s1 hF_s1 q2 => ?_))
  refine j_istore hx [(5, .int (zI v1)), (4, .int (zI i)), (3, .ref o), (2, .ref m), (1, .ref a), (0, .ref b)] dL_law__412 (by decide) rfl ?_
  refine j_aload_n hx 3 dL_law__414 rfl ?_
  refine j_aload_n hx 5 dL_law__415 rfl ?_
  refine j_iload hx 1 dL_law__416 rfl ?_
  refine j_iconst hx dL_law__418 ?_
  refine j_iadd hx (r := i + 1) dL_law__419 rfl ?_
  refine j_sld hx hs (j := (i + 1).toNat) (by omega) (by omega) (by omega) dL_law__420 ?_
  have g3 : s1 m 21 = s0 m 21 := (by rw [(zFr_g hF_s1 hm (by decide))])
  have f4 := zf hS0 hm (k := 21) rfl
  have g5 : s1 m 22 = s0 m 22 := (by rw [(zFr_g hF_s1 hm (by decide))])
  have f6 := zf hS0 hm (k := 22) rfl
  have g7 : s1 m 23 = s0 m 23 := (by rw [(zFr_g hF_s1 hm (by decide))])
  have f8 := zf hS0 hm (k := 23) rfl
  have g9 : s1 m 24 = s0 m 24 := (by rw [(zFr_g hF_s1 hm (by decide))])
  have f10 := zf hS0 hm (k := 24) rfl
  have g11 : s1 m 38 = s0 m 38 := (by rw [(zFr_g hF_s1 hm (by decide))])
  have f12 := zf hS0 hm (k := 38) rfl
  have g13 : s1 m 51 = s0 m 51 := (by rw [(zFr_g hF_s1 hm (by decide))])
  have f14 := zf hS0 hm (k := 51) rfl
  have g15 : s1 m 52 = s0 m 52 := (by rw [(zFr_g hF_s1 hm (by decide))])
  have f16 := zf hS0 hm (k := 52) rfl
  refine j_callV hx hG (c_X12_book hst m ((ys (i + 1).toNat))) lk_RL_127 hm (by decide) rfl rfl rfl rfl [.int (zI ((ys (i + 1).toNat)))] ⟨rfl, hG, hS_s1, hm, (by omega)⟩ rfl rfl ⟨by decide, by decide⟩ ⟨(by show k + 1 + 0 ≤ 601024; omega), (by show n + 6 + 0 ≤ 7293034; omega)⟩ (k2 := k + 1) (n2 := n + 6) rfl rfl (Nat.le_of_ble_eq_true rfl) dL_law__421 (kIM (fun v17 s2 hS_s2 hF_s2 q18 => ?_))
  refine j_istore hx [(6, .int (zI v17)), (5, .int (zI v1)), (4, .int (zI i)), (3, .ref o), (2, .ref m), (1, .ref a), (0, .ref b)] dL_law__424 (by decide) rfl ?_
  refine j_goto hx 1713 dL_law__426 rfl ?_
  have f19 := zf hS_s2 hm (k := 24) rfl
  exact j_wid (k2 := k + 8) (n2 := n + 400) (by omega) (by omega) (j_sub [2, 3, 4, 5, 6] [(4, .int (zI i)), (3, .ref o), (2, .ref m), (1, .ref a), (0, .ref b)] rfl (kk G s2 hG hS_s2 (zInv_fr (ts := [2, 10, 12, 13, 47, 48, 71, 96, 97, 120]) hI0 (by omega) hG hm (zFr_t (zFr_t zFr_rf hF_s1 (by decide)) hF_s2 (by decide)) (by decide) (by omega)) ha hm ho))

theorem lk_RL_128 : LkV RL 128 RX11 yX11_fault cX11_fault 1 (some .int) 0 := ⟨km_RL_128, ki_yX11_fault, ks_RX11_yX11_fault, kn_RX11, kc_yX11_fault, rfl, by decide +kernel, by decide +kernel, by decide +kernel⟩
theorem lk_RL_132 : LkV RL 132 RX12 yX12_fault cX12_fault 1 (some .int) 0 := ⟨km_RL_132, ki_yX12_fault, ks_RX12_yX12_fault, kn_RX12, kc_yX12_fault, rfl, by decide +kernel, by decide +kernel, by decide +kernel⟩
set_option maxHeartbeats 4000000 in
set_option maxRecDepth 20000 in
theorem w_5 {X : zX} {E : zE} {G : zG} {s0 : zS} {b a m o L0 k n : Nat} {ys : Nat → Int} {i T : Int} (hL : LX X E b) (hG : zGK G) (hS0 : zSK G s0) (hI : zInv G s0 m T) (hT0 : 0 ≤ T) (hT : T ≤ 519000) (ha : gT G a = 12) (hm : gT G m = 13) (ho : gT G o = 120) (hs : ZS X E b L0 ys) (hy : ∀ j, -2147483648 ≤ ys j ∧ ys j ≤ 2147483647) (hi0 : 0 ≤ i) (hi : i + 6 ≤ L0) (hL0 : L0 ≤ 3072) (hk : k + 8 ≤ 601024) (hn : n + 400 ≤ 7293034) (kk : ∀ G2 s2, zGK G2 → zSK G2 s2 → zInv G2 s2 m (T + 1000) → gT G2 a = 12 → gT G2 m = 13 → gT G2 o = 120 → JJ X E 8 G2 s2 (k + 8) (n + 400) [(4, .int (zI i)), (3, .ref o), (2, .ref m), (1, .ref a), (0, .ref b)] 1713 []) : JJ X E 8 G s0 k n [(4, .int (zI i)), (3, .ref o), (2, .ref m), (1, .ref a), (0, .ref b)] 429 [] := by
  have hx := hL.1
  have hst := hx.2.2.2.2.2.2.2.2.2.2.2
  have hI0 := hI
  obtain ⟨hI1, hI2, hI3, hI4, hI5, hI6, hI7, hI8, hI9, hI10, hI11⟩ := hI
  have hy0 := hy (i).toNat
  have hy1 := hy (i + 1).toNat
  have hy2 := hy (i + 2).toNat
  have hy3 := hy (i + 3).toNat
  have hy4 := hy (i + 4).toNat
  have hy5 := hy (i + 5).toNat
  refine j_aload_n hx 3 dL_law__429 rfl ?_
  refine j_callV hx hG (c_X11_fault hst a) lk_RL_128 ha (by decide) rfl rfl rfl rfl [] ⟨rfl, hG, hS0, ha⟩ rfl rfl ⟨by decide, by decide⟩ ⟨(by show k + 0 ≤ 601024; omega), (by show n + 0 ≤ 7293034; omega)⟩ (k2 := k) (n2 := n) rfl rfl (Nat.le_of_ble_eq_true rfl) dL_law__430 (kIP (fun v1 q2 => ?_))
  refine j_pop hx dL_law__433 rfl ?_
  refine j_aload_n hx 2 dL_law__434 rfl ?_
  have f3 := zf hS0 hm (k := 3) rfl
  have f4 := zf hS0 hm (k := 4) rfl
  have f5 := zf hS0 hm (k := 5) rfl
  have f6 := zf hS0 hm (k := 7) rfl
  have f7 := zf hS0 hm (k := 21) rfl
  have f8 := zf hS0 hm (k := 22) rfl
  have f9 := zf hS0 hm (k := 23) rfl
  have f10 := zf hS0 hm (k := 24) rfl
  have f11 := zf hS0 hm (k := 38) rfl
  have f12 := zf hS0 hm (k := 51) rfl
  have f13 := zf hS0 hm (k := 52) rfl
  refine j_callV hx hG (c_X12_fault hst m) lk_RL_132 hm (by decide) rfl rfl rfl rfl [] ⟨rfl, hG, hS0, hm⟩ rfl rfl ⟨by decide, by decide⟩ ⟨(by show k + 0 ≤ 601024; omega), (by show n + 0 ≤ 7293034; omega)⟩ (k2 := k) (n2 := n) rfl rfl (Nat.le_of_ble_eq_true rfl) dL_law__435 (kIM (fun v14 s1 hS_s1 hF_s1 q15 => ?_))
  refine j_pop hx dL_law__438 rfl ?_
  refine j_goto hx 1713 dL_law__439 rfl ?_
  have f16 := zf hS_s1 hm (k := 24) rfl
  exact j_wid (k2 := k + 8) (n2 := n + 400) (by omega) (by omega) (j_sub [0, 1, 2, 3, 4] [(4, .int (zI i)), (3, .ref o), (2, .ref m), (1, .ref a), (0, .ref b)] rfl (kk G s1 hG hS_s1 (zInv_fr (ts := [13]) hI0 (by omega) hG hm (zFr_t zFr_rf hF_s1 (by decide)) (by decide) (by omega)) ha hm ho))

theorem lk_RL_133 : LkSH RL 133 yL_told cL_told 4 (some .int) [(0, 9, 12, 13)] 3 := ⟨km_RL_133, kst_yL_told, kn_RL, kc_yL_told, by decide +kernel, by decide +kernel, by decide +kernel⟩
theorem lk_RL_135 : LkV RL 135 RX12 yX12_told cX12_told 2 (some .int) 1 := ⟨km_RL_135, ki_yX12_told, ks_RX12_yX12_told, kn_RX12, kc_yX12_told, rfl, by decide +kernel, by decide +kernel, by decide +kernel⟩
set_option maxHeartbeats 4000000 in
set_option maxRecDepth 20000 in
theorem w_6 {X : zX} {E : zE} {G : zG} {s0 : zS} {b a m o L0 k n : Nat} {ys : Nat → Int} {i T : Int} (hL : LX X E b) (hG : zGK G) (hS0 : zSK G s0) (hI : zInv G s0 m T) (hT0 : 0 ≤ T) (hT : T ≤ 519000) (ha : gT G a = 12) (hm : gT G m = 13) (ho : gT G o = 120) (hs : ZS X E b L0 ys) (hy : ∀ j, -2147483648 ≤ ys j ∧ ys j ≤ 2147483647) (hi0 : 0 ≤ i) (hi : i + 6 ≤ L0) (hL0 : L0 ≤ 3072) (hk : k + 8 ≤ 601024) (hn : n + 400 ≤ 7293034) (kk : ∀ G2 s2, zGK G2 → zSK G2 s2 → zInv G2 s2 m (T + 1000) → gT G2 a = 12 → gT G2 m = 13 → gT G2 o = 120 → JJ X E 8 G2 s2 (k + 8) (n + 400) [(4, .int (zI i)), (3, .ref o), (2, .ref m), (1, .ref a), (0, .ref b)] 1713 []) : JJ X E 8 G s0 k n [(4, .int (zI i)), (3, .ref o), (2, .ref m), (1, .ref a), (0, .ref b)] 442 [] := by
  have hx := hL.1
  have hst := hx.2.2.2.2.2.2.2.2.2.2.2
  have hI0 := hI
  obtain ⟨hI1, hI2, hI3, hI4, hI5, hI6, hI7, hI8, hI9, hI10, hI11⟩ := hI
  have hy0 := hy (i).toNat
  have hy1 := hy (i + 1).toNat
  have hy2 := hy (i + 2).toNat
  have hy3 := hy (i + 3).toNat
  have hy4 := hy (i + 4).toNat
  have hy5 := hy (i + 5).toNat
  refine j_aload_n hx 3 dL_law__442 rfl ?_
  refine j_aload_n hx 4 dL_law__443 rfl ?_
  refine j_iload hx 0 dL_law__444 rfl ?_
  refine j_iconst hx dL_law__446 ?_
  refine j_iadd hx (r := i + 1) dL_law__447 rfl ?_
  refine j_sld hx hs (j := (i + 1).toNat) (by omega) (by omega) (by omega) dL_law__448 ?_
  refine j_aload_n hx 1 dL_law__449 rfl ?_
  refine j_callSH hx (c_L_told hst a ((ys (i + 1).toNat)) o) lk_RL_133 [.ref a, .int (zI ((ys (i + 1).toNat))), .ref o] ⟨rfl, hG, hS0, ha, (by omega), ho⟩ rfl rfl ⟨by decide, by decide⟩ ⟨(by show k + 1 ≤ 601024; omega), (by show n + 6 ≤ 7293034; omega)⟩ (k2 := k + 1) (n2 := n + 6) rfl rfl (Nat.le_of_ble_eq_true rfl) dL_law__450 (kIM2 (fun v1 s1 hS_s1 hF_s1 q2 => ?_))
  refine j_istore hx [(5, .int (zI v1)), (4, .int (zI i)), (3, .ref o), (2, .ref m), (1, .ref a), (0, .ref b)] dL_law__453 (by decide) rfl ?_
  refine j_aload_n hx 3 dL_law__455 rfl ?_
  refine j_aload_n hx 5 dL_law__456 rfl ?_
  refine j_iload hx 1 dL_law__457 rfl ?_
  refine j_iconst hx dL_law__459 ?_
  refine j_iadd hx (r := i + 1) dL_law__460 rfl ?_
  refine j_sld hx hs (j := (i + 1).toNat) (by omega) (by omega) (by omega) dL_law__461 ?_
  have g3 : s1 m 3 = s0 m 3 := (by rw [(zFr_g hF_s1 hm (by decide))])
  have f4 := zf hS0 hm (k := 3) rfl
  have g5 : s1 m 4 = s0 m 4 := (by rw [(zFr_g hF_s1 hm (by decide))])
  have f6 := zf hS0 hm (k := 4) rfl
  have g7 : s1 m 5 = s0 m 5 := (by rw [(zFr_g hF_s1 hm (by decide))])
  have f8 := zf hS0 hm (k := 5) rfl
  have g9 : s1 m 7 = s0 m 7 := (by rw [(zFr_g hF_s1 hm (by decide))])
  have f10 := zf hS0 hm (k := 7) rfl
  have g11 : s1 m 21 = s0 m 21 := (by rw [(zFr_g hF_s1 hm (by decide))])
  have f12 := zf hS0 hm (k := 21) rfl
  have g13 : s1 m 22 = s0 m 22 := (by rw [(zFr_g hF_s1 hm (by decide))])
  have f14 := zf hS0 hm (k := 22) rfl
  have g15 : s1 m 23 = s0 m 23 := (by rw [(zFr_g hF_s1 hm (by decide))])
  have f16 := zf hS0 hm (k := 23) rfl
  have g17 : s1 m 24 = s0 m 24 := (by rw [(zFr_g hF_s1 hm (by decide))])
  have f18 := zf hS0 hm (k := 24) rfl
  have g19 : s1 m 38 = s0 m 38 := (by rw [(zFr_g hF_s1 hm (by decide))])
  have f20 := zf hS0 hm (k := 38) rfl
  have g21 : s1 m 51 = s0 m 51 := (by rw [(zFr_g hF_s1 hm (by decide))])
  have f22 := zf hS0 hm (k := 51) rfl
  have g23 : s1 m 52 = s0 m 52 := (by rw [(zFr_g hF_s1 hm (by decide))])
  have f24 := zf hS0 hm (k := 52) rfl
  refine j_callV hx hG (c_X12_told hst m ((ys (i + 1).toNat))) lk_RL_135 hm (by decide) rfl rfl rfl rfl [.int (zI ((ys (i + 1).toNat)))] ⟨rfl, hG, hS_s1, hm, (by omega)⟩ rfl rfl ⟨by decide, by decide⟩ ⟨(by show k + 1 + 0 ≤ 601024; omega), (by show n + 6 + 0 ≤ 7293034; omega)⟩ (k2 := k + 1) (n2 := n + 6) rfl rfl (Nat.le_of_ble_eq_true rfl) dL_law__462 (kIM (fun v25 s2 hS_s2 hF_s2 q26 => ?_))
  refine j_istore hx [(6, .int (zI v25)), (5, .int (zI v1)), (4, .int (zI i)), (3, .ref o), (2, .ref m), (1, .ref a), (0, .ref b)] dL_law__465 (by decide) rfl ?_
  refine j_goto hx 1713 dL_law__467 rfl ?_
  have f27 := zf hS_s2 hm (k := 24) rfl
  exact j_wid (k2 := k + 8) (n2 := n + 400) (by omega) (by omega) (j_sub [2, 3, 4, 5, 6] [(4, .int (zI i)), (3, .ref o), (2, .ref m), (1, .ref a), (0, .ref b)] rfl (kk G s2 hG hS_s2 (zInv_fr (ts := [12, 13, 71, 120]) hI0 (by omega) hG hm (zFr_t (zFr_t zFr_rf hF_s1 (by decide)) hF_s2 (by decide)) (by decide) (by omega)) ha hm ho))

theorem lk_RL_136 : LkSH RL 136 yL_player cL_player 5 (some .int) [(0, 10, 13, 19), (0, 10, 17, 13)] 4 := ⟨km_RL_136, kst_yL_player, kn_RL, kc_yL_player, by decide +kernel, by decide +kernel, by decide +kernel⟩
theorem lk_RL_138 : LkV RL 138 RX12 yX12_player cX12_player 3 (some .int) 2 := ⟨km_RL_138, ki_yX12_player, ks_RX12_yX12_player, kn_RX12, kc_yX12_player, rfl, by decide +kernel, by decide +kernel, by decide +kernel⟩
set_option maxHeartbeats 4000000 in
set_option maxRecDepth 20000 in
theorem w_7 {X : zX} {E : zE} {G : zG} {s0 : zS} {b a m o L0 k n : Nat} {ys : Nat → Int} {i T : Int} (hL : LX X E b) (hG : zGK G) (hS0 : zSK G s0) (hI : zInv G s0 m T) (hT0 : 0 ≤ T) (hT : T ≤ 519000) (ha : gT G a = 12) (hm : gT G m = 13) (ho : gT G o = 120) (hs : ZS X E b L0 ys) (hy : ∀ j, -2147483648 ≤ ys j ∧ ys j ≤ 2147483647) (hi0 : 0 ≤ i) (hi : i + 6 ≤ L0) (hL0 : L0 ≤ 3072) (hk : k + 8 ≤ 601024) (hn : n + 400 ≤ 7293034) (kk : ∀ G2 s2, zGK G2 → zSK G2 s2 → zInv G2 s2 m (T + 1000) → gT G2 a = 12 → gT G2 m = 13 → gT G2 o = 120 → JJ X E 8 G2 s2 (k + 8) (n + 400) [(4, .int (zI i)), (3, .ref o), (2, .ref m), (1, .ref a), (0, .ref b)] 1713 []) : JJ X E 8 G s0 k n [(4, .int (zI i)), (3, .ref o), (2, .ref m), (1, .ref a), (0, .ref b)] 470 [] := by
  have hx := hL.1
  have hst := hx.2.2.2.2.2.2.2.2.2.2.2
  have hI0 := hI
  obtain ⟨hI1, hI2, hI3, hI4, hI5, hI6, hI7, hI8, hI9, hI10, hI11⟩ := hI
  have hy0 := hy (i).toNat
  have hy1 := hy (i + 1).toNat
  have hy2 := hy (i + 2).toNat
  have hy3 := hy (i + 3).toNat
  have hy4 := hy (i + 4).toNat
  have hy5 := hy (i + 5).toNat
  refine j_aload_n hx 3 dL_law__470 rfl ?_
  refine j_aload_n hx 4 dL_law__471 rfl ?_
  refine j_iload hx 0 dL_law__472 rfl ?_
  refine j_iconst hx dL_law__474 ?_
  refine j_iadd hx (r := i + 1) dL_law__475 rfl ?_
  refine j_sld hx hs (j := (i + 1).toNat) (by omega) (by omega) (by omega) dL_law__476 ?_
  refine j_aload_n hx 4 dL_law__477 rfl ?_
  refine j_iload hx 0 dL_law__478 rfl ?_
  refine j_iconst hx dL_law__480 ?_
  refine j_iadd hx (r := i + 2) dL_law__481 rfl ?_
  refine j_sld hx hs (j := (i + 2).toNat) (by omega) (by omega) (by omega) dL_law__482 ?_
  refine j_aload_n hx 1 dL_law__483 rfl ?_
  refine j_callSH hx (c_L_player hst a ((ys (i + 1).toNat)) ((ys (i + 2).toNat)) o) lk_RL_136 [.ref a, .int (zI ((ys (i + 1).toNat))), .int (zI ((ys (i + 2).toNat))), .ref o] ⟨rfl, hG, hS0, ha, (by omega), (by omega), ho⟩ rfl rfl ⟨by decide, by decide⟩ ⟨(by show k + 2 ≤ 601024; omega), (by show n + 12 ≤ 7293034; omega)⟩ (k2 := k + 2) (n2 := n + 12) rfl rfl (Nat.le_of_ble_eq_true rfl) dL_law__484 (kIM2 (fun v1 s1 hS_s1 hF_s1 q2 => ?_))
  refine j_istore hx [(5, .int (zI v1)), (4, .int (zI i)), (3, .ref o), (2, .ref m), (1, .ref a), (0, .ref b)] dL_law__487 (by decide) rfl ?_
  refine j_aload_n hx 3 dL_law__489 rfl ?_
  refine j_aload_n hx 5 dL_law__490 rfl ?_
  refine j_iload hx 1 dL_law__491 rfl ?_
  refine j_iconst hx dL_law__493 ?_
  refine j_iadd hx (r := i + 1) dL_law__494 rfl ?_
  refine j_sld hx hs (j := (i + 1).toNat) (by omega) (by omega) (by omega) dL_law__495 ?_
  refine j_aload_n hx 5 dL_law__496 rfl ?_
  refine j_iload hx 1 dL_law__497 rfl ?_
  refine j_iconst hx dL_law__499 ?_
  refine j_iadd hx (r := i + 2) dL_law__500 rfl ?_
  refine j_sld hx hs (j := (i + 2).toNat) (by omega) (by omega) (by omega) dL_law__501 ?_
  have g3 : s1 m 3 = s0 m 3 := (by rw [(zFr_g hF_s1 hm (by decide))])
  have f4 := zf hS0 hm (k := 3) rfl
  have g5 : s1 m 4 = s0 m 4 := (by rw [(zFr_g hF_s1 hm (by decide))])
  have f6 := zf hS0 hm (k := 4) rfl
  have g7 : s1 m 5 = s0 m 5 := (by rw [(zFr_g hF_s1 hm (by decide))])
  have f8 := zf hS0 hm (k := 5) rfl
  have g9 : s1 m 7 = s0 m 7 := (by rw [(zFr_g hF_s1 hm (by decide))])
  have f10 := zf hS0 hm (k := 7) rfl
  have g11 : s1 m 21 = s0 m 21 := (by rw [(zFr_g hF_s1 hm (by decide))])
  have f12 := zf hS0 hm (k := 21) rfl
  have g13 : s1 m 22 = s0 m 22 := (by rw [(zFr_g hF_s1 hm (by decide))])
  have f14 := zf hS0 hm (k := 22) rfl
  have g15 : s1 m 23 = s0 m 23 := (by rw [(zFr_g hF_s1 hm (by decide))])
  have f16 := zf hS0 hm (k := 23) rfl
  have g17 : s1 m 24 = s0 m 24 := (by rw [(zFr_g hF_s1 hm (by decide))])
  have f18 := zf hS0 hm (k := 24) rfl
  have g19 : s1 m 38 = s0 m 38 := (by rw [(zFr_g hF_s1 hm (by decide))])
  have f20 := zf hS0 hm (k := 38) rfl
  have g21 : s1 m 51 = s0 m 51 := (by rw [(zFr_g hF_s1 hm (by decide))])
  have f22 := zf hS0 hm (k := 51) rfl
  have g23 : s1 m 52 = s0 m 52 := (by rw [(zFr_g hF_s1 hm (by decide))])
  have f24 := zf hS0 hm (k := 52) rfl
  refine j_callV hx hG (c_X12_player hst m ((ys (i + 1).toNat)) ((ys (i + 2).toNat))) lk_RL_138 hm (by decide) rfl rfl rfl rfl [.int (zI ((ys (i + 1).toNat))), .int (zI ((ys (i + 2).toNat)))] ⟨rfl, hG, hS_s1, hm, (by omega), (by omega)⟩ rfl rfl ⟨by decide, by decide⟩ ⟨(by show k + 2 + 0 ≤ 601024; omega), (by show n + 12 + 0 ≤ 7293034; omega)⟩ (k2 := k + 2) (n2 := n + 12) rfl rfl (Nat.le_of_ble_eq_true rfl) dL_law__502 (kIM (fun v25 s2 hS_s2 hF_s2 q26 => ?_))
  refine j_istore hx [(6, .int (zI v25)), (5, .int (zI v1)), (4, .int (zI i)), (3, .ref o), (2, .ref m), (1, .ref a), (0, .ref b)] dL_law__505 (by decide) rfl ?_
  refine j_goto hx 1713 dL_law__507 rfl ?_
  have f27 := zf hS_s2 hm (k := 24) rfl
  exact j_wid (k2 := k + 8) (n2 := n + 400) (by omega) (by omega) (j_sub [2, 3, 4, 5, 6] [(4, .int (zI i)), (3, .ref o), (2, .ref m), (1, .ref a), (0, .ref b)] rfl (kk G s2 hG hS_s2 (zInv_fr (ts := [12, 13, 71, 120]) hI0 (by omega) hG hm (zFr_t (zFr_t zFr_rf hF_s1 (by decide)) hF_s2 (by decide)) (by decide) (by omega)) ha hm ho))

theorem lk_RL_139 : LkSH RL 139 yL_row cL_row 5 (some .int) [(0, 10, 13, 19)] 4 := ⟨km_RL_139, kst_yL_row, kn_RL, kc_yL_row, by decide +kernel, by decide +kernel, by decide +kernel⟩
theorem lk_RL_141 : LkV RL 141 RX12 yX12_row cX12_row 3 (some .int) 2 := ⟨km_RL_141, ki_yX12_row, ks_RX12_yX12_row, kn_RX12, kc_yX12_row, rfl, by decide +kernel, by decide +kernel, by decide +kernel⟩
set_option maxHeartbeats 4000000 in
set_option maxRecDepth 20000 in
theorem w_8 {X : zX} {E : zE} {G : zG} {s0 : zS} {b a m o L0 k n : Nat} {ys : Nat → Int} {i T : Int} (hL : LX X E b) (hG : zGK G) (hS0 : zSK G s0) (hI : zInv G s0 m T) (hT0 : 0 ≤ T) (hT : T ≤ 519000) (ha : gT G a = 12) (hm : gT G m = 13) (ho : gT G o = 120) (hs : ZS X E b L0 ys) (hy : ∀ j, -2147483648 ≤ ys j ∧ ys j ≤ 2147483647) (hi0 : 0 ≤ i) (hi : i + 6 ≤ L0) (hL0 : L0 ≤ 3072) (hk : k + 8 ≤ 601024) (hn : n + 400 ≤ 7293034) (kk : ∀ G2 s2, zGK G2 → zSK G2 s2 → zInv G2 s2 m (T + 1000) → gT G2 a = 12 → gT G2 m = 13 → gT G2 o = 120 → JJ X E 8 G2 s2 (k + 8) (n + 400) [(4, .int (zI i)), (3, .ref o), (2, .ref m), (1, .ref a), (0, .ref b)] 1713 []) : JJ X E 8 G s0 k n [(4, .int (zI i)), (3, .ref o), (2, .ref m), (1, .ref a), (0, .ref b)] 510 [] := by
  have hx := hL.1
  have hst := hx.2.2.2.2.2.2.2.2.2.2.2
  have hI0 := hI
  obtain ⟨hI1, hI2, hI3, hI4, hI5, hI6, hI7, hI8, hI9, hI10, hI11⟩ := hI
  have hy0 := hy (i).toNat
  have hy1 := hy (i + 1).toNat
  have hy2 := hy (i + 2).toNat
  have hy3 := hy (i + 3).toNat
  have hy4 := hy (i + 4).toNat
  have hy5 := hy (i + 5).toNat
  refine j_aload_n hx 3 dL_law__510 rfl ?_
  refine j_aload_n hx 4 dL_law__511 rfl ?_
  refine j_iload hx 0 dL_law__512 rfl ?_
  refine j_iconst hx dL_law__514 ?_
  refine j_iadd hx (r := i + 1) dL_law__515 rfl ?_
  refine j_sld hx hs (j := (i + 1).toNat) (by omega) (by omega) (by omega) dL_law__516 ?_
  refine j_aload_n hx 4 dL_law__517 rfl ?_
  refine j_iload hx 0 dL_law__518 rfl ?_
  refine j_iconst hx dL_law__520 ?_
  refine j_iadd hx (r := i + 2) dL_law__521 rfl ?_
  refine j_sld hx hs (j := (i + 2).toNat) (by omega) (by omega) (by omega) dL_law__522 ?_
  refine j_aload_n hx 1 dL_law__523 rfl ?_
  refine j_callSH hx (c_L_row hst a ((ys (i + 1).toNat)) ((ys (i + 2).toNat)) o) lk_RL_139 [.ref a, .int (zI ((ys (i + 1).toNat))), .int (zI ((ys (i + 2).toNat))), .ref o] ⟨rfl, hG, hS0, ha, (by omega), (by omega), ho⟩ rfl rfl ⟨by decide, by decide⟩ ⟨(by show k + 1 ≤ 601024; omega), (by show n + 6 ≤ 7293034; omega)⟩ (k2 := k + 1) (n2 := n + 6) rfl rfl (Nat.le_of_ble_eq_true rfl) dL_law__524 (kIM2 (fun v1 s1 hS_s1 hF_s1 q2 => ?_))
  refine j_istore hx [(5, .int (zI v1)), (4, .int (zI i)), (3, .ref o), (2, .ref m), (1, .ref a), (0, .ref b)] dL_law__527 (by decide) rfl ?_
  refine j_aload_n hx 3 dL_law__529 rfl ?_
  refine j_aload_n hx 5 dL_law__530 rfl ?_
  refine j_iload hx 1 dL_law__531 rfl ?_
  refine j_iconst hx dL_law__533 ?_
  refine j_iadd hx (r := i + 1) dL_law__534 rfl ?_
  refine j_sld hx hs (j := (i + 1).toNat) (by omega) (by omega) (by omega) dL_law__535 ?_
  refine j_aload_n hx 5 dL_law__536 rfl ?_
  refine j_iload hx 1 dL_law__537 rfl ?_
  refine j_iconst hx dL_law__539 ?_
  refine j_iadd hx (r := i + 2) dL_law__540 rfl ?_
  refine j_sld hx hs (j := (i + 2).toNat) (by omega) (by omega) (by omega) dL_law__541 ?_
  have g3 : s1 m 3 = s0 m 3 := (by rw [(zFr_g hF_s1 hm (by decide))])
  have f4 := zf hS0 hm (k := 3) rfl
  have g5 : s1 m 4 = s0 m 4 := (by rw [(zFr_g hF_s1 hm (by decide))])
  have f6 := zf hS0 hm (k := 4) rfl
  have g7 : s1 m 5 = s0 m 5 := (by rw [(zFr_g hF_s1 hm (by decide))])
  have f8 := zf hS0 hm (k := 5) rfl
  have g9 : s1 m 7 = s0 m 7 := (by rw [(zFr_g hF_s1 hm (by decide))])
  have f10 := zf hS0 hm (k := 7) rfl
  have g11 : s1 m 21 = s0 m 21 := (by rw [(zFr_g hF_s1 hm (by decide))])
  have f12 := zf hS0 hm (k := 21) rfl
  have g13 : s1 m 22 = s0 m 22 := (by rw [(zFr_g hF_s1 hm (by decide))])
  have f14 := zf hS0 hm (k := 22) rfl
  have g15 : s1 m 23 = s0 m 23 := (by rw [(zFr_g hF_s1 hm (by decide))])
  have f16 := zf hS0 hm (k := 23) rfl
  have g17 : s1 m 24 = s0 m 24 := (by rw [(zFr_g hF_s1 hm (by decide))])
  have f18 := zf hS0 hm (k := 24) rfl
  have g19 : s1 m 38 = s0 m 38 := (by rw [(zFr_g hF_s1 hm (by decide))])
  have f20 := zf hS0 hm (k := 38) rfl
  have g21 : s1 m 51 = s0 m 51 := (by rw [(zFr_g hF_s1 hm (by decide))])
  have f22 := zf hS0 hm (k := 51) rfl
  have g23 : s1 m 52 = s0 m 52 := (by rw [(zFr_g hF_s1 hm (by decide))])
  have f24 := zf hS0 hm (k := 52) rfl
  refine j_callV hx hG (c_X12_row hst m ((ys (i + 1).toNat)) ((ys (i + 2).toNat))) lk_RL_141 hm (by decide) rfl rfl rfl rfl [.int (zI ((ys (i + 1).toNat))), .int (zI ((ys (i + 2).toNat)))] ⟨rfl, hG, hS_s1, hm, (by omega), (by omega)⟩ rfl rfl ⟨by decide, by decide⟩ ⟨(by show k + 1 + 0 ≤ 601024; omega), (by show n + 6 + 0 ≤ 7293034; omega)⟩ (k2 := k + 1) (n2 := n + 6) rfl rfl (Nat.le_of_ble_eq_true rfl) dL_law__542 (kIM (fun v25 s2 hS_s2 hF_s2 q26 => ?_))
  refine j_istore hx [(6, .int (zI v25)), (5, .int (zI v1)), (4, .int (zI i)), (3, .ref o), (2, .ref m), (1, .ref a), (0, .ref b)] dL_law__545 (by decide) rfl ?_
  refine j_goto hx 1713 dL_law__547 rfl ?_
  have f27 := zf hS_s2 hm (k := 24) rfl
  exact j_wid (k2 := k + 8) (n2 := n + 400) (by omega) (by omega) (j_sub [2, 3, 4, 5, 6] [(4, .int (zI i)), (3, .ref o), (2, .ref m), (1, .ref a), (0, .ref b)] rfl (kk G s2 hG hS_s2 (zInv_fr (ts := [12, 13, 71, 120]) hI0 (by omega) hG hm (zFr_t (zFr_t zFr_rf hF_s1 (by decide)) hF_s2 (by decide)) (by decide) (by omega)) ha hm ho))

theorem lk_RL_142 : LkSH RL 142 yL_heap cL_heap 5 (some .int) [(0, 10, 13, 19)] 4 := ⟨km_RL_142, kst_yL_heap, kn_RL, kc_yL_heap, by decide +kernel, by decide +kernel, by decide +kernel⟩
theorem lk_RL_144 : LkV RL 144 RX12 yX12_heap cX12_heap 3 (some .int) 2 := ⟨km_RL_144, ki_yX12_heap, ks_RX12_yX12_heap, kn_RX12, kc_yX12_heap, rfl, by decide +kernel, by decide +kernel, by decide +kernel⟩
set_option maxHeartbeats 4000000 in
set_option maxRecDepth 20000 in
theorem w_9 {X : zX} {E : zE} {G : zG} {s0 : zS} {b a m o L0 k n : Nat} {ys : Nat → Int} {i T : Int} (hL : LX X E b) (hG : zGK G) (hS0 : zSK G s0) (hI : zInv G s0 m T) (hT0 : 0 ≤ T) (hT : T ≤ 519000) (ha : gT G a = 12) (hm : gT G m = 13) (ho : gT G o = 120) (hs : ZS X E b L0 ys) (hy : ∀ j, -2147483648 ≤ ys j ∧ ys j ≤ 2147483647) (hi0 : 0 ≤ i) (hi : i + 6 ≤ L0) (hL0 : L0 ≤ 3072) (hk : k + 8 ≤ 601024) (hn : n + 400 ≤ 7293034) (kk : ∀ G2 s2, zGK G2 → zSK G2 s2 → zInv G2 s2 m (T + 1000) → gT G2 a = 12 → gT G2 m = 13 → gT G2 o = 120 → JJ X E 8 G2 s2 (k + 8) (n + 400) [(4, .int (zI i)), (3, .ref o), (2, .ref m), (1, .ref a), (0, .ref b)] 1713 []) : JJ X E 8 G s0 k n [(4, .int (zI i)), (3, .ref o), (2, .ref m), (1, .ref a), (0, .ref b)] 550 [] := by
  have hx := hL.1
  have hst := hx.2.2.2.2.2.2.2.2.2.2.2
  have hI0 := hI
  obtain ⟨hI1, hI2, hI3, hI4, hI5, hI6, hI7, hI8, hI9, hI10, hI11⟩ := hI
  have hy0 := hy (i).toNat
  have hy1 := hy (i + 1).toNat
  have hy2 := hy (i + 2).toNat
  have hy3 := hy (i + 3).toNat
  have hy4 := hy (i + 4).toNat
  have hy5 := hy (i + 5).toNat
  refine j_aload_n hx 3 dL_law__550 rfl ?_
  refine j_aload_n hx 4 dL_law__551 rfl ?_
  refine j_iload hx 0 dL_law__552 rfl ?_
  refine j_iconst hx dL_law__554 ?_
  refine j_iadd hx (r := i + 1) dL_law__555 rfl ?_
  refine j_sld hx hs (j := (i + 1).toNat) (by omega) (by omega) (by omega) dL_law__556 ?_
  refine j_aload_n hx 4 dL_law__557 rfl ?_
  refine j_iload hx 0 dL_law__558 rfl ?_
  refine j_iconst hx dL_law__560 ?_
  refine j_iadd hx (r := i + 2) dL_law__561 rfl ?_
  refine j_sld hx hs (j := (i + 2).toNat) (by omega) (by omega) (by omega) dL_law__562 ?_
  refine j_aload_n hx 1 dL_law__563 rfl ?_
  refine j_callSH hx (c_L_heap hst a ((ys (i + 1).toNat)) ((ys (i + 2).toNat)) o) lk_RL_142 [.ref a, .int (zI ((ys (i + 1).toNat))), .int (zI ((ys (i + 2).toNat))), .ref o] ⟨rfl, hG, hS0, ha, (by omega), (by omega), ho⟩ rfl rfl ⟨by decide, by decide⟩ ⟨(by show k + 1 ≤ 601024; omega), (by show n + 6 ≤ 7293034; omega)⟩ (k2 := k + 1) (n2 := n + 6) rfl rfl (Nat.le_of_ble_eq_true rfl) dL_law__564 (kIM2 (fun v1 s1 hS_s1 hF_s1 q2 => ?_))
  refine j_istore hx [(5, .int (zI v1)), (4, .int (zI i)), (3, .ref o), (2, .ref m), (1, .ref a), (0, .ref b)] dL_law__567 (by decide) rfl ?_
  refine j_aload_n hx 3 dL_law__569 rfl ?_
  refine j_aload_n hx 5 dL_law__570 rfl ?_
  refine j_iload hx 1 dL_law__571 rfl ?_
  refine j_iconst hx dL_law__573 ?_
  refine j_iadd hx (r := i + 1) dL_law__574 rfl ?_
  refine j_sld hx hs (j := (i + 1).toNat) (by omega) (by omega) (by omega) dL_law__575 ?_
  refine j_aload_n hx 5 dL_law__576 rfl ?_
  refine j_iload hx 1 dL_law__577 rfl ?_
  refine j_iconst hx dL_law__579 ?_
  refine j_iadd hx (r := i + 2) dL_law__580 rfl ?_
  refine j_sld hx hs (j := (i + 2).toNat) (by omega) (by omega) (by omega) dL_law__581 ?_
  have g3 : s1 m 3 = s0 m 3 := (by rw [(zFr_g hF_s1 hm (by decide))])
  have f4 := zf hS0 hm (k := 3) rfl
  have g5 : s1 m 4 = s0 m 4 := (by rw [(zFr_g hF_s1 hm (by decide))])
  have f6 := zf hS0 hm (k := 4) rfl
  have g7 : s1 m 5 = s0 m 5 := (by rw [(zFr_g hF_s1 hm (by decide))])
  have f8 := zf hS0 hm (k := 5) rfl
  have g9 : s1 m 7 = s0 m 7 := (by rw [(zFr_g hF_s1 hm (by decide))])
  have f10 := zf hS0 hm (k := 7) rfl
  have g11 : s1 m 21 = s0 m 21 := (by rw [(zFr_g hF_s1 hm (by decide))])
  have f12 := zf hS0 hm (k := 21) rfl
  have g13 : s1 m 22 = s0 m 22 := (by rw [(zFr_g hF_s1 hm (by decide))])
  have f14 := zf hS0 hm (k := 22) rfl
  have g15 : s1 m 23 = s0 m 23 := (by rw [(zFr_g hF_s1 hm (by decide))])
  have f16 := zf hS0 hm (k := 23) rfl
  have g17 : s1 m 24 = s0 m 24 := (by rw [(zFr_g hF_s1 hm (by decide))])
  have f18 := zf hS0 hm (k := 24) rfl
  have g19 : s1 m 38 = s0 m 38 := (by rw [(zFr_g hF_s1 hm (by decide))])
  have f20 := zf hS0 hm (k := 38) rfl
  have g21 : s1 m 51 = s0 m 51 := (by rw [(zFr_g hF_s1 hm (by decide))])
  have f22 := zf hS0 hm (k := 51) rfl
  have g23 : s1 m 52 = s0 m 52 := (by rw [(zFr_g hF_s1 hm (by decide))])
  have f24 := zf hS0 hm (k := 52) rfl
  refine j_callV hx hG (c_X12_heap hst m ((ys (i + 1).toNat)) ((ys (i + 2).toNat))) lk_RL_144 hm (by decide) rfl rfl rfl rfl [.int (zI ((ys (i + 1).toNat))), .int (zI ((ys (i + 2).toNat)))] ⟨rfl, hG, hS_s1, hm, (by omega), (by omega)⟩ rfl rfl ⟨by decide, by decide⟩ ⟨(by show k + 1 + 0 ≤ 601024; omega), (by show n + 6 + 0 ≤ 7293034; omega)⟩ (k2 := k + 1) (n2 := n + 6) rfl rfl (Nat.le_of_ble_eq_true rfl) dL_law__582 (kIM (fun v25 s2 hS_s2 hF_s2 q26 => ?_))
  refine j_istore hx [(6, .int (zI v25)), (5, .int (zI v1)), (4, .int (zI i)), (3, .ref o), (2, .ref m), (1, .ref a), (0, .ref b)] dL_law__585 (by decide) rfl ?_
  refine j_goto hx 1713 dL_law__587 rfl ?_
  have f27 := zf hS_s2 hm (k := 24) rfl
  exact j_wid (k2 := k + 8) (n2 := n + 400) (by omega) (by omega) (j_sub [2, 3, 4, 5, 6] [(4, .int (zI i)), (3, .ref o), (2, .ref m), (1, .ref a), (0, .ref b)] rfl (kk G s2 hG hS_s2 (zInv_fr (ts := [12, 13, 71, 120]) hI0 (by omega) hG hm (zFr_t (zFr_t zFr_rf hF_s1 (by decide)) hF_s2 (by decide)) (by decide) (by omega)) ha hm ho))

theorem lk_RL_145 : LkV RL 145 RX11 yX11_pool cX11_pool 2 (some .int) 1 := ⟨km_RL_145, ki_yX11_pool, ks_RX11_yX11_pool, kn_RX11, kc_yX11_pool, rfl, by decide +kernel, by decide +kernel, by decide +kernel⟩
theorem lk_RL_148 : LkV RL 148 RX12 yX12_pool cX12_pool 2 (some .int) 1 := ⟨km_RL_148, ki_yX12_pool, ks_RX12_yX12_pool, kn_RX12, kc_yX12_pool, rfl, by decide +kernel, by decide +kernel, by decide +kernel⟩
set_option maxHeartbeats 4000000 in
set_option maxRecDepth 20000 in
theorem w_10 {X : zX} {E : zE} {G : zG} {s0 : zS} {b a m o L0 k n : Nat} {ys : Nat → Int} {i T : Int} (hL : LX X E b) (hG : zGK G) (hS0 : zSK G s0) (hI : zInv G s0 m T) (hT0 : 0 ≤ T) (hT : T ≤ 519000) (ha : gT G a = 12) (hm : gT G m = 13) (ho : gT G o = 120) (hs : ZS X E b L0 ys) (hy : ∀ j, -2147483648 ≤ ys j ∧ ys j ≤ 2147483647) (hi0 : 0 ≤ i) (hi : i + 6 ≤ L0) (hL0 : L0 ≤ 3072) (hk : k + 8 ≤ 601024) (hn : n + 400 ≤ 7293034) (kk : ∀ G2 s2, zGK G2 → zSK G2 s2 → zInv G2 s2 m (T + 1000) → gT G2 a = 12 → gT G2 m = 13 → gT G2 o = 120 → JJ X E 8 G2 s2 (k + 8) (n + 400) [(4, .int (zI i)), (3, .ref o), (2, .ref m), (1, .ref a), (0, .ref b)] 1713 []) : JJ X E 8 G s0 k n [(4, .int (zI i)), (3, .ref o), (2, .ref m), (1, .ref a), (0, .ref b)] 590 [] := by
  have hx := hL.1
  have hst := hx.2.2.2.2.2.2.2.2.2.2.2
  have hI0 := hI
  obtain ⟨hI1, hI2, hI3, hI4, hI5, hI6, hI7, hI8, hI9, hI10, hI11⟩ := hI
  have hy0 := hy (i).toNat
  have hy1 := hy (i + 1).toNat
  have hy2 := hy (i + 2).toNat
  have hy3 := hy (i + 3).toNat
  have hy4 := hy (i + 4).toNat
  have hy5 := hy (i + 5).toNat
  refine j_aload_n hx 3 dL_law__590 rfl ?_
  refine j_aload_n hx 4 dL_law__591 rfl ?_
  refine j_iload hx 0 dL_law__592 rfl ?_
  refine j_iconst hx dL_law__594 ?_
  refine j_iadd hx (r := i + 1) dL_law__595 rfl ?_
  refine j_sld hx hs (j := (i + 1).toNat) (by omega) (by omega) (by omega) dL_law__596 ?_
  refine j_callV hx hG (c_X11_pool hst a ((ys (i + 1).toNat))) lk_RL_145 ha (by decide) rfl rfl rfl rfl [.int (zI ((ys (i + 1).toNat)))] ⟨rfl, hG, hS0, ha, (by omega)⟩ rfl rfl ⟨by decide, by decide⟩ ⟨(by show k + 0 ≤ 601024; omega), (by show n + 0 ≤ 7293034; omega)⟩ (k2 := k) (n2 := n) rfl rfl (Nat.le_of_ble_eq_true rfl) dL_law__597 (kIP (fun v1 q2 => ?_))
  refine j_pop hx dL_law__600 rfl ?_
  refine j_aload_n hx 2 dL_law__601 rfl ?_
  refine j_aload_n hx 4 dL_law__602 rfl ?_
  refine j_iload hx 0 dL_law__603 rfl ?_
  refine j_iconst hx dL_law__605 ?_
  refine j_iadd hx (r := i + 1) dL_law__606 rfl ?_
  refine j_sld hx hs (j := (i + 1).toNat) (by omega) (by omega) (by omega) dL_law__607 ?_
  have f3 := zf hS0 hm (k := 3) rfl
  have f4 := zf hS0 hm (k := 4) rfl
  have f5 := zf hS0 hm (k := 5) rfl
  have f6 := zf hS0 hm (k := 7) rfl
  have f7 := zf hS0 hm (k := 21) rfl
  have f8 := zf hS0 hm (k := 22) rfl
  have f9 := zf hS0 hm (k := 23) rfl
  have f10 := zf hS0 hm (k := 24) rfl
  have f11 := zf hS0 hm (k := 38) rfl
  have f12 := zf hS0 hm (k := 51) rfl
  have f13 := zf hS0 hm (k := 52) rfl
  refine j_callV hx hG (c_X12_pool hst m ((ys (i + 1).toNat))) lk_RL_148 hm (by decide) rfl rfl rfl rfl [.int (zI ((ys (i + 1).toNat)))] ⟨rfl, hG, hS0, hm, (by omega)⟩ rfl rfl ⟨by decide, by decide⟩ ⟨(by show k + 0 ≤ 601024; omega), (by show n + 0 ≤ 7293034; omega)⟩ (k2 := k) (n2 := n) rfl rfl (Nat.le_of_ble_eq_true rfl) dL_law__608 (kIM (fun v14 s1 hS_s1 hF_s1 q15 => ?_))
  refine j_pop hx dL_law__611 rfl ?_
  refine j_goto hx 1713 dL_law__612 rfl ?_
  have f16 := zf hS_s1 hm (k := 24) rfl
  exact j_wid (k2 := k + 8) (n2 := n + 400) (by omega) (by omega) (j_sub [0, 1, 2, 3, 4] [(4, .int (zI i)), (3, .ref o), (2, .ref m), (1, .ref a), (0, .ref b)] rfl (kk G s1 hG hS_s1 (zInv_fr (ts := [13]) hI0 (by omega) hG hm (zFr_t zFr_rf hF_s1 (by decide)) (by decide) (by omega)) ha hm ho))

theorem lk_RL_149 : LkSH RL 149 yL_lain cL_lain 5 (some .int) [(0, 10, 13, 19)] 4 := ⟨km_RL_149, kst_yL_lain, kn_RL, kc_yL_lain, by decide +kernel, by decide +kernel, by decide +kernel⟩
theorem lk_RL_151 : LkV RL 151 RX12 yX12_lain cX12_lain 3 (some .int) 2 := ⟨km_RL_151, ki_yX12_lain, ks_RX12_yX12_lain, kn_RX12, kc_yX12_lain, rfl, by decide +kernel, by decide +kernel, by decide +kernel⟩
set_option maxHeartbeats 4000000 in
set_option maxRecDepth 20000 in
theorem w_11 {X : zX} {E : zE} {G : zG} {s0 : zS} {b a m o L0 k n : Nat} {ys : Nat → Int} {i T : Int} (hL : LX X E b) (hG : zGK G) (hS0 : zSK G s0) (hI : zInv G s0 m T) (hT0 : 0 ≤ T) (hT : T ≤ 519000) (ha : gT G a = 12) (hm : gT G m = 13) (ho : gT G o = 120) (hs : ZS X E b L0 ys) (hy : ∀ j, -2147483648 ≤ ys j ∧ ys j ≤ 2147483647) (hi0 : 0 ≤ i) (hi : i + 6 ≤ L0) (hL0 : L0 ≤ 3072) (hk : k + 8 ≤ 601024) (hn : n + 400 ≤ 7293034) (kk : ∀ G2 s2, zGK G2 → zSK G2 s2 → zInv G2 s2 m (T + 1000) → gT G2 a = 12 → gT G2 m = 13 → gT G2 o = 120 → JJ X E 8 G2 s2 (k + 8) (n + 400) [(4, .int (zI i)), (3, .ref o), (2, .ref m), (1, .ref a), (0, .ref b)] 1713 []) : JJ X E 8 G s0 k n [(4, .int (zI i)), (3, .ref o), (2, .ref m), (1, .ref a), (0, .ref b)] 615 [] := by
  have hx := hL.1
  have hst := hx.2.2.2.2.2.2.2.2.2.2.2
  have hI0 := hI
  obtain ⟨hI1, hI2, hI3, hI4, hI5, hI6, hI7, hI8, hI9, hI10, hI11⟩ := hI
  have hy0 := hy (i).toNat
  have hy1 := hy (i + 1).toNat
  have hy2 := hy (i + 2).toNat
  have hy3 := hy (i + 3).toNat
  have hy4 := hy (i + 4).toNat
  have hy5 := hy (i + 5).toNat
  refine j_aload_n hx 3 dL_law__615 rfl ?_
  refine j_aload_n hx 4 dL_law__616 rfl ?_
  refine j_iload hx 0 dL_law__617 rfl ?_
  refine j_iconst hx dL_law__619 ?_
  refine j_iadd hx (r := i + 1) dL_law__620 rfl ?_
  refine j_sld hx hs (j := (i + 1).toNat) (by omega) (by omega) (by omega) dL_law__621 ?_
  refine j_aload_n hx 4 dL_law__622 rfl ?_
  refine j_iload hx 0 dL_law__623 rfl ?_
  refine j_iconst hx dL_law__625 ?_
  refine j_iadd hx (r := i + 2) dL_law__626 rfl ?_
  refine j_sld hx hs (j := (i + 2).toNat) (by omega) (by omega) (by omega) dL_law__627 ?_
  refine j_aload_n hx 1 dL_law__628 rfl ?_
  refine j_callSH hx (c_L_lain hst a ((ys (i + 1).toNat)) ((ys (i + 2).toNat)) o) lk_RL_149 [.ref a, .int (zI ((ys (i + 1).toNat))), .int (zI ((ys (i + 2).toNat))), .ref o] ⟨rfl, hG, hS0, ha, (by omega), (by omega), ho⟩ rfl rfl ⟨by decide, by decide⟩ ⟨(by show k + 1 ≤ 601024; omega), (by show n + 6 ≤ 7293034; omega)⟩ (k2 := k + 1) (n2 := n + 6) rfl rfl (Nat.le_of_ble_eq_true rfl) dL_law__629 (kIM2 (fun v1 s1 hS_s1 hF_s1 q2 => ?_))
  refine j_istore hx [(5, .int (zI v1)), (4, .int (zI i)), (3, .ref o), (2, .ref m), (1, .ref a), (0, .ref b)] dL_law__632 (by decide) rfl ?_
  refine j_aload_n hx 3 dL_law__634 rfl ?_
  refine j_aload_n hx 5 dL_law__635 rfl ?_
  refine j_iload hx 1 dL_law__636 rfl ?_
  refine j_iconst hx dL_law__638 ?_
  refine j_iadd hx (r := i + 1) dL_law__639 rfl ?_
  refine j_sld hx hs (j := (i + 1).toNat) (by omega) (by omega) (by omega) dL_law__640 ?_
  refine j_aload_n hx 5 dL_law__641 rfl ?_
  refine j_iload hx 1 dL_law__642 rfl ?_
  refine j_iconst hx dL_law__644 ?_
  refine j_iadd hx (r := i + 2) dL_law__645 rfl ?_
  refine j_sld hx hs (j := (i + 2).toNat) (by omega) (by omega) (by omega) dL_law__646 ?_
  have g3 : s1 m 3 = s0 m 3 := (by rw [(zFr_g hF_s1 hm (by decide))])
  have f4 := zf hS0 hm (k := 3) rfl
  have g5 : s1 m 4 = s0 m 4 := (by rw [(zFr_g hF_s1 hm (by decide))])
  have f6 := zf hS0 hm (k := 4) rfl
  have g7 : s1 m 5 = s0 m 5 := (by rw [(zFr_g hF_s1 hm (by decide))])
  have f8 := zf hS0 hm (k := 5) rfl
  have g9 : s1 m 7 = s0 m 7 := (by rw [(zFr_g hF_s1 hm (by decide))])
  have f10 := zf hS0 hm (k := 7) rfl
  have g11 : s1 m 21 = s0 m 21 := (by rw [(zFr_g hF_s1 hm (by decide))])
  have f12 := zf hS0 hm (k := 21) rfl
  have g13 : s1 m 22 = s0 m 22 := (by rw [(zFr_g hF_s1 hm (by decide))])
  have f14 := zf hS0 hm (k := 22) rfl
  have g15 : s1 m 23 = s0 m 23 := (by rw [(zFr_g hF_s1 hm (by decide))])
  have f16 := zf hS0 hm (k := 23) rfl
  have g17 : s1 m 24 = s0 m 24 := (by rw [(zFr_g hF_s1 hm (by decide))])
  have f18 := zf hS0 hm (k := 24) rfl
  have g19 : s1 m 38 = s0 m 38 := (by rw [(zFr_g hF_s1 hm (by decide))])
  have f20 := zf hS0 hm (k := 38) rfl
  have g21 : s1 m 51 = s0 m 51 := (by rw [(zFr_g hF_s1 hm (by decide))])
  have f22 := zf hS0 hm (k := 51) rfl
  have g23 : s1 m 52 = s0 m 52 := (by rw [(zFr_g hF_s1 hm (by decide))])
  have f24 := zf hS0 hm (k := 52) rfl
  refine j_callV hx hG (c_X12_lain hst m ((ys (i + 1).toNat)) ((ys (i + 2).toNat))) lk_RL_151 hm (by decide) rfl rfl rfl rfl [.int (zI ((ys (i + 1).toNat))), .int (zI ((ys (i + 2).toNat)))] ⟨rfl, hG, hS_s1, hm, (by omega), (by omega)⟩ rfl rfl ⟨by decide, by decide⟩ ⟨(by show k + 1 + 0 ≤ 601024; omega), (by show n + 6 + 0 ≤ 7293034; omega)⟩ (k2 := k + 1) (n2 := n + 6) rfl rfl (Nat.le_of_ble_eq_true rfl) dL_law__647 (kIM (fun v25 s2 hS_s2 hF_s2 q26 => ?_))
  refine j_istore hx [(6, .int (zI v25)), (5, .int (zI v1)), (4, .int (zI i)), (3, .ref o), (2, .ref m), (1, .ref a), (0, .ref b)] dL_law__650 (by decide) rfl ?_
  refine j_goto hx 1713 dL_law__652 rfl ?_
  have f27 := zf hS_s2 hm (k := 24) rfl
  exact j_wid (k2 := k + 8) (n2 := n + 400) (by omega) (by omega) (j_sub [2, 3, 4, 5, 6] [(4, .int (zI i)), (3, .ref o), (2, .ref m), (1, .ref a), (0, .ref b)] rfl (kk G s2 hG hS_s2 (zInv_fr (ts := [12, 13, 71, 120]) hI0 (by omega) hG hm (zFr_t (zFr_t zFr_rf hF_s1 (by decide)) hF_s2 (by decide)) (by decide) (by omega)) ha hm ho))

theorem lk_RL_152 : LkV RL 152 RX11 yX11_alike cX11_alike 1 (some .int) 0 := ⟨km_RL_152, ki_yX11_alike, ks_RX11_yX11_alike, kn_RX11, kc_yX11_alike, rfl, by decide +kernel, by decide +kernel, by decide +kernel⟩
theorem lk_RL_155 : LkV RL 155 RX12 yX12_alike cX12_alike 1 (some .int) 0 := ⟨km_RL_155, ki_yX12_alike, ks_RX12_yX12_alike, kn_RX12, kc_yX12_alike, rfl, by decide +kernel, by decide +kernel, by decide +kernel⟩
set_option maxHeartbeats 4000000 in
set_option maxRecDepth 20000 in
theorem w_12 {X : zX} {E : zE} {G : zG} {s0 : zS} {b a m o L0 k n : Nat} {ys : Nat → Int} {i T : Int} (hL : LX X E b) (hG : zGK G) (hS0 : zSK G s0) (hI : zInv G s0 m T) (hT0 : 0 ≤ T) (hT : T ≤ 519000) (ha : gT G a = 12) (hm : gT G m = 13) (ho : gT G o = 120) (hs : ZS X E b L0 ys) (hy : ∀ j, -2147483648 ≤ ys j ∧ ys j ≤ 2147483647) (hi0 : 0 ≤ i) (hi : i + 6 ≤ L0) (hL0 : L0 ≤ 3072) (hk : k + 8 ≤ 601024) (hn : n + 400 ≤ 7293034) (kk : ∀ G2 s2, zGK G2 → zSK G2 s2 → zInv G2 s2 m (T + 1000) → gT G2 a = 12 → gT G2 m = 13 → gT G2 o = 120 → JJ X E 8 G2 s2 (k + 8) (n + 400) [(4, .int (zI i)), (3, .ref o), (2, .ref m), (1, .ref a), (0, .ref b)] 1713 []) : JJ X E 8 G s0 k n [(4, .int (zI i)), (3, .ref o), (2, .ref m), (1, .ref a), (0, .ref b)] 655 [] := by
  have hx := hL.1
  have hst := hx.2.2.2.2.2.2.2.2.2.2.2
  have hI0 := hI
  obtain ⟨hI1, hI2, hI3, hI4, hI5, hI6, hI7, hI8, hI9, hI10, hI11⟩ := hI
  have hy0 := hy (i).toNat
  have hy1 := hy (i + 1).toNat
  have hy2 := hy (i + 2).toNat
  have hy3 := hy (i + 3).toNat
  have hy4 := hy (i + 4).toNat
  have hy5 := hy (i + 5).toNat
  refine j_aload_n hx 3 dL_law__655 rfl ?_
  refine j_callV hx hG (c_X11_alike hst a) lk_RL_152 ha (by decide) rfl rfl rfl rfl [] ⟨rfl, hG, hS0, ha⟩ rfl rfl ⟨by decide, by decide⟩ ⟨(by show k + 0 ≤ 601024; omega), (by show n + 0 ≤ 7293034; omega)⟩ (k2 := k) (n2 := n) rfl rfl (Nat.le_of_ble_eq_true rfl) dL_law__656 (kIP (fun v1 q2 => ?_))
  refine j_pop hx dL_law__659 rfl ?_
  refine j_aload_n hx 2 dL_law__660 rfl ?_
  have f3 := zf hS0 hm (k := 3) rfl
  have f4 := zf hS0 hm (k := 4) rfl
  have f5 := zf hS0 hm (k := 5) rfl
  have f6 := zf hS0 hm (k := 7) rfl
  have f7 := zf hS0 hm (k := 21) rfl
  have f8 := zf hS0 hm (k := 22) rfl
  have f9 := zf hS0 hm (k := 23) rfl
  have f10 := zf hS0 hm (k := 24) rfl
  have f11 := zf hS0 hm (k := 38) rfl
  have f12 := zf hS0 hm (k := 51) rfl
  have f13 := zf hS0 hm (k := 52) rfl
  refine j_callV hx hG (c_X12_alike hst m) lk_RL_155 hm (by decide) rfl rfl rfl rfl [] ⟨rfl, hG, hS0, hm⟩ rfl rfl ⟨by decide, by decide⟩ ⟨(by show k + 0 ≤ 601024; omega), (by show n + 0 ≤ 7293034; omega)⟩ (k2 := k) (n2 := n) rfl rfl (Nat.le_of_ble_eq_true rfl) dL_law__661 (kIM (fun v14 s1 hS_s1 hF_s1 q15 => ?_))
  refine j_pop hx dL_law__664 rfl ?_
  refine j_goto hx 1713 dL_law__665 rfl ?_
  have f16 := zf hS_s1 hm (k := 24) rfl
  exact j_wid (k2 := k + 8) (n2 := n + 400) (by omega) (by omega) (j_sub [0, 1, 2, 3, 4] [(4, .int (zI i)), (3, .ref o), (2, .ref m), (1, .ref a), (0, .ref b)] rfl (kk G s1 hG hS_s1 (zInv_fr (ts := [13]) hI0 (by omega) hG hm (zFr_t zFr_rf hF_s1 (by decide)) (by decide) (by omega)) ha hm ho))

theorem lk_RL_156 : LkSH RL 156 yL_would cL_would 5 (some .int) [(0, 17, 20, 19), (0, 17, 24, 13)] 4 := ⟨km_RL_156, kst_yL_would, kn_RL, kc_yL_would, by decide +kernel, by decide +kernel, by decide +kernel⟩
theorem lk_RL_158 : LkV RL 158 RX12 yX12_would cX12_would 3 (some .boolean) 2 := ⟨km_RL_158, ki_yX12_would, ks_RX12_yX12_would, kn_RX12, kc_yX12_would, rfl, by decide +kernel, by decide +kernel, by decide +kernel⟩
set_option maxHeartbeats 4000000 in
set_option maxRecDepth 20000 in
theorem w_13 {X : zX} {E : zE} {G : zG} {s0 : zS} {b a m o L0 k n : Nat} {ys : Nat → Int} {i T : Int} (hL : LX X E b) (hG : zGK G) (hS0 : zSK G s0) (hI : zInv G s0 m T) (hT0 : 0 ≤ T) (hT : T ≤ 519000) (ha : gT G a = 12) (hm : gT G m = 13) (ho : gT G o = 120) (hs : ZS X E b L0 ys) (hy : ∀ j, -2147483648 ≤ ys j ∧ ys j ≤ 2147483647) (hi0 : 0 ≤ i) (hi : i + 6 ≤ L0) (hL0 : L0 ≤ 3072) (hk : k + 8 ≤ 601024) (hn : n + 400 ≤ 7293034) (kk : ∀ G2 s2, zGK G2 → zSK G2 s2 → zInv G2 s2 m (T + 1000) → gT G2 a = 12 → gT G2 m = 13 → gT G2 o = 120 → JJ X E 8 G2 s2 (k + 8) (n + 400) [(4, .int (zI i)), (3, .ref o), (2, .ref m), (1, .ref a), (0, .ref b)] 1713 []) : JJ X E 8 G s0 k n [(4, .int (zI i)), (3, .ref o), (2, .ref m), (1, .ref a), (0, .ref b)] 668 [] := by
  have hx := hL.1
  have hst := hx.2.2.2.2.2.2.2.2.2.2.2
  have hI0 := hI
  obtain ⟨hI1, hI2, hI3, hI4, hI5, hI6, hI7, hI8, hI9, hI10, hI11⟩ := hI
  have hy0 := hy (i).toNat
  have hy1 := hy (i + 1).toNat
  have hy2 := hy (i + 2).toNat
  have hy3 := hy (i + 3).toNat
  have hy4 := hy (i + 4).toNat
  have hy5 := hy (i + 5).toNat
  refine j_aload_n hx 3 dL_law__668 rfl ?_
  refine j_aload_n hx 4 dL_law__669 rfl ?_
  refine j_iload hx 0 dL_law__670 rfl ?_
  refine j_iconst hx dL_law__672 ?_
  refine j_iadd hx (r := i + 1) dL_law__673 rfl ?_
  refine j_sld hx hs (j := (i + 1).toNat) (by omega) (by omega) (by omega) dL_law__674 ?_
  refine j_aload_n hx 4 dL_law__675 rfl ?_
  refine j_iload hx 0 dL_law__676 rfl ?_
  refine j_iconst hx dL_law__678 ?_
  refine j_iadd hx (r := i + 2) dL_law__679 rfl ?_
  refine j_sld hx hs (j := (i + 2).toNat) (by omega) (by omega) (by omega) dL_law__680 ?_
  refine j_aload_n hx 1 dL_law__681 rfl ?_
  refine j_callSH hx (c_L_would hst a ((ys (i + 1).toNat)) ((ys (i + 2).toNat)) o) lk_RL_156 [.ref a, .int (zI ((ys (i + 1).toNat))), .int (zI ((ys (i + 2).toNat))), .ref o] ⟨rfl, hG, hS0, ha, (by omega), (by omega), ho⟩ rfl rfl ⟨by decide, by decide⟩ ⟨(by show k + 2 ≤ 601024; omega), (by show n + 12 ≤ 7293034; omega)⟩ (k2 := k + 2) (n2 := n + 12) rfl rfl (Nat.le_of_ble_eq_true rfl) dL_law__682 (kIM2 (fun v1 s1 hS_s1 hF_s1 q2 => ?_))
  refine j_istore hx [(5, .int (zI v1)), (4, .int (zI i)), (3, .ref o), (2, .ref m), (1, .ref a), (0, .ref b)] dL_law__685 (by decide) rfl ?_
  refine j_aload_n hx 3 dL_law__687 rfl ?_
  refine j_aload_n hx 5 dL_law__688 rfl ?_
  refine j_iload hx 1 dL_law__689 rfl ?_
  refine j_iconst hx dL_law__691 ?_
  refine j_iadd hx (r := i + 1) dL_law__692 rfl ?_
  refine j_sld hx hs (j := (i + 1).toNat) (by omega) (by omega) (by omega) dL_law__693 ?_
  refine j_aload_n hx 5 dL_law__694 rfl ?_
  refine j_iload hx 1 dL_law__695 rfl ?_
  refine j_iconst hx dL_law__697 ?_
  refine j_iadd hx (r := i + 2) dL_law__698 rfl ?_
  refine j_sld hx hs (j := (i + 2).toNat) (by omega) (by omega) (by omega) dL_law__699 ?_
  have g3 : s1 m 3 = s0 m 3 := (by rw [(zFr_g hF_s1 hm (by decide))])
  have f4 := zf hS0 hm (k := 3) rfl
  have g5 : s1 m 4 = s0 m 4 := (by rw [(zFr_g hF_s1 hm (by decide))])
  have f6 := zf hS0 hm (k := 4) rfl
  have g7 : s1 m 5 = s0 m 5 := (by rw [(zFr_g hF_s1 hm (by decide))])
  have f8 := zf hS0 hm (k := 5) rfl
  have g9 : s1 m 7 = s0 m 7 := (by rw [(zFr_g hF_s1 hm (by decide))])
  have f10 := zf hS0 hm (k := 7) rfl
  have g11 : s1 m 21 = s0 m 21 := (by rw [(zFr_g hF_s1 hm (by decide))])
  have f12 := zf hS0 hm (k := 21) rfl
  have g13 : s1 m 22 = s0 m 22 := (by rw [(zFr_g hF_s1 hm (by decide))])
  have f14 := zf hS0 hm (k := 22) rfl
  have g15 : s1 m 23 = s0 m 23 := (by rw [(zFr_g hF_s1 hm (by decide))])
  have f16 := zf hS0 hm (k := 23) rfl
  have g17 : s1 m 24 = s0 m 24 := (by rw [(zFr_g hF_s1 hm (by decide))])
  have f18 := zf hS0 hm (k := 24) rfl
  have g19 : s1 m 38 = s0 m 38 := (by rw [(zFr_g hF_s1 hm (by decide))])
  have f20 := zf hS0 hm (k := 38) rfl
  have g21 : s1 m 51 = s0 m 51 := (by rw [(zFr_g hF_s1 hm (by decide))])
  have f22 := zf hS0 hm (k := 51) rfl
  have g23 : s1 m 52 = s0 m 52 := (by rw [(zFr_g hF_s1 hm (by decide))])
  have f24 := zf hS0 hm (k := 52) rfl
  refine j_callV hx hG (c_X12_would hst m ((ys (i + 1).toNat)) ((ys (i + 2).toNat))) lk_RL_158 hm (by decide) rfl rfl rfl rfl [.int (zI ((ys (i + 1).toNat))), .int (zI ((ys (i + 2).toNat)))] ⟨rfl, hG, hS_s1, hm, (by omega), (by omega), ((by have q1 : s1 (gP G m 34) = s0 (gP G m 34) := (by rw [hF_s1 (gP G m 34) (by rw [(zr (k := 34) (t2 := 91) hG hm rfl)]; decide)]); have q2 : s1 (gP G m 35) = s0 (gP G m 35) := (by rw [hF_s1 (gP G m 35) (by rw [(zr (k := 35) (t2 := 92) hG hm rfl)]; decide)]); have q3 : s1 (gP G m 37) = s0 (gP G m 37) := (by rw [hF_s1 (gP G m 37) (by rw [(zr (k := 37) (t2 := 94) hG hm rfl)]; decide)]); rw [q1, q2, q3]; exact hI5))⟩ rfl rfl ⟨by decide, by decide⟩ ⟨(by show k + 2 + 0 ≤ 601024; omega), (by show n + 12 + 0 ≤ 7293034; omega)⟩ (k2 := k + 2) (n2 := n + 12) rfl rfl (Nat.le_of_ble_eq_true rfl) dL_law__700 (kIM (fun v25 s2 hS_s2 hF_s2 q26 => ?_))
  refine j_istore hx [(6, .int (zI v25)), (5, .int (zI v1)), (4, .int (zI i)), (3, .ref o), (2, .ref m), (1, .ref a), (0, .ref b)] dL_law__703 (by decide) rfl ?_
  refine j_goto hx 1713 dL_law__705 rfl ?_
  have f27 := zf hS_s2 hm (k := 24) rfl
  exact j_wid (k2 := k + 8) (n2 := n + 400) (by omega) (by omega) (j_sub [2, 3, 4, 5, 6] [(4, .int (zI i)), (3, .ref o), (2, .ref m), (1, .ref a), (0, .ref b)] rfl (kk G s2 hG hS_s2 (zInv_fr (ts := [4, 12, 13, 71, 95, 120]) hI0 (by omega) hG hm (zFr_t (zFr_t zFr_rf hF_s1 (by decide)) hF_s2 (by decide)) (by decide) (by omega)) ha hm ho))

theorem lk_RL_159 : LkSH RL 159 yL_law cL_law 5 (some .int) [(0, 10, 13, 13)] 4 := ⟨km_RL_159, kst_yL_law, kn_RL, kc_yL_law, by decide +kernel, by decide +kernel, by decide +kernel⟩
theorem lk_RL_161 : LkV RL 161 RX12 yX12_law cX12_law 4 (some .int) 2 := ⟨km_RL_161, ki_yX12_law, ks_RX12_yX12_law, kn_RX12, kc_yX12_law, rfl, by decide +kernel, by decide +kernel, by decide +kernel⟩
set_option maxHeartbeats 4000000 in
set_option maxRecDepth 20000 in
theorem w_14 {X : zX} {E : zE} {G : zG} {s0 : zS} {b a m o L0 k n : Nat} {ys : Nat → Int} {i T : Int} (hL : LX X E b) (hG : zGK G) (hS0 : zSK G s0) (hI : zInv G s0 m T) (hT0 : 0 ≤ T) (hT : T ≤ 519000) (ha : gT G a = 12) (hm : gT G m = 13) (ho : gT G o = 120) (hs : ZS X E b L0 ys) (hy : ∀ j, -2147483648 ≤ ys j ∧ ys j ≤ 2147483647) (hi0 : 0 ≤ i) (hi : i + 6 ≤ L0) (hL0 : L0 ≤ 3072) (hk : k + 8 ≤ 601024) (hn : n + 400 ≤ 7293034) (kk : ∀ G2 s2, zGK G2 → zSK G2 s2 → zInv G2 s2 m (T + 1000) → gT G2 a = 12 → gT G2 m = 13 → gT G2 o = 120 → JJ X E 8 G2 s2 (k + 8) (n + 400) [(4, .int (zI i)), (3, .ref o), (2, .ref m), (1, .ref a), (0, .ref b)] 1713 []) : JJ X E 8 G s0 k n [(4, .int (zI i)), (3, .ref o), (2, .ref m), (1, .ref a), (0, .ref b)] 708 [] := by
  have hx := hL.1
  have hst := hx.2.2.2.2.2.2.2.2.2.2.2
  have hI0 := hI
  obtain ⟨hI1, hI2, hI3, hI4, hI5, hI6, hI7, hI8, hI9, hI10, hI11⟩ := hI
  have hy0 := hy (i).toNat
  have hy1 := hy (i + 1).toNat
  have hy2 := hy (i + 2).toNat
  have hy3 := hy (i + 3).toNat
  have hy4 := hy (i + 4).toNat
  have hy5 := hy (i + 5).toNat
  refine j_aload_n hx 3 dL_law__708 rfl ?_
  refine j_aload_n hx 4 dL_law__709 rfl ?_
  refine j_iload hx 0 dL_law__710 rfl ?_
  refine j_iconst hx dL_law__712 ?_
  refine j_iadd hx (r := i + 1) dL_law__713 rfl ?_
  refine j_sld hx hs (j := (i + 1).toNat) (by omega) (by omega) (by omega) dL_law__714 ?_
  refine j_aload_n hx 4 dL_law__715 rfl ?_
  refine j_iload hx 0 dL_law__716 rfl ?_
  refine j_iconst hx dL_law__718 ?_
  refine j_iadd hx (r := i + 2) dL_law__719 rfl ?_
  refine j_sld hx hs (j := (i + 2).toNat) (by omega) (by omega) (by omega) dL_law__720 ?_
  refine j_aload_n hx 1 dL_law__721 rfl ?_
  refine j_callSH hx (c_L_law hst a ((ys (i + 1).toNat)) ((ys (i + 2).toNat)) o) lk_RL_159 [.ref a, .int (zI ((ys (i + 1).toNat))), .int (zI ((ys (i + 2).toNat))), .ref o] ⟨rfl, hG, hS0, ha, (by omega), (by omega), ho⟩ rfl rfl ⟨by decide, by decide⟩ ⟨(by show k + 2 ≤ 601024; omega), (by show n + 12 ≤ 7293034; omega)⟩ (k2 := k + 2) (n2 := n + 12) rfl rfl (Nat.le_of_ble_eq_true rfl) dL_law__722 (kIM2 (fun v1 s1 hS_s1 hF_s1 q2 => ?_))
  refine j_istore hx [(5, .int (zI v1)), (4, .int (zI i)), (3, .ref o), (2, .ref m), (1, .ref a), (0, .ref b)] dL_law__725 (by decide) rfl ?_
  refine j_aload_n hx 3 dL_law__727 rfl ?_
  refine j_aload_n hx 5 dL_law__728 rfl ?_
  refine j_iload hx 1 dL_law__729 rfl ?_
  refine j_iconst hx dL_law__731 ?_
  refine j_iadd hx (r := i + 1) dL_law__732 rfl ?_
  refine j_sld hx hs (j := (i + 1).toNat) (by omega) (by omega) (by omega) dL_law__733 ?_
  refine j_aload_n hx 5 dL_law__734 rfl ?_
  refine j_iload hx 1 dL_law__735 rfl ?_
  refine j_iconst hx dL_law__737 ?_
  refine j_iadd hx (r := i + 2) dL_law__738 rfl ?_
  refine j_sld hx hs (j := (i + 2).toNat) (by omega) (by omega) (by omega) dL_law__739 ?_
  have g3 : zc (s1 (gP G m 27)) = zc (s0 (gP G m 27)) := by rw [hF_s1 (gP G m 27) (by rw [(zr (k := 27) (t2 := 84) hG hm rfl)]; decide)]
  have g4 : s1 (gP G m 27) 488 = s0 (gP G m 27) 488 := (by rw [(zFr_g hF_s1 (zr (k := 27) (t2 := 84) hG hm rfl) (by decide))])
  have g5 : zc (s1 (gP G m 28)) = zc (s0 (gP G m 28)) := by rw [hF_s1 (gP G m 28) (by rw [(zr (k := 28) (t2 := 85) hG hm rfl)]; decide)]
  have g6 : s1 (gP G m 28) 488 = s0 (gP G m 28) 488 := (by rw [(zFr_g hF_s1 (zr (k := 28) (t2 := 85) hG hm rfl) (by decide))])
  have g7 : s1 m 3 = s0 m 3 := (by rw [(zFr_g hF_s1 hm (by decide))])
  have f8 := zf hS0 hm (k := 3) rfl
  have g9 : s1 m 4 = s0 m 4 := (by rw [(zFr_g hF_s1 hm (by decide))])
  have f10 := zf hS0 hm (k := 4) rfl
  have g11 : s1 m 5 = s0 m 5 := (by rw [(zFr_g hF_s1 hm (by decide))])
  have f12 := zf hS0 hm (k := 5) rfl
  have g13 : s1 m 7 = s0 m 7 := (by rw [(zFr_g hF_s1 hm (by decide))])
  have f14 := zf hS0 hm (k := 7) rfl
  have g15 : s1 m 21 = s0 m 21 := (by rw [(zFr_g hF_s1 hm (by decide))])
  have f16 := zf hS0 hm (k := 21) rfl
  have g17 : s1 m 22 = s0 m 22 := (by rw [(zFr_g hF_s1 hm (by decide))])
  have f18 := zf hS0 hm (k := 22) rfl
  have g19 : s1 m 23 = s0 m 23 := (by rw [(zFr_g hF_s1 hm (by decide))])
  have f20 := zf hS0 hm (k := 23) rfl
  have g21 : s1 m 24 = s0 m 24 := (by rw [(zFr_g hF_s1 hm (by decide))])
  have f22 := zf hS0 hm (k := 24) rfl
  have g23 : s1 m 38 = s0 m 38 := (by rw [(zFr_g hF_s1 hm (by decide))])
  have f24 := zf hS0 hm (k := 38) rfl
  have g25 : s1 m 51 = s0 m 51 := (by rw [(zFr_g hF_s1 hm (by decide))])
  have f26 := zf hS0 hm (k := 51) rfl
  have g27 : s1 m 52 = s0 m 52 := (by rw [(zFr_g hF_s1 hm (by decide))])
  have f28 := zf hS0 hm (k := 52) rfl
  refine j_callV hx hG (c_X12_law hst m ((ys (i + 1).toNat)) ((ys (i + 2).toNat))) lk_RL_161 hm (by decide) rfl rfl rfl rfl [.int (zI ((ys (i + 1).toNat))), .int (zI ((ys (i + 2).toNat)))] ⟨rfl, hG, hS_s1, hm, (by omega), (by omega)⟩ rfl rfl ⟨by decide, by decide⟩ ⟨(by show k + 2 + 0 ≤ 601024; omega), (by show n + 12 + 0 ≤ 7293034; omega)⟩ (k2 := k + 2) (n2 := n + 12) rfl rfl (Nat.le_of_ble_eq_true rfl) dL_law__740 (kIM (fun v29 s2 hS_s2 hF_s2 q30 => ?_))
  refine j_istore hx [(6, .int (zI v29)), (5, .int (zI v1)), (4, .int (zI i)), (3, .ref o), (2, .ref m), (1, .ref a), (0, .ref b)] dL_law__743 (by decide) rfl ?_
  refine j_goto hx 1713 dL_law__745 rfl ?_
  have f31 := zf hS_s2 hm (k := 24) rfl
  have g32 : s2 (gP G m 57) 488 = s0 (gP G m 57) 488 := (by rw [(zFr_g hF_s2 (zr (k := 57) (t2 := 106) hG hm rfl) (by decide)), (zFr_g hF_s1 (zr (k := 57) (t2 := 106) hG hm rfl) (by decide))])
  have g33 : s2 (gP G m 57) 13709 = s0 (gP G m 57) 13709 := (by rw [(zFr_g hF_s2 (zr (k := 57) (t2 := 106) hG hm rfl) (by decide)), (zFr_g hF_s1 (zr (k := 57) (t2 := 106) hG hm rfl) (by decide))])
  have g34 : s2 (gP G m 57) 26930 = s0 (gP G m 57) 26930 := (by rw [(zFr_g hF_s2 (zr (k := 57) (t2 := 106) hG hm rfl) (by decide)), (zFr_g hF_s1 (zr (k := 57) (t2 := 106) hG hm rfl) (by decide))])
  exact j_wid (k2 := k + 8) (n2 := n + 400) (by omega) (by omega) (j_sub [2, 3, 4, 5, 6] [(4, .int (zI i)), (3, .ref o), (2, .ref m), (1, .ref a), (0, .ref b)] rfl (kk G s2 hG hS_s2 ⟨(by omega), (by omega), (by omega), (by omega), (by have q1 : s2 (gP G m 34) = s0 (gP G m 34) := (by rw [hF_s2 (gP G m 34) (by rw [(zr (k := 34) (t2 := 91) hG hm rfl)]; decide), hF_s1 (gP G m 34) (by rw [(zr (k := 34) (t2 := 91) hG hm rfl)]; decide)]); have q2 : s2 (gP G m 35) = s0 (gP G m 35) := (by rw [hF_s2 (gP G m 35) (by rw [(zr (k := 35) (t2 := 92) hG hm rfl)]; decide), hF_s1 (gP G m 35) (by rw [(zr (k := 35) (t2 := 92) hG hm rfl)]; decide)]); have q3 : s2 (gP G m 37) = s0 (gP G m 37) := (by rw [hF_s2 (gP G m 37) (by rw [(zr (k := 37) (t2 := 94) hG hm rfl)]; decide), hF_s1 (gP G m 37) (by rw [(zr (k := 37) (t2 := 94) hG hm rfl)]; decide)]); rw [q1, q2, q3]; exact hI5), (by have q1 : s2 (gP G m 17) = s0 (gP G m 17) := (by rw [hF_s2 (gP G m 17) (by rw [(zr (k := 17) (t2 := 80) hG hm rfl)]; decide), hF_s1 (gP G m 17) (by rw [(zr (k := 17) (t2 := 80) hG hm rfl)]; decide)]); rw [q1]; exact (zQn_nn hI6 (by omega))), (by have q1 : s2 (gP G m 55) = s0 (gP G m 55) := (by rw [hF_s2 (gP G m 55) (by rw [(zr (k := 55) (t2 := 104) hG hm rfl)]; decide), hF_s1 (gP G m 55) (by rw [(zr (k := 55) (t2 := 104) hG hm rfl)]; decide)]); rw [q1]; exact hI7), (by have q1 : s2 (gP G m 57) = s0 (gP G m 57) := (by rw [hF_s2 (gP G m 57) (by rw [(zr (k := 57) (t2 := 106) hG hm rfl)]; decide), hF_s1 (gP G m 57) (by rw [(zr (k := 57) (t2 := 106) hG hm rfl)]; decide)]); rw [q1]; exact hI8), (by omega), (by omega), (by omega)⟩ ha hm ho))

theorem lk_RL_162 : LkV RL 162 RX11 yX11_draws cX11_draws 2 none 1 := ⟨km_RL_162, ki_yX11_draws, ks_RX11_yX11_draws, kn_RX11, kc_yX11_draws, rfl, by decide +kernel, by decide +kernel, by decide +kernel⟩
theorem lk_RL_166 : LkV RL 166 RX12 yX12_draws cX12_draws 2 none 1 := ⟨km_RL_166, ki_yX12_draws, ks_RX12_yX12_draws, kn_RX12, kc_yX12_draws, rfl, by decide +kernel, by decide +kernel, by decide +kernel⟩
set_option maxHeartbeats 4000000 in
set_option maxRecDepth 20000 in
theorem w_15 {X : zX} {E : zE} {G : zG} {s0 : zS} {b a m o L0 k n : Nat} {ys : Nat → Int} {i T : Int} (hL : LX X E b) (hG : zGK G) (hS0 : zSK G s0) (hI : zInv G s0 m T) (hT0 : 0 ≤ T) (hT : T ≤ 519000) (ha : gT G a = 12) (hm : gT G m = 13) (ho : gT G o = 120) (hs : ZS X E b L0 ys) (hy : ∀ j, -2147483648 ≤ ys j ∧ ys j ≤ 2147483647) (hi0 : 0 ≤ i) (hi : i + 6 ≤ L0) (hL0 : L0 ≤ 3072) (hk : k + 8 ≤ 601024) (hn : n + 400 ≤ 7293034) (kk : ∀ G2 s2, zGK G2 → zSK G2 s2 → zInv G2 s2 m (T + 1000) → gT G2 a = 12 → gT G2 m = 13 → gT G2 o = 120 → JJ X E 8 G2 s2 (k + 8) (n + 400) [(4, .int (zI i)), (3, .ref o), (2, .ref m), (1, .ref a), (0, .ref b)] 1713 []) : JJ X E 8 G s0 k n [(4, .int (zI i)), (3, .ref o), (2, .ref m), (1, .ref a), (0, .ref b)] 748 [] := by
  have hx := hL.1
  have hst := hx.2.2.2.2.2.2.2.2.2.2.2
  have hI0 := hI
  obtain ⟨hI1, hI2, hI3, hI4, hI5, hI6, hI7, hI8, hI9, hI10, hI11⟩ := hI
  have hy0 := hy (i).toNat
  have hy1 := hy (i + 1).toNat
  have hy2 := hy (i + 2).toNat
  have hy3 := hy (i + 3).toNat
  have hy4 := hy (i + 4).toNat
  have hy5 := hy (i + 5).toNat
  refine j_aload_n hx 3 dL_law__748 rfl ?_
  refine j_aload_n hx 4 dL_law__749 rfl ?_
  refine j_iload hx 0 dL_law__750 rfl ?_
  refine j_iconst hx dL_law__752 ?_
  refine j_iadd hx (r := i + 1) dL_law__753 rfl ?_
  refine j_sld hx hs (j := (i + 1).toNat) (by omega) (by omega) (by omega) dL_law__754 ?_
  refine j_callV hx hG (c_X11_draws hst a ((ys (i + 1).toNat))) lk_RL_162 ha (by decide) rfl rfl rfl rfl [.int (zI ((ys (i + 1).toNat)))] ⟨rfl, hG, hS0, ha, (by omega)⟩ rfl rfl ⟨by decide, by decide⟩ ⟨(by show k + 0 ≤ 601024; omega), (by show n + 0 ≤ 7293034; omega)⟩ (k2 := k) (n2 := n) rfl rfl (Nat.le_of_ble_eq_true rfl) dL_law__755 (kVM (fun s1 hS_s1 hF_s1 q2 => ?_))
  refine j_aload_n hx 2 dL_law__758 rfl ?_
  refine j_aload_n hx 4 dL_law__759 rfl ?_
  refine j_iload hx 0 dL_law__760 rfl ?_
  refine j_iconst hx dL_law__762 ?_
  refine j_iadd hx (r := i + 1) dL_law__763 rfl ?_
  refine j_sld hx hs (j := (i + 1).toNat) (by omega) (by omega) (by omega) dL_law__764 ?_
  have g3 : zc (s1 (gP G m 27)) = zc (s0 (gP G m 27)) := by rw [hF_s1 (gP G m 27) (by rw [(zr (k := 27) (t2 := 84) hG hm rfl)]; decide)]
  have g4 : s1 (gP G m 27) 488 = s0 (gP G m 27) 488 := (by rw [(zFr_g hF_s1 (zr (k := 27) (t2 := 84) hG hm rfl) (by decide))])
  have g5 : zc (s1 (gP G m 28)) = zc (s0 (gP G m 28)) := by rw [hF_s1 (gP G m 28) (by rw [(zr (k := 28) (t2 := 85) hG hm rfl)]; decide)]
  have g6 : s1 (gP G m 28) 488 = s0 (gP G m 28) 488 := (by rw [(zFr_g hF_s1 (zr (k := 28) (t2 := 85) hG hm rfl) (by decide))])
  have g7 : s1 m 3 = s0 m 3 := (by rw [(zFr_g hF_s1 hm (by decide))])
  have f8 := zf hS0 hm (k := 3) rfl
  have g9 : s1 m 4 = s0 m 4 := (by rw [(zFr_g hF_s1 hm (by decide))])
  have f10 := zf hS0 hm (k := 4) rfl
  have g11 : s1 m 5 = s0 m 5 := (by rw [(zFr_g hF_s1 hm (by decide))])
  have f12 := zf hS0 hm (k := 5) rfl
  have g13 : s1 m 7 = s0 m 7 := (by rw [(zFr_g hF_s1 hm (by decide))])
  have f14 := zf hS0 hm (k := 7) rfl
  have g15 : s1 m 21 = s0 m 21 := (by rw [(zFr_g hF_s1 hm (by decide))])
  have f16 := zf hS0 hm (k := 21) rfl
  have g17 : s1 m 22 = s0 m 22 := (by rw [(zFr_g hF_s1 hm (by decide))])
  have f18 := zf hS0 hm (k := 22) rfl
  have g19 : s1 m 23 = s0 m 23 := (by rw [(zFr_g hF_s1 hm (by decide))])
  have f20 := zf hS0 hm (k := 23) rfl
  have g21 : s1 m 24 = s0 m 24 := (by rw [(zFr_g hF_s1 hm (by decide))])
  have f22 := zf hS0 hm (k := 24) rfl
  have g23 : s1 m 38 = s0 m 38 := (by rw [(zFr_g hF_s1 hm (by decide))])
  have f24 := zf hS0 hm (k := 38) rfl
  have g25 : s1 m 51 = s0 m 51 := (by rw [(zFr_g hF_s1 hm (by decide))])
  have f26 := zf hS0 hm (k := 51) rfl
  have g27 : s1 m 52 = s0 m 52 := (by rw [(zFr_g hF_s1 hm (by decide))])
  have f28 := zf hS0 hm (k := 52) rfl
  refine j_callV hx hG (c_X12_draws hst m ((ys (i + 1).toNat))) lk_RL_166 hm (by decide) rfl rfl rfl rfl [.int (zI ((ys (i + 1).toNat)))] ⟨rfl, hG, hS_s1, hm, (by omega)⟩ rfl rfl ⟨by decide, by decide⟩ ⟨(by show k + 0 ≤ 601024; omega), (by show n + 0 ≤ 7293034; omega)⟩ (k2 := k) (n2 := n) rfl rfl (Nat.le_of_ble_eq_true rfl) dL_law__765 (kVM (fun s2 hS_s2 hF_s2 q30 => ?_))
  refine j_goto hx 1713 dL_law__768 rfl ?_
  have f31 := zf hS_s2 hm (k := 24) rfl
  have g32 : s2 (gP G m 57) 488 = s0 (gP G m 57) 488 := (by rw [(zFr_g hF_s2 (zr (k := 57) (t2 := 106) hG hm rfl) (by decide)), (zFr_g hF_s1 (zr (k := 57) (t2 := 106) hG hm rfl) (by decide))])
  have g33 : s2 (gP G m 57) 13709 = s0 (gP G m 57) 13709 := (by rw [(zFr_g hF_s2 (zr (k := 57) (t2 := 106) hG hm rfl) (by decide)), (zFr_g hF_s1 (zr (k := 57) (t2 := 106) hG hm rfl) (by decide))])
  have g34 : s2 (gP G m 57) 26930 = s0 (gP G m 57) 26930 := (by rw [(zFr_g hF_s2 (zr (k := 57) (t2 := 106) hG hm rfl) (by decide)), (zFr_g hF_s1 (zr (k := 57) (t2 := 106) hG hm rfl) (by decide))])
  exact j_wid (k2 := k + 8) (n2 := n + 400) (by omega) (by omega) (j_sub [0, 1, 2, 3, 4] [(4, .int (zI i)), (3, .ref o), (2, .ref m), (1, .ref a), (0, .ref b)] rfl (kk G s2 hG hS_s2 ⟨(by omega), (by omega), (by omega), (by omega), (by have q1 : s2 (gP G m 34) = s0 (gP G m 34) := (by rw [hF_s2 (gP G m 34) (by rw [(zr (k := 34) (t2 := 91) hG hm rfl)]; decide), hF_s1 (gP G m 34) (by rw [(zr (k := 34) (t2 := 91) hG hm rfl)]; decide)]); have q2 : s2 (gP G m 35) = s0 (gP G m 35) := (by rw [hF_s2 (gP G m 35) (by rw [(zr (k := 35) (t2 := 92) hG hm rfl)]; decide), hF_s1 (gP G m 35) (by rw [(zr (k := 35) (t2 := 92) hG hm rfl)]; decide)]); have q3 : s2 (gP G m 37) = s0 (gP G m 37) := (by rw [hF_s2 (gP G m 37) (by rw [(zr (k := 37) (t2 := 94) hG hm rfl)]; decide), hF_s1 (gP G m 37) (by rw [(zr (k := 37) (t2 := 94) hG hm rfl)]; decide)]); rw [q1, q2, q3]; exact hI5), (by have q1 : s2 (gP G m 17) = s0 (gP G m 17) := (by rw [hF_s2 (gP G m 17) (by rw [(zr (k := 17) (t2 := 80) hG hm rfl)]; decide), hF_s1 (gP G m 17) (by rw [(zr (k := 17) (t2 := 80) hG hm rfl)]; decide)]); rw [q1]; exact (zQn_nn hI6 (by omega))), (by have q1 : s2 (gP G m 55) = s0 (gP G m 55) := (by rw [hF_s2 (gP G m 55) (by rw [(zr (k := 55) (t2 := 104) hG hm rfl)]; decide), hF_s1 (gP G m 55) (by rw [(zr (k := 55) (t2 := 104) hG hm rfl)]; decide)]); rw [q1]; exact hI7), (by have q1 : s2 (gP G m 57) = s0 (gP G m 57) := (by rw [hF_s2 (gP G m 57) (by rw [(zr (k := 57) (t2 := 106) hG hm rfl)]; decide), hF_s1 (gP G m 57) (by rw [(zr (k := 57) (t2 := 106) hG hm rfl)]; decide)]); rw [q1]; exact hI8), (by omega), (by omega), (by omega)⟩ ha hm ho))

theorem lk_RL_167 : LkV RL 167 RX11 yX11_still cX11_still 2 (some .int) 0 := ⟨km_RL_167, ki_yX11_still, ks_RX11_yX11_still, kn_RX11, kc_yX11_still, rfl, by decide +kernel, by decide +kernel, by decide +kernel⟩
theorem lk_RL_170 : LkV RL 170 RX12 yX12_still cX12_still 2 (some .int) 0 := ⟨km_RL_170, ki_yX12_still, ks_RX12_yX12_still, kn_RX12, kc_yX12_still, rfl, by decide +kernel, by decide +kernel, by decide +kernel⟩
set_option maxHeartbeats 4000000 in
set_option maxRecDepth 20000 in
theorem w_16 {X : zX} {E : zE} {G : zG} {s0 : zS} {b a m o L0 k n : Nat} {ys : Nat → Int} {i T : Int} (hL : LX X E b) (hG : zGK G) (hS0 : zSK G s0) (hI : zInv G s0 m T) (hT0 : 0 ≤ T) (hT : T ≤ 519000) (ha : gT G a = 12) (hm : gT G m = 13) (ho : gT G o = 120) (hs : ZS X E b L0 ys) (hy : ∀ j, -2147483648 ≤ ys j ∧ ys j ≤ 2147483647) (hi0 : 0 ≤ i) (hi : i + 6 ≤ L0) (hL0 : L0 ≤ 3072) (hk : k + 8 ≤ 601024) (hn : n + 400 ≤ 7293034) (kk : ∀ G2 s2, zGK G2 → zSK G2 s2 → zInv G2 s2 m (T + 1000) → gT G2 a = 12 → gT G2 m = 13 → gT G2 o = 120 → JJ X E 8 G2 s2 (k + 8) (n + 400) [(4, .int (zI i)), (3, .ref o), (2, .ref m), (1, .ref a), (0, .ref b)] 1713 []) : JJ X E 8 G s0 k n [(4, .int (zI i)), (3, .ref o), (2, .ref m), (1, .ref a), (0, .ref b)] 771 [] := by
  have hx := hL.1
  have hst := hx.2.2.2.2.2.2.2.2.2.2.2
  have hI0 := hI
  obtain ⟨hI1, hI2, hI3, hI4, hI5, hI6, hI7, hI8, hI9, hI10, hI11⟩ := hI
  have hy0 := hy (i).toNat
  have hy1 := hy (i + 1).toNat
  have hy2 := hy (i + 2).toNat
  have hy3 := hy (i + 3).toNat
  have hy4 := hy (i + 4).toNat
  have hy5 := hy (i + 5).toNat
  refine j_aload_n hx 3 dL_law__771 rfl ?_
  refine j_callV hx hG (c_X11_still hst a) lk_RL_167 ha (by decide) rfl rfl rfl rfl [] ⟨rfl, hG, hS0, ha⟩ rfl rfl ⟨by decide, by decide⟩ ⟨(by show k + 0 ≤ 601024; omega), (by show n + 0 ≤ 7293034; omega)⟩ (k2 := k) (n2 := n) rfl rfl (Nat.le_of_ble_eq_true rfl) dL_law__772 (kIM (fun v1 s1 hS_s1 hF_s1 q2 => ?_))
  refine j_pop hx dL_law__775 rfl ?_
  refine j_aload_n hx 2 dL_law__776 rfl ?_
  have g3 : zc (s1 (gP G m 27)) = zc (s0 (gP G m 27)) := by rw [hF_s1 (gP G m 27) (by rw [(zr (k := 27) (t2 := 84) hG hm rfl)]; decide)]
  have g4 : s1 (gP G m 27) 488 = s0 (gP G m 27) 488 := (by rw [(zFr_g hF_s1 (zr (k := 27) (t2 := 84) hG hm rfl) (by decide))])
  have g5 : zc (s1 (gP G m 28)) = zc (s0 (gP G m 28)) := by rw [hF_s1 (gP G m 28) (by rw [(zr (k := 28) (t2 := 85) hG hm rfl)]; decide)]
  have g6 : s1 (gP G m 28) 488 = s0 (gP G m 28) 488 := (by rw [(zFr_g hF_s1 (zr (k := 28) (t2 := 85) hG hm rfl) (by decide))])
  have g7 : s1 m 3 = s0 m 3 := (by rw [(zFr_g hF_s1 hm (by decide))])
  have f8 := zf hS0 hm (k := 3) rfl
  have g9 : s1 m 4 = s0 m 4 := (by rw [(zFr_g hF_s1 hm (by decide))])
  have f10 := zf hS0 hm (k := 4) rfl
  have g11 : s1 m 5 = s0 m 5 := (by rw [(zFr_g hF_s1 hm (by decide))])
  have f12 := zf hS0 hm (k := 5) rfl
  have g13 : s1 m 7 = s0 m 7 := (by rw [(zFr_g hF_s1 hm (by decide))])
  have f14 := zf hS0 hm (k := 7) rfl
  have g15 : s1 m 21 = s0 m 21 := (by rw [(zFr_g hF_s1 hm (by decide))])
  have f16 := zf hS0 hm (k := 21) rfl
  have g17 : s1 m 22 = s0 m 22 := (by rw [(zFr_g hF_s1 hm (by decide))])
  have f18 := zf hS0 hm (k := 22) rfl
  have g19 : s1 m 23 = s0 m 23 := (by rw [(zFr_g hF_s1 hm (by decide))])
  have f20 := zf hS0 hm (k := 23) rfl
  have g21 : s1 m 24 = s0 m 24 := (by rw [(zFr_g hF_s1 hm (by decide))])
  have f22 := zf hS0 hm (k := 24) rfl
  have g23 : s1 m 38 = s0 m 38 := (by rw [(zFr_g hF_s1 hm (by decide))])
  have f24 := zf hS0 hm (k := 38) rfl
  have g25 : s1 m 51 = s0 m 51 := (by rw [(zFr_g hF_s1 hm (by decide))])
  have f26 := zf hS0 hm (k := 51) rfl
  have g27 : s1 m 52 = s0 m 52 := (by rw [(zFr_g hF_s1 hm (by decide))])
  have f28 := zf hS0 hm (k := 52) rfl
  refine j_callV hx hG (c_X12_still hst m) lk_RL_170 hm (by decide) rfl rfl rfl rfl [] ⟨rfl, hG, hS_s1, hm⟩ rfl rfl ⟨by decide, by decide⟩ ⟨(by show k + 0 ≤ 601024; omega), (by show n + 0 ≤ 7293034; omega)⟩ (k2 := k) (n2 := n) rfl rfl (Nat.le_of_ble_eq_true rfl) dL_law__777 (kIM (fun v29 s2 hS_s2 hF_s2 q30 => ?_))
  refine j_pop hx dL_law__780 rfl ?_
  refine j_goto hx 1713 dL_law__781 rfl ?_
  have f31 := zf hS_s2 hm (k := 24) rfl
  have g32 : s2 (gP G m 57) 488 = s0 (gP G m 57) 488 := (by rw [(zFr_g hF_s2 (zr (k := 57) (t2 := 106) hG hm rfl) (by decide)), (zFr_g hF_s1 (zr (k := 57) (t2 := 106) hG hm rfl) (by decide))])
  have g33 : s2 (gP G m 57) 13709 = s0 (gP G m 57) 13709 := (by rw [(zFr_g hF_s2 (zr (k := 57) (t2 := 106) hG hm rfl) (by decide)), (zFr_g hF_s1 (zr (k := 57) (t2 := 106) hG hm rfl) (by decide))])
  have g34 : s2 (gP G m 57) 26930 = s0 (gP G m 57) 26930 := (by rw [(zFr_g hF_s2 (zr (k := 57) (t2 := 106) hG hm rfl) (by decide)), (zFr_g hF_s1 (zr (k := 57) (t2 := 106) hG hm rfl) (by decide))])
  exact j_wid (k2 := k + 8) (n2 := n + 400) (by omega) (by omega) (j_sub [0, 1, 2, 3, 4] [(4, .int (zI i)), (3, .ref o), (2, .ref m), (1, .ref a), (0, .ref b)] rfl (kk G s2 hG hS_s2 ⟨(by omega), (by omega), (by omega), (by omega), (by have q1 : s2 (gP G m 34) = s0 (gP G m 34) := (by rw [hF_s2 (gP G m 34) (by rw [(zr (k := 34) (t2 := 91) hG hm rfl)]; decide), hF_s1 (gP G m 34) (by rw [(zr (k := 34) (t2 := 91) hG hm rfl)]; decide)]); have q2 : s2 (gP G m 35) = s0 (gP G m 35) := (by rw [hF_s2 (gP G m 35) (by rw [(zr (k := 35) (t2 := 92) hG hm rfl)]; decide), hF_s1 (gP G m 35) (by rw [(zr (k := 35) (t2 := 92) hG hm rfl)]; decide)]); have q3 : s2 (gP G m 37) = s0 (gP G m 37) := (by rw [hF_s2 (gP G m 37) (by rw [(zr (k := 37) (t2 := 94) hG hm rfl)]; decide), hF_s1 (gP G m 37) (by rw [(zr (k := 37) (t2 := 94) hG hm rfl)]; decide)]); rw [q1, q2, q3]; exact hI5), (by have q1 : s2 (gP G m 17) = s0 (gP G m 17) := (by rw [hF_s2 (gP G m 17) (by rw [(zr (k := 17) (t2 := 80) hG hm rfl)]; decide), hF_s1 (gP G m 17) (by rw [(zr (k := 17) (t2 := 80) hG hm rfl)]; decide)]); rw [q1]; exact (zQn_nn hI6 (by omega))), (by have q1 : s2 (gP G m 55) = s0 (gP G m 55) := (by rw [hF_s2 (gP G m 55) (by rw [(zr (k := 55) (t2 := 104) hG hm rfl)]; decide), hF_s1 (gP G m 55) (by rw [(zr (k := 55) (t2 := 104) hG hm rfl)]; decide)]); rw [q1]; exact hI7), (by have q1 : s2 (gP G m 57) = s0 (gP G m 57) := (by rw [hF_s2 (gP G m 57) (by rw [(zr (k := 57) (t2 := 106) hG hm rfl)]; decide), hF_s1 (gP G m 57) (by rw [(zr (k := 57) (t2 := 106) hG hm rfl)]; decide)]); rw [q1]; exact hI8), (by omega), (by omega), (by omega)⟩ ha hm ho))

theorem lk_RL_171 : LkSH RL 171 yL_play cL_play 4 (some .int) [(0, 9, 12, 13)] 3 := ⟨km_RL_171, kst_yL_play, kn_RL, kc_yL_play, by decide +kernel, by decide +kernel, by decide +kernel⟩
theorem lk_RL_173 : LkV RL 173 RX12 yX12_play cX12_play 3 (some .int) 1 := ⟨km_RL_173, ki_yX12_play, ks_RX12_yX12_play, kn_RX12, kc_yX12_play, rfl, by decide +kernel, by decide +kernel, by decide +kernel⟩
set_option maxHeartbeats 4000000 in
set_option maxRecDepth 20000 in
theorem w_17 {X : zX} {E : zE} {G : zG} {s0 : zS} {b a m o L0 k n : Nat} {ys : Nat → Int} {i T : Int} (hL : LX X E b) (hG : zGK G) (hS0 : zSK G s0) (hI : zInv G s0 m T) (hT0 : 0 ≤ T) (hT : T ≤ 519000) (ha : gT G a = 12) (hm : gT G m = 13) (ho : gT G o = 120) (hs : ZS X E b L0 ys) (hy : ∀ j, -2147483648 ≤ ys j ∧ ys j ≤ 2147483647) (hi0 : 0 ≤ i) (hi : i + 6 ≤ L0) (hL0 : L0 ≤ 3072) (hk : k + 8 ≤ 601024) (hn : n + 400 ≤ 7293034) (kk : ∀ G2 s2, zGK G2 → zSK G2 s2 → zInv G2 s2 m (T + 1000) → gT G2 a = 12 → gT G2 m = 13 → gT G2 o = 120 → JJ X E 8 G2 s2 (k + 8) (n + 400) [(4, .int (zI i)), (3, .ref o), (2, .ref m), (1, .ref a), (0, .ref b)] 1713 []) : JJ X E 8 G s0 k n [(4, .int (zI i)), (3, .ref o), (2, .ref m), (1, .ref a), (0, .ref b)] 784 [] := by
  have hx := hL.1
  have hst := hx.2.2.2.2.2.2.2.2.2.2.2
  have hI0 := hI
  obtain ⟨hI1, hI2, hI3, hI4, hI5, hI6, hI7, hI8, hI9, hI10, hI11⟩ := hI
  have hy0 := hy (i).toNat
  have hy1 := hy (i + 1).toNat
  have hy2 := hy (i + 2).toNat
  have hy3 := hy (i + 3).toNat
  have hy4 := hy (i + 4).toNat
  have hy5 := hy (i + 5).toNat
  refine j_aload_n hx 3 dL_law__784 rfl ?_
  refine j_aload_n hx 4 dL_law__785 rfl ?_
  refine j_iload hx 0 dL_law__786 rfl ?_
  refine j_iconst hx dL_law__788 ?_
  refine j_iadd hx (r := i + 1) dL_law__789 rfl ?_
  refine j_sld hx hs (j := (i + 1).toNat) (by omega) (by omega) (by omega) dL_law__790 ?_
  refine j_aload_n hx 1 dL_law__791 rfl ?_
  refine j_callSH hx (c_L_play hst a ((ys (i + 1).toNat)) o) lk_RL_171 [.ref a, .int (zI ((ys (i + 1).toNat))), .ref o] ⟨rfl, hG, hS0, ha, (by omega), ho⟩ rfl rfl ⟨by decide, by decide⟩ ⟨(by show k + 1 ≤ 601024; omega), (by show n + 6 ≤ 7293034; omega)⟩ (k2 := k + 1) (n2 := n + 6) rfl rfl (Nat.le_of_ble_eq_true rfl) dL_law__792 (kIM2 (fun v1 s1 hS_s1 hF_s1 q2 => ?_))
  refine j_istore hx [(5, .int (zI v1)), (4, .int (zI i)), (3, .ref o), (2, .ref m), (1, .ref a), (0, .ref b)] dL_law__795 (by decide) rfl ?_
  refine j_aload_n hx 3 dL_law__797 rfl ?_
  refine j_aload_n hx 5 dL_law__798 rfl ?_
  refine j_iload hx 1 dL_law__799 rfl ?_
  refine j_iconst hx dL_law__801 ?_
  refine j_iadd hx (r := i + 1) dL_law__802 rfl ?_
  refine j_sld hx hs (j := (i + 1).toNat) (by omega) (by omega) (by omega) dL_law__803 ?_
  have g3 : zc (s1 (gP G m 27)) = zc (s0 (gP G m 27)) := by rw [hF_s1 (gP G m 27) (by rw [(zr (k := 27) (t2 := 84) hG hm rfl)]; decide)]
  have g4 : s1 (gP G m 27) 488 = s0 (gP G m 27) 488 := (by rw [(zFr_g hF_s1 (zr (k := 27) (t2 := 84) hG hm rfl) (by decide))])
  have g5 : s1 m 3 = s0 m 3 := (by rw [(zFr_g hF_s1 hm (by decide))])
  have f6 := zf hS0 hm (k := 3) rfl
  have g7 : s1 m 4 = s0 m 4 := (by rw [(zFr_g hF_s1 hm (by decide))])
  have f8 := zf hS0 hm (k := 4) rfl
  have g9 : s1 m 5 = s0 m 5 := (by rw [(zFr_g hF_s1 hm (by decide))])
  have f10 := zf hS0 hm (k := 5) rfl
  have g11 : s1 m 7 = s0 m 7 := (by rw [(zFr_g hF_s1 hm (by decide))])
  have f12 := zf hS0 hm (k := 7) rfl
  have g13 : s1 m 21 = s0 m 21 := (by rw [(zFr_g hF_s1 hm (by decide))])
  have f14 := zf hS0 hm (k := 21) rfl
  have g15 : s1 m 22 = s0 m 22 := (by rw [(zFr_g hF_s1 hm (by decide))])
  have f16 := zf hS0 hm (k := 22) rfl
  have g17 : s1 m 23 = s0 m 23 := (by rw [(zFr_g hF_s1 hm (by decide))])
  have f18 := zf hS0 hm (k := 23) rfl
  have g19 : s1 m 24 = s0 m 24 := (by rw [(zFr_g hF_s1 hm (by decide))])
  have f20 := zf hS0 hm (k := 24) rfl
  have g21 : s1 m 38 = s0 m 38 := (by rw [(zFr_g hF_s1 hm (by decide))])
  have f22 := zf hS0 hm (k := 38) rfl
  have g23 : s1 m 51 = s0 m 51 := (by rw [(zFr_g hF_s1 hm (by decide))])
  have f24 := zf hS0 hm (k := 51) rfl
  have g25 : s1 m 52 = s0 m 52 := (by rw [(zFr_g hF_s1 hm (by decide))])
  have f26 := zf hS0 hm (k := 52) rfl
  refine j_callV hx hG (c_X12_play hst m ((ys (i + 1).toNat))) lk_RL_173 hm (by decide) rfl rfl rfl rfl [.int (zI ((ys (i + 1).toNat)))] ⟨rfl, hG, hS_s1, hm, (by omega), ((by have q1 : s1 (gP G m 34) = s0 (gP G m 34) := (by rw [hF_s1 (gP G m 34) (by rw [(zr (k := 34) (t2 := 91) hG hm rfl)]; decide)]); have q2 : s1 (gP G m 35) = s0 (gP G m 35) := (by rw [hF_s1 (gP G m 35) (by rw [(zr (k := 35) (t2 := 92) hG hm rfl)]; decide)]); have q3 : s1 (gP G m 37) = s0 (gP G m 37) := (by rw [hF_s1 (gP G m 37) (by rw [(zr (k := 37) (t2 := 94) hG hm rfl)]; decide)]); rw [q1, q2, q3]; exact hI5)), (by omega), (by omega)⟩ rfl rfl ⟨by decide, by decide⟩ ⟨(by show k + 1 + 0 ≤ 601024; omega), (by show n + 6 + 0 ≤ 7293034; omega)⟩ (k2 := k + 1) (n2 := n + 6) rfl rfl (Nat.le_of_ble_eq_true rfl) dL_law__804 (kIM (fun v27 s2 hS_s2 hF_s2 q28 => ?_))
  refine j_istore hx [(6, .int (zI v27)), (5, .int (zI v1)), (4, .int (zI i)), (3, .ref o), (2, .ref m), (1, .ref a), (0, .ref b)] dL_law__807 (by decide) rfl ?_
  refine j_goto hx 1713 dL_law__809 rfl ?_
  have g29 : zc (s2 (gP G m 28)) = zc (s0 (gP G m 28)) := by rw [hF_s2 (gP G m 28) (by rw [(zr (k := 28) (t2 := 85) hG hm rfl)]; decide), hF_s1 (gP G m 28) (by rw [(zr (k := 28) (t2 := 85) hG hm rfl)]; decide)]
  have g30 : s2 (gP G m 28) 488 = s0 (gP G m 28) 488 := (by rw [(zFr_g hF_s2 (zr (k := 28) (t2 := 85) hG hm rfl) (by decide)), (zFr_g hF_s1 (zr (k := 28) (t2 := 85) hG hm rfl) (by decide))])
  have f31 := zf hS_s2 hm (k := 24) rfl
  have g32 : s2 (gP G m 57) 488 = s0 (gP G m 57) 488 := (by rw [(zFr_g hF_s2 (zr (k := 57) (t2 := 106) hG hm rfl) (by decide)), (zFr_g hF_s1 (zr (k := 57) (t2 := 106) hG hm rfl) (by decide))])
  have g33 : s2 (gP G m 57) 13709 = s0 (gP G m 57) 13709 := (by rw [(zFr_g hF_s2 (zr (k := 57) (t2 := 106) hG hm rfl) (by decide)), (zFr_g hF_s1 (zr (k := 57) (t2 := 106) hG hm rfl) (by decide))])
  have g34 : s2 (gP G m 57) 26930 = s0 (gP G m 57) 26930 := (by rw [(zFr_g hF_s2 (zr (k := 57) (t2 := 106) hG hm rfl) (by decide)), (zFr_g hF_s1 (zr (k := 57) (t2 := 106) hG hm rfl) (by decide))])
  exact j_wid (k2 := k + 8) (n2 := n + 400) (by omega) (by omega) (j_sub [2, 3, 4, 5, 6] [(4, .int (zI i)), (3, .ref o), (2, .ref m), (1, .ref a), (0, .ref b)] rfl (kk G s2 hG hS_s2 ⟨(by omega), (by omega), (by omega), (by omega), (by have q1 : s2 (gP G m 34) = s0 (gP G m 34) := (by rw [hF_s2 (gP G m 34) (by rw [(zr (k := 34) (t2 := 91) hG hm rfl)]; decide), hF_s1 (gP G m 34) (by rw [(zr (k := 34) (t2 := 91) hG hm rfl)]; decide)]); have q2 : s2 (gP G m 35) = s0 (gP G m 35) := (by rw [hF_s2 (gP G m 35) (by rw [(zr (k := 35) (t2 := 92) hG hm rfl)]; decide), hF_s1 (gP G m 35) (by rw [(zr (k := 35) (t2 := 92) hG hm rfl)]; decide)]); have q3 : s2 (gP G m 37) = s0 (gP G m 37) := (by rw [hF_s2 (gP G m 37) (by rw [(zr (k := 37) (t2 := 94) hG hm rfl)]; decide), hF_s1 (gP G m 37) (by rw [(zr (k := 37) (t2 := 94) hG hm rfl)]; decide)]); rw [q1, q2, q3]; exact hI5), (by have q1 : s2 (gP G m 17) = s0 (gP G m 17) := (by rw [hF_s2 (gP G m 17) (by rw [(zr (k := 17) (t2 := 80) hG hm rfl)]; decide), hF_s1 (gP G m 17) (by rw [(zr (k := 17) (t2 := 80) hG hm rfl)]; decide)]); rw [q1]; exact (zQn_nn hI6 (by omega))), (by have q1 : s2 (gP G m 55) = s0 (gP G m 55) := (by rw [hF_s2 (gP G m 55) (by rw [(zr (k := 55) (t2 := 104) hG hm rfl)]; decide), hF_s1 (gP G m 55) (by rw [(zr (k := 55) (t2 := 104) hG hm rfl)]; decide)]); rw [q1]; exact hI7), (by have q1 : s2 (gP G m 57) = s0 (gP G m 57) := (by rw [hF_s2 (gP G m 57) (by rw [(zr (k := 57) (t2 := 106) hG hm rfl)]; decide), hF_s1 (gP G m 57) (by rw [(zr (k := 57) (t2 := 106) hG hm rfl)]; decide)]); rw [q1]; exact hI8), (by omega), (by omega), (by omega)⟩ ha hm ho))

theorem lk_RL_174 : LkSH RL 174 yL_undo cL_undo 4 (some .int) [(0, 9, 12, 13)] 3 := ⟨km_RL_174, kst_yL_undo, kn_RL, kc_yL_undo, by decide +kernel, by decide +kernel, by decide +kernel⟩
theorem lk_RL_176 : LkV RL 176 RX12 yX12_undo cX12_undo 5 (some .int) 1 := ⟨km_RL_176, ki_yX12_undo, ks_RX12_yX12_undo, kn_RX12, kc_yX12_undo, rfl, by decide +kernel, by decide +kernel, by decide +kernel⟩
set_option maxHeartbeats 4000000 in
set_option maxRecDepth 20000 in
theorem w_18 {X : zX} {E : zE} {G : zG} {s0 : zS} {b a m o L0 k n : Nat} {ys : Nat → Int} {i T : Int} (hL : LX X E b) (hG : zGK G) (hS0 : zSK G s0) (hI : zInv G s0 m T) (hT0 : 0 ≤ T) (hT : T ≤ 519000) (ha : gT G a = 12) (hm : gT G m = 13) (ho : gT G o = 120) (hs : ZS X E b L0 ys) (hy : ∀ j, -2147483648 ≤ ys j ∧ ys j ≤ 2147483647) (hi0 : 0 ≤ i) (hi : i + 6 ≤ L0) (hL0 : L0 ≤ 3072) (hk : k + 8 ≤ 601024) (hn : n + 400 ≤ 7293034) (kk : ∀ G2 s2, zGK G2 → zSK G2 s2 → zInv G2 s2 m (T + 1000) → gT G2 a = 12 → gT G2 m = 13 → gT G2 o = 120 → JJ X E 8 G2 s2 (k + 8) (n + 400) [(4, .int (zI i)), (3, .ref o), (2, .ref m), (1, .ref a), (0, .ref b)] 1713 []) : JJ X E 8 G s0 k n [(4, .int (zI i)), (3, .ref o), (2, .ref m), (1, .ref a), (0, .ref b)] 812 [] := by
  have hx := hL.1
  have hst := hx.2.2.2.2.2.2.2.2.2.2.2
  have hI0 := hI
  obtain ⟨hI1, hI2, hI3, hI4, hI5, hI6, hI7, hI8, hI9, hI10, hI11⟩ := hI
  have hy0 := hy (i).toNat
  have hy1 := hy (i + 1).toNat
  have hy2 := hy (i + 2).toNat
  have hy3 := hy (i + 3).toNat
  have hy4 := hy (i + 4).toNat
  have hy5 := hy (i + 5).toNat
  refine j_aload_n hx 3 dL_law__812 rfl ?_
  refine j_aload_n hx 4 dL_law__813 rfl ?_
  refine j_iload hx 0 dL_law__814 rfl ?_
  refine j_iconst hx dL_law__816 ?_
  refine j_iadd hx (r := i + 1) dL_law__817 rfl ?_
  refine j_sld hx hs (j := (i + 1).toNat) (by omega) (by omega) (by omega) dL_law__818 ?_
  refine j_aload_n hx 1 dL_law__819 rfl ?_
  refine j_callSH hx (c_L_undo hst a ((ys (i + 1).toNat)) o) lk_RL_174 [.ref a, .int (zI ((ys (i + 1).toNat))), .ref o] ⟨rfl, hG, hS0, ha, (by omega), ho⟩ rfl rfl ⟨by decide, by decide⟩ ⟨(by show k + 1 ≤ 601024; omega), (by show n + 6 ≤ 7293034; omega)⟩ (k2 := k + 1) (n2 := n + 6) rfl rfl (Nat.le_of_ble_eq_true rfl) dL_law__820 (kIM2 (fun v1 s1 hS_s1 hF_s1 q2 => ?_))
  refine j_istore hx [(5, .int (zI v1)), (4, .int (zI i)), (3, .ref o), (2, .ref m), (1, .ref a), (0, .ref b)] dL_law__823 (by decide) rfl ?_
  refine j_aload_n hx 3 dL_law__825 rfl ?_
  refine j_aload_n hx 5 dL_law__826 rfl ?_
  refine j_iload hx 1 dL_law__827 rfl ?_
  refine j_iconst hx dL_law__829 ?_
  refine j_iadd hx (r := i + 1) dL_law__830 rfl ?_
  refine j_sld hx hs (j := (i + 1).toNat) (by omega) (by omega) (by omega) dL_law__831 ?_
  have g3 : zc (s1 (gP G m 27)) = zc (s0 (gP G m 27)) := by rw [hF_s1 (gP G m 27) (by rw [(zr (k := 27) (t2 := 84) hG hm rfl)]; decide)]
  have g4 : s1 (gP G m 27) 488 = s0 (gP G m 27) 488 := (by rw [(zFr_g hF_s1 (zr (k := 27) (t2 := 84) hG hm rfl) (by decide))])
  have g5 : zc (s1 (gP G m 28)) = zc (s0 (gP G m 28)) := by rw [hF_s1 (gP G m 28) (by rw [(zr (k := 28) (t2 := 85) hG hm rfl)]; decide)]
  have g6 : s1 (gP G m 28) 488 = s0 (gP G m 28) 488 := (by rw [(zFr_g hF_s1 (zr (k := 28) (t2 := 85) hG hm rfl) (by decide))])
  have g7 : s1 m 3 = s0 m 3 := (by rw [(zFr_g hF_s1 hm (by decide))])
  have f8 := zf hS0 hm (k := 3) rfl
  have g9 : s1 m 4 = s0 m 4 := (by rw [(zFr_g hF_s1 hm (by decide))])
  have f10 := zf hS0 hm (k := 4) rfl
  have g11 : s1 m 5 = s0 m 5 := (by rw [(zFr_g hF_s1 hm (by decide))])
  have f12 := zf hS0 hm (k := 5) rfl
  have g13 : s1 m 7 = s0 m 7 := (by rw [(zFr_g hF_s1 hm (by decide))])
  have f14 := zf hS0 hm (k := 7) rfl
  have g15 : s1 m 21 = s0 m 21 := (by rw [(zFr_g hF_s1 hm (by decide))])
  have f16 := zf hS0 hm (k := 21) rfl
  have g17 : s1 m 22 = s0 m 22 := (by rw [(zFr_g hF_s1 hm (by decide))])
  have f18 := zf hS0 hm (k := 22) rfl
  have g19 : s1 m 23 = s0 m 23 := (by rw [(zFr_g hF_s1 hm (by decide))])
  have f20 := zf hS0 hm (k := 23) rfl
  have g21 : s1 m 24 = s0 m 24 := (by rw [(zFr_g hF_s1 hm (by decide))])
  have f22 := zf hS0 hm (k := 24) rfl
  have g23 : s1 m 38 = s0 m 38 := (by rw [(zFr_g hF_s1 hm (by decide))])
  have f24 := zf hS0 hm (k := 38) rfl
  have g25 : s1 m 51 = s0 m 51 := (by rw [(zFr_g hF_s1 hm (by decide))])
  have f26 := zf hS0 hm (k := 51) rfl
  have g27 : s1 m 52 = s0 m 52 := (by rw [(zFr_g hF_s1 hm (by decide))])
  have f28 := zf hS0 hm (k := 52) rfl
  refine j_callV hx hG (c_X12_undo hst m ((ys (i + 1).toNat))) lk_RL_176 hm (by decide) rfl rfl rfl rfl [.int (zI ((ys (i + 1).toNat)))] ⟨rfl, hG, hS_s1, hm, (by omega), ((by have q1 : s1 (gP G m 34) = s0 (gP G m 34) := (by rw [hF_s1 (gP G m 34) (by rw [(zr (k := 34) (t2 := 91) hG hm rfl)]; decide)]); have q2 : s1 (gP G m 35) = s0 (gP G m 35) := (by rw [hF_s1 (gP G m 35) (by rw [(zr (k := 35) (t2 := 92) hG hm rfl)]; decide)]); have q3 : s1 (gP G m 37) = s0 (gP G m 37) := (by rw [hF_s1 (gP G m 37) (by rw [(zr (k := 37) (t2 := 94) hG hm rfl)]; decide)]); rw [q1, q2, q3]; exact hI5)), (by omega), (by omega), (by omega), (by omega)⟩ rfl rfl ⟨by decide, by decide⟩ ⟨(by show k + 1 + 0 ≤ 601024; omega), (by show n + 6 + 0 ≤ 7293034; omega)⟩ (k2 := k + 1) (n2 := n + 6) rfl rfl (Nat.le_of_ble_eq_true rfl) dL_law__832 (kIM (fun v29 s2 hS_s2 hF_s2 q30 => ?_))
  refine j_istore hx [(6, .int (zI v29)), (5, .int (zI v1)), (4, .int (zI i)), (3, .ref o), (2, .ref m), (1, .ref a), (0, .ref b)] dL_law__835 (by decide) rfl ?_
  refine j_goto hx 1713 dL_law__837 rfl ?_
  have g31 : zc (s2 (gP G m 28)) = zc (s0 (gP G m 28)) := by rw [hF_s2 (gP G m 28) (by rw [(zr (k := 28) (t2 := 85) hG hm rfl)]; decide), hF_s1 (gP G m 28) (by rw [(zr (k := 28) (t2 := 85) hG hm rfl)]; decide)]
  have g32 : s2 (gP G m 28) 488 = s0 (gP G m 28) 488 := (by rw [(zFr_g hF_s2 (zr (k := 28) (t2 := 85) hG hm rfl) (by decide)), (zFr_g hF_s1 (zr (k := 28) (t2 := 85) hG hm rfl) (by decide))])
  have f33 := zf hS_s2 hm (k := 24) rfl
  have g34 : s2 (gP G m 57) 488 = s0 (gP G m 57) 488 := (by rw [(zFr_g hF_s2 (zr (k := 57) (t2 := 106) hG hm rfl) (by decide)), (zFr_g hF_s1 (zr (k := 57) (t2 := 106) hG hm rfl) (by decide))])
  have g35 : s2 (gP G m 57) 13709 = s0 (gP G m 57) 13709 := (by rw [(zFr_g hF_s2 (zr (k := 57) (t2 := 106) hG hm rfl) (by decide)), (zFr_g hF_s1 (zr (k := 57) (t2 := 106) hG hm rfl) (by decide))])
  have g36 : s2 (gP G m 57) 26930 = s0 (gP G m 57) 26930 := (by rw [(zFr_g hF_s2 (zr (k := 57) (t2 := 106) hG hm rfl) (by decide)), (zFr_g hF_s1 (zr (k := 57) (t2 := 106) hG hm rfl) (by decide))])
  exact j_wid (k2 := k + 8) (n2 := n + 400) (by omega) (by omega) (j_sub [2, 3, 4, 5, 6] [(4, .int (zI i)), (3, .ref o), (2, .ref m), (1, .ref a), (0, .ref b)] rfl (kk G s2 hG hS_s2 ⟨(by omega), (by omega), (by omega), (by omega), (by have q1 : s2 (gP G m 34) = s0 (gP G m 34) := (by rw [hF_s2 (gP G m 34) (by rw [(zr (k := 34) (t2 := 91) hG hm rfl)]; decide), hF_s1 (gP G m 34) (by rw [(zr (k := 34) (t2 := 91) hG hm rfl)]; decide)]); have q2 : s2 (gP G m 35) = s0 (gP G m 35) := (by rw [hF_s2 (gP G m 35) (by rw [(zr (k := 35) (t2 := 92) hG hm rfl)]; decide), hF_s1 (gP G m 35) (by rw [(zr (k := 35) (t2 := 92) hG hm rfl)]; decide)]); have q3 : s2 (gP G m 37) = s0 (gP G m 37) := (by rw [hF_s2 (gP G m 37) (by rw [(zr (k := 37) (t2 := 94) hG hm rfl)]; decide), hF_s1 (gP G m 37) (by rw [(zr (k := 37) (t2 := 94) hG hm rfl)]; decide)]); rw [q1, q2, q3]; exact hI5), (by have q1 : s2 (gP G m 17) = s0 (gP G m 17) := (by rw [hF_s2 (gP G m 17) (by rw [(zr (k := 17) (t2 := 80) hG hm rfl)]; decide), hF_s1 (gP G m 17) (by rw [(zr (k := 17) (t2 := 80) hG hm rfl)]; decide)]); rw [q1]; exact (zQn_nn hI6 (by omega))), (by have q1 : s2 (gP G m 55) = s0 (gP G m 55) := (by rw [hF_s2 (gP G m 55) (by rw [(zr (k := 55) (t2 := 104) hG hm rfl)]; decide), hF_s1 (gP G m 55) (by rw [(zr (k := 55) (t2 := 104) hG hm rfl)]; decide)]); rw [q1]; exact hI7), (by have q1 : s2 (gP G m 57) = s0 (gP G m 57) := (by rw [hF_s2 (gP G m 57) (by rw [(zr (k := 57) (t2 := 106) hG hm rfl)]; decide), hF_s1 (gP G m 57) (by rw [(zr (k := 57) (t2 := 106) hG hm rfl)]; decide)]); rw [q1]; exact hI8), (by omega), (by omega), (by omega)⟩ ha hm ho))

theorem lk_RL_177 : LkSH RL 177 yL_latest cL_latest 4 (some .int) [(0, 9, 12, 13)] 3 := ⟨km_RL_177, kst_yL_latest, kn_RL, kc_yL_latest, by decide +kernel, by decide +kernel, by decide +kernel⟩
theorem lk_RL_179 : LkV RL 179 RX12 yX12_latest cX12_latest 2 (some .int) 1 := ⟨km_RL_179, ki_yX12_latest, ks_RX12_yX12_latest, kn_RX12, kc_yX12_latest, rfl, by decide +kernel, by decide +kernel, by decide +kernel⟩
set_option maxHeartbeats 4000000 in
set_option maxRecDepth 20000 in
theorem w_19 {X : zX} {E : zE} {G : zG} {s0 : zS} {b a m o L0 k n : Nat} {ys : Nat → Int} {i T : Int} (hL : LX X E b) (hG : zGK G) (hS0 : zSK G s0) (hI : zInv G s0 m T) (hT0 : 0 ≤ T) (hT : T ≤ 519000) (ha : gT G a = 12) (hm : gT G m = 13) (ho : gT G o = 120) (hs : ZS X E b L0 ys) (hy : ∀ j, -2147483648 ≤ ys j ∧ ys j ≤ 2147483647) (hi0 : 0 ≤ i) (hi : i + 6 ≤ L0) (hL0 : L0 ≤ 3072) (hk : k + 8 ≤ 601024) (hn : n + 400 ≤ 7293034) (kk : ∀ G2 s2, zGK G2 → zSK G2 s2 → zInv G2 s2 m (T + 1000) → gT G2 a = 12 → gT G2 m = 13 → gT G2 o = 120 → JJ X E 8 G2 s2 (k + 8) (n + 400) [(4, .int (zI i)), (3, .ref o), (2, .ref m), (1, .ref a), (0, .ref b)] 1713 []) : JJ X E 8 G s0 k n [(4, .int (zI i)), (3, .ref o), (2, .ref m), (1, .ref a), (0, .ref b)] 840 [] := by
  have hx := hL.1
  have hst := hx.2.2.2.2.2.2.2.2.2.2.2
  have hI0 := hI
  obtain ⟨hI1, hI2, hI3, hI4, hI5, hI6, hI7, hI8, hI9, hI10, hI11⟩ := hI
  have hy0 := hy (i).toNat
  have hy1 := hy (i + 1).toNat
  have hy2 := hy (i + 2).toNat
  have hy3 := hy (i + 3).toNat
  have hy4 := hy (i + 4).toNat
  have hy5 := hy (i + 5).toNat
  refine j_aload_n hx 3 dL_law__840 rfl ?_
  refine j_aload_n hx 4 dL_law__841 rfl ?_
  refine j_iload hx 0 dL_law__842 rfl ?_
  refine j_iconst hx dL_law__844 ?_
  refine j_iadd hx (r := i + 1) dL_law__845 rfl ?_
  refine j_sld hx hs (j := (i + 1).toNat) (by omega) (by omega) (by omega) dL_law__846 ?_
  refine j_aload_n hx 1 dL_law__847 rfl ?_
  refine j_callSH hx (c_L_latest hst a ((ys (i + 1).toNat)) o) lk_RL_177 [.ref a, .int (zI ((ys (i + 1).toNat))), .ref o] ⟨rfl, hG, hS0, ha, (by omega), ho⟩ rfl rfl ⟨by decide, by decide⟩ ⟨(by show k + 1 ≤ 601024; omega), (by show n + 6 ≤ 7293034; omega)⟩ (k2 := k + 1) (n2 := n + 6) rfl rfl (Nat.le_of_ble_eq_true rfl) dL_law__848 (kIM2 (fun v1 s1 hS_s1 hF_s1 q2 => ?_))
  refine j_istore hx [(5, .int (zI v1)), (4, .int (zI i)), (3, .ref o), (2, .ref m), (1, .ref a), (0, .ref b)] dL_law__851 (by decide) rfl ?_
  refine j_aload_n hx 3 dL_law__853 rfl ?_
  refine j_aload_n hx 5 dL_law__854 rfl ?_
  refine j_iload hx 1 dL_law__855 rfl ?_
  refine j_iconst hx dL_law__857 ?_
  refine j_iadd hx (r := i + 1) dL_law__858 rfl ?_
  refine j_sld hx hs (j := (i + 1).toNat) (by omega) (by omega) (by omega) dL_law__859 ?_
  have g3 : s1 m 3 = s0 m 3 := (by rw [(zFr_g hF_s1 hm (by decide))])
  have f4 := zf hS0 hm (k := 3) rfl
  have g5 : s1 m 4 = s0 m 4 := (by rw [(zFr_g hF_s1 hm (by decide))])
  have f6 := zf hS0 hm (k := 4) rfl
  have g7 : s1 m 5 = s0 m 5 := (by rw [(zFr_g hF_s1 hm (by decide))])
  have f8 := zf hS0 hm (k := 5) rfl
  have g9 : s1 m 7 = s0 m 7 := (by rw [(zFr_g hF_s1 hm (by decide))])
  have f10 := zf hS0 hm (k := 7) rfl
  have g11 : s1 m 21 = s0 m 21 := (by rw [(zFr_g hF_s1 hm (by decide))])
  have f12 := zf hS0 hm (k := 21) rfl
  have g13 : s1 m 22 = s0 m 22 := (by rw [(zFr_g hF_s1 hm (by decide))])
  have f14 := zf hS0 hm (k := 22) rfl
  have g15 : s1 m 23 = s0 m 23 := (by rw [(zFr_g hF_s1 hm (by decide))])
  have f16 := zf hS0 hm (k := 23) rfl
  have g17 : s1 m 24 = s0 m 24 := (by rw [(zFr_g hF_s1 hm (by decide))])
  have f18 := zf hS0 hm (k := 24) rfl
  have g19 : s1 m 38 = s0 m 38 := (by rw [(zFr_g hF_s1 hm (by decide))])
  have f20 := zf hS0 hm (k := 38) rfl
  have g21 : s1 m 51 = s0 m 51 := (by rw [(zFr_g hF_s1 hm (by decide))])
  have f22 := zf hS0 hm (k := 51) rfl
  have g23 : s1 m 52 = s0 m 52 := (by rw [(zFr_g hF_s1 hm (by decide))])
  have f24 := zf hS0 hm (k := 52) rfl
  refine j_callV hx hG (c_X12_latest hst m ((ys (i + 1).toNat))) lk_RL_179 hm (by decide) rfl rfl rfl rfl [.int (zI ((ys (i + 1).toNat)))] ⟨rfl, hG, hS_s1, hm, (by omega)⟩ rfl rfl ⟨by decide, by decide⟩ ⟨(by show k + 1 + 0 ≤ 601024; omega), (by show n + 6 + 0 ≤ 7293034; omega)⟩ (k2 := k + 1) (n2 := n + 6) rfl rfl (Nat.le_of_ble_eq_true rfl) dL_law__860 (kIM (fun v25 s2 hS_s2 hF_s2 q26 => ?_))
  refine j_istore hx [(6, .int (zI v25)), (5, .int (zI v1)), (4, .int (zI i)), (3, .ref o), (2, .ref m), (1, .ref a), (0, .ref b)] dL_law__863 (by decide) rfl ?_
  refine j_goto hx 1713 dL_law__865 rfl ?_
  have f27 := zf hS_s2 hm (k := 24) rfl
  exact j_wid (k2 := k + 8) (n2 := n + 400) (by omega) (by omega) (j_sub [2, 3, 4, 5, 6] [(4, .int (zI i)), (3, .ref o), (2, .ref m), (1, .ref a), (0, .ref b)] rfl (kk G s2 hG hS_s2 (zInv_fr (ts := [12, 13, 71, 120]) hI0 (by omega) hG hm (zFr_t (zFr_t zFr_rf hF_s1 (by decide)) hF_s2 (by decide)) (by decide) (by omega)) ha hm ho))

theorem lk_RL_180 : LkSH RL 180 yL_calls cL_calls 5 (some .int) [(0, 10, 13, 19), (0, 10, 17, 13)] 4 := ⟨km_RL_180, kst_yL_calls, kn_RL, kc_yL_calls, by decide +kernel, by decide +kernel, by decide +kernel⟩
theorem lk_RL_182 : LkV RL 182 RX12 yX12_calls cX12_calls 3 (some .int) 2 := ⟨km_RL_182, ki_yX12_calls, ks_RX12_yX12_calls, kn_RX12, kc_yX12_calls, rfl, by decide +kernel, by decide +kernel, by decide +kernel⟩
set_option maxHeartbeats 4000000 in
set_option maxRecDepth 20000 in
theorem w_20 {X : zX} {E : zE} {G : zG} {s0 : zS} {b a m o L0 k n : Nat} {ys : Nat → Int} {i T : Int} (hL : LX X E b) (hG : zGK G) (hS0 : zSK G s0) (hI : zInv G s0 m T) (hT0 : 0 ≤ T) (hT : T ≤ 519000) (ha : gT G a = 12) (hm : gT G m = 13) (ho : gT G o = 120) (hs : ZS X E b L0 ys) (hy : ∀ j, -2147483648 ≤ ys j ∧ ys j ≤ 2147483647) (hi0 : 0 ≤ i) (hi : i + 6 ≤ L0) (hL0 : L0 ≤ 3072) (hk : k + 8 ≤ 601024) (hn : n + 400 ≤ 7293034) (kk : ∀ G2 s2, zGK G2 → zSK G2 s2 → zInv G2 s2 m (T + 1000) → gT G2 a = 12 → gT G2 m = 13 → gT G2 o = 120 → JJ X E 8 G2 s2 (k + 8) (n + 400) [(4, .int (zI i)), (3, .ref o), (2, .ref m), (1, .ref a), (0, .ref b)] 1713 []) : JJ X E 8 G s0 k n [(4, .int (zI i)), (3, .ref o), (2, .ref m), (1, .ref a), (0, .ref b)] 868 [] := by
  have hx := hL.1
  have hst := hx.2.2.2.2.2.2.2.2.2.2.2
  have hI0 := hI
  obtain ⟨hI1, hI2, hI3, hI4, hI5, hI6, hI7, hI8, hI9, hI10, hI11⟩ := hI
  have hy0 := hy (i).toNat
  have hy1 := hy (i + 1).toNat
  have hy2 := hy (i + 2).toNat
  have hy3 := hy (i + 3).toNat
  have hy4 := hy (i + 4).toNat
  have hy5 := hy (i + 5).toNat
  refine j_aload_n hx 3 dL_law__868 rfl ?_
  refine j_aload_n hx 4 dL_law__869 rfl ?_
  refine j_iload hx 0 dL_law__870 rfl ?_
  refine j_iconst hx dL_law__872 ?_
  refine j_iadd hx (r := i + 1) dL_law__873 rfl ?_
  refine j_sld hx hs (j := (i + 1).toNat) (by omega) (by omega) (by omega) dL_law__874 ?_
  refine j_aload_n hx 4 dL_law__875 rfl ?_
  refine j_iload hx 0 dL_law__876 rfl ?_
  refine j_iconst hx dL_law__878 ?_
  refine j_iadd hx (r := i + 2) dL_law__879 rfl ?_
  refine j_sld hx hs (j := (i + 2).toNat) (by omega) (by omega) (by omega) dL_law__880 ?_
  refine j_aload_n hx 1 dL_law__881 rfl ?_
  refine j_callSH hx (c_L_calls hst a ((ys (i + 1).toNat)) ((ys (i + 2).toNat)) o) lk_RL_180 [.ref a, .int (zI ((ys (i + 1).toNat))), .int (zI ((ys (i + 2).toNat))), .ref o] ⟨rfl, hG, hS0, ha, (by omega), (by omega), ho⟩ rfl rfl ⟨by decide, by decide⟩ ⟨(by show k + 2 ≤ 601024; omega), (by show n + 12 ≤ 7293034; omega)⟩ (k2 := k + 2) (n2 := n + 12) rfl rfl (Nat.le_of_ble_eq_true rfl) dL_law__882 (kIM2 (fun v1 s1 hS_s1 hF_s1 q2 => ?_))
  refine j_istore hx [(5, .int (zI v1)), (4, .int (zI i)), (3, .ref o), (2, .ref m), (1, .ref a), (0, .ref b)] dL_law__885 (by decide) rfl ?_
  refine j_aload_n hx 3 dL_law__887 rfl ?_
  refine j_aload_n hx 5 dL_law__888 rfl ?_
  refine j_iload hx 1 dL_law__889 rfl ?_
  refine j_iconst hx dL_law__891 ?_
  refine j_iadd hx (r := i + 1) dL_law__892 rfl ?_
  refine j_sld hx hs (j := (i + 1).toNat) (by omega) (by omega) (by omega) dL_law__893 ?_
  refine j_aload_n hx 5 dL_law__894 rfl ?_
  refine j_iload hx 1 dL_law__895 rfl ?_
  refine j_iconst hx dL_law__897 ?_
  refine j_iadd hx (r := i + 2) dL_law__898 rfl ?_
  refine j_sld hx hs (j := (i + 2).toNat) (by omega) (by omega) (by omega) dL_law__899 ?_
  have g3 : s1 m 3 = s0 m 3 := (by rw [(zFr_g hF_s1 hm (by decide))])
  have f4 := zf hS0 hm (k := 3) rfl
  have g5 : s1 m 4 = s0 m 4 := (by rw [(zFr_g hF_s1 hm (by decide))])
  have f6 := zf hS0 hm (k := 4) rfl
  have g7 : s1 m 5 = s0 m 5 := (by rw [(zFr_g hF_s1 hm (by decide))])
  have f8 := zf hS0 hm (k := 5) rfl
  have g9 : s1 m 7 = s0 m 7 := (by rw [(zFr_g hF_s1 hm (by decide))])
  have f10 := zf hS0 hm (k := 7) rfl
  have g11 : s1 m 21 = s0 m 21 := (by rw [(zFr_g hF_s1 hm (by decide))])
  have f12 := zf hS0 hm (k := 21) rfl
  have g13 : s1 m 22 = s0 m 22 := (by rw [(zFr_g hF_s1 hm (by decide))])
  have f14 := zf hS0 hm (k := 22) rfl
  have g15 : s1 m 23 = s0 m 23 := (by rw [(zFr_g hF_s1 hm (by decide))])
  have f16 := zf hS0 hm (k := 23) rfl
  have g17 : s1 m 24 = s0 m 24 := (by rw [(zFr_g hF_s1 hm (by decide))])
  have f18 := zf hS0 hm (k := 24) rfl
  have g19 : s1 m 38 = s0 m 38 := (by rw [(zFr_g hF_s1 hm (by decide))])
  have f20 := zf hS0 hm (k := 38) rfl
  have g21 : s1 m 51 = s0 m 51 := (by rw [(zFr_g hF_s1 hm (by decide))])
  have f22 := zf hS0 hm (k := 51) rfl
  have g23 : s1 m 52 = s0 m 52 := (by rw [(zFr_g hF_s1 hm (by decide))])
  have f24 := zf hS0 hm (k := 52) rfl
  refine j_callV hx hG (c_X12_calls hst m ((ys (i + 1).toNat)) ((ys (i + 2).toNat))) lk_RL_182 hm (by decide) rfl rfl rfl rfl [.int (zI ((ys (i + 1).toNat))), .int (zI ((ys (i + 2).toNat)))] ⟨rfl, hG, hS_s1, hm, (by omega), (by omega)⟩ rfl rfl ⟨by decide, by decide⟩ ⟨(by show k + 2 + 0 ≤ 601024; omega), (by show n + 12 + 0 ≤ 7293034; omega)⟩ (k2 := k + 2) (n2 := n + 12) rfl rfl (Nat.le_of_ble_eq_true rfl) dL_law__900 (kIM (fun v25 s2 hS_s2 hF_s2 q26 => ?_))
  refine j_istore hx [(6, .int (zI v25)), (5, .int (zI v1)), (4, .int (zI i)), (3, .ref o), (2, .ref m), (1, .ref a), (0, .ref b)] dL_law__903 (by decide) rfl ?_
  refine j_goto hx 1713 dL_law__905 rfl ?_
  have f27 := zf hS_s2 hm (k := 24) rfl
  exact j_wid (k2 := k + 8) (n2 := n + 400) (by omega) (by omega) (j_sub [2, 3, 4, 5, 6] [(4, .int (zI i)), (3, .ref o), (2, .ref m), (1, .ref a), (0, .ref b)] rfl (kk G s2 hG hS_s2 (zInv_fr (ts := [12, 13, 71, 120]) hI0 (by omega) hG hm (zFr_t (zFr_t zFr_rf hF_s1 (by decide)) hF_s2 (by decide)) (by decide) (by omega)) ha hm ho))

theorem lk_RL_183 : LkSH RL 183 yL_won cL_won 4 (some .int) [(0, 9, 12, 19)] 3 := ⟨km_RL_183, kst_yL_won, kn_RL, kc_yL_won, by decide +kernel, by decide +kernel, by decide +kernel⟩
theorem lk_RL_185 : LkV RL 185 RX12 yX12_won cX12_won 2 (some .int) 1 := ⟨km_RL_185, ki_yX12_won, ks_RX12_yX12_won, kn_RX12, kc_yX12_won, rfl, by decide +kernel, by decide +kernel, by decide +kernel⟩
set_option maxHeartbeats 4000000 in
set_option maxRecDepth 20000 in
theorem w_21 {X : zX} {E : zE} {G : zG} {s0 : zS} {b a m o L0 k n : Nat} {ys : Nat → Int} {i T : Int} (hL : LX X E b) (hG : zGK G) (hS0 : zSK G s0) (hI : zInv G s0 m T) (hT0 : 0 ≤ T) (hT : T ≤ 519000) (ha : gT G a = 12) (hm : gT G m = 13) (ho : gT G o = 120) (hs : ZS X E b L0 ys) (hy : ∀ j, -2147483648 ≤ ys j ∧ ys j ≤ 2147483647) (hi0 : 0 ≤ i) (hi : i + 6 ≤ L0) (hL0 : L0 ≤ 3072) (hk : k + 8 ≤ 601024) (hn : n + 400 ≤ 7293034) (kk : ∀ G2 s2, zGK G2 → zSK G2 s2 → zInv G2 s2 m (T + 1000) → gT G2 a = 12 → gT G2 m = 13 → gT G2 o = 120 → JJ X E 8 G2 s2 (k + 8) (n + 400) [(4, .int (zI i)), (3, .ref o), (2, .ref m), (1, .ref a), (0, .ref b)] 1713 []) : JJ X E 8 G s0 k n [(4, .int (zI i)), (3, .ref o), (2, .ref m), (1, .ref a), (0, .ref b)] 908 [] := by
  have hx := hL.1
  have hst := hx.2.2.2.2.2.2.2.2.2.2.2
  have hI0 := hI
  obtain ⟨hI1, hI2, hI3, hI4, hI5, hI6, hI7, hI8, hI9, hI10, hI11⟩ := hI
  have hy0 := hy (i).toNat
  have hy1 := hy (i + 1).toNat
  have hy2 := hy (i + 2).toNat
  have hy3 := hy (i + 3).toNat
  have hy4 := hy (i + 4).toNat
  have hy5 := hy (i + 5).toNat
  refine j_aload_n hx 3 dL_law__908 rfl ?_
  refine j_aload_n hx 4 dL_law__909 rfl ?_
  refine j_iload hx 0 dL_law__910 rfl ?_
  refine j_iconst hx dL_law__912 ?_
  refine j_iadd hx (r := i + 1) dL_law__913 rfl ?_
  refine j_sld hx hs (j := (i + 1).toNat) (by omega) (by omega) (by omega) dL_law__914 ?_
  refine j_aload_n hx 1 dL_law__915 rfl ?_
  refine j_callSH hx (c_L_won hst a ((ys (i + 1).toNat)) o) lk_RL_183 [.ref a, .int (zI ((ys (i + 1).toNat))), .ref o] ⟨rfl, hG, hS0, ha, (by omega), ho⟩ rfl rfl ⟨by decide, by decide⟩ ⟨(by show k + 1 ≤ 601024; omega), (by show n + 6 ≤ 7293034; omega)⟩ (k2 := k + 1) (n2 := n + 6) rfl rfl (Nat.le_of_ble_eq_true rfl) dL_law__916 (kIM2 (fun v1 s1 hS_s1 hF_s1 q2 => ?_))
  refine j_istore hx [(5, .int (zI v1)), (4, .int (zI i)), (3, .ref o), (2, .ref m), (1, .ref a), (0, .ref b)] dL_law__919 (by decide) rfl ?_
  refine j_aload_n hx 3 dL_law__921 rfl ?_
  refine j_aload_n hx 5 dL_law__922 rfl ?_
  refine j_iload hx 1 dL_law__923 rfl ?_
  refine j_iconst hx dL_law__925 ?_
  refine j_iadd hx (r := i + 1) dL_law__926 rfl ?_
  refine j_sld hx hs (j := (i + 1).toNat) (by omega) (by omega) (by omega) dL_law__927 ?_
  have g3 : s1 m 3 = s0 m 3 := (by rw [(zFr_g hF_s1 hm (by decide))])
  have f4 := zf hS0 hm (k := 3) rfl
  have g5 : s1 m 4 = s0 m 4 := (by rw [(zFr_g hF_s1 hm (by decide))])
  have f6 := zf hS0 hm (k := 4) rfl
  have g7 : s1 m 5 = s0 m 5 := (by rw [(zFr_g hF_s1 hm (by decide))])
  have f8 := zf hS0 hm (k := 5) rfl
  have g9 : s1 m 7 = s0 m 7 := (by rw [(zFr_g hF_s1 hm (by decide))])
  have f10 := zf hS0 hm (k := 7) rfl
  have g11 : s1 m 21 = s0 m 21 := (by rw [(zFr_g hF_s1 hm (by decide))])
  have f12 := zf hS0 hm (k := 21) rfl
  have g13 : s1 m 22 = s0 m 22 := (by rw [(zFr_g hF_s1 hm (by decide))])
  have f14 := zf hS0 hm (k := 22) rfl
  have g15 : s1 m 23 = s0 m 23 := (by rw [(zFr_g hF_s1 hm (by decide))])
  have f16 := zf hS0 hm (k := 23) rfl
  have g17 : s1 m 24 = s0 m 24 := (by rw [(zFr_g hF_s1 hm (by decide))])
  have f18 := zf hS0 hm (k := 24) rfl
  have g19 : s1 m 38 = s0 m 38 := (by rw [(zFr_g hF_s1 hm (by decide))])
  have f20 := zf hS0 hm (k := 38) rfl
  have g21 : s1 m 51 = s0 m 51 := (by rw [(zFr_g hF_s1 hm (by decide))])
  have f22 := zf hS0 hm (k := 51) rfl
  have g23 : s1 m 52 = s0 m 52 := (by rw [(zFr_g hF_s1 hm (by decide))])
  have f24 := zf hS0 hm (k := 52) rfl
  refine j_callV hx hG (c_X12_won hst m ((ys (i + 1).toNat))) lk_RL_185 hm (by decide) rfl rfl rfl rfl [.int (zI ((ys (i + 1).toNat)))] ⟨rfl, hG, hS_s1, hm, (by omega)⟩ rfl rfl ⟨by decide, by decide⟩ ⟨(by show k + 1 + 0 ≤ 601024; omega), (by show n + 6 + 0 ≤ 7293034; omega)⟩ (k2 := k + 1) (n2 := n + 6) rfl rfl (Nat.le_of_ble_eq_true rfl) dL_law__928 (kIM (fun v25 s2 hS_s2 hF_s2 q26 => ?_))
  refine j_istore hx [(6, .int (zI v25)), (5, .int (zI v1)), (4, .int (zI i)), (3, .ref o), (2, .ref m), (1, .ref a), (0, .ref b)] dL_law__931 (by decide) rfl ?_
  refine j_goto hx 1713 dL_law__933 rfl ?_
  have f27 := zf hS_s2 hm (k := 24) rfl
  exact j_wid (k2 := k + 8) (n2 := n + 400) (by omega) (by omega) (j_sub [2, 3, 4, 5, 6] [(4, .int (zI i)), (3, .ref o), (2, .ref m), (1, .ref a), (0, .ref b)] rfl (kk G s2 hG hS_s2 (zInv_fr (ts := [12, 13, 71, 120]) hI0 (by omega) hG hm (zFr_t (zFr_t zFr_rf hF_s1 (by decide)) hF_s2 (by decide)) (by decide) (by omega)) ha hm ho))

theorem lk_RL_186 : LkSH RL 186 yL_ends cL_ends 4 (some .int) [(0, 9, 12, 13)] 3 := ⟨km_RL_186, kst_yL_ends, kn_RL, kc_yL_ends, by decide +kernel, by decide +kernel, by decide +kernel⟩
theorem lk_RL_188 : LkV RL 188 RX12 yX12_ends cX12_ends 2 (some .int) 1 := ⟨km_RL_188, ki_yX12_ends, ks_RX12_yX12_ends, kn_RX12, kc_yX12_ends, rfl, by decide +kernel, by decide +kernel, by decide +kernel⟩
set_option maxHeartbeats 4000000 in
set_option maxRecDepth 20000 in
theorem w_22 {X : zX} {E : zE} {G : zG} {s0 : zS} {b a m o L0 k n : Nat} {ys : Nat → Int} {i T : Int} (hL : LX X E b) (hG : zGK G) (hS0 : zSK G s0) (hI : zInv G s0 m T) (hT0 : 0 ≤ T) (hT : T ≤ 519000) (ha : gT G a = 12) (hm : gT G m = 13) (ho : gT G o = 120) (hs : ZS X E b L0 ys) (hy : ∀ j, -2147483648 ≤ ys j ∧ ys j ≤ 2147483647) (hi0 : 0 ≤ i) (hi : i + 6 ≤ L0) (hL0 : L0 ≤ 3072) (hk : k + 8 ≤ 601024) (hn : n + 400 ≤ 7293034) (kk : ∀ G2 s2, zGK G2 → zSK G2 s2 → zInv G2 s2 m (T + 1000) → gT G2 a = 12 → gT G2 m = 13 → gT G2 o = 120 → JJ X E 8 G2 s2 (k + 8) (n + 400) [(4, .int (zI i)), (3, .ref o), (2, .ref m), (1, .ref a), (0, .ref b)] 1713 []) : JJ X E 8 G s0 k n [(4, .int (zI i)), (3, .ref o), (2, .ref m), (1, .ref a), (0, .ref b)] 936 [] := by
  have hx := hL.1
  have hst := hx.2.2.2.2.2.2.2.2.2.2.2
  have hI0 := hI
  obtain ⟨hI1, hI2, hI3, hI4, hI5, hI6, hI7, hI8, hI9, hI10, hI11⟩ := hI
  have hy0 := hy (i).toNat
  have hy1 := hy (i + 1).toNat
  have hy2 := hy (i + 2).toNat
  have hy3 := hy (i + 3).toNat
  have hy4 := hy (i + 4).toNat
  have hy5 := hy (i + 5).toNat
  refine j_aload_n hx 3 dL_law__936 rfl ?_
  refine j_aload_n hx 4 dL_law__937 rfl ?_
  refine j_iload hx 0 dL_law__938 rfl ?_
  refine j_iconst hx dL_law__940 ?_
  refine j_iadd hx (r := i + 1) dL_law__941 rfl ?_
  refine j_sld hx hs (j := (i + 1).toNat) (by omega) (by omega) (by omega) dL_law__942 ?_
  refine j_aload_n hx 1 dL_law__943 rfl ?_
  refine j_callSH hx (c_L_ends hst a ((ys (i + 1).toNat)) o) lk_RL_186 [.ref a, .int (zI ((ys (i + 1).toNat))), .ref o] ⟨rfl, hG, hS0, ha, (by omega), ho⟩ rfl rfl ⟨by decide, by decide⟩ ⟨(by show k + 1 ≤ 601024; omega), (by show n + 6 ≤ 7293034; omega)⟩ (k2 := k + 1) (n2 := n + 6) rfl rfl (Nat.le_of_ble_eq_true rfl) dL_law__944 (kIM2 (fun v1 s1 hS_s1 hF_s1 q2 => ?_))
  refine j_istore hx [(5, .int (zI v1)), (4, .int (zI i)), (3, .ref o), (2, .ref m), (1, .ref a), (0, .ref b)] dL_law__947 (by decide) rfl ?_
  refine j_aload_n hx 3 dL_law__949 rfl ?_
  refine j_aload_n hx 5 dL_law__950 rfl ?_
  refine j_iload hx 1 dL_law__951 rfl ?_
  refine j_iconst hx dL_law__953 ?_
  refine j_iadd hx (r := i + 1) dL_law__954 rfl ?_
  refine j_sld hx hs (j := (i + 1).toNat) (by omega) (by omega) (by omega) dL_law__955 ?_
  have g3 : zc (s1 (gP G m 27)) = zc (s0 (gP G m 27)) := by rw [hF_s1 (gP G m 27) (by rw [(zr (k := 27) (t2 := 84) hG hm rfl)]; decide)]
  have g4 : s1 (gP G m 27) 488 = s0 (gP G m 27) 488 := (by rw [(zFr_g hF_s1 (zr (k := 27) (t2 := 84) hG hm rfl) (by decide))])
  have g5 : s1 m 3 = s0 m 3 := (by rw [(zFr_g hF_s1 hm (by decide))])
  have f6 := zf hS0 hm (k := 3) rfl
  have g7 : s1 m 4 = s0 m 4 := (by rw [(zFr_g hF_s1 hm (by decide))])
  have f8 := zf hS0 hm (k := 4) rfl
  have g9 : s1 m 5 = s0 m 5 := (by rw [(zFr_g hF_s1 hm (by decide))])
  have f10 := zf hS0 hm (k := 5) rfl
  have g11 : s1 m 7 = s0 m 7 := (by rw [(zFr_g hF_s1 hm (by decide))])
  have f12 := zf hS0 hm (k := 7) rfl
  have g13 : s1 m 21 = s0 m 21 := (by rw [(zFr_g hF_s1 hm (by decide))])
  have f14 := zf hS0 hm (k := 21) rfl
  have g15 : s1 m 22 = s0 m 22 := (by rw [(zFr_g hF_s1 hm (by decide))])
  have f16 := zf hS0 hm (k := 22) rfl
  have g17 : s1 m 23 = s0 m 23 := (by rw [(zFr_g hF_s1 hm (by decide))])
  have f18 := zf hS0 hm (k := 23) rfl
  have g19 : s1 m 24 = s0 m 24 := (by rw [(zFr_g hF_s1 hm (by decide))])
  have f20 := zf hS0 hm (k := 24) rfl
  have g21 : s1 m 38 = s0 m 38 := (by rw [(zFr_g hF_s1 hm (by decide))])
  have f22 := zf hS0 hm (k := 38) rfl
  refine j_callV hx hG (c_X12_ends hst m ((ys (i + 1).toNat))) lk_RL_188 hm (by decide) rfl rfl rfl rfl [.int (zI ((ys (i + 1).toNat)))] ⟨rfl, hG, hS_s1, hm, (by omega), ((by have q1 : s1 (gP G m 34) = s0 (gP G m 34) := (by rw [hF_s1 (gP G m 34) (by rw [(zr (k := 34) (t2 := 91) hG hm rfl)]; decide)]); have q2 : s1 (gP G m 35) = s0 (gP G m 35) := (by rw [hF_s1 (gP G m 35) (by rw [(zr (k := 35) (t2 := 92) hG hm rfl)]; decide)]); have q3 : s1 (gP G m 37) = s0 (gP G m 37) := (by rw [hF_s1 (gP G m 37) (by rw [(zr (k := 37) (t2 := 94) hG hm rfl)]; decide)]); rw [q1, q2, q3]; exact hI5)), (by omega), (by omega)⟩ rfl rfl ⟨by decide, by decide⟩ ⟨(by show k + 1 + 0 ≤ 601024; omega), (by show n + 6 + 0 ≤ 7293034; omega)⟩ (k2 := k + 1) (n2 := n + 6) rfl rfl (Nat.le_of_ble_eq_true rfl) dL_law__956 (kIM (fun v23 s2 hS_s2 hF_s2 q24 => ?_))
  refine j_istore hx [(6, .int (zI v23)), (5, .int (zI v1)), (4, .int (zI i)), (3, .ref o), (2, .ref m), (1, .ref a), (0, .ref b)] dL_law__959 (by decide) rfl ?_
  refine j_goto hx 1713 dL_law__961 rfl ?_
  have g25 : zc (s2 (gP G m 28)) = zc (s0 (gP G m 28)) := by rw [hF_s2 (gP G m 28) (by rw [(zr (k := 28) (t2 := 85) hG hm rfl)]; decide), hF_s1 (gP G m 28) (by rw [(zr (k := 28) (t2 := 85) hG hm rfl)]; decide)]
  have g26 : s2 (gP G m 28) 488 = s0 (gP G m 28) 488 := (by rw [(zFr_g hF_s2 (zr (k := 28) (t2 := 85) hG hm rfl) (by decide)), (zFr_g hF_s1 (zr (k := 28) (t2 := 85) hG hm rfl) (by decide))])
  have f27 := zf hS_s2 hm (k := 24) rfl
  have g28 : s2 (gP G m 57) 488 = s0 (gP G m 57) 488 := (by rw [(zFr_g hF_s2 (zr (k := 57) (t2 := 106) hG hm rfl) (by decide)), (zFr_g hF_s1 (zr (k := 57) (t2 := 106) hG hm rfl) (by decide))])
  have g29 : s2 (gP G m 57) 13709 = s0 (gP G m 57) 13709 := (by rw [(zFr_g hF_s2 (zr (k := 57) (t2 := 106) hG hm rfl) (by decide)), (zFr_g hF_s1 (zr (k := 57) (t2 := 106) hG hm rfl) (by decide))])
  have g30 : s2 (gP G m 57) 26930 = s0 (gP G m 57) 26930 := (by rw [(zFr_g hF_s2 (zr (k := 57) (t2 := 106) hG hm rfl) (by decide)), (zFr_g hF_s1 (zr (k := 57) (t2 := 106) hG hm rfl) (by decide))])
  exact j_wid (k2 := k + 8) (n2 := n + 400) (by omega) (by omega) (j_sub [2, 3, 4, 5, 6] [(4, .int (zI i)), (3, .ref o), (2, .ref m), (1, .ref a), (0, .ref b)] rfl (kk G s2 hG hS_s2 ⟨(by omega), (by omega), (by omega), (by omega), (by have q1 : s2 (gP G m 34) = s0 (gP G m 34) := (by rw [hF_s2 (gP G m 34) (by rw [(zr (k := 34) (t2 := 91) hG hm rfl)]; decide), hF_s1 (gP G m 34) (by rw [(zr (k := 34) (t2 := 91) hG hm rfl)]; decide)]); have q2 : s2 (gP G m 35) = s0 (gP G m 35) := (by rw [hF_s2 (gP G m 35) (by rw [(zr (k := 35) (t2 := 92) hG hm rfl)]; decide), hF_s1 (gP G m 35) (by rw [(zr (k := 35) (t2 := 92) hG hm rfl)]; decide)]); have q3 : s2 (gP G m 37) = s0 (gP G m 37) := (by rw [hF_s2 (gP G m 37) (by rw [(zr (k := 37) (t2 := 94) hG hm rfl)]; decide), hF_s1 (gP G m 37) (by rw [(zr (k := 37) (t2 := 94) hG hm rfl)]; decide)]); rw [q1, q2, q3]; exact hI5), (by have q1 : s2 (gP G m 17) = s0 (gP G m 17) := (by rw [hF_s2 (gP G m 17) (by rw [(zr (k := 17) (t2 := 80) hG hm rfl)]; decide), hF_s1 (gP G m 17) (by rw [(zr (k := 17) (t2 := 80) hG hm rfl)]; decide)]); rw [q1]; exact (zQn_nn hI6 (by omega))), (by have q1 : s2 (gP G m 55) = s0 (gP G m 55) := (by rw [hF_s2 (gP G m 55) (by rw [(zr (k := 55) (t2 := 104) hG hm rfl)]; decide), hF_s1 (gP G m 55) (by rw [(zr (k := 55) (t2 := 104) hG hm rfl)]; decide)]); rw [q1]; exact hI7), (by have q1 : s2 (gP G m 57) = s0 (gP G m 57) := (by rw [hF_s2 (gP G m 57) (by rw [(zr (k := 57) (t2 := 106) hG hm rfl)]; decide), hF_s1 (gP G m 57) (by rw [(zr (k := 57) (t2 := 106) hG hm rfl)]; decide)]); rw [q1]; exact hI8), (by omega), (by omega), (by omega)⟩ ha hm ho))

theorem lk_RL_189 : LkV RL 189 RX11 yX11_where cX11_where 2 (some .int) 1 := ⟨km_RL_189, ki_yX11_where, ks_RX11_yX11_where, kn_RX11, kc_yX11_where, rfl, by decide +kernel, by decide +kernel, by decide +kernel⟩
theorem lk_RL_192 : LkV RL 192 RX12 yX12_where cX12_where 5 (some .int) 1 := ⟨km_RL_192, ki_yX12_where, ks_RX12_yX12_where, kn_RX12, kc_yX12_where, rfl, by decide +kernel, by decide +kernel, by decide +kernel⟩
set_option maxHeartbeats 4000000 in
set_option maxRecDepth 20000 in
theorem w_23 {X : zX} {E : zE} {G : zG} {s0 : zS} {b a m o L0 k n : Nat} {ys : Nat → Int} {i T : Int} (hL : LX X E b) (hG : zGK G) (hS0 : zSK G s0) (hI : zInv G s0 m T) (hT0 : 0 ≤ T) (hT : T ≤ 519000) (ha : gT G a = 12) (hm : gT G m = 13) (ho : gT G o = 120) (hs : ZS X E b L0 ys) (hy : ∀ j, -2147483648 ≤ ys j ∧ ys j ≤ 2147483647) (hi0 : 0 ≤ i) (hi : i + 6 ≤ L0) (hL0 : L0 ≤ 3072) (hk : k + 8 ≤ 601024) (hn : n + 400 ≤ 7293034) (kk : ∀ G2 s2, zGK G2 → zSK G2 s2 → zInv G2 s2 m (T + 1000) → gT G2 a = 12 → gT G2 m = 13 → gT G2 o = 120 → JJ X E 8 G2 s2 (k + 8) (n + 400) [(4, .int (zI i)), (3, .ref o), (2, .ref m), (1, .ref a), (0, .ref b)] 1713 []) : JJ X E 8 G s0 k n [(4, .int (zI i)), (3, .ref o), (2, .ref m), (1, .ref a), (0, .ref b)] 964 [] := by
  have hx := hL.1
  have hst := hx.2.2.2.2.2.2.2.2.2.2.2
  have hI0 := hI
  obtain ⟨hI1, hI2, hI3, hI4, hI5, hI6, hI7, hI8, hI9, hI10, hI11⟩ := hI
  have hy0 := hy (i).toNat
  have hy1 := hy (i + 1).toNat
  have hy2 := hy (i + 2).toNat
  have hy3 := hy (i + 3).toNat
  have hy4 := hy (i + 4).toNat
  have hy5 := hy (i + 5).toNat
  refine j_aload_n hx 3 dL_law__964 rfl ?_
  refine j_aload_n hx 4 dL_law__965 rfl ?_
  refine j_iload hx 0 dL_law__966 rfl ?_
  refine j_iconst hx dL_law__968 ?_
  refine j_iadd hx (r := i + 1) dL_law__969 rfl ?_
  refine j_sld hx hs (j := (i + 1).toNat) (by omega) (by omega) (by omega) dL_law__970 ?_
  refine j_callV hx hG (c_X11_where hst a ((ys (i + 1).toNat))) lk_RL_189 ha (by decide) rfl rfl rfl rfl [.int (zI ((ys (i + 1).toNat)))] ⟨rfl, hG, hS0, ha, (by omega)⟩ rfl rfl ⟨by decide, by decide⟩ ⟨(by show k + 0 ≤ 601024; omega), (by show n + 0 ≤ 7293034; omega)⟩ (k2 := k) (n2 := n) rfl rfl (Nat.le_of_ble_eq_true rfl) dL_law__971 (kIM (fun v1 s1 hS_s1 hF_s1 q2 => ?_))
  refine j_pop hx dL_law__974 rfl ?_
  refine j_aload_n hx 2 dL_law__975 rfl ?_
  refine j_aload_n hx 4 dL_law__976 rfl ?_
  refine j_iload hx 0 dL_law__977 rfl ?_
  refine j_iconst hx dL_law__979 ?_
  refine j_iadd hx (r := i + 1) dL_law__980 rfl ?_
  refine j_sld hx hs (j := (i + 1).toNat) (by omega) (by omega) (by omega) dL_law__981 ?_
  have g3 : zc (s1 (gP G m 27)) = zc (s0 (gP G m 27)) := by rw [hF_s1 (gP G m 27) (by rw [(zr (k := 27) (t2 := 84) hG hm rfl)]; decide)]
  have g4 : s1 (gP G m 27) 488 = s0 (gP G m 27) 488 := (by rw [(zFr_g hF_s1 (zr (k := 27) (t2 := 84) hG hm rfl) (by decide))])
  have g5 : s1 m 3 = s0 m 3 := (by rw [(zFr_g hF_s1 hm (by decide))])
  have f6 := zf hS0 hm (k := 3) rfl
  have g7 : s1 m 4 = s0 m 4 := (by rw [(zFr_g hF_s1 hm (by decide))])
  have f8 := zf hS0 hm (k := 4) rfl
  have g9 : s1 m 5 = s0 m 5 := (by rw [(zFr_g hF_s1 hm (by decide))])
  have f10 := zf hS0 hm (k := 5) rfl
  have g11 : s1 m 7 = s0 m 7 := (by rw [(zFr_g hF_s1 hm (by decide))])
  have f12 := zf hS0 hm (k := 7) rfl
  have g13 : s1 m 21 = s0 m 21 := (by rw [(zFr_g hF_s1 hm (by decide))])
  have f14 := zf hS0 hm (k := 21) rfl
  have g15 : s1 m 22 = s0 m 22 := (by rw [(zFr_g hF_s1 hm (by decide))])
  have f16 := zf hS0 hm (k := 22) rfl
  have g17 : s1 m 23 = s0 m 23 := (by rw [(zFr_g hF_s1 hm (by decide))])
  have f18 := zf hS0 hm (k := 23) rfl
  have g19 : s1 m 24 = s0 m 24 := (by rw [(zFr_g hF_s1 hm (by decide))])
  have f20 := zf hS0 hm (k := 24) rfl
  have g21 : s1 m 38 = s0 m 38 := (by rw [(zFr_g hF_s1 hm (by decide))])
  have f22 := zf hS0 hm (k := 38) rfl
  have g23 : s1 m 51 = s0 m 51 := (by rw [(zFr_g hF_s1 hm (by decide))])
  have f24 := zf hS0 hm (k := 51) rfl
  have g25 : s1 m 52 = s0 m 52 := (by rw [(zFr_g hF_s1 hm (by decide))])
  have f26 := zf hS0 hm (k := 52) rfl
  refine j_callV hx hG (c_X12_where hst m ((ys (i + 1).toNat))) lk_RL_192 hm (by decide) rfl rfl rfl rfl [.int (zI ((ys (i + 1).toNat)))] ⟨rfl, hG, hS_s1, hm, (by omega), (by omega), (by omega)⟩ rfl rfl ⟨by decide, by decide⟩ ⟨(by show k + 0 ≤ 601024; omega), (by show n + 0 ≤ 7293034; omega)⟩ (k2 := k) (n2 := n) rfl rfl (Nat.le_of_ble_eq_true rfl) dL_law__982 (kIM (fun v27 s2 hS_s2 hF_s2 q28 => ?_))
  refine j_pop hx dL_law__985 rfl ?_
  refine j_goto hx 1713 dL_law__986 rfl ?_
  have g29 : zc (s2 (gP G m 28)) = zc (s0 (gP G m 28)) := by rw [hF_s2 (gP G m 28) (by rw [(zr (k := 28) (t2 := 85) hG hm rfl)]; decide), hF_s1 (gP G m 28) (by rw [(zr (k := 28) (t2 := 85) hG hm rfl)]; decide)]
  have g30 : s2 (gP G m 28) 488 = s0 (gP G m 28) 488 := (by rw [(zFr_g hF_s2 (zr (k := 28) (t2 := 85) hG hm rfl) (by decide)), (zFr_g hF_s1 (zr (k := 28) (t2 := 85) hG hm rfl) (by decide))])
  have f31 := zf hS_s2 hm (k := 24) rfl
  have g32 : s2 (gP G m 57) 488 = s0 (gP G m 57) 488 := (by rw [(zFr_g hF_s2 (zr (k := 57) (t2 := 106) hG hm rfl) (by decide)), (zFr_g hF_s1 (zr (k := 57) (t2 := 106) hG hm rfl) (by decide))])
  have g33 : s2 (gP G m 57) 13709 = s0 (gP G m 57) 13709 := (by rw [(zFr_g hF_s2 (zr (k := 57) (t2 := 106) hG hm rfl) (by decide)), (zFr_g hF_s1 (zr (k := 57) (t2 := 106) hG hm rfl) (by decide))])
  have g34 : s2 (gP G m 57) 26930 = s0 (gP G m 57) 26930 := (by rw [(zFr_g hF_s2 (zr (k := 57) (t2 := 106) hG hm rfl) (by decide)), (zFr_g hF_s1 (zr (k := 57) (t2 := 106) hG hm rfl) (by decide))])
  exact j_wid (k2 := k + 8) (n2 := n + 400) (by omega) (by omega) (j_sub [0, 1, 2, 3, 4] [(4, .int (zI i)), (3, .ref o), (2, .ref m), (1, .ref a), (0, .ref b)] rfl (kk G s2 hG hS_s2 ⟨(by omega), (by omega), (by omega), (by omega), (by have q1 : s2 (gP G m 34) = s0 (gP G m 34) := (by rw [hF_s2 (gP G m 34) (by rw [(zr (k := 34) (t2 := 91) hG hm rfl)]; decide), hF_s1 (gP G m 34) (by rw [(zr (k := 34) (t2 := 91) hG hm rfl)]; decide)]); have q2 : s2 (gP G m 35) = s0 (gP G m 35) := (by rw [hF_s2 (gP G m 35) (by rw [(zr (k := 35) (t2 := 92) hG hm rfl)]; decide), hF_s1 (gP G m 35) (by rw [(zr (k := 35) (t2 := 92) hG hm rfl)]; decide)]); have q3 : s2 (gP G m 37) = s0 (gP G m 37) := (by rw [hF_s2 (gP G m 37) (by rw [(zr (k := 37) (t2 := 94) hG hm rfl)]; decide), hF_s1 (gP G m 37) (by rw [(zr (k := 37) (t2 := 94) hG hm rfl)]; decide)]); rw [q1, q2, q3]; exact hI5), (by have q1 : s2 (gP G m 17) = s0 (gP G m 17) := (by rw [hF_s2 (gP G m 17) (by rw [(zr (k := 17) (t2 := 80) hG hm rfl)]; decide), hF_s1 (gP G m 17) (by rw [(zr (k := 17) (t2 := 80) hG hm rfl)]; decide)]); rw [q1]; exact (zQn_nn hI6 (by omega))), (by have q1 : s2 (gP G m 55) = s0 (gP G m 55) := (by rw [hF_s2 (gP G m 55) (by rw [(zr (k := 55) (t2 := 104) hG hm rfl)]; decide), hF_s1 (gP G m 55) (by rw [(zr (k := 55) (t2 := 104) hG hm rfl)]; decide)]); rw [q1]; exact hI7), (by have q1 : s2 (gP G m 57) = s0 (gP G m 57) := (by rw [hF_s2 (gP G m 57) (by rw [(zr (k := 57) (t2 := 106) hG hm rfl)]; decide), hF_s1 (gP G m 57) (by rw [(zr (k := 57) (t2 := 106) hG hm rfl)]; decide)]); rw [q1]; exact hI8), (by omega), (by omega), (by omega)⟩ ha hm ho))

theorem lk_RL_193 : LkSH RL 193 yL_chance cL_chance 6 (some .int) [(0, 12, 15, 19), (0, 12, 19, 13)] 5 := ⟨km_RL_193, kst_yL_chance, kn_RL, kc_yL_chance, by decide +kernel, by decide +kernel, by decide +kernel⟩
theorem lk_RL_196 : LkV RL 196 RX12 yX12_chance cX12_chance 9 (some .int) 3 := ⟨km_RL_196, ki_yX12_chance, ks_RX12_yX12_chance, kn_RX12, kc_yX12_chance, rfl, by decide +kernel, by decide +kernel, by decide +kernel⟩
set_option maxHeartbeats 4000000 in
set_option maxRecDepth 20000 in
theorem w_24 {X : zX} {E : zE} {G : zG} {s0 : zS} {b a m o L0 k n : Nat} {ys : Nat → Int} {i T : Int} (hL : LX X E b) (hG : zGK G) (hS0 : zSK G s0) (hI : zInv G s0 m T) (hT0 : 0 ≤ T) (hT : T ≤ 519000) (ha : gT G a = 12) (hm : gT G m = 13) (ho : gT G o = 120) (hs : ZS X E b L0 ys) (hy : ∀ j, -2147483648 ≤ ys j ∧ ys j ≤ 2147483647) (hi0 : 0 ≤ i) (hi : i + 6 ≤ L0) (hL0 : L0 ≤ 3072) (hk : k + 8 ≤ 601024) (hn : n + 400 ≤ 7293034) (kk : ∀ G2 s2, zGK G2 → zSK G2 s2 → zInv G2 s2 m (T + 1000) → gT G2 a = 12 → gT G2 m = 13 → gT G2 o = 120 → JJ X E 8 G2 s2 (k + 8) (n + 400) [(4, .int (zI i)), (3, .ref o), (2, .ref m), (1, .ref a), (0, .ref b)] 1713 []) : JJ X E 8 G s0 k n [(4, .int (zI i)), (3, .ref o), (2, .ref m), (1, .ref a), (0, .ref b)] 989 [] := by
  have hx := hL.1
  have hst := hx.2.2.2.2.2.2.2.2.2.2.2
  have hI0 := hI
  obtain ⟨hI1, hI2, hI3, hI4, hI5, hI6, hI7, hI8, hI9, hI10, hI11⟩ := hI
  have hy0 := hy (i).toNat
  have hy1 := hy (i + 1).toNat
  have hy2 := hy (i + 2).toNat
  have hy3 := hy (i + 3).toNat
  have hy4 := hy (i + 4).toNat
  have hy5 := hy (i + 5).toNat
  refine j_aload_n hx 3 dL_law__989 rfl ?_
  refine j_aload_n hx 4 dL_law__990 rfl ?_
  refine j_iload hx 0 dL_law__991 rfl ?_
  refine j_iconst hx dL_law__993 ?_
  refine j_iadd hx (r := i + 1) dL_law__994 rfl ?_
  refine j_sld hx hs (j := (i + 1).toNat) (by omega) (by omega) (by omega) dL_law__995 ?_
  refine j_aload_n hx 4 dL_law__996 rfl ?_
  refine j_iload hx 0 dL_law__997 rfl ?_
  refine j_iconst hx dL_law__999 ?_
  refine j_iadd hx (r := i + 2) dL_law__1000 rfl ?_
  refine j_sld hx hs (j := (i + 2).toNat) (by omega) (by omega) (by omega) dL_law__1001 ?_
  refine j_aload_n hx 4 dL_law__1002 rfl ?_
  refine j_iload hx 0 dL_law__1003 rfl ?_
  refine j_iconst hx dL_law__1005 ?_
  refine j_iadd hx (r := i + 3) dL_law__1006 rfl ?_
  refine j_sld hx hs (j := (i + 3).toNat) (by omega) (by omega) (by omega) dL_law__1007 ?_
  refine j_aload_n hx 1 dL_law__1008 rfl ?_
  refine j_callSH hx (c_L_chance hst a ((ys (i + 1).toNat)) ((ys (i + 2).toNat)) ((ys (i + 3).toNat)) o) lk_RL_193 [.ref a, .int (zI ((ys (i + 1).toNat))), .int (zI ((ys (i + 2).toNat))), .int (zI ((ys (i + 3).toNat))), .ref o] ⟨rfl, hG, hS0, ha, (by omega), (by omega), (by omega), ho⟩ rfl rfl ⟨by decide, by decide⟩ ⟨(by show k + 3 ≤ 601024; omega), (by show n + 18 ≤ 7293034; omega)⟩ (k2 := k + 3) (n2 := n + 18) rfl rfl (Nat.le_of_ble_eq_true rfl) dL_law__1009 (kIM2 (fun v1 s1 hS_s1 hF_s1 q2 => ?_))
  refine j_istore hx [(5, .int (zI v1)), (4, .int (zI i)), (3, .ref o), (2, .ref m), (1, .ref a), (0, .ref b)] dL_law__1012 (by decide) rfl ?_
  refine j_aload_n hx 3 dL_law__1014 rfl ?_
  refine j_aload_n hx 5 dL_law__1015 rfl ?_
  refine j_iload hx 1 dL_law__1016 rfl ?_
  refine j_iconst hx dL_law__1018 ?_
  refine j_iadd hx (r := i + 1) dL_law__1019 rfl ?_
  refine j_sld hx hs (j := (i + 1).toNat) (by omega) (by omega) (by omega) dL_law__1020 ?_
  refine j_aload_n hx 5 dL_law__1021 rfl ?_
  refine j_iload hx 1 dL_law__1022 rfl ?_
  refine j_iconst hx dL_law__1024 ?_
  refine j_iadd hx (r := i + 2) dL_law__1025 rfl ?_
  refine j_sld hx hs (j := (i + 2).toNat) (by omega) (by omega) (by omega) dL_law__1026 ?_
  refine j_aload_n hx 5 dL_law__1027 rfl ?_
  refine j_iload hx 1 dL_law__1028 rfl ?_
  refine j_iconst hx dL_law__1030 ?_
  refine j_iadd hx (r := i + 3) dL_law__1031 rfl ?_
  refine j_sld hx hs (j := (i + 3).toNat) (by omega) (by omega) (by omega) dL_law__1032 ?_
  have g3 : s1 m 3 = s0 m 3 := (by rw [(zFr_g hF_s1 hm (by decide))])
  have f4 := zf hS0 hm (k := 3) rfl
  have g5 : s1 m 4 = s0 m 4 := (by rw [(zFr_g hF_s1 hm (by decide))])
  have f6 := zf hS0 hm (k := 4) rfl
  have g7 : s1 m 5 = s0 m 5 := (by rw [(zFr_g hF_s1 hm (by decide))])
  have f8 := zf hS0 hm (k := 5) rfl
  have g9 : s1 m 7 = s0 m 7 := (by rw [(zFr_g hF_s1 hm (by decide))])
  have f10 := zf hS0 hm (k := 7) rfl
  have g11 : s1 m 21 = s0 m 21 := (by rw [(zFr_g hF_s1 hm (by decide))])
  have f12 := zf hS0 hm (k := 21) rfl
  have g13 : s1 m 22 = s0 m 22 := (by rw [(zFr_g hF_s1 hm (by decide))])
  have f14 := zf hS0 hm (k := 22) rfl
  have g15 : s1 m 23 = s0 m 23 := (by rw [(zFr_g hF_s1 hm (by decide))])
  have f16 := zf hS0 hm (k := 23) rfl
  have g17 : s1 m 24 = s0 m 24 := (by rw [(zFr_g hF_s1 hm (by decide))])
  have f18 := zf hS0 hm (k := 24) rfl
  have g19 : s1 m 38 = s0 m 38 := (by rw [(zFr_g hF_s1 hm (by decide))])
  have f20 := zf hS0 hm (k := 38) rfl
  have g21 : s1 m 51 = s0 m 51 := (by rw [(zFr_g hF_s1 hm (by decide))])
  have f22 := zf hS0 hm (k := 51) rfl
  have g23 : s1 m 52 = s0 m 52 := (by rw [(zFr_g hF_s1 hm (by decide))])
  have f24 := zf hS0 hm (k := 52) rfl
  refine j_callV hx hG (c_X12_chance hst m ((ys (i + 1).toNat)) ((ys (i + 2).toNat)) ((ys (i + 3).toNat))) lk_RL_196 hm (by decide) rfl rfl rfl rfl [.int (zI ((ys (i + 1).toNat))), .int (zI ((ys (i + 2).toNat))), .int (zI ((ys (i + 3).toNat)))] ⟨rfl, hG, hS_s1, hm, (by omega), (by omega), (by omega)⟩ rfl rfl ⟨by decide, by decide⟩ ⟨(by show k + 3 + 0 ≤ 601024; omega), (by show n + 18 + 0 ≤ 7293034; omega)⟩ (k2 := k + 3) (n2 := n + 18) rfl rfl (Nat.le_of_ble_eq_true rfl) dL_law__1033 (kIM (fun v25 s2 hS_s2 hF_s2 q26 => ?_))
  refine j_istore hx [(6, .int (zI v25)), (5, .int (zI v1)), (4, .int (zI i)), (3, .ref o), (2, .ref m), (1, .ref a), (0, .ref b)] dL_law__1036 (by decide) rfl ?_
  refine j_goto hx 1713 dL_law__1038 rfl ?_
  have f27 := zf hS_s2 hm (k := 24) rfl
  exact j_wid (k2 := k + 8) (n2 := n + 400) (by omega) (by omega) (j_sub [2, 3, 4, 5, 6] [(4, .int (zI i)), (3, .ref o), (2, .ref m), (1, .ref a), (0, .ref b)] rfl (kk G s2 hG hS_s2 (zInv_fr (ts := [12, 13, 71, 120]) hI0 (by omega) hG hm (zFr_t (zFr_t zFr_rf hF_s1 (by decide)) hF_s2 (by decide)) (by decide) (by omega)) ha hm ho))

theorem lk_RL_197 : LkSH RL 197 yL_waits cL_waits 7 (some .int) [(0, 14, 17, 13)] 6 := ⟨km_RL_197, kst_yL_waits, kn_RL, kc_yL_waits, by decide +kernel, by decide +kernel, by decide +kernel⟩
theorem lk_RL_200 : LkV RL 200 RX12 yX12_waits cX12_waits 6 (some .int) 4 := ⟨km_RL_200, ki_yX12_waits, ks_RX12_yX12_waits, kn_RX12, kc_yX12_waits, rfl, by decide +kernel, by decide +kernel, by decide +kernel⟩
set_option maxHeartbeats 4000000 in
set_option maxRecDepth 20000 in
theorem w_25 {X : zX} {E : zE} {G : zG} {s0 : zS} {b a m o L0 k n : Nat} {ys : Nat → Int} {i T : Int} (hL : LX X E b) (hG : zGK G) (hS0 : zSK G s0) (hI : zInv G s0 m T) (hT0 : 0 ≤ T) (hT : T ≤ 519000) (ha : gT G a = 12) (hm : gT G m = 13) (ho : gT G o = 120) (hs : ZS X E b L0 ys) (hy : ∀ j, -2147483648 ≤ ys j ∧ ys j ≤ 2147483647) (hi0 : 0 ≤ i) (hi : i + 6 ≤ L0) (hL0 : L0 ≤ 3072) (hk : k + 8 ≤ 601024) (hn : n + 400 ≤ 7293034) (kk : ∀ G2 s2, zGK G2 → zSK G2 s2 → zInv G2 s2 m (T + 1000) → gT G2 a = 12 → gT G2 m = 13 → gT G2 o = 120 → JJ X E 8 G2 s2 (k + 8) (n + 400) [(4, .int (zI i)), (3, .ref o), (2, .ref m), (1, .ref a), (0, .ref b)] 1713 []) : JJ X E 8 G s0 k n [(4, .int (zI i)), (3, .ref o), (2, .ref m), (1, .ref a), (0, .ref b)] 1041 [] := by
  have hx := hL.1
  have hst := hx.2.2.2.2.2.2.2.2.2.2.2
  have hI0 := hI
  obtain ⟨hI1, hI2, hI3, hI4, hI5, hI6, hI7, hI8, hI9, hI10, hI11⟩ := hI
  have hy0 := hy (i).toNat
  have hy1 := hy (i + 1).toNat
  have hy2 := hy (i + 2).toNat
  have hy3 := hy (i + 3).toNat
  have hy4 := hy (i + 4).toNat
  have hy5 := hy (i + 5).toNat
  refine j_aload_n hx 3 dL_law__1041 rfl ?_
  refine j_aload_n hx 4 dL_law__1042 rfl ?_
  refine j_iload hx 0 dL_law__1043 rfl ?_
  refine j_iconst hx dL_law__1045 ?_
  refine j_iadd hx (r := i + 1) dL_law__1046 rfl ?_
  refine j_sld hx hs (j := (i + 1).toNat) (by omega) (by omega) (by omega) dL_law__1047 ?_
  refine j_aload_n hx 4 dL_law__1048 rfl ?_
  refine j_iload hx 0 dL_law__1049 rfl ?_
  refine j_iconst hx dL_law__1051 ?_
  refine j_iadd hx (r := i + 2) dL_law__1052 rfl ?_
  refine j_sld hx hs (j := (i + 2).toNat) (by omega) (by omega) (by omega) dL_law__1053 ?_
  refine j_aload_n hx 4 dL_law__1054 rfl ?_
  refine j_iload hx 0 dL_law__1055 rfl ?_
  refine j_iconst hx dL_law__1057 ?_
  refine j_iadd hx (r := i + 3) dL_law__1058 rfl ?_
  refine j_sld hx hs (j := (i + 3).toNat) (by omega) (by omega) (by omega) dL_law__1059 ?_
  refine j_aload_n hx 4 dL_law__1060 rfl ?_
  refine j_iload hx 0 dL_law__1061 rfl ?_
  refine j_iconst hx dL_law__1063 ?_
  refine j_iadd hx (r := i + 4) dL_law__1064 rfl ?_
  refine j_sld hx hs (j := (i + 4).toNat) (by omega) (by omega) (by omega) dL_law__1065 ?_
  refine j_aload_n hx 1 dL_law__1066 rfl ?_
  refine j_callSH hx (c_L_waits hst a ((ys (i + 1).toNat)) ((ys (i + 2).toNat)) ((ys (i + 3).toNat)) ((ys (i + 4).toNat)) o) lk_RL_197 [.ref a, .int (zI ((ys (i + 1).toNat))), .int (zI ((ys (i + 2).toNat))), .int (zI ((ys (i + 3).toNat))), .int (zI ((ys (i + 4).toNat))), .ref o] ⟨rfl, hG, hS0, ha, (by omega), (by omega), (by omega), (by omega), ho⟩ rfl rfl ⟨by decide, by decide⟩ ⟨(by show k + 4 ≤ 601024; omega), (by show n + 24 ≤ 7293034; omega)⟩ (k2 := k + 4) (n2 := n + 24) rfl rfl (Nat.le_of_ble_eq_true rfl) dL_law__1067 (kIM2 (fun v1 s1 hS_s1 hF_s1 q2 => ?_))
  refine j_istore hx [(5, .int (zI v1)), (4, .int (zI i)), (3, .ref o), (2, .ref m), (1, .ref a), (0, .ref b)] dL_law__1070 (by decide) rfl ?_
  refine j_aload_n hx 3 dL_law__1072 rfl ?_
  refine j_aload_n hx 5 dL_law__1073 rfl ?_
  refine j_iload hx 1 dL_law__1074 rfl ?_
  refine j_iconst hx dL_law__1076 ?_
  refine j_iadd hx (r := i + 1) dL_law__1077 rfl ?_
  refine j_sld hx hs (j := (i + 1).toNat) (by omega) (by omega) (by omega) dL_law__1078 ?_
  refine j_aload_n hx 5 dL_law__1079 rfl ?_
  refine j_iload hx 1 dL_law__1080 rfl ?_
  refine j_iconst hx dL_law__1082 ?_
  refine j_iadd hx (r := i + 2) dL_law__1083 rfl ?_
  refine j_sld hx hs (j := (i + 2).toNat) (by omega) (by omega) (by omega) dL_law__1084 ?_
  refine j_aload_n hx 5 dL_law__1085 rfl ?_
  refine j_iload hx 1 dL_law__1086 rfl ?_
  refine j_iconst hx dL_law__1088 ?_
  refine j_iadd hx (r := i + 3) dL_law__1089 rfl ?_
  refine j_sld hx hs (j := (i + 3).toNat) (by omega) (by omega) (by omega) dL_law__1090 ?_
  refine j_aload_n hx 5 dL_law__1091 rfl ?_
  refine j_iload hx 1 dL_law__1092 rfl ?_
  refine j_iconst hx dL_law__1094 ?_
  refine j_iadd hx (r := i + 4) dL_law__1095 rfl ?_
  refine j_sld hx hs (j := (i + 4).toNat) (by omega) (by omega) (by omega) dL_law__1096 ?_
  have g3 : s1 m 3 = s0 m 3 := (by rw [(zFr_g hF_s1 hm (by decide))])
  have f4 := zf hS0 hm (k := 3) rfl
  have g5 : s1 m 4 = s0 m 4 := (by rw [(zFr_g hF_s1 hm (by decide))])
  have f6 := zf hS0 hm (k := 4) rfl
  have g7 : s1 m 5 = s0 m 5 := (by rw [(zFr_g hF_s1 hm (by decide))])
  have f8 := zf hS0 hm (k := 5) rfl
  have g9 : s1 m 7 = s0 m 7 := (by rw [(zFr_g hF_s1 hm (by decide))])
  have f10 := zf hS0 hm (k := 7) rfl
  have g11 : s1 m 21 = s0 m 21 := (by rw [(zFr_g hF_s1 hm (by decide))])
  have f12 := zf hS0 hm (k := 21) rfl
  have g13 : s1 m 22 = s0 m 22 := (by rw [(zFr_g hF_s1 hm (by decide))])
  have f14 := zf hS0 hm (k := 22) rfl
  have g15 : s1 m 23 = s0 m 23 := (by rw [(zFr_g hF_s1 hm (by decide))])
  have f16 := zf hS0 hm (k := 23) rfl
  have g17 : s1 m 24 = s0 m 24 := (by rw [(zFr_g hF_s1 hm (by decide))])
  have f18 := zf hS0 hm (k := 24) rfl
  have g19 : s1 m 38 = s0 m 38 := (by rw [(zFr_g hF_s1 hm (by decide))])
  have f20 := zf hS0 hm (k := 38) rfl
  have g21 : s1 m 51 = s0 m 51 := (by rw [(zFr_g hF_s1 hm (by decide))])
  have f22 := zf hS0 hm (k := 51) rfl
  have g23 : s1 m 52 = s0 m 52 := (by rw [(zFr_g hF_s1 hm (by decide))])
  have f24 := zf hS0 hm (k := 52) rfl
  refine j_callV hx hG (c_X12_waits hst m ((ys (i + 1).toNat)) ((ys (i + 2).toNat)) ((ys (i + 3).toNat)) ((ys (i + 4).toNat))) lk_RL_200 hm (by decide) rfl rfl rfl rfl [.int (zI ((ys (i + 1).toNat))), .int (zI ((ys (i + 2).toNat))), .int (zI ((ys (i + 3).toNat))), .int (zI ((ys (i + 4).toNat)))] ⟨rfl, hG, hS_s1, hm, (by omega), (by omega), (by omega), (by omega)⟩ rfl rfl ⟨by decide, by decide⟩ ⟨(by show k + 4 + 0 ≤ 601024; omega), (by show n + 24 + 0 ≤ 7293034; omega)⟩ (k2 := k + 4) (n2 := n + 24) rfl rfl (Nat.le_of_ble_eq_true rfl) dL_law__1097 (kIM (fun v25 s2 hS_s2 hF_s2 q26 => ?_))
  refine j_istore hx [(6, .int (zI v25)), (5, .int (zI v1)), (4, .int (zI i)), (3, .ref o), (2, .ref m), (1, .ref a), (0, .ref b)] dL_law__1100 (by decide) rfl ?_
  refine j_goto hx 1713 dL_law__1102 rfl ?_
  have f27 := zf hS_s2 hm (k := 24) rfl
  exact j_wid (k2 := k + 8) (n2 := n + 400) (by omega) (by omega) (j_sub [2, 3, 4, 5, 6] [(4, .int (zI i)), (3, .ref o), (2, .ref m), (1, .ref a), (0, .ref b)] rfl (kk G s2 hG hS_s2 (zInv_fr (ts := [12, 13, 71, 120]) hI0 (by omega) hG hm (zFr_t (zFr_t zFr_rf hF_s1 (by decide)) hF_s2 (by decide)) (by decide) (by omega)) ha hm ho))

theorem lk_RL_201 : LkSH RL 201 yL_ahead cL_ahead 7 (some .int) [(0, 14, 17, 13)] 6 := ⟨km_RL_201, kst_yL_ahead, kn_RL, kc_yL_ahead, by decide +kernel, by decide +kernel, by decide +kernel⟩
theorem lk_RL_203 : LkV RL 203 RX12 yX12_ahead cX12_ahead 5 (some .int) 4 := ⟨km_RL_203, ki_yX12_ahead, ks_RX12_yX12_ahead, kn_RX12, kc_yX12_ahead, rfl, by decide +kernel, by decide +kernel, by decide +kernel⟩
set_option maxHeartbeats 4000000 in
set_option maxRecDepth 20000 in
theorem w_26 {X : zX} {E : zE} {G : zG} {s0 : zS} {b a m o L0 k n : Nat} {ys : Nat → Int} {i T : Int} (hL : LX X E b) (hG : zGK G) (hS0 : zSK G s0) (hI : zInv G s0 m T) (hT0 : 0 ≤ T) (hT : T ≤ 519000) (ha : gT G a = 12) (hm : gT G m = 13) (ho : gT G o = 120) (hs : ZS X E b L0 ys) (hy : ∀ j, -2147483648 ≤ ys j ∧ ys j ≤ 2147483647) (hi0 : 0 ≤ i) (hi : i + 6 ≤ L0) (hL0 : L0 ≤ 3072) (hk : k + 8 ≤ 601024) (hn : n + 400 ≤ 7293034) (kk : ∀ G2 s2, zGK G2 → zSK G2 s2 → zInv G2 s2 m (T + 1000) → gT G2 a = 12 → gT G2 m = 13 → gT G2 o = 120 → JJ X E 8 G2 s2 (k + 8) (n + 400) [(4, .int (zI i)), (3, .ref o), (2, .ref m), (1, .ref a), (0, .ref b)] 1713 []) : JJ X E 8 G s0 k n [(4, .int (zI i)), (3, .ref o), (2, .ref m), (1, .ref a), (0, .ref b)] 1105 [] := by
  have hx := hL.1
  have hst := hx.2.2.2.2.2.2.2.2.2.2.2
  have hI0 := hI
  obtain ⟨hI1, hI2, hI3, hI4, hI5, hI6, hI7, hI8, hI9, hI10, hI11⟩ := hI
  have hy0 := hy (i).toNat
  have hy1 := hy (i + 1).toNat
  have hy2 := hy (i + 2).toNat
  have hy3 := hy (i + 3).toNat
  have hy4 := hy (i + 4).toNat
  have hy5 := hy (i + 5).toNat
  refine j_aload_n hx 3 dL_law__1105 rfl ?_
  refine j_aload_n hx 4 dL_law__1106 rfl ?_
  refine j_iload hx 0 dL_law__1107 rfl ?_
  refine j_iconst hx dL_law__1109 ?_
  refine j_iadd hx (r := i + 1) dL_law__1110 rfl ?_
  refine j_sld hx hs (j := (i + 1).toNat) (by omega) (by omega) (by omega) dL_law__1111 ?_
  refine j_aload_n hx 4 dL_law__1112 rfl ?_
  refine j_iload hx 0 dL_law__1113 rfl ?_
  refine j_iconst hx dL_law__1115 ?_
  refine j_iadd hx (r := i + 2) dL_law__1116 rfl ?_
  refine j_sld hx hs (j := (i + 2).toNat) (by omega) (by omega) (by omega) dL_law__1117 ?_
  refine j_aload_n hx 4 dL_law__1118 rfl ?_
  refine j_iload hx 0 dL_law__1119 rfl ?_
  refine j_iconst hx dL_law__1121 ?_
  refine j_iadd hx (r := i + 3) dL_law__1122 rfl ?_
  refine j_sld hx hs (j := (i + 3).toNat) (by omega) (by omega) (by omega) dL_law__1123 ?_
  refine j_aload_n hx 4 dL_law__1124 rfl ?_
  refine j_iload hx 0 dL_law__1125 rfl ?_
  refine j_iconst hx dL_law__1127 ?_
  refine j_iadd hx (r := i + 4) dL_law__1128 rfl ?_
  refine j_sld hx hs (j := (i + 4).toNat) (by omega) (by omega) (by omega) dL_law__1129 ?_
  refine j_aload_n hx 1 dL_law__1130 rfl ?_
  refine j_callSH hx (c_L_ahead hst a ((ys (i + 1).toNat)) ((ys (i + 2).toNat)) ((ys (i + 3).toNat)) ((ys (i + 4).toNat)) o) lk_RL_201 [.ref a, .int (zI ((ys (i + 1).toNat))), .int (zI ((ys (i + 2).toNat))), .int (zI ((ys (i + 3).toNat))), .int (zI ((ys (i + 4).toNat))), .ref o] ⟨rfl, hG, hS0, ha, (by omega), (by omega), (by omega), (by omega), ho⟩ rfl rfl ⟨by decide, by decide⟩ ⟨(by show k + 4 ≤ 601024; omega), (by show n + 24 ≤ 7293034; omega)⟩ (k2 := k + 4) (n2 := n + 24) rfl rfl (Nat.le_of_ble_eq_true rfl) dL_law__1131 (kIM2 (fun v1 s1 hS_s1 hF_s1 q2 => ?_))
  refine j_istore hx [(5, .int (zI v1)), (4, .int (zI i)), (3, .ref o), (2, .ref m), (1, .ref a), (0, .ref b)] dL_law__1134 (by decide) rfl ?_
  refine j_aload_n hx 3 dL_law__1136 rfl ?_
  refine j_aload_n hx 5 dL_law__1137 rfl ?_
  refine j_iload hx 1 dL_law__1138 rfl ?_
  refine j_iconst hx dL_law__1140 ?_
  refine j_iadd hx (r := i + 1) dL_law__1141 rfl ?_
  refine j_sld hx hs (j := (i + 1).toNat) (by omega) (by omega) (by omega) dL_law__1142 ?_
  refine j_aload_n hx 5 dL_law__1143 rfl ?_
  refine j_iload hx 1 dL_law__1144 rfl ?_
  refine j_iconst hx dL_law__1146 ?_
  refine j_iadd hx (r := i + 2) dL_law__1147 rfl ?_
  refine j_sld hx hs (j := (i + 2).toNat) (by omega) (by omega) (by omega) dL_law__1148 ?_
  refine j_aload_n hx 5 dL_law__1149 rfl ?_
  refine j_iload hx 1 dL_law__1150 rfl ?_
  refine j_iconst hx dL_law__1152 ?_
  refine j_iadd hx (r := i + 3) dL_law__1153 rfl ?_
  refine j_sld hx hs (j := (i + 3).toNat) (by omega) (by omega) (by omega) dL_law__1154 ?_
  refine j_aload_n hx 5 dL_law__1155 rfl ?_
  refine j_iload hx 1 dL_law__1156 rfl ?_
  refine j_iconst hx dL_law__1158 ?_
  refine j_iadd hx (r := i + 4) dL_law__1159 rfl ?_
  refine j_sld hx hs (j := (i + 4).toNat) (by omega) (by omega) (by omega) dL_law__1160 ?_
  have g3 : s1 m 3 = s0 m 3 := (by rw [(zFr_g hF_s1 hm (by decide))])
  have f4 := zf hS0 hm (k := 3) rfl
  have g5 : s1 m 4 = s0 m 4 := (by rw [(zFr_g hF_s1 hm (by decide))])
  have f6 := zf hS0 hm (k := 4) rfl
  have g7 : s1 m 5 = s0 m 5 := (by rw [(zFr_g hF_s1 hm (by decide))])
  have f8 := zf hS0 hm (k := 5) rfl
  have g9 : s1 m 7 = s0 m 7 := (by rw [(zFr_g hF_s1 hm (by decide))])
  have f10 := zf hS0 hm (k := 7) rfl
  have g11 : s1 m 21 = s0 m 21 := (by rw [(zFr_g hF_s1 hm (by decide))])
  have f12 := zf hS0 hm (k := 21) rfl
  have g13 : s1 m 22 = s0 m 22 := (by rw [(zFr_g hF_s1 hm (by decide))])
  have f14 := zf hS0 hm (k := 22) rfl
  have g15 : s1 m 23 = s0 m 23 := (by rw [(zFr_g hF_s1 hm (by decide))])
  have f16 := zf hS0 hm (k := 23) rfl
  have g17 : s1 m 24 = s0 m 24 := (by rw [(zFr_g hF_s1 hm (by decide))])
  have f18 := zf hS0 hm (k := 24) rfl
  have g19 : s1 m 38 = s0 m 38 := (by rw [(zFr_g hF_s1 hm (by decide))])
  have f20 := zf hS0 hm (k := 38) rfl
  have g21 : s1 m 51 = s0 m 51 := (by rw [(zFr_g hF_s1 hm (by decide))])
  have f22 := zf hS0 hm (k := 51) rfl
  have g23 : s1 m 52 = s0 m 52 := (by rw [(zFr_g hF_s1 hm (by decide))])
  have f24 := zf hS0 hm (k := 52) rfl
  refine j_callV hx hG (c_X12_ahead hst m ((ys (i + 1).toNat)) ((ys (i + 2).toNat)) ((ys (i + 3).toNat)) ((ys (i + 4).toNat))) lk_RL_203 hm (by decide) rfl rfl rfl rfl [.int (zI ((ys (i + 1).toNat))), .int (zI ((ys (i + 2).toNat))), .int (zI ((ys (i + 3).toNat))), .int (zI ((ys (i + 4).toNat)))] ⟨rfl, hG, hS_s1, hm, (by omega), (by omega), (by omega), (by omega)⟩ rfl rfl ⟨by decide, by decide⟩ ⟨(by show k + 4 + 0 ≤ 601024; omega), (by show n + 24 + 0 ≤ 7293034; omega)⟩ (k2 := k + 4) (n2 := n + 24) rfl rfl (Nat.le_of_ble_eq_true rfl) dL_law__1161 (kIM (fun v25 s2 hS_s2 hF_s2 q26 => ?_))
  refine j_istore hx [(6, .int (zI v25)), (5, .int (zI v1)), (4, .int (zI i)), (3, .ref o), (2, .ref m), (1, .ref a), (0, .ref b)] dL_law__1164 (by decide) rfl ?_
  refine j_goto hx 1713 dL_law__1166 rfl ?_
  have f27 := zf hS_s2 hm (k := 24) rfl
  exact j_wid (k2 := k + 8) (n2 := n + 400) (by omega) (by omega) (j_sub [2, 3, 4, 5, 6] [(4, .int (zI i)), (3, .ref o), (2, .ref m), (1, .ref a), (0, .ref b)] rfl (kk G s2 hG hS_s2 (zInv_fr (ts := [12, 13, 71, 120]) hI0 (by omega) hG hm (zFr_t (zFr_t zFr_rf hF_s1 (by decide)) hF_s2 (by decide)) (by decide) (by omega)) ha hm ho))

theorem lk_RL_204 : LkSH RL 204 yL_moments cL_moments 6 (some .int) [(0, 12, 15, 13)] 5 := ⟨km_RL_204, kst_yL_moments, kn_RL, kc_yL_moments, by decide +kernel, by decide +kernel, by decide +kernel⟩
theorem lk_RL_206 : LkV RL 206 RX12 yX12_moments cX12_moments 4 (some .int) 3 := ⟨km_RL_206, ki_yX12_moments, ks_RX12_yX12_moments, kn_RX12, kc_yX12_moments, rfl, by decide +kernel, by decide +kernel, by decide +kernel⟩
set_option maxHeartbeats 4000000 in
set_option maxRecDepth 20000 in
theorem w_27 {X : zX} {E : zE} {G : zG} {s0 : zS} {b a m o L0 k n : Nat} {ys : Nat → Int} {i T : Int} (hL : LX X E b) (hG : zGK G) (hS0 : zSK G s0) (hI : zInv G s0 m T) (hT0 : 0 ≤ T) (hT : T ≤ 519000) (ha : gT G a = 12) (hm : gT G m = 13) (ho : gT G o = 120) (hs : ZS X E b L0 ys) (hy : ∀ j, -2147483648 ≤ ys j ∧ ys j ≤ 2147483647) (hi0 : 0 ≤ i) (hi : i + 6 ≤ L0) (hL0 : L0 ≤ 3072) (hk : k + 8 ≤ 601024) (hn : n + 400 ≤ 7293034) (kk : ∀ G2 s2, zGK G2 → zSK G2 s2 → zInv G2 s2 m (T + 1000) → gT G2 a = 12 → gT G2 m = 13 → gT G2 o = 120 → JJ X E 8 G2 s2 (k + 8) (n + 400) [(4, .int (zI i)), (3, .ref o), (2, .ref m), (1, .ref a), (0, .ref b)] 1713 []) : JJ X E 8 G s0 k n [(4, .int (zI i)), (3, .ref o), (2, .ref m), (1, .ref a), (0, .ref b)] 1169 [] := by
  have hx := hL.1
  have hst := hx.2.2.2.2.2.2.2.2.2.2.2
  have hI0 := hI
  obtain ⟨hI1, hI2, hI3, hI4, hI5, hI6, hI7, hI8, hI9, hI10, hI11⟩ := hI
  have hy0 := hy (i).toNat
  have hy1 := hy (i + 1).toNat
  have hy2 := hy (i + 2).toNat
  have hy3 := hy (i + 3).toNat
  have hy4 := hy (i + 4).toNat
  have hy5 := hy (i + 5).toNat
  refine j_aload_n hx 3 dL_law__1169 rfl ?_
  refine j_aload_n hx 4 dL_law__1170 rfl ?_
  refine j_iload hx 0 dL_law__1171 rfl ?_
  refine j_iconst hx dL_law__1173 ?_
  refine j_iadd hx (r := i + 1) dL_law__1174 rfl ?_
  refine j_sld hx hs (j := (i + 1).toNat) (by omega) (by omega) (by omega) dL_law__1175 ?_
  refine j_aload_n hx 4 dL_law__1176 rfl ?_
  refine j_iload hx 0 dL_law__1177 rfl ?_
  refine j_iconst hx dL_law__1179 ?_
  refine j_iadd hx (r := i + 2) dL_law__1180 rfl ?_
  refine j_sld hx hs (j := (i + 2).toNat) (by omega) (by omega) (by omega) dL_law__1181 ?_
  refine j_aload_n hx 4 dL_law__1182 rfl ?_
  refine j_iload hx 0 dL_law__1183 rfl ?_
  refine j_iconst hx dL_law__1185 ?_
  refine j_iadd hx (r := i + 3) dL_law__1186 rfl ?_
  refine j_sld hx hs (j := (i + 3).toNat) (by omega) (by omega) (by omega) dL_law__1187 ?_
  refine j_aload_n hx 1 dL_law__1188 rfl ?_
  refine j_callSH hx (c_L_moments hst a ((ys (i + 1).toNat)) ((ys (i + 2).toNat)) ((ys (i + 3).toNat)) o) lk_RL_204 [.ref a, .int (zI ((ys (i + 1).toNat))), .int (zI ((ys (i + 2).toNat))), .int (zI ((ys (i + 3).toNat))), .ref o] ⟨rfl, hG, hS0, ha, (by omega), (by omega), (by omega), ho⟩ rfl rfl ⟨by decide, by decide⟩ ⟨(by show k + 3 ≤ 601024; omega), (by show n + 18 ≤ 7293034; omega)⟩ (k2 := k + 3) (n2 := n + 18) rfl rfl (Nat.le_of_ble_eq_true rfl) dL_law__1189 (kIM2 (fun v1 s1 hS_s1 hF_s1 q2 => ?_))
  refine j_istore hx [(5, .int (zI v1)), (4, .int (zI i)), (3, .ref o), (2, .ref m), (1, .ref a), (0, .ref b)] dL_law__1192 (by decide) rfl ?_
  refine j_aload_n hx 3 dL_law__1194 rfl ?_
  refine j_aload_n hx 5 dL_law__1195 rfl ?_
  refine j_iload hx 1 dL_law__1196 rfl ?_
  refine j_iconst hx dL_law__1198 ?_
  refine j_iadd hx (r := i + 1) dL_law__1199 rfl ?_
  refine j_sld hx hs (j := (i + 1).toNat) (by omega) (by omega) (by omega) dL_law__1200 ?_
  refine j_aload_n hx 5 dL_law__1201 rfl ?_
  refine j_iload hx 1 dL_law__1202 rfl ?_
  refine j_iconst hx dL_law__1204 ?_
  refine j_iadd hx (r := i + 2) dL_law__1205 rfl ?_
  refine j_sld hx hs (j := (i + 2).toNat) (by omega) (by omega) (by omega) dL_law__1206 ?_
  refine j_aload_n hx 5 dL_law__1207 rfl ?_
  refine j_iload hx 1 dL_law__1208 rfl ?_
  refine j_iconst hx dL_law__1210 ?_
  refine j_iadd hx (r := i + 3) dL_law__1211 rfl ?_
  refine j_sld hx hs (j := (i + 3).toNat) (by omega) (by omega) (by omega) dL_law__1212 ?_
  have g3 : s1 m 3 = s0 m 3 := (by rw [(zFr_g hF_s1 hm (by decide))])
  have f4 := zf hS0 hm (k := 3) rfl
  have g5 : s1 m 4 = s0 m 4 := (by rw [(zFr_g hF_s1 hm (by decide))])
  have f6 := zf hS0 hm (k := 4) rfl
  have g7 : s1 m 5 = s0 m 5 := (by rw [(zFr_g hF_s1 hm (by decide))])
  have f8 := zf hS0 hm (k := 5) rfl
  have g9 : s1 m 7 = s0 m 7 := (by rw [(zFr_g hF_s1 hm (by decide))])
  have f10 := zf hS0 hm (k := 7) rfl
  have g11 : s1 m 21 = s0 m 21 := (by rw [(zFr_g hF_s1 hm (by decide))])
  have f12 := zf hS0 hm (k := 21) rfl
  have g13 : s1 m 22 = s0 m 22 := (by rw [(zFr_g hF_s1 hm (by decide))])
  have f14 := zf hS0 hm (k := 22) rfl
  have g15 : s1 m 23 = s0 m 23 := (by rw [(zFr_g hF_s1 hm (by decide))])
  have f16 := zf hS0 hm (k := 23) rfl
  have g17 : s1 m 24 = s0 m 24 := (by rw [(zFr_g hF_s1 hm (by decide))])
  have f18 := zf hS0 hm (k := 24) rfl
  have g19 : s1 m 38 = s0 m 38 := (by rw [(zFr_g hF_s1 hm (by decide))])
  have f20 := zf hS0 hm (k := 38) rfl
  have g21 : s1 m 51 = s0 m 51 := (by rw [(zFr_g hF_s1 hm (by decide))])
  have f22 := zf hS0 hm (k := 51) rfl
  have g23 : s1 m 52 = s0 m 52 := (by rw [(zFr_g hF_s1 hm (by decide))])
  have f24 := zf hS0 hm (k := 52) rfl
  refine j_callV hx hG (c_X12_moments hst m ((ys (i + 1).toNat)) ((ys (i + 2).toNat)) ((ys (i + 3).toNat))) lk_RL_206 hm (by decide) rfl rfl rfl rfl [.int (zI ((ys (i + 1).toNat))), .int (zI ((ys (i + 2).toNat))), .int (zI ((ys (i + 3).toNat)))] ⟨rfl, hG, hS_s1, hm, (by omega), (by omega), (by omega)⟩ rfl rfl ⟨by decide, by decide⟩ ⟨(by show k + 3 + 0 ≤ 601024; omega), (by show n + 18 + 0 ≤ 7293034; omega)⟩ (k2 := k + 3) (n2 := n + 18) rfl rfl (Nat.le_of_ble_eq_true rfl) dL_law__1213 (kIM (fun v25 s2 hS_s2 hF_s2 q26 => ?_))
  refine j_istore hx [(6, .int (zI v25)), (5, .int (zI v1)), (4, .int (zI i)), (3, .ref o), (2, .ref m), (1, .ref a), (0, .ref b)] dL_law__1216 (by decide) rfl ?_
  refine j_goto hx 1713 dL_law__1218 rfl ?_
  have f27 := zf hS_s2 hm (k := 24) rfl
  exact j_wid (k2 := k + 8) (n2 := n + 400) (by omega) (by omega) (j_sub [2, 3, 4, 5, 6] [(4, .int (zI i)), (3, .ref o), (2, .ref m), (1, .ref a), (0, .ref b)] rfl (kk G s2 hG hS_s2 (zInv_fr (ts := [12, 13, 71, 120]) hI0 (by omega) hG hm (zFr_t (zFr_t zFr_rf hF_s1 (by decide)) hF_s2 (by decide)) (by decide) (by omega)) ha hm ho))

theorem lk_RL_207 : LkSH RL 207 yL_rests cL_rests 5 (some .int) [(0, 10, 13, 13)] 4 := ⟨km_RL_207, kst_yL_rests, kn_RL, kc_yL_rests, by decide +kernel, by decide +kernel, by decide +kernel⟩
theorem lk_RL_209 : LkV RL 209 RX12 yX12_rests cX12_rests 7 (some .int) 2 := ⟨km_RL_209, ki_yX12_rests, ks_RX12_yX12_rests, kn_RX12, kc_yX12_rests, rfl, by decide +kernel, by decide +kernel, by decide +kernel⟩
set_option maxHeartbeats 4000000 in
set_option maxRecDepth 20000 in
theorem w_28 {X : zX} {E : zE} {G : zG} {s0 : zS} {b a m o L0 k n : Nat} {ys : Nat → Int} {i T : Int} (hL : LX X E b) (hG : zGK G) (hS0 : zSK G s0) (hI : zInv G s0 m T) (hT0 : 0 ≤ T) (hT : T ≤ 519000) (ha : gT G a = 12) (hm : gT G m = 13) (ho : gT G o = 120) (hs : ZS X E b L0 ys) (hy : ∀ j, -2147483648 ≤ ys j ∧ ys j ≤ 2147483647) (hi0 : 0 ≤ i) (hi : i + 6 ≤ L0) (hL0 : L0 ≤ 3072) (hk : k + 8 ≤ 601024) (hn : n + 400 ≤ 7293034) (kk : ∀ G2 s2, zGK G2 → zSK G2 s2 → zInv G2 s2 m (T + 1000) → gT G2 a = 12 → gT G2 m = 13 → gT G2 o = 120 → JJ X E 8 G2 s2 (k + 8) (n + 400) [(4, .int (zI i)), (3, .ref o), (2, .ref m), (1, .ref a), (0, .ref b)] 1713 []) : JJ X E 8 G s0 k n [(4, .int (zI i)), (3, .ref o), (2, .ref m), (1, .ref a), (0, .ref b)] 1221 [] := by
  have hx := hL.1
  have hst := hx.2.2.2.2.2.2.2.2.2.2.2
  have hI0 := hI
  obtain ⟨hI1, hI2, hI3, hI4, hI5, hI6, hI7, hI8, hI9, hI10, hI11⟩ := hI
  have hy0 := hy (i).toNat
  have hy1 := hy (i + 1).toNat
  have hy2 := hy (i + 2).toNat
  have hy3 := hy (i + 3).toNat
  have hy4 := hy (i + 4).toNat
  have hy5 := hy (i + 5).toNat
  refine j_aload_n hx 3 dL_law__1221 rfl ?_
  refine j_aload_n hx 4 dL_law__1222 rfl ?_
  refine j_iload hx 0 dL_law__1223 rfl ?_
  refine j_iconst hx dL_law__1225 ?_
  refine j_iadd hx (r := i + 1) dL_law__1226 rfl ?_
  refine j_sld hx hs (j := (i + 1).toNat) (by omega) (by omega) (by omega) dL_law__1227 ?_
  refine j_aload_n hx 4 dL_law__1228 rfl ?_
  refine j_iload hx 0 dL_law__1229 rfl ?_
  refine j_iconst hx dL_law__1231 ?_
  refine j_iadd hx (r := i + 2) dL_law__1232 rfl ?_
  refine j_sld hx hs (j := (i + 2).toNat) (by omega) (by omega) (by omega) dL_law__1233 ?_
  refine j_aload_n hx 1 dL_law__1234 rfl ?_
  refine j_callSH hx (c_L_rests hst a ((ys (i + 1).toNat)) ((ys (i + 2).toNat)) o) lk_RL_207 [.ref a, .int (zI ((ys (i + 1).toNat))), .int (zI ((ys (i + 2).toNat))), .ref o] ⟨rfl, hG, hS0, ha, (by omega), (by omega), ho⟩ rfl rfl ⟨by decide, by decide⟩ ⟨(by show k + 2 ≤ 601024; omega), (by show n + 12 ≤ 7293034; omega)⟩ (k2 := k + 2) (n2 := n + 12) rfl rfl (Nat.le_of_ble_eq_true rfl) dL_law__1235 (kIM2 (fun v1 s1 hS_s1 hF_s1 q2 => ?_))
  refine j_istore hx [(5, .int (zI v1)), (4, .int (zI i)), (3, .ref o), (2, .ref m), (1, .ref a), (0, .ref b)] dL_law__1238 (by decide) rfl ?_
  refine j_aload_n hx 3 dL_law__1240 rfl ?_
  refine j_aload_n hx 5 dL_law__1241 rfl ?_
  refine j_iload hx 1 dL_law__1242 rfl ?_
  refine j_iconst hx dL_law__1244 ?_
  refine j_iadd hx (r := i + 1) dL_law__1245 rfl ?_
  refine j_sld hx hs (j := (i + 1).toNat) (by omega) (by omega) (by omega) dL_law__1246 ?_
  refine j_aload_n hx 5 dL_law__1247 rfl ?_
  refine j_iload hx 1 dL_law__1248 rfl ?_
  refine j_iconst hx dL_law__1250 ?_
  refine j_iadd hx (r := i + 2) dL_law__1251 rfl ?_
  refine j_sld hx hs (j := (i + 2).toNat) (by omega) (by omega) (by omega) dL_law__1252 ?_
  have g3 : s1 m 3 = s0 m 3 := (by rw [(zFr_g hF_s1 hm (by decide))])
  have f4 := zf hS0 hm (k := 3) rfl
  have g5 : s1 m 4 = s0 m 4 := (by rw [(zFr_g hF_s1 hm (by decide))])
  have f6 := zf hS0 hm (k := 4) rfl
  have g7 : s1 m 5 = s0 m 5 := (by rw [(zFr_g hF_s1 hm (by decide))])
  have f8 := zf hS0 hm (k := 5) rfl
  have g9 : s1 m 7 = s0 m 7 := (by rw [(zFr_g hF_s1 hm (by decide))])
  have f10 := zf hS0 hm (k := 7) rfl
  have g11 : s1 m 21 = s0 m 21 := (by rw [(zFr_g hF_s1 hm (by decide))])
  have f12 := zf hS0 hm (k := 21) rfl
  have g13 : s1 m 22 = s0 m 22 := (by rw [(zFr_g hF_s1 hm (by decide))])
  have f14 := zf hS0 hm (k := 22) rfl
  have g15 : s1 m 23 = s0 m 23 := (by rw [(zFr_g hF_s1 hm (by decide))])
  have f16 := zf hS0 hm (k := 23) rfl
  have g17 : s1 m 24 = s0 m 24 := (by rw [(zFr_g hF_s1 hm (by decide))])
  have f18 := zf hS0 hm (k := 24) rfl
  have g19 : s1 m 38 = s0 m 38 := (by rw [(zFr_g hF_s1 hm (by decide))])
  have f20 := zf hS0 hm (k := 38) rfl
  have g21 : s1 m 51 = s0 m 51 := (by rw [(zFr_g hF_s1 hm (by decide))])
  have f22 := zf hS0 hm (k := 51) rfl
  have g23 : s1 m 52 = s0 m 52 := (by rw [(zFr_g hF_s1 hm (by decide))])
  have f24 := zf hS0 hm (k := 52) rfl
  refine j_callV hx hG (c_X12_rests hst m ((ys (i + 1).toNat)) ((ys (i + 2).toNat))) lk_RL_209 hm (by decide) rfl rfl rfl rfl [.int (zI ((ys (i + 1).toNat))), .int (zI ((ys (i + 2).toNat)))] ⟨rfl, hG, hS_s1, hm, (by omega), (by omega)⟩ rfl rfl ⟨by decide, by decide⟩ ⟨(by show k + 2 + 0 ≤ 601024; omega), (by show n + 12 + 0 ≤ 7293034; omega)⟩ (k2 := k + 2) (n2 := n + 12) rfl rfl (Nat.le_of_ble_eq_true rfl) dL_law__1253 (kIM (fun v25 s2 hS_s2 hF_s2 q26 => ?_))
  refine j_istore hx [(6, .int (zI v25)), (5, .int (zI v1)), (4, .int (zI i)), (3, .ref o), (2, .ref m), (1, .ref a), (0, .ref b)] dL_law__1256 (by decide) rfl ?_
  refine j_goto hx 1713 dL_law__1258 rfl ?_
  have f27 := zf hS_s2 hm (k := 24) rfl
  exact j_wid (k2 := k + 8) (n2 := n + 400) (by omega) (by omega) (j_sub [2, 3, 4, 5, 6] [(4, .int (zI i)), (3, .ref o), (2, .ref m), (1, .ref a), (0, .ref b)] rfl (kk G s2 hG hS_s2 (zInv_fr (ts := [12, 13, 71, 120]) hI0 (by omega) hG hm (zFr_t (zFr_t zFr_rf hF_s1 (by decide)) hF_s2 (by decide)) (by decide) (by omega)) ha hm ho))

theorem lk_RL_210 : LkSH RL 210 yL_remember cL_remember 6 (some .int) [(0, 12, 15, 19), (0, 12, 19, 13)] 5 := ⟨km_RL_210, kst_yL_remember, kn_RL, kc_yL_remember, by decide +kernel, by decide +kernel, by decide +kernel⟩
theorem lk_RL_212 : LkV RL 212 RX12 yX12_remember cX12_remember 8 (some .int) 3 := ⟨km_RL_212, ki_yX12_remember, ks_RX12_yX12_remember, kn_RX12, kc_yX12_remember, rfl, by decide +kernel, by decide +kernel, by decide +kernel⟩
set_option maxHeartbeats 4000000 in
set_option maxRecDepth 20000 in
theorem w_29 {X : zX} {E : zE} {G : zG} {s0 : zS} {b a m o L0 k n : Nat} {ys : Nat → Int} {i T : Int} (hL : LX X E b) (hG : zGK G) (hS0 : zSK G s0) (hI : zInv G s0 m T) (hT0 : 0 ≤ T) (hT : T ≤ 519000) (ha : gT G a = 12) (hm : gT G m = 13) (ho : gT G o = 120) (hs : ZS X E b L0 ys) (hy : ∀ j, -2147483648 ≤ ys j ∧ ys j ≤ 2147483647) (hi0 : 0 ≤ i) (hi : i + 6 ≤ L0) (hL0 : L0 ≤ 3072) (hk : k + 8 ≤ 601024) (hn : n + 400 ≤ 7293034) (kk : ∀ G2 s2, zGK G2 → zSK G2 s2 → zInv G2 s2 m (T + 1000) → gT G2 a = 12 → gT G2 m = 13 → gT G2 o = 120 → JJ X E 8 G2 s2 (k + 8) (n + 400) [(4, .int (zI i)), (3, .ref o), (2, .ref m), (1, .ref a), (0, .ref b)] 1713 []) : JJ X E 8 G s0 k n [(4, .int (zI i)), (3, .ref o), (2, .ref m), (1, .ref a), (0, .ref b)] 1261 [] := by
  have hx := hL.1
  have hst := hx.2.2.2.2.2.2.2.2.2.2.2
  have hI0 := hI
  obtain ⟨hI1, hI2, hI3, hI4, hI5, hI6, hI7, hI8, hI9, hI10, hI11⟩ := hI
  have hy0 := hy (i).toNat
  have hy1 := hy (i + 1).toNat
  have hy2 := hy (i + 2).toNat
  have hy3 := hy (i + 3).toNat
  have hy4 := hy (i + 4).toNat
  have hy5 := hy (i + 5).toNat
  refine j_aload_n hx 3 dL_law__1261 rfl ?_
  refine j_aload_n hx 4 dL_law__1262 rfl ?_
  refine j_iload hx 0 dL_law__1263 rfl ?_
  refine j_iconst hx dL_law__1265 ?_
  refine j_iadd hx (r := i + 1) dL_law__1266 rfl ?_
  refine j_sld hx hs (j := (i + 1).toNat) (by omega) (by omega) (by omega) dL_law__1267 ?_
  refine j_aload_n hx 4 dL_law__1268 rfl ?_
  refine j_iload hx 0 dL_law__1269 rfl ?_
  refine j_iconst hx dL_law__1271 ?_
  refine j_iadd hx (r := i + 2) dL_law__1272 rfl ?_
  refine j_sld hx hs (j := (i + 2).toNat) (by omega) (by omega) (by omega) dL_law__1273 ?_
  refine j_aload_n hx 4 dL_law__1274 rfl ?_
  refine j_iload hx 0 dL_law__1275 rfl ?_
  refine j_iconst hx dL_law__1277 ?_
  refine j_iadd hx (r := i + 3) dL_law__1278 rfl ?_
  refine j_sld hx hs (j := (i + 3).toNat) (by omega) (by omega) (by omega) dL_law__1279 ?_
  refine j_aload_n hx 1 dL_law__1280 rfl ?_
  refine j_callSH hx (c_L_remember hst a ((ys (i + 1).toNat)) ((ys (i + 2).toNat)) ((ys (i + 3).toNat)) o) lk_RL_210 [.ref a, .int (zI ((ys (i + 1).toNat))), .int (zI ((ys (i + 2).toNat))), .int (zI ((ys (i + 3).toNat))), .ref o] ⟨rfl, hG, hS0, ha, (by omega), (by omega), (by omega), ho⟩ rfl rfl ⟨by decide, by decide⟩ ⟨(by show k + 3 ≤ 601024; omega), (by show n + 18 ≤ 7293034; omega)⟩ (k2 := k + 3) (n2 := n + 18) rfl rfl (Nat.le_of_ble_eq_true rfl) dL_law__1281 (kIM2 (fun v1 s1 hS_s1 hF_s1 q2 => ?_))
  refine j_istore hx [(5, .int (zI v1)), (4, .int (zI i)), (3, .ref o), (2, .ref m), (1, .ref a), (0, .ref b)] dL_law__1284 (by decide) rfl ?_
  refine j_aload_n hx 3 dL_law__1286 rfl ?_
  refine j_aload_n hx 5 dL_law__1287 rfl ?_
  refine j_iload hx 1 dL_law__1288 rfl ?_
  refine j_iconst hx dL_law__1290 ?_
  refine j_iadd hx (r := i + 1) dL_law__1291 rfl ?_
  refine j_sld hx hs (j := (i + 1).toNat) (by omega) (by omega) (by omega) dL_law__1292 ?_
  refine j_aload_n hx 5 dL_law__1293 rfl ?_
  refine j_iload hx 1 dL_law__1294 rfl ?_
  refine j_iconst hx dL_law__1296 ?_
  refine j_iadd hx (r := i + 2) dL_law__1297 rfl ?_
  refine j_sld hx hs (j := (i + 2).toNat) (by omega) (by omega) (by omega) dL_law__1298 ?_
  refine j_aload_n hx 5 dL_law__1299 rfl ?_
  refine j_iload hx 1 dL_law__1300 rfl ?_
  refine j_iconst hx dL_law__1302 ?_
  refine j_iadd hx (r := i + 3) dL_law__1303 rfl ?_
  refine j_sld hx hs (j := (i + 3).toNat) (by omega) (by omega) (by omega) dL_law__1304 ?_
  have g3 : zc (s1 (gP G m 27)) = zc (s0 (gP G m 27)) := by rw [hF_s1 (gP G m 27) (by rw [(zr (k := 27) (t2 := 84) hG hm rfl)]; decide)]
  have g4 : s1 (gP G m 27) 488 = s0 (gP G m 27) 488 := (by rw [(zFr_g hF_s1 (zr (k := 27) (t2 := 84) hG hm rfl) (by decide))])
  have g5 : s1 m 3 = s0 m 3 := (by rw [(zFr_g hF_s1 hm (by decide))])
  have f6 := zf hS0 hm (k := 3) rfl
  have g7 : s1 m 4 = s0 m 4 := (by rw [(zFr_g hF_s1 hm (by decide))])
  have f8 := zf hS0 hm (k := 4) rfl
  have g9 : s1 m 5 = s0 m 5 := (by rw [(zFr_g hF_s1 hm (by decide))])
  have f10 := zf hS0 hm (k := 5) rfl
  have g11 : s1 m 7 = s0 m 7 := (by rw [(zFr_g hF_s1 hm (by decide))])
  have f12 := zf hS0 hm (k := 7) rfl
  have g13 : s1 m 21 = s0 m 21 := (by rw [(zFr_g hF_s1 hm (by decide))])
  have f14 := zf hS0 hm (k := 21) rfl
  have g15 : s1 m 22 = s0 m 22 := (by rw [(zFr_g hF_s1 hm (by decide))])
  have f16 := zf hS0 hm (k := 22) rfl
  have g17 : s1 m 23 = s0 m 23 := (by rw [(zFr_g hF_s1 hm (by decide))])
  have f18 := zf hS0 hm (k := 23) rfl
  have g19 : s1 m 24 = s0 m 24 := (by rw [(zFr_g hF_s1 hm (by decide))])
  have f20 := zf hS0 hm (k := 24) rfl
  have g21 : s1 m 38 = s0 m 38 := (by rw [(zFr_g hF_s1 hm (by decide))])
  have f22 := zf hS0 hm (k := 38) rfl
  have g23 : s1 m 51 = s0 m 51 := (by rw [(zFr_g hF_s1 hm (by decide))])
  have f24 := zf hS0 hm (k := 51) rfl
  have g25 : s1 m 52 = s0 m 52 := (by rw [(zFr_g hF_s1 hm (by decide))])
  have f26 := zf hS0 hm (k := 52) rfl
  refine j_callV hx hG (c_X12_remember hst m ((ys (i + 1).toNat)) ((ys (i + 2).toNat)) ((ys (i + 3).toNat))) lk_RL_212 hm (by decide) rfl rfl rfl rfl [.int (zI ((ys (i + 1).toNat))), .int (zI ((ys (i + 2).toNat))), .int (zI ((ys (i + 3).toNat)))] ⟨rfl, hG, hS_s1, hm, (by omega), (by omega), (by omega), (by omega), (by omega)⟩ rfl rfl ⟨by decide, by decide⟩ ⟨(by show k + 3 + 0 ≤ 601024; omega), (by show n + 18 + 0 ≤ 7293034; omega)⟩ (k2 := k + 3) (n2 := n + 18) rfl rfl (Nat.le_of_ble_eq_true rfl) dL_law__1305 (kIM (fun v27 s2 hS_s2 hF_s2 q28 => ?_))
  refine j_istore hx [(6, .int (zI v27)), (5, .int (zI v1)), (4, .int (zI i)), (3, .ref o), (2, .ref m), (1, .ref a), (0, .ref b)] dL_law__1308 (by decide) rfl ?_
  refine j_goto hx 1713 dL_law__1310 rfl ?_
  have g29 : zc (s2 (gP G m 28)) = zc (s0 (gP G m 28)) := by rw [hF_s2 (gP G m 28) (by rw [(zr (k := 28) (t2 := 85) hG hm rfl)]; decide), hF_s1 (gP G m 28) (by rw [(zr (k := 28) (t2 := 85) hG hm rfl)]; decide)]
  have g30 : s2 (gP G m 28) 488 = s0 (gP G m 28) 488 := (by rw [(zFr_g hF_s2 (zr (k := 28) (t2 := 85) hG hm rfl) (by decide)), (zFr_g hF_s1 (zr (k := 28) (t2 := 85) hG hm rfl) (by decide))])
  have f31 := zf hS_s2 hm (k := 24) rfl
  have g32 : s2 (gP G m 57) 488 = s0 (gP G m 57) 488 := (by rw [(zFr_g hF_s2 (zr (k := 57) (t2 := 106) hG hm rfl) (by decide)), (zFr_g hF_s1 (zr (k := 57) (t2 := 106) hG hm rfl) (by decide))])
  have g33 : s2 (gP G m 57) 13709 = s0 (gP G m 57) 13709 := (by rw [(zFr_g hF_s2 (zr (k := 57) (t2 := 106) hG hm rfl) (by decide)), (zFr_g hF_s1 (zr (k := 57) (t2 := 106) hG hm rfl) (by decide))])
  have g34 : s2 (gP G m 57) 26930 = s0 (gP G m 57) 26930 := (by rw [(zFr_g hF_s2 (zr (k := 57) (t2 := 106) hG hm rfl) (by decide)), (zFr_g hF_s1 (zr (k := 57) (t2 := 106) hG hm rfl) (by decide))])
  exact j_wid (k2 := k + 8) (n2 := n + 400) (by omega) (by omega) (j_sub [2, 3, 4, 5, 6] [(4, .int (zI i)), (3, .ref o), (2, .ref m), (1, .ref a), (0, .ref b)] rfl (kk G s2 hG hS_s2 ⟨(by omega), (by omega), (by omega), (by omega), (by have q1 : s2 (gP G m 34) = s0 (gP G m 34) := (by rw [hF_s2 (gP G m 34) (by rw [(zr (k := 34) (t2 := 91) hG hm rfl)]; decide), hF_s1 (gP G m 34) (by rw [(zr (k := 34) (t2 := 91) hG hm rfl)]; decide)]); have q2 : s2 (gP G m 35) = s0 (gP G m 35) := (by rw [hF_s2 (gP G m 35) (by rw [(zr (k := 35) (t2 := 92) hG hm rfl)]; decide), hF_s1 (gP G m 35) (by rw [(zr (k := 35) (t2 := 92) hG hm rfl)]; decide)]); have q3 : s2 (gP G m 37) = s0 (gP G m 37) := (by rw [hF_s2 (gP G m 37) (by rw [(zr (k := 37) (t2 := 94) hG hm rfl)]; decide), hF_s1 (gP G m 37) (by rw [(zr (k := 37) (t2 := 94) hG hm rfl)]; decide)]); rw [q1, q2, q3]; exact hI5), (by have q1 : s2 (gP G m 17) = s0 (gP G m 17) := (by rw [hF_s2 (gP G m 17) (by rw [(zr (k := 17) (t2 := 80) hG hm rfl)]; decide), hF_s1 (gP G m 17) (by rw [(zr (k := 17) (t2 := 80) hG hm rfl)]; decide)]); rw [q1]; exact (zQn_nn hI6 (by omega))), (by have q1 : s2 (gP G m 55) = s0 (gP G m 55) := (by rw [hF_s2 (gP G m 55) (by rw [(zr (k := 55) (t2 := 104) hG hm rfl)]; decide), hF_s1 (gP G m 55) (by rw [(zr (k := 55) (t2 := 104) hG hm rfl)]; decide)]); rw [q1]; exact hI7), (by have q1 : s2 (gP G m 57) = s0 (gP G m 57) := (by rw [hF_s2 (gP G m 57) (by rw [(zr (k := 57) (t2 := 106) hG hm rfl)]; decide), hF_s1 (gP G m 57) (by rw [(zr (k := 57) (t2 := 106) hG hm rfl)]; decide)]); rw [q1]; exact hI8), (by omega), (by omega), (by omega)⟩ ha hm ho))

theorem lk_RL_213 : LkSH RL 213 yL_odds cL_odds 6 (some .int) [(0, 11, 14, 19), (0, 11, 18, 13)] 5 := ⟨km_RL_213, kst_yL_odds, kn_RL, kc_yL_odds, by decide +kernel, by decide +kernel, by decide +kernel⟩
theorem lk_RL_215 : LkV RL 215 RX12 yX12_odds cX12_odds 9 (some .long) 3 := ⟨km_RL_215, ki_yX12_odds, ks_RX12_yX12_odds, kn_RX12, kc_yX12_odds, rfl, by decide +kernel, by decide +kernel, by decide +kernel⟩
set_option maxHeartbeats 4000000 in
set_option maxRecDepth 20000 in
theorem w_30 {X : zX} {E : zE} {G : zG} {s0 : zS} {b a m o L0 k n : Nat} {ys : Nat → Int} {i T : Int} (hL : LX X E b) (hG : zGK G) (hS0 : zSK G s0) (hI : zInv G s0 m T) (hT0 : 0 ≤ T) (hT : T ≤ 519000) (ha : gT G a = 12) (hm : gT G m = 13) (ho : gT G o = 120) (hs : ZS X E b L0 ys) (hy : ∀ j, -2147483648 ≤ ys j ∧ ys j ≤ 2147483647) (hi0 : 0 ≤ i) (hi : i + 6 ≤ L0) (hL0 : L0 ≤ 3072) (hk : k + 8 ≤ 601024) (hn : n + 400 ≤ 7293034) (kk : ∀ G2 s2, zGK G2 → zSK G2 s2 → zInv G2 s2 m (T + 1000) → gT G2 a = 12 → gT G2 m = 13 → gT G2 o = 120 → JJ X E 8 G2 s2 (k + 8) (n + 400) [(4, .int (zI i)), (3, .ref o), (2, .ref m), (1, .ref a), (0, .ref b)] 1713 []) : JJ X E 8 G s0 k n [(4, .int (zI i)), (3, .ref o), (2, .ref m), (1, .ref a), (0, .ref b)] 1313 [] := by
  have hx := hL.1
  have hst := hx.2.2.2.2.2.2.2.2.2.2.2
  have hI0 := hI
  obtain ⟨hI1, hI2, hI3, hI4, hI5, hI6, hI7, hI8, hI9, hI10, hI11⟩ := hI
  have hy0 := hy (i).toNat
  have hy1 := hy (i + 1).toNat
  have hy2 := hy (i + 2).toNat
  have hy3 := hy (i + 3).toNat
  have hy4 := hy (i + 4).toNat
  have hy5 := hy (i + 5).toNat
  refine j_aload_n hx 3 dL_law__1313 rfl ?_
  refine j_aload_n hx 4 dL_law__1314 rfl ?_
  refine j_iload hx 0 dL_law__1315 rfl ?_
  refine j_iconst hx dL_law__1317 ?_
  refine j_iadd hx (r := i + 1) dL_law__1318 rfl ?_
  refine j_sld hx hs (j := (i + 1).toNat) (by omega) (by omega) (by omega) dL_law__1319 ?_
  refine j_aload_n hx 4 dL_law__1320 rfl ?_
  refine j_iload hx 0 dL_law__1321 rfl ?_
  refine j_iconst hx dL_law__1323 ?_
  refine j_iadd hx (r := i + 2) dL_law__1324 rfl ?_
  refine j_sld hx hs (j := (i + 2).toNat) (by omega) (by omega) (by omega) dL_law__1325 ?_
  refine j_aload_n hx 4 dL_law__1326 rfl ?_
  refine j_iload hx 0 dL_law__1327 rfl ?_
  refine j_iconst hx dL_law__1329 ?_
  refine j_iadd hx (r := i + 3) dL_law__1330 rfl ?_
  refine j_sld hx hs (j := (i + 3).toNat) (by omega) (by omega) (by omega) dL_law__1331 ?_
  refine j_aload_n hx 1 dL_law__1332 rfl ?_
  refine j_callSH hx (c_L_odds hst a ((ys (i + 1).toNat)) ((ys (i + 2).toNat)) ((ys (i + 3).toNat)) o) lk_RL_213 [.ref a, .int (zI ((ys (i + 1).toNat))), .int (zI ((ys (i + 2).toNat))), .int (zI ((ys (i + 3).toNat))), .ref o] ⟨rfl, hG, hS0, ha, (by omega), (by omega), (by omega), ho⟩ rfl rfl ⟨by decide, by decide⟩ ⟨(by show k + 3 ≤ 601024; omega), (by show n + 18 ≤ 7293034; omega)⟩ (k2 := k + 3) (n2 := n + 18) rfl rfl (Nat.le_of_ble_eq_true rfl) dL_law__1333 (kIM2 (fun v1 s1 hS_s1 hF_s1 q2 => ?_))
  refine j_istore hx [(5, .int (zI v1)), (4, .int (zI i)), (3, .ref o), (2, .ref m), (1, .ref a), (0, .ref b)] dL_law__1336 (by decide) rfl ?_
  refine j_aload_n hx 3 dL_law__1338 rfl ?_
  refine j_aload_n hx 5 dL_law__1339 rfl ?_
  refine j_iload hx 1 dL_law__1340 rfl ?_
  refine j_iconst hx dL_law__1342 ?_
  refine j_iadd hx (r := i + 1) dL_law__1343 rfl ?_
  refine j_sld hx hs (j := (i + 1).toNat) (by omega) (by omega) (by omega) dL_law__1344 ?_
  refine j_aload_n hx 5 dL_law__1345 rfl ?_
  refine j_iload hx 1 dL_law__1346 rfl ?_
  refine j_iconst hx dL_law__1348 ?_
  refine j_iadd hx (r := i + 2) dL_law__1349 rfl ?_
  refine j_sld hx hs (j := (i + 2).toNat) (by omega) (by omega) (by omega) dL_law__1350 ?_
  refine j_aload_n hx 5 dL_law__1351 rfl ?_
  refine j_iload hx 1 dL_law__1352 rfl ?_
  refine j_iconst hx dL_law__1354 ?_
  refine j_iadd hx (r := i + 3) dL_law__1355 rfl ?_
  refine j_sld hx hs (j := (i + 3).toNat) (by omega) (by omega) (by omega) dL_law__1356 ?_
  have g3 : zc (s1 (gP G m 27)) = zc (s0 (gP G m 27)) := by rw [hF_s1 (gP G m 27) (by rw [(zr (k := 27) (t2 := 84) hG hm rfl)]; decide)]
  have g4 : s1 (gP G m 27) 488 = s0 (gP G m 27) 488 := (by rw [(zFr_g hF_s1 (zr (k := 27) (t2 := 84) hG hm rfl) (by decide))])
  have g5 : s1 m 24 = s0 m 24 := (by rw [(zFr_g hF_s1 hm (by decide))])
  have f6 := zf hS0 hm (k := 24) rfl
  have g7 : s1 m 3 = s0 m 3 := (by rw [(zFr_g hF_s1 hm (by decide))])
  have f8 := zf hS0 hm (k := 3) rfl
  have g9 : s1 m 4 = s0 m 4 := (by rw [(zFr_g hF_s1 hm (by decide))])
  have f10 := zf hS0 hm (k := 4) rfl
  have g11 : s1 m 5 = s0 m 5 := (by rw [(zFr_g hF_s1 hm (by decide))])
  have f12 := zf hS0 hm (k := 5) rfl
  have g13 : s1 m 7 = s0 m 7 := (by rw [(zFr_g hF_s1 hm (by decide))])
  have f14 := zf hS0 hm (k := 7) rfl
  have g15 : s1 m 21 = s0 m 21 := (by rw [(zFr_g hF_s1 hm (by decide))])
  have f16 := zf hS0 hm (k := 21) rfl
  have g17 : s1 m 22 = s0 m 22 := (by rw [(zFr_g hF_s1 hm (by decide))])
  have f18 := zf hS0 hm (k := 22) rfl
  have g19 : s1 m 23 = s0 m 23 := (by rw [(zFr_g hF_s1 hm (by decide))])
  have f20 := zf hS0 hm (k := 23) rfl
  have g21 : s1 m 38 = s0 m 38 := (by rw [(zFr_g hF_s1 hm (by decide))])
  have f22 := zf hS0 hm (k := 38) rfl
  have g23 : s1 m 51 = s0 m 51 := (by rw [(zFr_g hF_s1 hm (by decide))])
  have f24 := zf hS0 hm (k := 51) rfl
  have g25 : s1 m 52 = s0 m 52 := (by rw [(zFr_g hF_s1 hm (by decide))])
  have f26 := zf hS0 hm (k := 52) rfl
  refine j_callV hx hG (c_X12_odds hst m ((ys (i + 1).toNat)) ((ys (i + 2).toNat)) ((ys (i + 3).toNat))) lk_RL_215 hm (by decide) rfl rfl rfl rfl [.int (zI ((ys (i + 1).toNat))), .int (zI ((ys (i + 2).toNat))), .int (zI ((ys (i + 3).toNat)))] ⟨rfl, hG, hS_s1, hm, (by omega), (by omega), (by omega), (by omega), (by omega), ((by have q1 : s1 (gP G m 55) = s0 (gP G m 55) := (by rw [hF_s1 (gP G m 55) (by rw [(zr (k := 55) (t2 := 104) hG hm rfl)]; decide)]); rw [q1]; exact hI7)), ((by have q1 : s1 (gP G m 17) = s0 (gP G m 17) := (by rw [hF_s1 (gP G m 17) (by rw [(zr (k := 17) (t2 := 80) hG hm rfl)]; decide)]); rw [q1]; exact (zQn_nn hI6 (by omega))))⟩ rfl rfl ⟨by decide, by decide⟩ ⟨(by show k + 3 + 0 ≤ 601024; omega), (by show n + 18 + 0 ≤ 7293034; omega)⟩ (k2 := k + 3) (n2 := n + 18) rfl rfl (Nat.le_of_ble_eq_true rfl) dL_law__1357 (kLM (fun v27 s2 hS_s2 hF_s2 q28 => ?_))
  refine j_lstore hx [(6, .long (zL v27)), (5, .int (zI v1)), (4, .int (zI i)), (3, .ref o), (2, .ref m), (1, .ref a), (0, .ref b)] dL_law__1360 (by decide) rfl ?_
  refine j_goto hx 1713 dL_law__1362 rfl ?_
  have g29 : zc (s2 (gP G m 28)) = zc (s0 (gP G m 28)) := by rw [hF_s2 (gP G m 28) (by rw [(zr (k := 28) (t2 := 85) hG hm rfl)]; decide), hF_s1 (gP G m 28) (by rw [(zr (k := 28) (t2 := 85) hG hm rfl)]; decide)]
  have g30 : s2 (gP G m 28) 488 = s0 (gP G m 28) 488 := (by rw [(zFr_g hF_s2 (zr (k := 28) (t2 := 85) hG hm rfl) (by decide)), (zFr_g hF_s1 (zr (k := 28) (t2 := 85) hG hm rfl) (by decide))])
  have f31 := zf hS_s2 hm (k := 24) rfl
  have g32 : s2 (gP G m 57) 488 = s0 (gP G m 57) 488 := (by rw [(zFr_g hF_s2 (zr (k := 57) (t2 := 106) hG hm rfl) (by decide)), (zFr_g hF_s1 (zr (k := 57) (t2 := 106) hG hm rfl) (by decide))])
  have g33 : s2 (gP G m 57) 13709 = s0 (gP G m 57) 13709 := (by rw [(zFr_g hF_s2 (zr (k := 57) (t2 := 106) hG hm rfl) (by decide)), (zFr_g hF_s1 (zr (k := 57) (t2 := 106) hG hm rfl) (by decide))])
  have g34 : s2 (gP G m 57) 26930 = s0 (gP G m 57) 26930 := (by rw [(zFr_g hF_s2 (zr (k := 57) (t2 := 106) hG hm rfl) (by decide)), (zFr_g hF_s1 (zr (k := 57) (t2 := 106) hG hm rfl) (by decide))])
  exact j_wid (k2 := k + 8) (n2 := n + 400) (by omega) (by omega) (j_sub [2, 3, 4, 5, 6] [(4, .int (zI i)), (3, .ref o), (2, .ref m), (1, .ref a), (0, .ref b)] rfl (kk G s2 hG hS_s2 ⟨(by omega), (by omega), (by omega), (by omega), (by have q1 : s2 (gP G m 34) = s0 (gP G m 34) := (by rw [hF_s2 (gP G m 34) (by rw [(zr (k := 34) (t2 := 91) hG hm rfl)]; decide), hF_s1 (gP G m 34) (by rw [(zr (k := 34) (t2 := 91) hG hm rfl)]; decide)]); have q2 : s2 (gP G m 35) = s0 (gP G m 35) := (by rw [hF_s2 (gP G m 35) (by rw [(zr (k := 35) (t2 := 92) hG hm rfl)]; decide), hF_s1 (gP G m 35) (by rw [(zr (k := 35) (t2 := 92) hG hm rfl)]; decide)]); have q3 : s2 (gP G m 37) = s0 (gP G m 37) := (by rw [hF_s2 (gP G m 37) (by rw [(zr (k := 37) (t2 := 94) hG hm rfl)]; decide), hF_s1 (gP G m 37) (by rw [(zr (k := 37) (t2 := 94) hG hm rfl)]; decide)]); rw [q1, q2, q3]; exact hI5), (by have q1 : s2 (gP G m 17) = s0 (gP G m 17) := (by rw [hF_s2 (gP G m 17) (by rw [(zr (k := 17) (t2 := 80) hG hm rfl)]; decide), hF_s1 (gP G m 17) (by rw [(zr (k := 17) (t2 := 80) hG hm rfl)]; decide)]); rw [q1]; exact (zQn_nn hI6 (by omega))), q28.2.2.2.1, (by have q1 : s2 (gP G m 57) = s0 (gP G m 57) := (by rw [hF_s2 (gP G m 57) (by rw [(zr (k := 57) (t2 := 106) hG hm rfl)]; decide), hF_s1 (gP G m 57) (by rw [(zr (k := 57) (t2 := 106) hG hm rfl)]; decide)]); rw [q1]; exact hI8), (by omega), (by omega), (by omega)⟩ ha hm ho))

theorem lk_RL_216 : LkV RL 216 RX11 yX11_shuffle cX11_shuffle 2 none 1 := ⟨km_RL_216, ki_yX11_shuffle, ks_RX11_yX11_shuffle, kn_RX11, kc_yX11_shuffle, rfl, by decide +kernel, by decide +kernel, by decide +kernel⟩
theorem lk_RL_219 : LkV RL 219 RX12 yX12_shuffle cX12_shuffle 2 none 1 := ⟨km_RL_219, ki_yX12_shuffle, ks_RX12_yX12_shuffle, kn_RX12, kc_yX12_shuffle, rfl, by decide +kernel, by decide +kernel, by decide +kernel⟩
set_option maxHeartbeats 4000000 in
set_option maxRecDepth 20000 in
theorem w_31 {X : zX} {E : zE} {G : zG} {s0 : zS} {b a m o L0 k n : Nat} {ys : Nat → Int} {i T : Int} (hL : LX X E b) (hG : zGK G) (hS0 : zSK G s0) (hI : zInv G s0 m T) (hT0 : 0 ≤ T) (hT : T ≤ 519000) (ha : gT G a = 12) (hm : gT G m = 13) (ho : gT G o = 120) (hs : ZS X E b L0 ys) (hy : ∀ j, -2147483648 ≤ ys j ∧ ys j ≤ 2147483647) (hi0 : 0 ≤ i) (hi : i + 6 ≤ L0) (hL0 : L0 ≤ 3072) (hk : k + 8 ≤ 601024) (hn : n + 400 ≤ 7293034) (kk : ∀ G2 s2, zGK G2 → zSK G2 s2 → zInv G2 s2 m (T + 1000) → gT G2 a = 12 → gT G2 m = 13 → gT G2 o = 120 → JJ X E 8 G2 s2 (k + 8) (n + 400) [(4, .int (zI i)), (3, .ref o), (2, .ref m), (1, .ref a), (0, .ref b)] 1713 []) : JJ X E 8 G s0 k n [(4, .int (zI i)), (3, .ref o), (2, .ref m), (1, .ref a), (0, .ref b)] 1365 [] := by
  have hx := hL.1
  have hst := hx.2.2.2.2.2.2.2.2.2.2.2
  have hI0 := hI
  obtain ⟨hI1, hI2, hI3, hI4, hI5, hI6, hI7, hI8, hI9, hI10, hI11⟩ := hI
  have hy0 := hy (i).toNat
  have hy1 := hy (i + 1).toNat
  have hy2 := hy (i + 2).toNat
  have hy3 := hy (i + 3).toNat
  have hy4 := hy (i + 4).toNat
  have hy5 := hy (i + 5).toNat
  refine j_aload_n hx 3 dL_law__1365 rfl ?_
  refine j_aload_n hx 4 dL_law__1366 rfl ?_
  refine j_iload hx 0 dL_law__1367 rfl ?_
  refine j_iconst hx dL_law__1369 ?_
  refine j_iadd hx (r := i + 1) dL_law__1370 rfl ?_
  refine j_sld hx hs (j := (i + 1).toNat) (by omega) (by omega) (by omega) dL_law__1371 ?_
  refine j_callV hx hG (c_X11_shuffle hst a ((ys (i + 1).toNat))) lk_RL_216 ha (by decide) rfl rfl rfl rfl [.int (zI ((ys (i + 1).toNat)))] ⟨rfl, hG, hS0, ha, (by omega)⟩ rfl rfl ⟨by decide, by decide⟩ ⟨(by show k + 0 ≤ 601024; omega), (by show n + 0 ≤ 7293034; omega)⟩ (k2 := k) (n2 := n) rfl rfl (Nat.le_of_ble_eq_true rfl) dL_law__1372 (kVM (fun s1 hS_s1 hF_s1 q2 => ?_))
  refine j_aload_n hx 2 dL_law__1375 rfl ?_
  refine j_aload_n hx 4 dL_law__1376 rfl ?_
  refine j_iload hx 0 dL_law__1377 rfl ?_
  refine j_iconst hx dL_law__1379 ?_
  refine j_iadd hx (r := i + 1) dL_law__1380 rfl ?_
  refine j_sld hx hs (j := (i + 1).toNat) (by omega) (by omega) (by omega) dL_law__1381 ?_
  have g3 : zc (s1 (gP G m 27)) = zc (s0 (gP G m 27)) := by rw [hF_s1 (gP G m 27) (by rw [(zr (k := 27) (t2 := 84) hG hm rfl)]; decide)]
  have g4 : s1 (gP G m 27) 488 = s0 (gP G m 27) 488 := (by rw [(zFr_g hF_s1 (zr (k := 27) (t2 := 84) hG hm rfl) (by decide))])
  have g5 : zc (s1 (gP G m 28)) = zc (s0 (gP G m 28)) := by rw [hF_s1 (gP G m 28) (by rw [(zr (k := 28) (t2 := 85) hG hm rfl)]; decide)]
  have g6 : s1 (gP G m 28) 488 = s0 (gP G m 28) 488 := (by rw [(zFr_g hF_s1 (zr (k := 28) (t2 := 85) hG hm rfl) (by decide))])
  have g7 : s1 m 3 = s0 m 3 := (by rw [(zFr_g hF_s1 hm (by decide))])
  have f8 := zf hS0 hm (k := 3) rfl
  have g9 : s1 m 4 = s0 m 4 := (by rw [(zFr_g hF_s1 hm (by decide))])
  have f10 := zf hS0 hm (k := 4) rfl
  have g11 : s1 m 5 = s0 m 5 := (by rw [(zFr_g hF_s1 hm (by decide))])
  have f12 := zf hS0 hm (k := 5) rfl
  have g13 : s1 m 7 = s0 m 7 := (by rw [(zFr_g hF_s1 hm (by decide))])
  have f14 := zf hS0 hm (k := 7) rfl
  have g15 : s1 m 21 = s0 m 21 := (by rw [(zFr_g hF_s1 hm (by decide))])
  have f16 := zf hS0 hm (k := 21) rfl
  have g17 : s1 m 22 = s0 m 22 := (by rw [(zFr_g hF_s1 hm (by decide))])
  have f18 := zf hS0 hm (k := 22) rfl
  have g19 : s1 m 23 = s0 m 23 := (by rw [(zFr_g hF_s1 hm (by decide))])
  have f20 := zf hS0 hm (k := 23) rfl
  have g21 : s1 m 24 = s0 m 24 := (by rw [(zFr_g hF_s1 hm (by decide))])
  have f22 := zf hS0 hm (k := 24) rfl
  have g23 : s1 m 38 = s0 m 38 := (by rw [(zFr_g hF_s1 hm (by decide))])
  have f24 := zf hS0 hm (k := 38) rfl
  have g25 : s1 m 51 = s0 m 51 := (by rw [(zFr_g hF_s1 hm (by decide))])
  have f26 := zf hS0 hm (k := 51) rfl
  have g27 : s1 m 52 = s0 m 52 := (by rw [(zFr_g hF_s1 hm (by decide))])
  have f28 := zf hS0 hm (k := 52) rfl
  refine j_callV hx hG (c_X12_shuffle hst m ((ys (i + 1).toNat))) lk_RL_219 hm (by decide) rfl rfl rfl rfl [.int (zI ((ys (i + 1).toNat)))] ⟨rfl, hG, hS_s1, hm, (by omega)⟩ rfl rfl ⟨by decide, by decide⟩ ⟨(by show k + 0 ≤ 601024; omega), (by show n + 0 ≤ 7293034; omega)⟩ (k2 := k) (n2 := n) rfl rfl (Nat.le_of_ble_eq_true rfl) dL_law__1382 (kVM (fun s2 hS_s2 hF_s2 q30 => ?_))
  refine j_goto hx 1713 dL_law__1385 rfl ?_
  have f31 := zf hS_s2 hm (k := 24) rfl
  have g32 : s2 (gP G m 57) 488 = s0 (gP G m 57) 488 := (by rw [(zFr_g hF_s2 (zr (k := 57) (t2 := 106) hG hm rfl) (by decide)), (zFr_g hF_s1 (zr (k := 57) (t2 := 106) hG hm rfl) (by decide))])
  have g33 : s2 (gP G m 57) 13709 = s0 (gP G m 57) 13709 := (by rw [(zFr_g hF_s2 (zr (k := 57) (t2 := 106) hG hm rfl) (by decide)), (zFr_g hF_s1 (zr (k := 57) (t2 := 106) hG hm rfl) (by decide))])
  have g34 : s2 (gP G m 57) 26930 = s0 (gP G m 57) 26930 := (by rw [(zFr_g hF_s2 (zr (k := 57) (t2 := 106) hG hm rfl) (by decide)), (zFr_g hF_s1 (zr (k := 57) (t2 := 106) hG hm rfl) (by decide))])
  exact j_wid (k2 := k + 8) (n2 := n + 400) (by omega) (by omega) (j_sub [0, 1, 2, 3, 4] [(4, .int (zI i)), (3, .ref o), (2, .ref m), (1, .ref a), (0, .ref b)] rfl (kk G s2 hG hS_s2 ⟨(by omega), (by omega), (by omega), (by omega), (by have q1 : s2 (gP G m 34) = s0 (gP G m 34) := (by rw [hF_s2 (gP G m 34) (by rw [(zr (k := 34) (t2 := 91) hG hm rfl)]; decide), hF_s1 (gP G m 34) (by rw [(zr (k := 34) (t2 := 91) hG hm rfl)]; decide)]); have q2 : s2 (gP G m 35) = s0 (gP G m 35) := (by rw [hF_s2 (gP G m 35) (by rw [(zr (k := 35) (t2 := 92) hG hm rfl)]; decide), hF_s1 (gP G m 35) (by rw [(zr (k := 35) (t2 := 92) hG hm rfl)]; decide)]); have q3 : s2 (gP G m 37) = s0 (gP G m 37) := (by rw [hF_s2 (gP G m 37) (by rw [(zr (k := 37) (t2 := 94) hG hm rfl)]; decide), hF_s1 (gP G m 37) (by rw [(zr (k := 37) (t2 := 94) hG hm rfl)]; decide)]); rw [q1, q2, q3]; exact hI5), (by have q1 : s2 (gP G m 17) = s0 (gP G m 17) := (by rw [hF_s2 (gP G m 17) (by rw [(zr (k := 17) (t2 := 80) hG hm rfl)]; decide), hF_s1 (gP G m 17) (by rw [(zr (k := 17) (t2 := 80) hG hm rfl)]; decide)]); rw [q1]; exact (zQn_nn hI6 (by omega))), (by have q1 : s2 (gP G m 55) = s0 (gP G m 55) := (by rw [hF_s2 (gP G m 55) (by rw [(zr (k := 55) (t2 := 104) hG hm rfl)]; decide), hF_s1 (gP G m 55) (by rw [(zr (k := 55) (t2 := 104) hG hm rfl)]; decide)]); rw [q1]; exact hI7), (by have q1 : s2 (gP G m 57) = s0 (gP G m 57) := (by rw [hF_s2 (gP G m 57) (by rw [(zr (k := 57) (t2 := 106) hG hm rfl)]; decide), hF_s1 (gP G m 57) (by rw [(zr (k := 57) (t2 := 106) hG hm rfl)]; decide)]); rw [q1]; exact hI8), (by omega), (by omega), (by omega)⟩ ha hm ho))

theorem lk_RL_220 : LkSH RL 220 yL_lot cL_lot 6 (some .int) [(0, 12, 15, 13)] 5 := ⟨km_RL_220, kst_yL_lot, kn_RL, kc_yL_lot, by decide +kernel, by decide +kernel, by decide +kernel⟩
theorem lk_RL_222 : LkV RL 222 RX12 yX12_lot cX12_lot 5 (some .int) 3 := ⟨km_RL_222, ki_yX12_lot, ks_RX12_yX12_lot, kn_RX12, kc_yX12_lot, rfl, by decide +kernel, by decide +kernel, by decide +kernel⟩
set_option maxHeartbeats 4000000 in
set_option maxRecDepth 20000 in
theorem w_32 {X : zX} {E : zE} {G : zG} {s0 : zS} {b a m o L0 k n : Nat} {ys : Nat → Int} {i T : Int} (hL : LX X E b) (hG : zGK G) (hS0 : zSK G s0) (hI : zInv G s0 m T) (hT0 : 0 ≤ T) (hT : T ≤ 519000) (ha : gT G a = 12) (hm : gT G m = 13) (ho : gT G o = 120) (hs : ZS X E b L0 ys) (hy : ∀ j, -2147483648 ≤ ys j ∧ ys j ≤ 2147483647) (hi0 : 0 ≤ i) (hi : i + 6 ≤ L0) (hL0 : L0 ≤ 3072) (hk : k + 8 ≤ 601024) (hn : n + 400 ≤ 7293034) (kk : ∀ G2 s2, zGK G2 → zSK G2 s2 → zInv G2 s2 m (T + 1000) → gT G2 a = 12 → gT G2 m = 13 → gT G2 o = 120 → JJ X E 8 G2 s2 (k + 8) (n + 400) [(4, .int (zI i)), (3, .ref o), (2, .ref m), (1, .ref a), (0, .ref b)] 1713 []) : JJ X E 8 G s0 k n [(4, .int (zI i)), (3, .ref o), (2, .ref m), (1, .ref a), (0, .ref b)] 1388 [] := by
  have hx := hL.1
  have hst := hx.2.2.2.2.2.2.2.2.2.2.2
  have hI0 := hI
  obtain ⟨hI1, hI2, hI3, hI4, hI5, hI6, hI7, hI8, hI9, hI10, hI11⟩ := hI
  have hy0 := hy (i).toNat
  have hy1 := hy (i + 1).toNat
  have hy2 := hy (i + 2).toNat
  have hy3 := hy (i + 3).toNat
  have hy4 := hy (i + 4).toNat
  have hy5 := hy (i + 5).toNat
  refine j_aload_n hx 3 dL_law__1388 rfl ?_
  refine j_aload_n hx 4 dL_law__1389 rfl ?_
  refine j_iload hx 0 dL_law__1390 rfl ?_
  refine j_iconst hx dL_law__1392 ?_
  refine j_iadd hx (r := i + 1) dL_law__1393 rfl ?_
  refine j_sld hx hs (j := (i + 1).toNat) (by omega) (by omega) (by omega) dL_law__1394 ?_
  refine j_aload_n hx 4 dL_law__1395 rfl ?_
  refine j_iload hx 0 dL_law__1396 rfl ?_
  refine j_iconst hx dL_law__1398 ?_
  refine j_iadd hx (r := i + 2) dL_law__1399 rfl ?_
  refine j_sld hx hs (j := (i + 2).toNat) (by omega) (by omega) (by omega) dL_law__1400 ?_
  refine j_aload_n hx 4 dL_law__1401 rfl ?_
  refine j_iload hx 0 dL_law__1402 rfl ?_
  refine j_iconst hx dL_law__1404 ?_
  refine j_iadd hx (r := i + 3) dL_law__1405 rfl ?_
  refine j_sld hx hs (j := (i + 3).toNat) (by omega) (by omega) (by omega) dL_law__1406 ?_
  refine j_aload_n hx 1 dL_law__1407 rfl ?_
  refine j_callSH hx (c_L_lot hst a ((ys (i + 1).toNat)) ((ys (i + 2).toNat)) ((ys (i + 3).toNat)) o) lk_RL_220 [.ref a, .int (zI ((ys (i + 1).toNat))), .int (zI ((ys (i + 2).toNat))), .int (zI ((ys (i + 3).toNat))), .ref o] ⟨rfl, hG, hS0, ha, (by omega), (by omega), (by omega), ho⟩ rfl rfl ⟨by decide, by decide⟩ ⟨(by show k + 2 ≤ 601024; omega), (by show n + 12 ≤ 7293034; omega)⟩ (k2 := k + 2) (n2 := n + 12) rfl rfl (Nat.le_of_ble_eq_true rfl) dL_law__1408 (kIM2 (fun v1 s1 hS_s1 hF_s1 q2 => ?_))
  refine j_istore hx [(5, .int (zI v1)), (4, .int (zI i)), (3, .ref o), (2, .ref m), (1, .ref a), (0, .ref b)] dL_law__1411 (by decide) rfl ?_
  refine j_aload_n hx 3 dL_law__1413 rfl ?_
  refine j_aload_n hx 5 dL_law__1414 rfl ?_
  refine j_iload hx 1 dL_law__1415 rfl ?_
  refine j_iconst hx dL_law__1417 ?_
  refine j_iadd hx (r := i + 1) dL_law__1418 rfl ?_
  refine j_sld hx hs (j := (i + 1).toNat) (by omega) (by omega) (by omega) dL_law__1419 ?_
  refine j_aload_n hx 5 dL_law__1420 rfl ?_
  refine j_iload hx 1 dL_law__1421 rfl ?_
  refine j_iconst hx dL_law__1423 ?_
  refine j_iadd hx (r := i + 2) dL_law__1424 rfl ?_
  refine j_sld hx hs (j := (i + 2).toNat) (by omega) (by omega) (by omega) dL_law__1425 ?_
  refine j_aload_n hx 5 dL_law__1426 rfl ?_
  refine j_iload hx 1 dL_law__1427 rfl ?_
  refine j_iconst hx dL_law__1429 ?_
  refine j_iadd hx (r := i + 3) dL_law__1430 rfl ?_
  refine j_sld hx hs (j := (i + 3).toNat) (by omega) (by omega) (by omega) dL_law__1431 ?_
  have g3 : zc (s1 (gP G m 27)) = zc (s0 (gP G m 27)) := by rw [hF_s1 (gP G m 27) (by rw [(zr (k := 27) (t2 := 84) hG hm rfl)]; decide)]
  have g4 : s1 (gP G m 27) 488 = s0 (gP G m 27) 488 := (by rw [(zFr_g hF_s1 (zr (k := 27) (t2 := 84) hG hm rfl) (by decide))])
  have g5 : s1 m 3 = s0 m 3 := (by rw [(zFr_g hF_s1 hm (by decide))])
  have f6 := zf hS0 hm (k := 3) rfl
  have g7 : s1 m 4 = s0 m 4 := (by rw [(zFr_g hF_s1 hm (by decide))])
  have f8 := zf hS0 hm (k := 4) rfl
  have g9 : s1 m 5 = s0 m 5 := (by rw [(zFr_g hF_s1 hm (by decide))])
  have f10 := zf hS0 hm (k := 5) rfl
  have g11 : s1 m 7 = s0 m 7 := (by rw [(zFr_g hF_s1 hm (by decide))])
  have f12 := zf hS0 hm (k := 7) rfl
  have g13 : s1 m 21 = s0 m 21 := (by rw [(zFr_g hF_s1 hm (by decide))])
  have f14 := zf hS0 hm (k := 21) rfl
  have g15 : s1 m 22 = s0 m 22 := (by rw [(zFr_g hF_s1 hm (by decide))])
  have f16 := zf hS0 hm (k := 22) rfl
  have g17 : s1 m 23 = s0 m 23 := (by rw [(zFr_g hF_s1 hm (by decide))])
  have f18 := zf hS0 hm (k := 23) rfl
  have g19 : s1 m 24 = s0 m 24 := (by rw [(zFr_g hF_s1 hm (by decide))])
  have f20 := zf hS0 hm (k := 24) rfl
  have g21 : s1 m 38 = s0 m 38 := (by rw [(zFr_g hF_s1 hm (by decide))])
  have f22 := zf hS0 hm (k := 38) rfl
  refine j_callV hx hG (c_X12_lot hst m ((ys (i + 1).toNat)) ((ys (i + 2).toNat)) ((ys (i + 3).toNat))) lk_RL_222 hm (by decide) rfl rfl rfl rfl [.int (zI ((ys (i + 1).toNat))), .int (zI ((ys (i + 2).toNat))), .int (zI ((ys (i + 3).toNat)))] ⟨rfl, hG, hS_s1, hm, (by omega), (by omega), (by omega), ((by have q1 : s1 (gP G m 34) = s0 (gP G m 34) := (by rw [hF_s1 (gP G m 34) (by rw [(zr (k := 34) (t2 := 91) hG hm rfl)]; decide)]); have q2 : s1 (gP G m 35) = s0 (gP G m 35) := (by rw [hF_s1 (gP G m 35) (by rw [(zr (k := 35) (t2 := 92) hG hm rfl)]; decide)]); have q3 : s1 (gP G m 37) = s0 (gP G m 37) := (by rw [hF_s1 (gP G m 37) (by rw [(zr (k := 37) (t2 := 94) hG hm rfl)]; decide)]); rw [q1, q2, q3]; exact hI5)), (by omega), (by omega)⟩ rfl rfl ⟨by decide, by decide⟩ ⟨(by show k + 2 + 0 ≤ 601024; omega), (by show n + 12 + 0 ≤ 7293034; omega)⟩ (k2 := k + 2) (n2 := n + 12) rfl rfl (Nat.le_of_ble_eq_true rfl) dL_law__1432 (kIM (fun v23 s2 hS_s2 hF_s2 q24 => ?_))
  refine j_istore hx [(6, .int (zI v23)), (5, .int (zI v1)), (4, .int (zI i)), (3, .ref o), (2, .ref m), (1, .ref a), (0, .ref b)] dL_law__1435 (by decide) rfl ?_
  refine j_goto hx 1713 dL_law__1437 rfl ?_
  have g25 : zc (s2 (gP G m 28)) = zc (s0 (gP G m 28)) := by rw [hF_s2 (gP G m 28) (by rw [(zr (k := 28) (t2 := 85) hG hm rfl)]; decide), hF_s1 (gP G m 28) (by rw [(zr (k := 28) (t2 := 85) hG hm rfl)]; decide)]
  have g26 : s2 (gP G m 28) 488 = s0 (gP G m 28) 488 := (by rw [(zFr_g hF_s2 (zr (k := 28) (t2 := 85) hG hm rfl) (by decide)), (zFr_g hF_s1 (zr (k := 28) (t2 := 85) hG hm rfl) (by decide))])
  have f27 := zf hS_s2 hm (k := 24) rfl
  have g28 : s2 (gP G m 57) 488 = s0 (gP G m 57) 488 := (by rw [(zFr_g hF_s2 (zr (k := 57) (t2 := 106) hG hm rfl) (by decide)), (zFr_g hF_s1 (zr (k := 57) (t2 := 106) hG hm rfl) (by decide))])
  have g29 : s2 (gP G m 57) 13709 = s0 (gP G m 57) 13709 := (by rw [(zFr_g hF_s2 (zr (k := 57) (t2 := 106) hG hm rfl) (by decide)), (zFr_g hF_s1 (zr (k := 57) (t2 := 106) hG hm rfl) (by decide))])
  have g30 : s2 (gP G m 57) 26930 = s0 (gP G m 57) 26930 := (by rw [(zFr_g hF_s2 (zr (k := 57) (t2 := 106) hG hm rfl) (by decide)), (zFr_g hF_s1 (zr (k := 57) (t2 := 106) hG hm rfl) (by decide))])
  exact j_wid (k2 := k + 8) (n2 := n + 400) (by omega) (by omega) (j_sub [2, 3, 4, 5, 6] [(4, .int (zI i)), (3, .ref o), (2, .ref m), (1, .ref a), (0, .ref b)] rfl (kk G s2 hG hS_s2 ⟨(by omega), (by omega), (by omega), (by omega), (by have q1 : s2 (gP G m 34) = s0 (gP G m 34) := (by rw [hF_s2 (gP G m 34) (by rw [(zr (k := 34) (t2 := 91) hG hm rfl)]; decide), hF_s1 (gP G m 34) (by rw [(zr (k := 34) (t2 := 91) hG hm rfl)]; decide)]); have q2 : s2 (gP G m 35) = s0 (gP G m 35) := (by rw [hF_s2 (gP G m 35) (by rw [(zr (k := 35) (t2 := 92) hG hm rfl)]; decide), hF_s1 (gP G m 35) (by rw [(zr (k := 35) (t2 := 92) hG hm rfl)]; decide)]); have q3 : s2 (gP G m 37) = s0 (gP G m 37) := (by rw [hF_s2 (gP G m 37) (by rw [(zr (k := 37) (t2 := 94) hG hm rfl)]; decide), hF_s1 (gP G m 37) (by rw [(zr (k := 37) (t2 := 94) hG hm rfl)]; decide)]); rw [q1, q2, q3]; exact hI5), (by have q1 : s2 (gP G m 17) = s0 (gP G m 17) := (by rw [hF_s2 (gP G m 17) (by rw [(zr (k := 17) (t2 := 80) hG hm rfl)]; decide), hF_s1 (gP G m 17) (by rw [(zr (k := 17) (t2 := 80) hG hm rfl)]; decide)]); rw [q1]; exact (zQn_nn hI6 (by omega))), (by have q1 : s2 (gP G m 55) = s0 (gP G m 55) := (by rw [hF_s2 (gP G m 55) (by rw [(zr (k := 55) (t2 := 104) hG hm rfl)]; decide), hF_s1 (gP G m 55) (by rw [(zr (k := 55) (t2 := 104) hG hm rfl)]; decide)]); rw [q1]; exact hI7), (by have q1 : s2 (gP G m 57) = s0 (gP G m 57) := (by rw [hF_s2 (gP G m 57) (by rw [(zr (k := 57) (t2 := 106) hG hm rfl)]; decide), hF_s1 (gP G m 57) (by rw [(zr (k := 57) (t2 := 106) hG hm rfl)]; decide)]); rw [q1]; exact hI8), (by omega), (by omega), (by omega)⟩ ha hm ho))

theorem lk_RL_223 : LkSH RL 223 yL_film cL_film 8 (some .int) [(0, 16, 19, 13)] 7 := ⟨km_RL_223, kst_yL_film, kn_RL, kc_yL_film, by decide +kernel, by decide +kernel, by decide +kernel⟩
theorem lk_RL_226 : LkV RL 226 RX12 yX12_film cX12_film 10 (some .int) 5 := ⟨km_RL_226, ki_yX12_film, ks_RX12_yX12_film, kn_RX12, kc_yX12_film, rfl, by decide +kernel, by decide +kernel, by decide +kernel⟩
theorem lk_RL_227 : LkV RL 227 RX12 yX12_thrown cX12_thrown 1 (some .int) 0 := ⟨km_RL_227, ki_yX12_thrown, ks_RX12_yX12_thrown, kn_RX12, kc_yX12_thrown, rfl, by decide +kernel, by decide +kernel, by decide +kernel⟩
set_option maxHeartbeats 4000000 in
set_option maxRecDepth 20000 in
theorem w_33 {X : zX} {E : zE} {G : zG} {s0 : zS} {b a m o L0 k n : Nat} {ys : Nat → Int} {i T : Int} (hL : LX X E b) (hG : zGK G) (hS0 : zSK G s0) (hI : zInv G s0 m T) (hT0 : 0 ≤ T) (hT : T ≤ 519000) (ha : gT G a = 12) (hm : gT G m = 13) (ho : gT G o = 120) (hs : ZS X E b L0 ys) (hy : ∀ j, -2147483648 ≤ ys j ∧ ys j ≤ 2147483647) (hi0 : 0 ≤ i) (hi : i + 6 ≤ L0) (hL0 : L0 ≤ 3072) (hk : k + 8 ≤ 601024) (hn : n + 400 ≤ 7293034) (kk : ∀ G2 s2, zGK G2 → zSK G2 s2 → zInv G2 s2 m (T + 1000) → gT G2 a = 12 → gT G2 m = 13 → gT G2 o = 120 → JJ X E 8 G2 s2 (k + 8) (n + 400) [(4, .int (zI i)), (3, .ref o), (2, .ref m), (1, .ref a), (0, .ref b)] 1713 []) : JJ X E 8 G s0 k n [(4, .int (zI i)), (3, .ref o), (2, .ref m), (1, .ref a), (0, .ref b)] 1440 [] := by
  have hx := hL.1
  have hst := hx.2.2.2.2.2.2.2.2.2.2.2
  have hI0 := hI
  obtain ⟨hI1, hI2, hI3, hI4, hI5, hI6, hI7, hI8, hI9, hI10, hI11⟩ := hI
  have hy0 := hy (i).toNat
  have hy1 := hy (i + 1).toNat
  have hy2 := hy (i + 2).toNat
  have hy3 := hy (i + 3).toNat
  have hy4 := hy (i + 4).toNat
  have hy5 := hy (i + 5).toNat
  refine j_aload_n hx 3 dL_law__1440 rfl ?_
  refine j_aload_n hx 4 dL_law__1441 rfl ?_
  refine j_iload hx 0 dL_law__1442 rfl ?_
  refine j_iconst hx dL_law__1444 ?_
  refine j_iadd hx (r := i + 1) dL_law__1445 rfl ?_
  refine j_sld hx hs (j := (i + 1).toNat) (by omega) (by omega) (by omega) dL_law__1446 ?_
  refine j_aload_n hx 4 dL_law__1447 rfl ?_
  refine j_iload hx 0 dL_law__1448 rfl ?_
  refine j_iconst hx dL_law__1450 ?_
  refine j_iadd hx (r := i + 2) dL_law__1451 rfl ?_
  refine j_sld hx hs (j := (i + 2).toNat) (by omega) (by omega) (by omega) dL_law__1452 ?_
  refine j_aload_n hx 4 dL_law__1453 rfl ?_
  refine j_iload hx 0 dL_law__1454 rfl ?_
  refine j_iconst hx dL_law__1456 ?_
  refine j_iadd hx (r := i + 3) dL_law__1457 rfl ?_
  refine j_sld hx hs (j := (i + 3).toNat) (by omega) (by omega) (by omega) dL_law__1458 ?_
  refine j_aload_n hx 4 dL_law__1459 rfl ?_
  refine j_iload hx 0 dL_law__1460 rfl ?_
  refine j_iconst hx dL_law__1462 ?_
  refine j_iadd hx (r := i + 4) dL_law__1463 rfl ?_
  refine j_sld hx hs (j := (i + 4).toNat) (by omega) (by omega) (by omega) dL_law__1464 ?_
  refine j_aload_n hx 4 dL_law__1465 rfl ?_
  refine j_iload hx 0 dL_law__1466 rfl ?_
  refine j_iconst hx dL_law__1468 ?_
  refine j_iadd hx (r := i + 5) dL_law__1469 rfl ?_
  refine j_sld hx hs (j := (i + 5).toNat) (by omega) (by omega) (by omega) dL_law__1470 ?_
  refine j_aload_n hx 1 dL_law__1471 rfl ?_
  refine j_callSH hx (c_L_film hst a ((ys (i + 1).toNat)) ((ys (i + 2).toNat)) ((ys (i + 3).toNat)) ((ys (i + 4).toNat)) ((ys (i + 5).toNat)) o) lk_RL_223 [.ref a, .int (zI ((ys (i + 1).toNat))), .int (zI ((ys (i + 2).toNat))), .int (zI ((ys (i + 3).toNat))), .int (zI ((ys (i + 4).toNat))), .int (zI ((ys (i + 5).toNat))), .ref o] ⟨rfl, hG, hS0, ha, (by omega), (by omega), (by omega), (by omega), (by omega), ho⟩ rfl rfl ⟨by decide, by decide⟩ ⟨(by show k + 5 ≤ 601024; omega), (by show n + 30 ≤ 7293034; omega)⟩ (k2 := k + 5) (n2 := n + 30) rfl rfl (Nat.le_of_ble_eq_true rfl) dL_law__1472 (kIM2 (fun v1 s1 hS_s1 hF_s1 q2 => ?_))
  refine j_istore hx [(5, .int (zI v1)), (4, .int (zI i)), (3, .ref o), (2, .ref m), (1, .ref a), (0, .ref b)] dL_law__1475 (by decide) rfl ?_
  refine j_aload_n hx 3 dL_law__1477 rfl ?_
  refine j_aload_n hx 5 dL_law__1478 rfl ?_
  refine j_iload hx 1 dL_law__1479 rfl ?_
  refine j_iconst hx dL_law__1481 ?_
  refine j_iadd hx (r := i + 1) dL_law__1482 rfl ?_
  refine j_sld hx hs (j := (i + 1).toNat) (by omega) (by omega) (by omega) dL_law__1483 ?_
  refine j_aload_n hx 5 dL_law__1484 rfl ?_
  refine j_iload hx 1 dL_law__1485 rfl ?_
  refine j_iconst hx dL_law__1487 ?_
  refine j_iadd hx (r := i + 2) dL_law__1488 rfl ?_
  refine j_sld hx hs (j := (i + 2).toNat) (by omega) (by omega) (by omega) dL_law__1489 ?_
  refine j_aload_n hx 5 dL_law__1490 rfl ?_
  refine j_iload hx 1 dL_law__1491 rfl ?_
  refine j_iconst hx dL_law__1493 ?_
  refine j_iadd hx (r := i + 3) dL_law__1494 rfl ?_
  refine j_sld hx hs (j := (i + 3).toNat) (by omega) (by omega) (by omega) dL_law__1495 ?_
  refine j_aload_n hx 5 dL_law__1496 rfl ?_
  refine j_iload hx 1 dL_law__1497 rfl ?_
  refine j_iconst hx dL_law__1499 ?_
  refine j_iadd hx (r := i + 4) dL_law__1500 rfl ?_
  refine j_sld hx hs (j := (i + 4).toNat) (by omega) (by omega) (by omega) dL_law__1501 ?_
  refine j_aload_n hx 5 dL_law__1502 rfl ?_
  refine j_iload hx 1 dL_law__1503 rfl ?_
  refine j_iconst hx dL_law__1505 ?_
  refine j_iadd hx (r := i + 5) dL_law__1506 rfl ?_
  refine j_sld hx hs (j := (i + 5).toNat) (by omega) (by omega) (by omega) dL_law__1507 ?_
  have g3 : s1 m 3 = s0 m 3 := (by rw [(zFr_g hF_s1 hm (by decide))])
  have f4 := zf hS0 hm (k := 3) rfl
  have g5 : s1 m 4 = s0 m 4 := (by rw [(zFr_g hF_s1 hm (by decide))])
  have f6 := zf hS0 hm (k := 4) rfl
  have g7 : s1 m 5 = s0 m 5 := (by rw [(zFr_g hF_s1 hm (by decide))])
  have f8 := zf hS0 hm (k := 5) rfl
  have g9 : s1 m 7 = s0 m 7 := (by rw [(zFr_g hF_s1 hm (by decide))])
  have f10 := zf hS0 hm (k := 7) rfl
  have g11 : s1 m 21 = s0 m 21 := (by rw [(zFr_g hF_s1 hm (by decide))])
  have f12 := zf hS0 hm (k := 21) rfl
  have g13 : s1 m 22 = s0 m 22 := (by rw [(zFr_g hF_s1 hm (by decide))])
  have f14 := zf hS0 hm (k := 22) rfl
  have g15 : s1 m 23 = s0 m 23 := (by rw [(zFr_g hF_s1 hm (by decide))])
  have f16 := zf hS0 hm (k := 23) rfl
  have g17 : s1 m 24 = s0 m 24 := (by rw [(zFr_g hF_s1 hm (by decide))])
  have f18 := zf hS0 hm (k := 24) rfl
  have g19 : s1 m 38 = s0 m 38 := (by rw [(zFr_g hF_s1 hm (by decide))])
  have f20 := zf hS0 hm (k := 38) rfl
  have g21 : s1 m 51 = s0 m 51 := (by rw [(zFr_g hF_s1 hm (by decide))])
  have f22 := zf hS0 hm (k := 51) rfl
  have g23 : s1 m 52 = s0 m 52 := (by rw [(zFr_g hF_s1 hm (by decide))])
  have f24 := zf hS0 hm (k := 52) rfl
  refine j_callV hx hG (c_X12_film_x hst m ((ys (i + 1).toNat)) ((ys (i + 2).toNat)) ((ys (i + 3).toNat)) ((ys (i + 4).toNat)) ((ys (i + 5).toNat))) lk_RL_226 hm (by decide) rfl rfl rfl rfl [.int (zI ((ys (i + 1).toNat))), .int (zI ((ys (i + 2).toNat))), .int (zI ((ys (i + 3).toNat))), .int (zI ((ys (i + 4).toNat))), .int (zI ((ys (i + 5).toNat)))] ⟨rfl, hG, hS_s1, hm, (by omega), (by omega), (by omega), (by omega), (by omega)⟩ rfl rfl ⟨by decide, by decide⟩ ⟨(by show k + 5 + 0 ≤ 601024; omega), (by show n + 30 + 0 ≤ 7293034; omega)⟩ (k2 := k + 5) (n2 := n + 30) rfl rfl (Nat.le_of_ble_eq_true rfl) dL_law__1508 (kIM (fun v25 s2 hS_s2 hF_s2 q26 => ?_))
  refine j_istore hx [(6, .int (zI v25)), (5, .int (zI v1)), (4, .int (zI i)), (3, .ref o), (2, .ref m), (1, .ref a), (0, .ref b)] dL_law__1511 (by decide) rfl ?_
  refine j_aload_n hx 4 dL_law__1513 rfl ?_
  refine j_callV hx hG (c_X12_thrown hst m) lk_RL_227 hm (by decide) rfl rfl rfl rfl [] ⟨rfl, hG, hS_s2, hm⟩ rfl rfl ⟨by decide, by decide⟩ ⟨(by show k + 5 + 0 ≤ 601024; omega), (by show n + 30 + 0 ≤ 7293034; omega)⟩ (k2 := k + 5) (n2 := n + 30) rfl rfl (Nat.le_of_ble_eq_true rfl) dL_law__1514 (kIP (fun v27 q28 => ?_))
  refine j_iload hx 1 dL_law__1517 rfl ?_
  refine j_icmp_eq hx 1524 dL_law__1519 rfl (by omega) (by omega) (fun h29 => ?_) (fun h29 => ?_)
  · skip
    refine j_iload hx 1 dL_law__1524 rfl ?_
    refine j_if_ne hx 1541 dL_law__1526 rfl (by omega) (fun h30 => ?_) (fun h30 => ?_)
    · skip
      refine j_goto hx 1713 dL_law__1541 rfl ?_
      have f31 := zf hS_s2 hm (k := 24) rfl
      exact j_wid (k2 := k + 8) (n2 := n + 400) (by omega) (by omega) (j_sub [2, 3, 4, 5, 6] [(4, .int (zI i)), (3, .ref o), (2, .ref m), (1, .ref a), (0, .ref b)] rfl (kk G s2 hG hS_s2 (zInv_fr (ts := [12, 13, 71, 120]) hI0 (by omega) hG hm (zFr_t (zFr_t zFr_rf hF_s1 (by decide)) hF_s2 (by decide)) (by decide) (by omega)) ha hm ho))
    · skip
      refine j_aload_n hx 3 dL_law__1529 rfl ?_
      refine j_iconst hx dL_law__1530 ?_
      have f32 := zaI (j := 0) hS_s1 ho rfl (zlen hG ho (n := 1) rfl rfl) (show 0 ≤ 0 by omega) (by omega) rfl
      refine j_lald hx hG ho (by decide) rfl (zlen hG ho (n := 1) rfl rfl) (by omega) (by omega) (j := 0) rfl (v := (s1 o 0)) (by rw [(zFr_g hF_s2 ho (by decide))]) dL_law__1531 ?_
      refine j_iload hx 0 dL_law__1532 rfl ?_
      refine j_i2l hx dL_law__1534 (by omega) ?_
      refine j_lcmp hx dL_law__1535 (by omega) (by omega) (fun v33 f34 f35 f36 => ?_)
      have f37 : -1 ≤ v33 ∧ v33 ≤ 1 := by omega
      refine j_if_eq hx 1541 dL_law__1536 rfl (by omega) (fun h38 => ?_) (fun h38 => ?_)
      · skip
        refine j_goto hx 1713 dL_law__1541 rfl ?_
        have f39 := zf hS_s2 hm (k := 24) rfl
        exact j_wid (k2 := k + 8) (n2 := n + 400) (by omega) (by omega) (j_sub [2, 3, 4, 5, 6] [(4, .int (zI i)), (3, .ref o), (2, .ref m), (1, .ref a), (0, .ref b)] rfl (kk G s2 hG hS_s2 (zInv_fr (ts := [12, 13, 71, 120]) hI0 (by omega) hG hm (zFr_t (zFr_t zFr_rf hF_s1 (by decide)) hF_s2 (by decide)) (by decide) (by omega)) ha hm ho))
      · skip
        exfalso
        by_cases hc : 0 ≤ (ys (i + 1).toNat) ∧ (ys (i + 1).toNat) ≤ (ys (i + 2).toNat) ∧ (ys (i + 2).toNat) ≤ 99 ∧ 0 ≤ (ys (i + 3).toNat) ∧ (ys (i + 3).toNat) ≤ (ys (i + 4).toNat) ∧ (ys (i + 4).toNat) ≤ 99 ∧ 0 ≤ (ys (i + 5).toNat) ∧ (ys (i + 5).toNat) ≤ 2
        · have h9 : (ys (i + 5).toNat) = 0 ∨ (ys (i + 5).toNat) = 1 ∨ (ys (i + 5).toNat) = 2 := by have h8 := hc.2.2.2.2.2.2; clear hc q2 q26; omega
          obtain ⟨w0, w1, w2, w3, w4, w5⟩ := q2.2.1 hc
          obtain ⟨m2, m3, m4, m5⟩ := q26.2.1.1 hc
          rcases h9 with h5 | h5 | h5
          · have u1 := w3 h5; have u2 := m3 h5; clear w3 w4 w5 m3 m4 m5 hc q2 q26; omega
          · have u1 := w4 h5; have u2 := m4 h5; clear w3 w4 w5 m3 m4 m5 hc q2 q26; omega
          · have u1 := w5 h5; have u2 := m5 h5; clear w3 w4 w5 m3 m4 m5 hc q2 q26; omega
        · have w0 := q2.2.2 hc
          have m0 := q26.2.1.2 hc
          clear hc q2 q26
          omega
  · skip
    exfalso
    by_cases hc : 0 ≤ (ys (i + 1).toNat) ∧ (ys (i + 1).toNat) ≤ (ys (i + 2).toNat) ∧ (ys (i + 2).toNat) ≤ 99 ∧ 0 ≤ (ys (i + 3).toNat) ∧ (ys (i + 3).toNat) ≤ (ys (i + 4).toNat) ∧ (ys (i + 4).toNat) ≤ 99 ∧ 0 ≤ (ys (i + 5).toNat) ∧ (ys (i + 5).toNat) ≤ 2
    · have h9 : (ys (i + 5).toNat) = 0 ∨ (ys (i + 5).toNat) = 1 ∨ (ys (i + 5).toNat) = 2 := by have h8 := hc.2.2.2.2.2.2; clear hc q2 q26; omega
      obtain ⟨w0, w1, w2, w3, w4, w5⟩ := q2.2.1 hc
      obtain ⟨m2, m3, m4, m5⟩ := q26.2.1.1 hc
      rcases h9 with h5 | h5 | h5
      · have u1 := w3 h5; have u2 := m3 h5; clear w3 w4 w5 m3 m4 m5 hc q2 q26; omega
      · have u1 := w4 h5; have u2 := m4 h5; clear w3 w4 w5 m3 m4 m5 hc q2 q26; omega
      · have u1 := w5 h5; have u2 := m5 h5; clear w3 w4 w5 m3 m4 m5 hc q2 q26; omega
    · have w0 := q2.2.2 hc
      have m0 := q26.2.1.2 hc
      clear hc q2 q26
      omega

theorem lk_RL_230 : LkSH RL 230 yL_laws cL_laws 5 (some .int) [(0, 10, 13, 13)] 4 := ⟨km_RL_230, kst_yL_laws, kn_RL, kc_yL_laws, by decide +kernel, by decide +kernel, by decide +kernel⟩
theorem lk_RL_232 : LkV RL 232 RX12 yX12_laws cX12_laws 3 (some .int) 2 := ⟨km_RL_232, ki_yX12_laws, ks_RX12_yX12_laws, kn_RX12, kc_yX12_laws, rfl, by decide +kernel, by decide +kernel, by decide +kernel⟩
set_option maxHeartbeats 4000000 in
set_option maxRecDepth 20000 in
theorem w_34 {X : zX} {E : zE} {G : zG} {s0 : zS} {b a m o L0 k n : Nat} {ys : Nat → Int} {i T : Int} (hL : LX X E b) (hG : zGK G) (hS0 : zSK G s0) (hI : zInv G s0 m T) (hT0 : 0 ≤ T) (hT : T ≤ 519000) (ha : gT G a = 12) (hm : gT G m = 13) (ho : gT G o = 120) (hs : ZS X E b L0 ys) (hy : ∀ j, -2147483648 ≤ ys j ∧ ys j ≤ 2147483647) (hi0 : 0 ≤ i) (hi : i + 6 ≤ L0) (hL0 : L0 ≤ 3072) (hk : k + 8 ≤ 601024) (hn : n + 400 ≤ 7293034) (kk : ∀ G2 s2, zGK G2 → zSK G2 s2 → zInv G2 s2 m (T + 1000) → gT G2 a = 12 → gT G2 m = 13 → gT G2 o = 120 → JJ X E 8 G2 s2 (k + 8) (n + 400) [(4, .int (zI i)), (3, .ref o), (2, .ref m), (1, .ref a), (0, .ref b)] 1713 []) : JJ X E 8 G s0 k n [(4, .int (zI i)), (3, .ref o), (2, .ref m), (1, .ref a), (0, .ref b)] 1544 [] := by
  have hx := hL.1
  have hst := hx.2.2.2.2.2.2.2.2.2.2.2
  have hI0 := hI
  obtain ⟨hI1, hI2, hI3, hI4, hI5, hI6, hI7, hI8, hI9, hI10, hI11⟩ := hI
  have hy0 := hy (i).toNat
  have hy1 := hy (i + 1).toNat
  have hy2 := hy (i + 2).toNat
  have hy3 := hy (i + 3).toNat
  have hy4 := hy (i + 4).toNat
  have hy5 := hy (i + 5).toNat
  refine j_aload_n hx 3 dL_law__1544 rfl ?_
  refine j_aload_n hx 4 dL_law__1545 rfl ?_
  refine j_iload hx 0 dL_law__1546 rfl ?_
  refine j_iconst hx dL_law__1548 ?_
  refine j_iadd hx (r := i + 1) dL_law__1549 rfl ?_
  refine j_sld hx hs (j := (i + 1).toNat) (by omega) (by omega) (by omega) dL_law__1550 ?_
  refine j_aload_n hx 4 dL_law__1551 rfl ?_
  refine j_iload hx 0 dL_law__1552 rfl ?_
  refine j_iconst hx dL_law__1554 ?_
  refine j_iadd hx (r := i + 2) dL_law__1555 rfl ?_
  refine j_sld hx hs (j := (i + 2).toNat) (by omega) (by omega) (by omega) dL_law__1556 ?_
  refine j_aload_n hx 1 dL_law__1557 rfl ?_
  refine j_callSH hx (c_L_laws hst a ((ys (i + 1).toNat)) ((ys (i + 2).toNat)) o) lk_RL_230 [.ref a, .int (zI ((ys (i + 1).toNat))), .int (zI ((ys (i + 2).toNat))), .ref o] ⟨rfl, hG, hS0, ha, (by omega), (by omega), ho⟩ rfl rfl ⟨by decide, by decide⟩ ⟨(by show k + 2 ≤ 601024; omega), (by show n + 12 ≤ 7293034; omega)⟩ (k2 := k + 2) (n2 := n + 12) rfl rfl (Nat.le_of_ble_eq_true rfl) dL_law__1558 (kIM2 (fun v1 s1 hS_s1 hF_s1 q2 => ?_))
  refine j_istore hx [(5, .int (zI v1)), (4, .int (zI i)), (3, .ref o), (2, .ref m), (1, .ref a), (0, .ref b)] dL_law__1561 (by decide) rfl ?_
  refine j_aload_n hx 3 dL_law__1563 rfl ?_
  refine j_aload_n hx 5 dL_law__1564 rfl ?_
  refine j_iload hx 1 dL_law__1565 rfl ?_
  refine j_iconst hx dL_law__1567 ?_
  refine j_iadd hx (r := i + 1) dL_law__1568 rfl ?_
  refine j_sld hx hs (j := (i + 1).toNat) (by omega) (by omega) (by omega) dL_law__1569 ?_
  refine j_aload_n hx 5 dL_law__1570 rfl ?_
  refine j_iload hx 1 dL_law__1571 rfl ?_
  refine j_iconst hx dL_law__1573 ?_
  refine j_iadd hx (r := i + 2) dL_law__1574 rfl ?_
  refine j_sld hx hs (j := (i + 2).toNat) (by omega) (by omega) (by omega) dL_law__1575 ?_
  have g3 : zc (s1 (gP G m 27)) = zc (s0 (gP G m 27)) := by rw [hF_s1 (gP G m 27) (by rw [(zr (k := 27) (t2 := 84) hG hm rfl)]; decide)]
  have g4 : s1 (gP G m 27) 488 = s0 (gP G m 27) 488 := (by rw [(zFr_g hF_s1 (zr (k := 27) (t2 := 84) hG hm rfl) (by decide))])
  have g5 : s1 m 3 = s0 m 3 := (by rw [(zFr_g hF_s1 hm (by decide))])
  have f6 := zf hS0 hm (k := 3) rfl
  have g7 : s1 m 4 = s0 m 4 := (by rw [(zFr_g hF_s1 hm (by decide))])
  have f8 := zf hS0 hm (k := 4) rfl
  have g9 : s1 m 5 = s0 m 5 := (by rw [(zFr_g hF_s1 hm (by decide))])
  have f10 := zf hS0 hm (k := 5) rfl
  have g11 : s1 m 7 = s0 m 7 := (by rw [(zFr_g hF_s1 hm (by decide))])
  have f12 := zf hS0 hm (k := 7) rfl
  have g13 : s1 m 21 = s0 m 21 := (by rw [(zFr_g hF_s1 hm (by decide))])
  have f14 := zf hS0 hm (k := 21) rfl
  have g15 : s1 m 22 = s0 m 22 := (by rw [(zFr_g hF_s1 hm (by decide))])
  have f16 := zf hS0 hm (k := 22) rfl
  have g17 : s1 m 23 = s0 m 23 := (by rw [(zFr_g hF_s1 hm (by decide))])
  have f18 := zf hS0 hm (k := 23) rfl
  have g19 : s1 m 24 = s0 m 24 := (by rw [(zFr_g hF_s1 hm (by decide))])
  have f20 := zf hS0 hm (k := 24) rfl
  have g21 : s1 m 38 = s0 m 38 := (by rw [(zFr_g hF_s1 hm (by decide))])
  have f22 := zf hS0 hm (k := 38) rfl
  refine j_callV hx hG (c_X12_laws hst m ((ys (i + 1).toNat)) ((ys (i + 2).toNat))) lk_RL_232 hm (by decide) rfl rfl rfl rfl [.int (zI ((ys (i + 1).toNat))), .int (zI ((ys (i + 2).toNat)))] ⟨rfl, hG, hS_s1, hm, (by omega), (by omega), ((by have q1 : s1 (gP G m 34) = s0 (gP G m 34) := (by rw [hF_s1 (gP G m 34) (by rw [(zr (k := 34) (t2 := 91) hG hm rfl)]; decide)]); have q2 : s1 (gP G m 35) = s0 (gP G m 35) := (by rw [hF_s1 (gP G m 35) (by rw [(zr (k := 35) (t2 := 92) hG hm rfl)]; decide)]); have q3 : s1 (gP G m 37) = s0 (gP G m 37) := (by rw [hF_s1 (gP G m 37) (by rw [(zr (k := 37) (t2 := 94) hG hm rfl)]; decide)]); rw [q1, q2, q3]; exact hI5)), (by omega), (by omega)⟩ rfl rfl ⟨by decide, by decide⟩ ⟨(by show k + 2 + 0 ≤ 601024; omega), (by show n + 12 + 0 ≤ 7293034; omega)⟩ (k2 := k + 2) (n2 := n + 12) rfl rfl (Nat.le_of_ble_eq_true rfl) dL_law__1576 (kIM (fun v23 s2 hS_s2 hF_s2 q24 => ?_))
  refine j_istore hx [(6, .int (zI v23)), (5, .int (zI v1)), (4, .int (zI i)), (3, .ref o), (2, .ref m), (1, .ref a), (0, .ref b)] dL_law__1579 (by decide) rfl ?_
  refine j_goto hx 1713 dL_law__1581 rfl ?_
  have g25 : zc (s2 (gP G m 28)) = zc (s0 (gP G m 28)) := by rw [hF_s2 (gP G m 28) (by rw [(zr (k := 28) (t2 := 85) hG hm rfl)]; decide), hF_s1 (gP G m 28) (by rw [(zr (k := 28) (t2 := 85) hG hm rfl)]; decide)]
  have g26 : s2 (gP G m 28) 488 = s0 (gP G m 28) 488 := (by rw [(zFr_g hF_s2 (zr (k := 28) (t2 := 85) hG hm rfl) (by decide)), (zFr_g hF_s1 (zr (k := 28) (t2 := 85) hG hm rfl) (by decide))])
  have f27 := zf hS_s2 hm (k := 24) rfl
  have g28 : s2 (gP G m 57) 488 = s0 (gP G m 57) 488 := (by rw [(zFr_g hF_s2 (zr (k := 57) (t2 := 106) hG hm rfl) (by decide)), (zFr_g hF_s1 (zr (k := 57) (t2 := 106) hG hm rfl) (by decide))])
  have g29 : s2 (gP G m 57) 13709 = s0 (gP G m 57) 13709 := (by rw [(zFr_g hF_s2 (zr (k := 57) (t2 := 106) hG hm rfl) (by decide)), (zFr_g hF_s1 (zr (k := 57) (t2 := 106) hG hm rfl) (by decide))])
  have g30 : s2 (gP G m 57) 26930 = s0 (gP G m 57) 26930 := (by rw [(zFr_g hF_s2 (zr (k := 57) (t2 := 106) hG hm rfl) (by decide)), (zFr_g hF_s1 (zr (k := 57) (t2 := 106) hG hm rfl) (by decide))])
  exact j_wid (k2 := k + 8) (n2 := n + 400) (by omega) (by omega) (j_sub [2, 3, 4, 5, 6] [(4, .int (zI i)), (3, .ref o), (2, .ref m), (1, .ref a), (0, .ref b)] rfl (kk G s2 hG hS_s2 ⟨(by omega), (by omega), (by omega), (by omega), (by have q1 : s2 (gP G m 34) = s0 (gP G m 34) := (by rw [hF_s2 (gP G m 34) (by rw [(zr (k := 34) (t2 := 91) hG hm rfl)]; decide), hF_s1 (gP G m 34) (by rw [(zr (k := 34) (t2 := 91) hG hm rfl)]; decide)]); have q2 : s2 (gP G m 35) = s0 (gP G m 35) := (by rw [hF_s2 (gP G m 35) (by rw [(zr (k := 35) (t2 := 92) hG hm rfl)]; decide), hF_s1 (gP G m 35) (by rw [(zr (k := 35) (t2 := 92) hG hm rfl)]; decide)]); have q3 : s2 (gP G m 37) = s0 (gP G m 37) := (by rw [hF_s2 (gP G m 37) (by rw [(zr (k := 37) (t2 := 94) hG hm rfl)]; decide), hF_s1 (gP G m 37) (by rw [(zr (k := 37) (t2 := 94) hG hm rfl)]; decide)]); rw [q1, q2, q3]; exact hI5), (by have q1 : s2 (gP G m 17) = s0 (gP G m 17) := (by rw [hF_s2 (gP G m 17) (by rw [(zr (k := 17) (t2 := 80) hG hm rfl)]; decide), hF_s1 (gP G m 17) (by rw [(zr (k := 17) (t2 := 80) hG hm rfl)]; decide)]); rw [q1]; exact (zQn_nn hI6 (by omega))), (by have q1 : s2 (gP G m 55) = s0 (gP G m 55) := (by rw [hF_s2 (gP G m 55) (by rw [(zr (k := 55) (t2 := 104) hG hm rfl)]; decide), hF_s1 (gP G m 55) (by rw [(zr (k := 55) (t2 := 104) hG hm rfl)]; decide)]); rw [q1]; exact hI7), (by have q1 : s2 (gP G m 57) = s0 (gP G m 57) := (by rw [hF_s2 (gP G m 57) (by rw [(zr (k := 57) (t2 := 106) hG hm rfl)]; decide), hF_s1 (gP G m 57) (by rw [(zr (k := 57) (t2 := 106) hG hm rfl)]; decide)]); rw [q1]; exact hI8), (by omega), (by omega), (by omega)⟩ ha hm ho))

theorem lk_RL_233 : LkV RL 233 RX11 yX11_right cX11_right 3 (some .int) 0 := ⟨km_RL_233, ki_yX11_right, ks_RX11_yX11_right, kn_RX11, kc_yX11_right, rfl, by decide +kernel, by decide +kernel, by decide +kernel⟩
theorem lk_RL_236 : LkV RL 236 RX12 yX12_right cX12_right 2 (some .int) 0 := ⟨km_RL_236, ki_yX12_right, ks_RX12_yX12_right, kn_RX12, kc_yX12_right, rfl, by decide +kernel, by decide +kernel, by decide +kernel⟩
set_option maxHeartbeats 4000000 in
set_option maxRecDepth 20000 in
theorem w_35 {X : zX} {E : zE} {G : zG} {s0 : zS} {b a m o L0 k n : Nat} {ys : Nat → Int} {i T : Int} (hL : LX X E b) (hG : zGK G) (hS0 : zSK G s0) (hI : zInv G s0 m T) (hT0 : 0 ≤ T) (hT : T ≤ 519000) (ha : gT G a = 12) (hm : gT G m = 13) (ho : gT G o = 120) (hs : ZS X E b L0 ys) (hy : ∀ j, -2147483648 ≤ ys j ∧ ys j ≤ 2147483647) (hi0 : 0 ≤ i) (hi : i + 6 ≤ L0) (hL0 : L0 ≤ 3072) (hk : k + 8 ≤ 601024) (hn : n + 400 ≤ 7293034) (kk : ∀ G2 s2, zGK G2 → zSK G2 s2 → zInv G2 s2 m (T + 1000) → gT G2 a = 12 → gT G2 m = 13 → gT G2 o = 120 → JJ X E 8 G2 s2 (k + 8) (n + 400) [(4, .int (zI i)), (3, .ref o), (2, .ref m), (1, .ref a), (0, .ref b)] 1713 []) : JJ X E 8 G s0 k n [(4, .int (zI i)), (3, .ref o), (2, .ref m), (1, .ref a), (0, .ref b)] 1584 [] := by
  have hx := hL.1
  have hst := hx.2.2.2.2.2.2.2.2.2.2.2
  have hI0 := hI
  obtain ⟨hI1, hI2, hI3, hI4, hI5, hI6, hI7, hI8, hI9, hI10, hI11⟩ := hI
  have hy0 := hy (i).toNat
  have hy1 := hy (i + 1).toNat
  have hy2 := hy (i + 2).toNat
  have hy3 := hy (i + 3).toNat
  have hy4 := hy (i + 4).toNat
  have hy5 := hy (i + 5).toNat
  refine j_aload_n hx 3 dL_law__1584 rfl ?_
  refine j_callV hx hG (c_X11_right hst a) lk_RL_233 ha (by decide) rfl rfl rfl rfl [] ⟨rfl, hG, hS0, ha⟩ rfl rfl ⟨by decide, by decide⟩ ⟨(by show k + 0 ≤ 601024; omega), (by show n + 0 ≤ 7293034; omega)⟩ (k2 := k) (n2 := n) rfl rfl (Nat.le_of_ble_eq_true rfl) dL_law__1585 (kIP (fun v1 q2 => ?_))
  refine j_pop hx dL_law__1588 rfl ?_
  refine j_aload_n hx 2 dL_law__1589 rfl ?_
  have f3 := zf hS0 hm (k := 3) rfl
  have f4 := zf hS0 hm (k := 4) rfl
  have f5 := zf hS0 hm (k := 5) rfl
  have f6 := zf hS0 hm (k := 7) rfl
  have f7 := zf hS0 hm (k := 21) rfl
  have f8 := zf hS0 hm (k := 22) rfl
  have f9 := zf hS0 hm (k := 23) rfl
  have f10 := zf hS0 hm (k := 24) rfl
  have f11 := zf hS0 hm (k := 38) rfl
  have f12 := zf hS0 hm (k := 51) rfl
  have f13 := zf hS0 hm (k := 52) rfl
  refine j_callV hx hG (c_X12_right hst m) lk_RL_236 hm (by decide) rfl rfl rfl rfl [] ⟨rfl, hG, hS0, hm⟩ rfl rfl ⟨by decide, by decide⟩ ⟨(by show k + 0 ≤ 601024; omega), (by show n + 0 ≤ 7293034; omega)⟩ (k2 := k) (n2 := n) rfl rfl (Nat.le_of_ble_eq_true rfl) dL_law__1590 (kIM (fun v14 s1 hS_s1 hF_s1 q15 => ?_))
  refine j_pop hx dL_law__1593 rfl ?_
  refine j_goto hx 1713 dL_law__1594 rfl ?_
  have f16 := zf hS_s1 hm (k := 24) rfl
  exact j_wid (k2 := k + 8) (n2 := n + 400) (by omega) (by omega) (j_sub [0, 1, 2, 3, 4] [(4, .int (zI i)), (3, .ref o), (2, .ref m), (1, .ref a), (0, .ref b)] rfl (kk G s1 hG hS_s1 (zInv_fr (ts := [13]) hI0 (by omega) hG hm (zFr_t zFr_rf hF_s1 (by decide)) (by decide) (by omega)) ha hm ho))

theorem lk_RL_237 : LkSH RL 237 yL_entry cL_entry 5 (some .int) [(0, 10, 13, 13)] 4 := ⟨km_RL_237, kst_yL_entry, kn_RL, kc_yL_entry, by decide +kernel, by decide +kernel, by decide +kernel⟩
theorem lk_RL_239 : LkV RL 239 RX12 yX12_entry cX12_entry 3 (some .int) 2 := ⟨km_RL_239, ki_yX12_entry, ks_RX12_yX12_entry, kn_RX12, kc_yX12_entry, rfl, by decide +kernel, by decide +kernel, by decide +kernel⟩
set_option maxHeartbeats 4000000 in
set_option maxRecDepth 20000 in
theorem w_36 {X : zX} {E : zE} {G : zG} {s0 : zS} {b a m o L0 k n : Nat} {ys : Nat → Int} {i T : Int} (hL : LX X E b) (hG : zGK G) (hS0 : zSK G s0) (hI : zInv G s0 m T) (hT0 : 0 ≤ T) (hT : T ≤ 519000) (ha : gT G a = 12) (hm : gT G m = 13) (ho : gT G o = 120) (hs : ZS X E b L0 ys) (hy : ∀ j, -2147483648 ≤ ys j ∧ ys j ≤ 2147483647) (hi0 : 0 ≤ i) (hi : i + 6 ≤ L0) (hL0 : L0 ≤ 3072) (hk : k + 8 ≤ 601024) (hn : n + 400 ≤ 7293034) (kk : ∀ G2 s2, zGK G2 → zSK G2 s2 → zInv G2 s2 m (T + 1000) → gT G2 a = 12 → gT G2 m = 13 → gT G2 o = 120 → JJ X E 8 G2 s2 (k + 8) (n + 400) [(4, .int (zI i)), (3, .ref o), (2, .ref m), (1, .ref a), (0, .ref b)] 1713 []) : JJ X E 8 G s0 k n [(4, .int (zI i)), (3, .ref o), (2, .ref m), (1, .ref a), (0, .ref b)] 1597 [] := by
  have hx := hL.1
  have hst := hx.2.2.2.2.2.2.2.2.2.2.2
  have hI0 := hI
  obtain ⟨hI1, hI2, hI3, hI4, hI5, hI6, hI7, hI8, hI9, hI10, hI11⟩ := hI
  have hy0 := hy (i).toNat
  have hy1 := hy (i + 1).toNat
  have hy2 := hy (i + 2).toNat
  have hy3 := hy (i + 3).toNat
  have hy4 := hy (i + 4).toNat
  have hy5 := hy (i + 5).toNat
  refine j_aload_n hx 3 dL_law__1597 rfl ?_
  refine j_aload_n hx 4 dL_law__1598 rfl ?_
  refine j_iload hx 0 dL_law__1599 rfl ?_
  refine j_iconst hx dL_law__1601 ?_
  refine j_iadd hx (r := i + 1) dL_law__1602 rfl ?_
  refine j_sld hx hs (j := (i + 1).toNat) (by omega) (by omega) (by omega) dL_law__1603 ?_
  refine j_aload_n hx 4 dL_law__1604 rfl ?_
  refine j_iload hx 0 dL_law__1605 rfl ?_
  refine j_iconst hx dL_law__1607 ?_
  refine j_iadd hx (r := i + 2) dL_law__1608 rfl ?_
  refine j_sld hx hs (j := (i + 2).toNat) (by omega) (by omega) (by omega) dL_law__1609 ?_
  refine j_aload_n hx 1 dL_law__1610 rfl ?_
  refine j_callSH hx (c_L_entry hst a ((ys (i + 1).toNat)) ((ys (i + 2).toNat)) o) lk_RL_237 [.ref a, .int (zI ((ys (i + 1).toNat))), .int (zI ((ys (i + 2).toNat))), .ref o] ⟨rfl, hG, hS0, ha, (by omega), (by omega), ho⟩ rfl rfl ⟨by decide, by decide⟩ ⟨(by show k + 1 ≤ 601024; omega), (by show n + 6 ≤ 7293034; omega)⟩ (k2 := k + 1) (n2 := n + 6) rfl rfl (Nat.le_of_ble_eq_true rfl) dL_law__1611 (kIM2 (fun v1 s1 hS_s1 hF_s1 q2 => ?_))
  refine j_istore hx [(5, .int (zI v1)), (4, .int (zI i)), (3, .ref o), (2, .ref m), (1, .ref a), (0, .ref b)] dL_law__1614 (by decide) rfl ?_
  refine j_aload_n hx 3 dL_law__1616 rfl ?_
  refine j_aload_n hx 5 dL_law__1617 rfl ?_
  refine j_iload hx 1 dL_law__1618 rfl ?_
  refine j_iconst hx dL_law__1620 ?_
  refine j_iadd hx (r := i + 1) dL_law__1621 rfl ?_
  refine j_sld hx hs (j := (i + 1).toNat) (by omega) (by omega) (by omega) dL_law__1622 ?_
  refine j_aload_n hx 5 dL_law__1623 rfl ?_
  refine j_iload hx 1 dL_law__1624 rfl ?_
  refine j_iconst hx dL_law__1626 ?_
  refine j_iadd hx (r := i + 2) dL_law__1627 rfl ?_
  refine j_sld hx hs (j := (i + 2).toNat) (by omega) (by omega) (by omega) dL_law__1628 ?_
  have g3 : s1 m 3 = s0 m 3 := (by rw [(zFr_g hF_s1 hm (by decide))])
  have f4 := zf hS0 hm (k := 3) rfl
  have g5 : s1 m 4 = s0 m 4 := (by rw [(zFr_g hF_s1 hm (by decide))])
  have f6 := zf hS0 hm (k := 4) rfl
  have g7 : s1 m 5 = s0 m 5 := (by rw [(zFr_g hF_s1 hm (by decide))])
  have f8 := zf hS0 hm (k := 5) rfl
  have g9 : s1 m 7 = s0 m 7 := (by rw [(zFr_g hF_s1 hm (by decide))])
  have f10 := zf hS0 hm (k := 7) rfl
  have g11 : s1 m 21 = s0 m 21 := (by rw [(zFr_g hF_s1 hm (by decide))])
  have f12 := zf hS0 hm (k := 21) rfl
  have g13 : s1 m 22 = s0 m 22 := (by rw [(zFr_g hF_s1 hm (by decide))])
  have f14 := zf hS0 hm (k := 22) rfl
  have g15 : s1 m 23 = s0 m 23 := (by rw [(zFr_g hF_s1 hm (by decide))])
  have f16 := zf hS0 hm (k := 23) rfl
  have g17 : s1 m 24 = s0 m 24 := (by rw [(zFr_g hF_s1 hm (by decide))])
  have f18 := zf hS0 hm (k := 24) rfl
  have g19 : s1 m 38 = s0 m 38 := (by rw [(zFr_g hF_s1 hm (by decide))])
  have f20 := zf hS0 hm (k := 38) rfl
  have g21 : s1 m 51 = s0 m 51 := (by rw [(zFr_g hF_s1 hm (by decide))])
  have f22 := zf hS0 hm (k := 51) rfl
  have g23 : s1 m 52 = s0 m 52 := (by rw [(zFr_g hF_s1 hm (by decide))])
  have f24 := zf hS0 hm (k := 52) rfl
  refine j_callV hx hG (c_X12_entry hst m ((ys (i + 1).toNat)) ((ys (i + 2).toNat))) lk_RL_239 hm (by decide) rfl rfl rfl rfl [.int (zI ((ys (i + 1).toNat))), .int (zI ((ys (i + 2).toNat)))] ⟨rfl, hG, hS_s1, hm, (by omega), (by omega)⟩ rfl rfl ⟨by decide, by decide⟩ ⟨(by show k + 1 + 0 ≤ 601024; omega), (by show n + 6 + 0 ≤ 7293034; omega)⟩ (k2 := k + 1) (n2 := n + 6) rfl rfl (Nat.le_of_ble_eq_true rfl) dL_law__1629 (kIM (fun v25 s2 hS_s2 hF_s2 q26 => ?_))
  refine j_istore hx [(6, .int (zI v25)), (5, .int (zI v1)), (4, .int (zI i)), (3, .ref o), (2, .ref m), (1, .ref a), (0, .ref b)] dL_law__1632 (by decide) rfl ?_
  refine j_goto hx 1713 dL_law__1634 rfl ?_
  have f27 := zf hS_s2 hm (k := 24) rfl
  exact j_wid (k2 := k + 8) (n2 := n + 400) (by omega) (by omega) (j_sub [2, 3, 4, 5, 6] [(4, .int (zI i)), (3, .ref o), (2, .ref m), (1, .ref a), (0, .ref b)] rfl (kk G s2 hG hS_s2 (zInv_fr (ts := [12, 13, 71, 120]) hI0 (by omega) hG hm (zFr_t (zFr_t zFr_rf hF_s1 (by decide)) hF_s2 (by decide)) (by decide) (by omega)) ha hm ho))

theorem lk_RL_240 : LkV RL 240 RX11 yX11_image cX11_image 1 (some .int) 0 := ⟨km_RL_240, ki_yX11_image, ks_RX11_yX11_image, kn_RX11, kc_yX11_image, rfl, by decide +kernel, by decide +kernel, by decide +kernel⟩
theorem lk_RL_243 : LkV RL 243 RX12 yX12_image cX12_image 1 (some .int) 0 := ⟨km_RL_243, ki_yX12_image, ks_RX12_yX12_image, kn_RX12, kc_yX12_image, rfl, by decide +kernel, by decide +kernel, by decide +kernel⟩
set_option maxHeartbeats 4000000 in
set_option maxRecDepth 20000 in
theorem w_37 {X : zX} {E : zE} {G : zG} {s0 : zS} {b a m o L0 k n : Nat} {ys : Nat → Int} {i T : Int} (hL : LX X E b) (hG : zGK G) (hS0 : zSK G s0) (hI : zInv G s0 m T) (hT0 : 0 ≤ T) (hT : T ≤ 519000) (ha : gT G a = 12) (hm : gT G m = 13) (ho : gT G o = 120) (hs : ZS X E b L0 ys) (hy : ∀ j, -2147483648 ≤ ys j ∧ ys j ≤ 2147483647) (hi0 : 0 ≤ i) (hi : i + 6 ≤ L0) (hL0 : L0 ≤ 3072) (hk : k + 8 ≤ 601024) (hn : n + 400 ≤ 7293034) (kk : ∀ G2 s2, zGK G2 → zSK G2 s2 → zInv G2 s2 m (T + 1000) → gT G2 a = 12 → gT G2 m = 13 → gT G2 o = 120 → JJ X E 8 G2 s2 (k + 8) (n + 400) [(4, .int (zI i)), (3, .ref o), (2, .ref m), (1, .ref a), (0, .ref b)] 1713 []) : JJ X E 8 G s0 k n [(4, .int (zI i)), (3, .ref o), (2, .ref m), (1, .ref a), (0, .ref b)] 1637 [] := by
  have hx := hL.1
  have hst := hx.2.2.2.2.2.2.2.2.2.2.2
  have hI0 := hI
  obtain ⟨hI1, hI2, hI3, hI4, hI5, hI6, hI7, hI8, hI9, hI10, hI11⟩ := hI
  have hy0 := hy (i).toNat
  have hy1 := hy (i + 1).toNat
  have hy2 := hy (i + 2).toNat
  have hy3 := hy (i + 3).toNat
  have hy4 := hy (i + 4).toNat
  have hy5 := hy (i + 5).toNat
  refine j_aload_n hx 3 dL_law__1637 rfl ?_
  refine j_callV hx hG (c_X11_image hst a) lk_RL_240 ha (by decide) rfl rfl rfl rfl [] ⟨rfl, hG, hS0, ha⟩ rfl rfl ⟨by decide, by decide⟩ ⟨(by show k + 0 ≤ 601024; omega), (by show n + 0 ≤ 7293034; omega)⟩ (k2 := k) (n2 := n) rfl rfl (Nat.le_of_ble_eq_true rfl) dL_law__1638 (kIM (fun v1 s1 hS_s1 hF_s1 q2 => ?_))
  refine j_pop hx dL_law__1641 rfl ?_
  refine j_aload_n hx 2 dL_law__1642 rfl ?_
  have g3 : zc (s1 (gP G m 27)) = zc (s0 (gP G m 27)) := by rw [hF_s1 (gP G m 27) (by rw [(zr (k := 27) (t2 := 84) hG hm rfl)]; decide)]
  have g4 : s1 (gP G m 57) 488 = s0 (gP G m 57) 488 := (by rw [(zFr_g hF_s1 (zr (k := 57) (t2 := 106) hG hm rfl) (by decide))])
  have g5 : s1 (gP G m 27) 488 = s0 (gP G m 27) 488 := (by rw [(zFr_g hF_s1 (zr (k := 27) (t2 := 84) hG hm rfl) (by decide))])
  have g6 : s1 (gP G m 57) 13709 = s0 (gP G m 57) 13709 := (by rw [(zFr_g hF_s1 (zr (k := 57) (t2 := 106) hG hm rfl) (by decide))])
  have g7 : s1 (gP G m 57) 26930 = s0 (gP G m 57) 26930 := (by rw [(zFr_g hF_s1 (zr (k := 57) (t2 := 106) hG hm rfl) (by decide))])
  have g8 : s1 m 3 = s0 m 3 := (by rw [(zFr_g hF_s1 hm (by decide))])
  have f9 := zf hS0 hm (k := 3) rfl
  have g10 : s1 m 4 = s0 m 4 := (by rw [(zFr_g hF_s1 hm (by decide))])
  have f11 := zf hS0 hm (k := 4) rfl
  have g12 : s1 m 5 = s0 m 5 := (by rw [(zFr_g hF_s1 hm (by decide))])
  have f13 := zf hS0 hm (k := 5) rfl
  have g14 : s1 m 7 = s0 m 7 := (by rw [(zFr_g hF_s1 hm (by decide))])
  have f15 := zf hS0 hm (k := 7) rfl
  have g16 : s1 m 21 = s0 m 21 := (by rw [(zFr_g hF_s1 hm (by decide))])
  have f17 := zf hS0 hm (k := 21) rfl
  have g18 : s1 m 22 = s0 m 22 := (by rw [(zFr_g hF_s1 hm (by decide))])
  have f19 := zf hS0 hm (k := 22) rfl
  have g20 : s1 m 23 = s0 m 23 := (by rw [(zFr_g hF_s1 hm (by decide))])
  have f21 := zf hS0 hm (k := 23) rfl
  have g22 : s1 m 24 = s0 m 24 := (by rw [(zFr_g hF_s1 hm (by decide))])
  have f23 := zf hS0 hm (k := 24) rfl
  have g24 : s1 m 38 = s0 m 38 := (by rw [(zFr_g hF_s1 hm (by decide))])
  have f25 := zf hS0 hm (k := 38) rfl
  have g26 : s1 m 51 = s0 m 51 := (by rw [(zFr_g hF_s1 hm (by decide))])
  have f27 := zf hS0 hm (k := 51) rfl
  have g28 : s1 m 52 = s0 m 52 := (by rw [(zFr_g hF_s1 hm (by decide))])
  have f29 := zf hS0 hm (k := 52) rfl
  refine j_callV hx hG (c_X12_image hst m) lk_RL_243 hm (by decide) rfl rfl rfl rfl [] ⟨rfl, hG, hS_s1, hm, ((by have q1 : s1 (gP G m 57) = s0 (gP G m 57) := (by rw [hF_s1 (gP G m 57) (by rw [(zr (k := 57) (t2 := 106) hG hm rfl)]; decide)]); rw [q1]; exact hI8)), (by omega), ((by have q1 : s1 (gP G m 34) = s0 (gP G m 34) := (by rw [hF_s1 (gP G m 34) (by rw [(zr (k := 34) (t2 := 91) hG hm rfl)]; decide)]); have q2 : s1 (gP G m 35) = s0 (gP G m 35) := (by rw [hF_s1 (gP G m 35) (by rw [(zr (k := 35) (t2 := 92) hG hm rfl)]; decide)]); have q3 : s1 (gP G m 37) = s0 (gP G m 37) := (by rw [hF_s1 (gP G m 37) (by rw [(zr (k := 37) (t2 := 94) hG hm rfl)]; decide)]); rw [q1, q2, q3]; exact hI5))⟩ rfl rfl ⟨by decide, by decide⟩ ⟨(by show k + 0 ≤ 601024; omega), (by show n + 0 ≤ 7293034; omega)⟩ (k2 := k) (n2 := n) rfl rfl (Nat.le_of_ble_eq_true rfl) dL_law__1643 (kIM (fun v30 s2 hS_s2 hF_s2 q31 => ?_))
  refine j_pop hx dL_law__1646 rfl ?_
  refine j_goto hx 1713 dL_law__1647 rfl ?_
  have g32 : zc (s2 (gP G m 27)) = zc (s0 (gP G m 27)) := by rw [hF_s2 (gP G m 27) (by rw [(zr (k := 27) (t2 := 84) hG hm rfl)]; decide), hF_s1 (gP G m 27) (by rw [(zr (k := 27) (t2 := 84) hG hm rfl)]; decide)]
  have g33 : zc (s2 (gP G m 28)) = zc (s0 (gP G m 28)) := by rw [hF_s2 (gP G m 28) (by rw [(zr (k := 28) (t2 := 85) hG hm rfl)]; decide), hF_s1 (gP G m 28) (by rw [(zr (k := 28) (t2 := 85) hG hm rfl)]; decide)]
  have g34 : s2 (gP G m 27) 488 = s0 (gP G m 27) 488 := (by rw [(zFr_g hF_s2 (zr (k := 27) (t2 := 84) hG hm rfl) (by decide)), (zFr_g hF_s1 (zr (k := 27) (t2 := 84) hG hm rfl) (by decide))])
  have g35 : s2 (gP G m 28) 488 = s0 (gP G m 28) 488 := (by rw [(zFr_g hF_s2 (zr (k := 28) (t2 := 85) hG hm rfl) (by decide)), (zFr_g hF_s1 (zr (k := 28) (t2 := 85) hG hm rfl) (by decide))])
  have f36 := zf hS_s2 hm (k := 24) rfl
  exact j_wid (k2 := k + 8) (n2 := n + 400) (by omega) (by omega) (j_sub [0, 1, 2, 3, 4] [(4, .int (zI i)), (3, .ref o), (2, .ref m), (1, .ref a), (0, .ref b)] rfl (kk G s2 hG hS_s2 ⟨(by omega), (by omega), (by omega), (by omega), (by have q1 : s2 (gP G m 34) = s0 (gP G m 34) := (by rw [hF_s2 (gP G m 34) (by rw [(zr (k := 34) (t2 := 91) hG hm rfl)]; decide), hF_s1 (gP G m 34) (by rw [(zr (k := 34) (t2 := 91) hG hm rfl)]; decide)]); have q2 : s2 (gP G m 35) = s0 (gP G m 35) := (by rw [hF_s2 (gP G m 35) (by rw [(zr (k := 35) (t2 := 92) hG hm rfl)]; decide), hF_s1 (gP G m 35) (by rw [(zr (k := 35) (t2 := 92) hG hm rfl)]; decide)]); have q3 : s2 (gP G m 37) = s0 (gP G m 37) := (by rw [hF_s2 (gP G m 37) (by rw [(zr (k := 37) (t2 := 94) hG hm rfl)]; decide), hF_s1 (gP G m 37) (by rw [(zr (k := 37) (t2 := 94) hG hm rfl)]; decide)]); rw [q1, q2, q3]; exact hI5), (by have q1 : s2 (gP G m 17) = s0 (gP G m 17) := (by rw [hF_s2 (gP G m 17) (by rw [(zr (k := 17) (t2 := 80) hG hm rfl)]; decide), hF_s1 (gP G m 17) (by rw [(zr (k := 17) (t2 := 80) hG hm rfl)]; decide)]); rw [q1]; exact (zQn_nn hI6 (by omega))), (by have q1 : s2 (gP G m 55) = s0 (gP G m 55) := (by rw [hF_s2 (gP G m 55) (by rw [(zr (k := 55) (t2 := 104) hG hm rfl)]; decide), hF_s1 (gP G m 55) (by rw [(zr (k := 55) (t2 := 104) hG hm rfl)]; decide)]); rw [q1]; exact hI7), q31.2.1, (by omega), (by omega), (by omega)⟩ ha hm ho))

theorem lk_RL_244 : LkV RL 244 RX11 yX11_restore cX11_restore 1 (some .int) 0 := ⟨km_RL_244, ki_yX11_restore, ks_RX11_yX11_restore, kn_RX11, kc_yX11_restore, rfl, by decide +kernel, by decide +kernel, by decide +kernel⟩
theorem lk_RL_247 : LkV RL 247 RX12 yX12_restore cX12_restore 1 (some .int) 0 := ⟨km_RL_247, ki_yX12_restore, ks_RX12_yX12_restore, kn_RX12, kc_yX12_restore, rfl, by decide +kernel, by decide +kernel, by decide +kernel⟩
set_option maxHeartbeats 4000000 in
set_option maxRecDepth 20000 in
theorem w_38 {X : zX} {E : zE} {G : zG} {s0 : zS} {b a m o L0 k n : Nat} {ys : Nat → Int} {i T : Int} (hL : LX X E b) (hG : zGK G) (hS0 : zSK G s0) (hI : zInv G s0 m T) (hT0 : 0 ≤ T) (hT : T ≤ 519000) (ha : gT G a = 12) (hm : gT G m = 13) (ho : gT G o = 120) (hs : ZS X E b L0 ys) (hy : ∀ j, -2147483648 ≤ ys j ∧ ys j ≤ 2147483647) (hi0 : 0 ≤ i) (hi : i + 6 ≤ L0) (hL0 : L0 ≤ 3072) (hk : k + 8 ≤ 601024) (hn : n + 400 ≤ 7293034) (kk : ∀ G2 s2, zGK G2 → zSK G2 s2 → zInv G2 s2 m (T + 1000) → gT G2 a = 12 → gT G2 m = 13 → gT G2 o = 120 → JJ X E 8 G2 s2 (k + 8) (n + 400) [(4, .int (zI i)), (3, .ref o), (2, .ref m), (1, .ref a), (0, .ref b)] 1713 []) : JJ X E 8 G s0 k n [(4, .int (zI i)), (3, .ref o), (2, .ref m), (1, .ref a), (0, .ref b)] 1650 [] := by
  have hx := hL.1
  have hst := hx.2.2.2.2.2.2.2.2.2.2.2
  have hI0 := hI
  obtain ⟨hI1, hI2, hI3, hI4, hI5, hI6, hI7, hI8, hI9, hI10, hI11⟩ := hI
  have hy0 := hy (i).toNat
  have hy1 := hy (i + 1).toNat
  have hy2 := hy (i + 2).toNat
  have hy3 := hy (i + 3).toNat
  have hy4 := hy (i + 4).toNat
  have hy5 := hy (i + 5).toNat
  refine j_aload_n hx 3 dL_law__1650 rfl ?_
  refine j_callV hx hG (c_X11_restore hst a) lk_RL_244 ha (by decide) rfl rfl rfl rfl [] ⟨rfl, hG, hS0, ha⟩ rfl rfl ⟨by decide, by decide⟩ ⟨(by show k + 0 ≤ 601024; omega), (by show n + 0 ≤ 7293034; omega)⟩ (k2 := k) (n2 := n) rfl rfl (Nat.le_of_ble_eq_true rfl) dL_law__1651 (kIM (fun v1 s1 hS_s1 hF_s1 q2 => ?_))
  refine j_pop hx dL_law__1654 rfl ?_
  refine j_aload_n hx 2 dL_law__1655 rfl ?_
  have g3 : zc (s1 (gP G m 27)) = zc (s0 (gP G m 27)) := by rw [hF_s1 (gP G m 27) (by rw [(zr (k := 27) (t2 := 84) hG hm rfl)]; decide)]
  have g4 : s1 (gP G m 57) 488 = s0 (gP G m 57) 488 := (by rw [(zFr_g hF_s1 (zr (k := 57) (t2 := 106) hG hm rfl) (by decide))])
  have g5 : s1 (gP G m 57) 13709 = s0 (gP G m 57) 13709 := (by rw [(zFr_g hF_s1 (zr (k := 57) (t2 := 106) hG hm rfl) (by decide))])
  have g6 : s1 (gP G m 57) 26930 = s0 (gP G m 57) 26930 := (by rw [(zFr_g hF_s1 (zr (k := 57) (t2 := 106) hG hm rfl) (by decide))])
  have g7 : s1 (gP G m 27) 488 = s0 (gP G m 27) 488 := (by rw [(zFr_g hF_s1 (zr (k := 27) (t2 := 84) hG hm rfl) (by decide))])
  have g8 : zc (s1 (gP G m 28)) = zc (s0 (gP G m 28)) := by rw [hF_s1 (gP G m 28) (by rw [(zr (k := 28) (t2 := 85) hG hm rfl)]; decide)]
  have g9 : s1 (gP G m 28) 488 = s0 (gP G m 28) 488 := (by rw [(zFr_g hF_s1 (zr (k := 28) (t2 := 85) hG hm rfl) (by decide))])
  have g10 : s1 m 3 = s0 m 3 := (by rw [(zFr_g hF_s1 hm (by decide))])
  have f11 := zf hS0 hm (k := 3) rfl
  have g12 : s1 m 4 = s0 m 4 := (by rw [(zFr_g hF_s1 hm (by decide))])
  have f13 := zf hS0 hm (k := 4) rfl
  have g14 : s1 m 5 = s0 m 5 := (by rw [(zFr_g hF_s1 hm (by decide))])
  have f15 := zf hS0 hm (k := 5) rfl
  have g16 : s1 m 7 = s0 m 7 := (by rw [(zFr_g hF_s1 hm (by decide))])
  have f17 := zf hS0 hm (k := 7) rfl
  have g18 : s1 m 21 = s0 m 21 := (by rw [(zFr_g hF_s1 hm (by decide))])
  have f19 := zf hS0 hm (k := 21) rfl
  have g20 : s1 m 22 = s0 m 22 := (by rw [(zFr_g hF_s1 hm (by decide))])
  have f21 := zf hS0 hm (k := 22) rfl
  have g22 : s1 m 23 = s0 m 23 := (by rw [(zFr_g hF_s1 hm (by decide))])
  have f23 := zf hS0 hm (k := 23) rfl
  have g24 : s1 m 24 = s0 m 24 := (by rw [(zFr_g hF_s1 hm (by decide))])
  have f25 := zf hS0 hm (k := 24) rfl
  have g26 : s1 m 38 = s0 m 38 := (by rw [(zFr_g hF_s1 hm (by decide))])
  have f27 := zf hS0 hm (k := 38) rfl
  have g28 : s1 m 51 = s0 m 51 := (by rw [(zFr_g hF_s1 hm (by decide))])
  have f29 := zf hS0 hm (k := 51) rfl
  have g30 : s1 m 52 = s0 m 52 := (by rw [(zFr_g hF_s1 hm (by decide))])
  have f31 := zf hS0 hm (k := 52) rfl
  refine j_callV hx hG (c_X12_restore hst m) lk_RL_247 hm (by decide) rfl rfl rfl rfl [] ⟨rfl, hG, hS_s1, hm, ((by have q1 : s1 (gP G m 57) = s0 (gP G m 57) := (by rw [hF_s1 (gP G m 57) (by rw [(zr (k := 57) (t2 := 106) hG hm rfl)]; decide)]); rw [q1]; exact hI8)), (by omega), ((by have q1 : s1 (gP G m 34) = s0 (gP G m 34) := (by rw [hF_s1 (gP G m 34) (by rw [(zr (k := 34) (t2 := 91) hG hm rfl)]; decide)]); have q2 : s1 (gP G m 35) = s0 (gP G m 35) := (by rw [hF_s1 (gP G m 35) (by rw [(zr (k := 35) (t2 := 92) hG hm rfl)]; decide)]); have q3 : s1 (gP G m 37) = s0 (gP G m 37) := (by rw [hF_s1 (gP G m 37) (by rw [(zr (k := 37) (t2 := 94) hG hm rfl)]; decide)]); rw [q1, q2, q3]; exact hI5))⟩ rfl rfl ⟨by decide, by decide⟩ ⟨(by show k + 0 ≤ 601024; omega), (by show n + 0 ≤ 7293034; omega)⟩ (k2 := k) (n2 := n) rfl rfl (Nat.le_of_ble_eq_true rfl) dL_law__1656 (kIM (fun v32 s2 hS_s2 hF_s2 q33 => ?_))
  refine j_pop hx dL_law__1659 rfl ?_
  refine j_goto hx 1713 dL_law__1660 rfl ?_
  have f34 := zf hS_s2 hm (k := 24) rfl
  have g35 : s2 (gP G m 57) 488 = s0 (gP G m 57) 488 := (by rw [(zFr_g hF_s2 (zr (k := 57) (t2 := 106) hG hm rfl) (by decide)), (zFr_g hF_s1 (zr (k := 57) (t2 := 106) hG hm rfl) (by decide))])
  have g36 : s2 (gP G m 57) 13709 = s0 (gP G m 57) 13709 := (by rw [(zFr_g hF_s2 (zr (k := 57) (t2 := 106) hG hm rfl) (by decide)), (zFr_g hF_s1 (zr (k := 57) (t2 := 106) hG hm rfl) (by decide))])
  have g37 : s2 (gP G m 57) 26930 = s0 (gP G m 57) 26930 := (by rw [(zFr_g hF_s2 (zr (k := 57) (t2 := 106) hG hm rfl) (by decide)), (zFr_g hF_s1 (zr (k := 57) (t2 := 106) hG hm rfl) (by decide))])
  exact j_wid (k2 := k + 8) (n2 := n + 400) (by omega) (by omega) (j_sub [0, 1, 2, 3, 4] [(4, .int (zI i)), (3, .ref o), (2, .ref m), (1, .ref a), (0, .ref b)] rfl (kk G s2 hG hS_s2 ⟨(by omega), (by omega), (by omega), (by omega), q33.2.2.1, (by have q1 : s2 (gP G m 17) = s0 (gP G m 17) := (by rw [hF_s2 (gP G m 17) (by rw [(zr (k := 17) (t2 := 80) hG hm rfl)]; decide), hF_s1 (gP G m 17) (by rw [(zr (k := 17) (t2 := 80) hG hm rfl)]; decide)]); rw [q1]; exact (zQn_nn hI6 (by omega))), (by have q1 : s2 (gP G m 55) = s0 (gP G m 55) := (by rw [hF_s2 (gP G m 55) (by rw [(zr (k := 55) (t2 := 104) hG hm rfl)]; decide), hF_s1 (gP G m 55) (by rw [(zr (k := 55) (t2 := 104) hG hm rfl)]; decide)]); rw [q1]; exact hI7), (by have q1 : s2 (gP G m 57) = s0 (gP G m 57) := (by rw [hF_s2 (gP G m 57) (by rw [(zr (k := 57) (t2 := 106) hG hm rfl)]; decide), hF_s1 (gP G m 57) (by rw [(zr (k := 57) (t2 := 106) hG hm rfl)]; decide)]); rw [q1]; exact hI8), (by omega), (by omega), (by omega)⟩ ha hm ho))

theorem lk_RL_248 : LkV RL 248 RX11 yX11_status cX11_status 2 (some .int) 1 := ⟨km_RL_248, ki_yX11_status, ks_RX11_yX11_status, kn_RX11, kc_yX11_status, rfl, by decide +kernel, by decide +kernel, by decide +kernel⟩
theorem lk_RL_251 : LkV RL 251 RX12 yX12_status cX12_status 2 (some .int) 1 := ⟨km_RL_251, ki_yX12_status, ks_RX12_yX12_status, kn_RX12, kc_yX12_status, rfl, by decide +kernel, by decide +kernel, by decide +kernel⟩
set_option maxHeartbeats 4000000 in
set_option maxRecDepth 20000 in
theorem w_39 {X : zX} {E : zE} {G : zG} {s0 : zS} {b a m o L0 k n : Nat} {ys : Nat → Int} {i T : Int} (hL : LX X E b) (hG : zGK G) (hS0 : zSK G s0) (hI : zInv G s0 m T) (hT0 : 0 ≤ T) (hT : T ≤ 519000) (ha : gT G a = 12) (hm : gT G m = 13) (ho : gT G o = 120) (hs : ZS X E b L0 ys) (hy : ∀ j, -2147483648 ≤ ys j ∧ ys j ≤ 2147483647) (hi0 : 0 ≤ i) (hi : i + 6 ≤ L0) (hL0 : L0 ≤ 3072) (hk : k + 8 ≤ 601024) (hn : n + 400 ≤ 7293034) (kk : ∀ G2 s2, zGK G2 → zSK G2 s2 → zInv G2 s2 m (T + 1000) → gT G2 a = 12 → gT G2 m = 13 → gT G2 o = 120 → JJ X E 8 G2 s2 (k + 8) (n + 400) [(4, .int (zI i)), (3, .ref o), (2, .ref m), (1, .ref a), (0, .ref b)] 1713 []) : JJ X E 8 G s0 k n [(4, .int (zI i)), (3, .ref o), (2, .ref m), (1, .ref a), (0, .ref b)] 1663 [] := by
  have hx := hL.1
  have hst := hx.2.2.2.2.2.2.2.2.2.2.2
  have hI0 := hI
  obtain ⟨hI1, hI2, hI3, hI4, hI5, hI6, hI7, hI8, hI9, hI10, hI11⟩ := hI
  have hy0 := hy (i).toNat
  have hy1 := hy (i + 1).toNat
  have hy2 := hy (i + 2).toNat
  have hy3 := hy (i + 3).toNat
  have hy4 := hy (i + 4).toNat
  have hy5 := hy (i + 5).toNat
  refine j_aload_n hx 3 dL_law__1663 rfl ?_
  refine j_aload_n hx 4 dL_law__1664 rfl ?_
  refine j_iload hx 0 dL_law__1665 rfl ?_
  refine j_iconst hx dL_law__1667 ?_
  refine j_iadd hx (r := i + 1) dL_law__1668 rfl ?_
  refine j_sld hx hs (j := (i + 1).toNat) (by omega) (by omega) (by omega) dL_law__1669 ?_
  refine j_callV hx hG (c_X11_status hst a ((ys (i + 1).toNat))) lk_RL_248 ha (by decide) rfl rfl rfl rfl [.int (zI ((ys (i + 1).toNat)))] ⟨rfl, hG, hS0, ha, (by omega)⟩ rfl rfl ⟨by decide, by decide⟩ ⟨(by show k + 0 ≤ 601024; omega), (by show n + 0 ≤ 7293034; omega)⟩ (k2 := k) (n2 := n) rfl rfl (Nat.le_of_ble_eq_true rfl) dL_law__1670 (kIP (fun v1 q2 => ?_))
  refine j_pop hx dL_law__1673 rfl ?_
  refine j_aload_n hx 2 dL_law__1674 rfl ?_
  refine j_aload_n hx 4 dL_law__1675 rfl ?_
  refine j_iload hx 0 dL_law__1676 rfl ?_
  refine j_iconst hx dL_law__1678 ?_
  refine j_iadd hx (r := i + 1) dL_law__1679 rfl ?_
  refine j_sld hx hs (j := (i + 1).toNat) (by omega) (by omega) (by omega) dL_law__1680 ?_
  have f3 := zf hS0 hm (k := 3) rfl
  have f4 := zf hS0 hm (k := 4) rfl
  have f5 := zf hS0 hm (k := 5) rfl
  have f6 := zf hS0 hm (k := 7) rfl
  have f7 := zf hS0 hm (k := 21) rfl
  have f8 := zf hS0 hm (k := 22) rfl
  have f9 := zf hS0 hm (k := 23) rfl
  have f10 := zf hS0 hm (k := 24) rfl
  have f11 := zf hS0 hm (k := 38) rfl
  have f12 := zf hS0 hm (k := 51) rfl
  have f13 := zf hS0 hm (k := 52) rfl
  refine j_callV hx hG (c_X12_status hst m ((ys (i + 1).toNat))) lk_RL_251 hm (by decide) rfl rfl rfl rfl [.int (zI ((ys (i + 1).toNat)))] ⟨rfl, hG, hS0, hm, (by omega)⟩ rfl rfl ⟨by decide, by decide⟩ ⟨(by show k + 0 ≤ 601024; omega), (by show n + 0 ≤ 7293034; omega)⟩ (k2 := k) (n2 := n) rfl rfl (Nat.le_of_ble_eq_true rfl) dL_law__1681 (kIM (fun v14 s1 hS_s1 hF_s1 q15 => ?_))
  refine j_pop hx dL_law__1684 rfl ?_
  refine j_goto hx 1713 dL_law__1685 rfl ?_
  have f16 := zf hS_s1 hm (k := 24) rfl
  exact j_wid (k2 := k + 8) (n2 := n + 400) (by omega) (by omega) (j_sub [0, 1, 2, 3, 4] [(4, .int (zI i)), (3, .ref o), (2, .ref m), (1, .ref a), (0, .ref b)] rfl (kk G s1 hG hS_s1 (zInv_fr (ts := [13]) hI0 (by omega) hG hm (zFr_t zFr_rf hF_s1 (by decide)) (by decide) (by omega)) ha hm ho))

theorem lk_RL_252 : LkV RL 252 RX11 yX11_count cX11_count 2 (some .int) 1 := ⟨km_RL_252, ki_yX11_count, ks_RX11_yX11_count, kn_RX11, kc_yX11_count, rfl, by decide +kernel, by decide +kernel, by decide +kernel⟩
theorem lk_RL_255 : LkV RL 255 RX12 yX12_count cX12_count 2 (some .int) 1 := ⟨km_RL_255, ki_yX12_count, ks_RX12_yX12_count, kn_RX12, kc_yX12_count, rfl, by decide +kernel, by decide +kernel, by decide +kernel⟩
set_option maxHeartbeats 4000000 in
set_option maxRecDepth 20000 in
theorem w_40 {X : zX} {E : zE} {G : zG} {s0 : zS} {b a m o L0 k n : Nat} {ys : Nat → Int} {i T : Int} (hL : LX X E b) (hG : zGK G) (hS0 : zSK G s0) (hI : zInv G s0 m T) (hT0 : 0 ≤ T) (hT : T ≤ 519000) (ha : gT G a = 12) (hm : gT G m = 13) (ho : gT G o = 120) (hs : ZS X E b L0 ys) (hy : ∀ j, -2147483648 ≤ ys j ∧ ys j ≤ 2147483647) (hi0 : 0 ≤ i) (hi : i + 6 ≤ L0) (hL0 : L0 ≤ 3072) (hk : k + 8 ≤ 601024) (hn : n + 400 ≤ 7293034) (kk : ∀ G2 s2, zGK G2 → zSK G2 s2 → zInv G2 s2 m (T + 1000) → gT G2 a = 12 → gT G2 m = 13 → gT G2 o = 120 → JJ X E 8 G2 s2 (k + 8) (n + 400) [(4, .int (zI i)), (3, .ref o), (2, .ref m), (1, .ref a), (0, .ref b)] 1713 []) : JJ X E 8 G s0 k n [(4, .int (zI i)), (3, .ref o), (2, .ref m), (1, .ref a), (0, .ref b)] 1688 [] := by
  have hx := hL.1
  have hst := hx.2.2.2.2.2.2.2.2.2.2.2
  have hI0 := hI
  obtain ⟨hI1, hI2, hI3, hI4, hI5, hI6, hI7, hI8, hI9, hI10, hI11⟩ := hI
  have hy0 := hy (i).toNat
  have hy1 := hy (i + 1).toNat
  have hy2 := hy (i + 2).toNat
  have hy3 := hy (i + 3).toNat
  have hy4 := hy (i + 4).toNat
  have hy5 := hy (i + 5).toNat
  refine j_aload_n hx 3 dL_law__1688 rfl ?_
  refine j_aload_n hx 4 dL_law__1689 rfl ?_
  refine j_iload hx 0 dL_law__1690 rfl ?_
  refine j_iconst hx dL_law__1692 ?_
  refine j_iadd hx (r := i + 1) dL_law__1693 rfl ?_
  refine j_sld hx hs (j := (i + 1).toNat) (by omega) (by omega) (by omega) dL_law__1694 ?_
  refine j_callV hx hG (c_X11_count hst a ((ys (i + 1).toNat))) lk_RL_252 ha (by decide) rfl rfl rfl rfl [.int (zI ((ys (i + 1).toNat)))] ⟨rfl, hG, hS0, ha, (by omega)⟩ rfl rfl ⟨by decide, by decide⟩ ⟨(by show k + 0 ≤ 601024; omega), (by show n + 0 ≤ 7293034; omega)⟩ (k2 := k) (n2 := n) rfl rfl (Nat.le_of_ble_eq_true rfl) dL_law__1695 (kIP (fun v1 q2 => ?_))
  refine j_pop hx dL_law__1698 rfl ?_
  refine j_aload_n hx 2 dL_law__1699 rfl ?_
  refine j_aload_n hx 4 dL_law__1700 rfl ?_
  refine j_iload hx 0 dL_law__1701 rfl ?_
  refine j_iconst hx dL_law__1703 ?_
  refine j_iadd hx (r := i + 1) dL_law__1704 rfl ?_
  refine j_sld hx hs (j := (i + 1).toNat) (by omega) (by omega) (by omega) dL_law__1705 ?_
  have f3 := zf hS0 hm (k := 3) rfl
  have f4 := zf hS0 hm (k := 4) rfl
  have f5 := zf hS0 hm (k := 5) rfl
  have f6 := zf hS0 hm (k := 7) rfl
  have f7 := zf hS0 hm (k := 21) rfl
  have f8 := zf hS0 hm (k := 22) rfl
  have f9 := zf hS0 hm (k := 23) rfl
  have f10 := zf hS0 hm (k := 24) rfl
  have f11 := zf hS0 hm (k := 38) rfl
  have f12 := zf hS0 hm (k := 51) rfl
  have f13 := zf hS0 hm (k := 52) rfl
  refine j_callV hx hG (c_X12_count hst m ((ys (i + 1).toNat))) lk_RL_255 hm (by decide) rfl rfl rfl rfl [.int (zI ((ys (i + 1).toNat)))] ⟨rfl, hG, hS0, hm, (by omega)⟩ rfl rfl ⟨by decide, by decide⟩ ⟨(by show k + 0 ≤ 601024; omega), (by show n + 0 ≤ 7293034; omega)⟩ (k2 := k) (n2 := n) rfl rfl (Nat.le_of_ble_eq_true rfl) dL_law__1706 (kIM (fun v14 s1 hS_s1 hF_s1 q15 => ?_))
  refine j_pop hx dL_law__1709 rfl ?_
  refine j_goto hx 1713 dL_law__1710 rfl ?_
  have f16 := zf hS_s1 hm (k := 24) rfl
  exact j_wid (k2 := k + 8) (n2 := n + 400) (by omega) (by omega) (j_sub [0, 1, 2, 3, 4] [(4, .int (zI i)), (3, .ref o), (2, .ref m), (1, .ref a), (0, .ref b)] rfl (kk G s1 hG hS_s1 (zInv_fr (ts := [13]) hI0 (by omega) hG hm (zFr_t zFr_rf hF_s1 (by decide)) (by decide) (by omega)) ha hm ho))

set_option maxHeartbeats 4000000 in
set_option maxRecDepth 20000 in
theorem w_loop {X : zX} {E : zE} {b a m o L0 : Nat} {ys : Nat → Int} (hL : LX X E b) (hs : ZS X E b L0 ys) (hy : ∀ j, -2147483648 ≤ ys j ∧ ys j ≤ 2147483647) (hL0 : L0 ≤ 3072) : ∀ (d : Nat) (G : zG) (s0 : zS) (i T : Int) (k n : Nat), zGK G → zSK G s0 → zInv G s0 m T → 0 ≤ T → T + 1000 * d ≤ 519000 → gT G a = 12 → gT G m = 13 → gT G o = 120 → 0 ≤ i → (L0 : Int) - i ≤ 6 * d + 5 → i ≤ 3072 → k + 8 * d ≤ 601024 → n + 400 * d ≤ 7293034 → JJ X E 8 G s0 k n [(4, .int (zI i)), (3, .ref o), (2, .ref m), (1, .ref a), (0, .ref b)] 23 [] := by
  have hx := hL.1
  intro d
  induction d with
  | zero =>
    intro G s0 i T k n hG hS0 hI hT0 hT ha hm ho hi0 hd hi1 hk hn
    refine j_iload hx 0 dL_law__23 rfl ?_
    refine j_aload_n hx 4 dL_law__25 rfl ?_
    refine j_slen hx hs (m := (L0 : Int)) rfl dL_law__26 ?_
    refine j_bipush hx dL_law__27 rfl ?_
    refine j_isub hx (r := (L0 : Int) - 6) dL_law__29 rfl ?_
    refine j_icmp_gt hx 1719 dL_law__30 rfl (by omega) (by omega) (fun h => ?_) (fun h => absurd h (by omega))
    refine j_iconst hx dL_law__1719 ?_
    exact j_lawend hL (by omega) (by omega) dL_law__1720
  | succ d ih =>
    intro G s0 i T k n hG hS0 hI hT0 hT ha hm ho hi0 hd hi1 hk hn
    refine j_iload hx 0 dL_law__23 rfl ?_
    refine j_aload_n hx 4 dL_law__25 rfl ?_
    refine j_slen hx hs (m := (L0 : Int)) rfl dL_law__26 ?_
    refine j_bipush hx dL_law__27 rfl ?_
    refine j_isub hx (r := (L0 : Int) - 6) dL_law__29 rfl ?_
    refine j_icmp_gt hx 1719 dL_law__30 rfl (by omega) (by omega) (fun h => ?_) (fun h => ?_)
    · refine j_iconst hx dL_law__1719 ?_
      exact j_lawend hL (by omega) (by omega) dL_law__1720
    have hy0 := hy (i).toNat
    have kk : ∀ G2 s2, zGK G2 → zSK G2 s2 → zInv G2 s2 m (T + 1000) → gT G2 a = 12 → gT G2 m = 13 → gT G2 o = 120 → JJ X E 8 G2 s2 (k + 8) (n + 400) [(4, .int (zI i)), (3, .ref o), (2, .ref m), (1, .ref a), (0, .ref b)] 1713 [] := fun G2 s2 hG2 hS2 hI2 ha2 hm2 ho2 => w_tail hL hi0 (by omega) (ih G2 s2 (i + 6) (T + 1000) (k + 8) (n + 400) hG2 hS2 hI2 (by omega) (by omega) ha2 hm2 ho2 (by omega) (by omega) (by omega) (by omega) (by omega))
    refine j_aload_n hx 4 dL_law__33 rfl ?_
    refine j_iload hx 0 dL_law__34 rfl ?_
    refine j_sld hx hs (j := (i).toNat) (by omega) (by omega) (by omega) dL_law__36 ?_
    refine j_bipush hx dL_law__37 rfl ?_
    refine j_iand hx dL_law__39 (by omega) ⟨by decide, by decide⟩ (fun v1 f2 f3 f4 f5 _ => ?_)
    have h7 : (v1 = 0) ∨ (v1 = 1) ∨ (v1 = 2) ∨ (v1 = 3) ∨ (v1 = 4) ∨ (v1 = 5) ∨ (v1 = 6) ∨ (v1 = 7) ∨ (v1 = 8) ∨ (v1 = 9) ∨ (v1 = 10) ∨ (v1 = 11) ∨ (v1 = 12) ∨ (v1 = 13) ∨ (v1 = 14) ∨ (v1 = 15) ∨ (v1 = 16) ∨ (v1 = 17) ∨ (v1 = 18) ∨ (v1 = 19) ∨ (v1 = 20) ∨ (v1 = 21) ∨ (v1 = 22) ∨ (v1 = 23) ∨ (v1 = 24) ∨ (v1 = 25) ∨ (v1 = 26) ∨ (v1 = 27) ∨ (v1 = 28) ∨ (v1 = 29) ∨ (v1 = 30) ∨ (v1 = 31) ∨ (v1 = 32) ∨ (v1 = 33) ∨ (v1 = 34) ∨ (v1 = 35) ∨ (v1 = 36) ∨ (v1 = 37) ∨ (v1 = 38) ∨ (v1 = 39) ∨ (v1 = 40) ∨ (v1 < 0 ∨ 40 < v1) := by omega
    rcases h7 with h7 | h7 | h7 | h7 | h7 | h7 | h7 | h7 | h7 | h7 | h7 | h7 | h7 | h7 | h7 | h7 | h7 | h7 | h7 | h7 | h7 | h7 | h7 | h7 | h7 | h7 | h7 | h7 | h7 | h7 | h7 | h7 | h7 | h7 | h7 | h7 | h7 | h7 | h7 | h7 | h7 | h7
    · skip
      refine j_switchIn hx 220 dL_law__40 (by omega) (by omega) (by omega) (by rw [h7]; rfl) rfl ?_
      exact w_0 hL hG hS0 hI hT0 (by omega) ha hm ho hs hy hi0 (by omega) hL0 (by omega) (by omega) kk
    · skip
      refine j_switchIn hx 293 dL_law__40 (by omega) (by omega) (by omega) (by rw [h7]; rfl) rfl ?_
      exact w_1 hL hG hS0 hI hT0 (by omega) ha hm ho hs hy hi0 (by omega) hL0 (by omega) (by omega) kk
    · skip
      refine j_switchIn hx 321 dL_law__40 (by omega) (by omega) (by omega) (by rw [h7]; rfl) rfl ?_
      exact w_2 hL hG hS0 hI hT0 (by omega) ha hm ho hs hy hi0 (by omega) hL0 (by omega) (by omega) kk
    · skip
      refine j_switchIn hx 361 dL_law__40 (by omega) (by omega) (by omega) (by rw [h7]; rfl) rfl ?_
      exact w_3 hL hG hS0 hI hT0 (by omega) ha hm ho hs hy hi0 (by omega) hL0 (by omega) (by omega) kk
    · skip
      refine j_switchIn hx 401 dL_law__40 (by omega) (by omega) (by omega) (by rw [h7]; rfl) rfl ?_
      exact w_4 hL hG hS0 hI hT0 (by omega) ha hm ho hs hy hi0 (by omega) hL0 (by omega) (by omega) kk
    · skip
      refine j_switchIn hx 429 dL_law__40 (by omega) (by omega) (by omega) (by rw [h7]; rfl) rfl ?_
      exact w_5 hL hG hS0 hI hT0 (by omega) ha hm ho hs hy hi0 (by omega) hL0 (by omega) (by omega) kk
    · skip
      refine j_switchIn hx 442 dL_law__40 (by omega) (by omega) (by omega) (by rw [h7]; rfl) rfl ?_
      exact w_6 hL hG hS0 hI hT0 (by omega) ha hm ho hs hy hi0 (by omega) hL0 (by omega) (by omega) kk
    · skip
      refine j_switchIn hx 470 dL_law__40 (by omega) (by omega) (by omega) (by rw [h7]; rfl) rfl ?_
      exact w_7 hL hG hS0 hI hT0 (by omega) ha hm ho hs hy hi0 (by omega) hL0 (by omega) (by omega) kk
    · skip
      refine j_switchIn hx 510 dL_law__40 (by omega) (by omega) (by omega) (by rw [h7]; rfl) rfl ?_
      exact w_8 hL hG hS0 hI hT0 (by omega) ha hm ho hs hy hi0 (by omega) hL0 (by omega) (by omega) kk
    · skip
      refine j_switchIn hx 550 dL_law__40 (by omega) (by omega) (by omega) (by rw [h7]; rfl) rfl ?_
      exact w_9 hL hG hS0 hI hT0 (by omega) ha hm ho hs hy hi0 (by omega) hL0 (by omega) (by omega) kk
    · skip
      refine j_switchIn hx 590 dL_law__40 (by omega) (by omega) (by omega) (by rw [h7]; rfl) rfl ?_
      exact w_10 hL hG hS0 hI hT0 (by omega) ha hm ho hs hy hi0 (by omega) hL0 (by omega) (by omega) kk
    · skip
      refine j_switchIn hx 615 dL_law__40 (by omega) (by omega) (by omega) (by rw [h7]; rfl) rfl ?_
      exact w_11 hL hG hS0 hI hT0 (by omega) ha hm ho hs hy hi0 (by omega) hL0 (by omega) (by omega) kk
    · skip
      refine j_switchIn hx 655 dL_law__40 (by omega) (by omega) (by omega) (by rw [h7]; rfl) rfl ?_
      exact w_12 hL hG hS0 hI hT0 (by omega) ha hm ho hs hy hi0 (by omega) hL0 (by omega) (by omega) kk
    · skip
      refine j_switchIn hx 668 dL_law__40 (by omega) (by omega) (by omega) (by rw [h7]; rfl) rfl ?_
      exact w_13 hL hG hS0 hI hT0 (by omega) ha hm ho hs hy hi0 (by omega) hL0 (by omega) (by omega) kk
    · skip
      refine j_switchIn hx 708 dL_law__40 (by omega) (by omega) (by omega) (by rw [h7]; rfl) rfl ?_
      exact w_14 hL hG hS0 hI hT0 (by omega) ha hm ho hs hy hi0 (by omega) hL0 (by omega) (by omega) kk
    · skip
      refine j_switchIn hx 748 dL_law__40 (by omega) (by omega) (by omega) (by rw [h7]; rfl) rfl ?_
      exact w_15 hL hG hS0 hI hT0 (by omega) ha hm ho hs hy hi0 (by omega) hL0 (by omega) (by omega) kk
    · skip
      refine j_switchIn hx 771 dL_law__40 (by omega) (by omega) (by omega) (by rw [h7]; rfl) rfl ?_
      exact w_16 hL hG hS0 hI hT0 (by omega) ha hm ho hs hy hi0 (by omega) hL0 (by omega) (by omega) kk
    · skip
      refine j_switchIn hx 784 dL_law__40 (by omega) (by omega) (by omega) (by rw [h7]; rfl) rfl ?_
      exact w_17 hL hG hS0 hI hT0 (by omega) ha hm ho hs hy hi0 (by omega) hL0 (by omega) (by omega) kk
    · skip
      refine j_switchIn hx 812 dL_law__40 (by omega) (by omega) (by omega) (by rw [h7]; rfl) rfl ?_
      exact w_18 hL hG hS0 hI hT0 (by omega) ha hm ho hs hy hi0 (by omega) hL0 (by omega) (by omega) kk
    · skip
      refine j_switchIn hx 840 dL_law__40 (by omega) (by omega) (by omega) (by rw [h7]; rfl) rfl ?_
      exact w_19 hL hG hS0 hI hT0 (by omega) ha hm ho hs hy hi0 (by omega) hL0 (by omega) (by omega) kk
    · skip
      refine j_switchIn hx 868 dL_law__40 (by omega) (by omega) (by omega) (by rw [h7]; rfl) rfl ?_
      exact w_20 hL hG hS0 hI hT0 (by omega) ha hm ho hs hy hi0 (by omega) hL0 (by omega) (by omega) kk
    · skip
      refine j_switchIn hx 908 dL_law__40 (by omega) (by omega) (by omega) (by rw [h7]; rfl) rfl ?_
      exact w_21 hL hG hS0 hI hT0 (by omega) ha hm ho hs hy hi0 (by omega) hL0 (by omega) (by omega) kk
    · skip
      refine j_switchIn hx 936 dL_law__40 (by omega) (by omega) (by omega) (by rw [h7]; rfl) rfl ?_
      exact w_22 hL hG hS0 hI hT0 (by omega) ha hm ho hs hy hi0 (by omega) hL0 (by omega) (by omega) kk
    · skip
      refine j_switchIn hx 964 dL_law__40 (by omega) (by omega) (by omega) (by rw [h7]; rfl) rfl ?_
      exact w_23 hL hG hS0 hI hT0 (by omega) ha hm ho hs hy hi0 (by omega) hL0 (by omega) (by omega) kk
    · skip
      refine j_switchIn hx 989 dL_law__40 (by omega) (by omega) (by omega) (by rw [h7]; rfl) rfl ?_
      exact w_24 hL hG hS0 hI hT0 (by omega) ha hm ho hs hy hi0 (by omega) hL0 (by omega) (by omega) kk
    · skip
      refine j_switchIn hx 1041 dL_law__40 (by omega) (by omega) (by omega) (by rw [h7]; rfl) rfl ?_
      exact w_25 hL hG hS0 hI hT0 (by omega) ha hm ho hs hy hi0 (by omega) hL0 (by omega) (by omega) kk
    · skip
      refine j_switchIn hx 1105 dL_law__40 (by omega) (by omega) (by omega) (by rw [h7]; rfl) rfl ?_
      exact w_26 hL hG hS0 hI hT0 (by omega) ha hm ho hs hy hi0 (by omega) hL0 (by omega) (by omega) kk
    · skip
      refine j_switchIn hx 1169 dL_law__40 (by omega) (by omega) (by omega) (by rw [h7]; rfl) rfl ?_
      exact w_27 hL hG hS0 hI hT0 (by omega) ha hm ho hs hy hi0 (by omega) hL0 (by omega) (by omega) kk
    · skip
      refine j_switchIn hx 1221 dL_law__40 (by omega) (by omega) (by omega) (by rw [h7]; rfl) rfl ?_
      exact w_28 hL hG hS0 hI hT0 (by omega) ha hm ho hs hy hi0 (by omega) hL0 (by omega) (by omega) kk
    · skip
      refine j_switchIn hx 1261 dL_law__40 (by omega) (by omega) (by omega) (by rw [h7]; rfl) rfl ?_
      exact w_29 hL hG hS0 hI hT0 (by omega) ha hm ho hs hy hi0 (by omega) hL0 (by omega) (by omega) kk
    · skip
      refine j_switchIn hx 1313 dL_law__40 (by omega) (by omega) (by omega) (by rw [h7]; rfl) rfl ?_
      exact w_30 hL hG hS0 hI hT0 (by omega) ha hm ho hs hy hi0 (by omega) hL0 (by omega) (by omega) kk
    · skip
      refine j_switchIn hx 1365 dL_law__40 (by omega) (by omega) (by omega) (by rw [h7]; rfl) rfl ?_
      exact w_31 hL hG hS0 hI hT0 (by omega) ha hm ho hs hy hi0 (by omega) hL0 (by omega) (by omega) kk
    · skip
      refine j_switchIn hx 1388 dL_law__40 (by omega) (by omega) (by omega) (by rw [h7]; rfl) rfl ?_
      exact w_32 hL hG hS0 hI hT0 (by omega) ha hm ho hs hy hi0 (by omega) hL0 (by omega) (by omega) kk
    · skip
      refine j_switchIn hx 1440 dL_law__40 (by omega) (by omega) (by omega) (by rw [h7]; rfl) rfl ?_
      exact w_33 hL hG hS0 hI hT0 (by omega) ha hm ho hs hy hi0 (by omega) hL0 (by omega) (by omega) kk
    · skip
      refine j_switchIn hx 1544 dL_law__40 (by omega) (by omega) (by omega) (by rw [h7]; rfl) rfl ?_
      exact w_34 hL hG hS0 hI hT0 (by omega) ha hm ho hs hy hi0 (by omega) hL0 (by omega) (by omega) kk
    · skip
      refine j_switchIn hx 1584 dL_law__40 (by omega) (by omega) (by omega) (by rw [h7]; rfl) rfl ?_
      exact w_35 hL hG hS0 hI hT0 (by omega) ha hm ho hs hy hi0 (by omega) hL0 (by omega) (by omega) kk
    · skip
      refine j_switchIn hx 1597 dL_law__40 (by omega) (by omega) (by omega) (by rw [h7]; rfl) rfl ?_
      exact w_36 hL hG hS0 hI hT0 (by omega) ha hm ho hs hy hi0 (by omega) hL0 (by omega) (by omega) kk
    · skip
      refine j_switchIn hx 1637 dL_law__40 (by omega) (by omega) (by omega) (by rw [h7]; rfl) rfl ?_
      exact w_37 hL hG hS0 hI hT0 (by omega) ha hm ho hs hy hi0 (by omega) hL0 (by omega) (by omega) kk
    · skip
      refine j_switchIn hx 1650 dL_law__40 (by omega) (by omega) (by omega) (by rw [h7]; rfl) rfl ?_
      exact w_38 hL hG hS0 hI hT0 (by omega) ha hm ho hs hy hi0 (by omega) hL0 (by omega) (by omega) kk
    · skip
      refine j_switchIn hx 1663 dL_law__40 (by omega) (by omega) (by omega) (by rw [h7]; rfl) rfl ?_
      exact w_39 hL hG hS0 hI hT0 (by omega) ha hm ho hs hy hi0 (by omega) hL0 (by omega) (by omega) kk
    · skip
      refine j_switchIn hx 1688 dL_law__40 (by omega) (by omega) (by omega) (by rw [h7]; rfl) rfl ?_
      exact w_40 hL hG hS0 hI hT0 (by omega) ha hm ho hs hy hi0 (by omega) hL0 (by omega) (by omega) kk
    · skip
      refine j_switchOut hx 1713 dL_law__40 (by omega) (by omega) rfl ?_
      exact j_wid (by omega) (by omega) (kk G s0 hG hS0 (zInv_fr hI (by omega) hG hm (ts := []) zFr_rf (by decide) rfl) ha hm ho)

