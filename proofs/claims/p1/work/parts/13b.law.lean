-- ===== end of PART A; then your names; then what follows =====
/-! THE CLAIM OUT OF ONE WALK OF THE LAW'S BODY. Your part is whole_start (and what it stands on); all else here is the same for every law, but numbers. -/
def R_law : String := "SnapHeapsLaw"
def lw_P (b : Addr) (xs : List Int32) (args : Array Value) (s : State) : Prop := args = #[.ref b] ∧ s.IntsAt b xs ∧ xs.length ≤ 6 ∧ (Jvm.Cond.and given_1 narrow_1).before args s = true
def lw_Q (_ : Array Value) (s : State) (o : Outcome) (t : State) : Prop := o = .returned (some (.int 1)) ∧ Framed s o t [] 600002 7302232
def lw_Z (below : List Frame) (a : Array Value) (s : State) : State → Prop := fun t => ∃ o, t.status = .running ∧ Ended t below o ∧ lw_Q a s o t
/-- the law's own end, with 1 on the stack, nothing written that was there before, its room as the claim has it -/
theorem lw_ret {p : Program} {l : Launch} {e : Env} {s : State} {m : MethodId} {below : List Frame} {meth : Method} {c : Code} {b : Nat} (hx : p.tables.exec = Jvm.exec) (hb : c.code = code) (hr : meth.sig.returnType = ret) (hlocks : meth.locks = false) {pc : Nat} {H : Heap} {ls : Array Slot} (hdg : decode code pc = .ok (.ireturn, 1)) : W p l e room_1 s m #[Value.ref b] below meth c H [] 600002 7302232 (lw_Z below #[Value.ref b] s) (F0 m pc ls [.int 1]) := by
  intro T hT X
  obtain ⟨fs, hret, hrun, hended, hW, hframe⟩ := X.leave (v := some (.int 1)) (hlocks := hlocks) (fun h => by rw [hr] at h; cases h)
  have hmeth' : T.vm.method? m = some meth := X.method'
  refine ⟨T.setFrames fs, ?_, .returned (some (.int 1)), hrun, hended, rfl, ⟨_, rfl⟩, hW, hframe⟩
  jvm_step X.here [X.here.top, hx, hb, hdg, hmeth', hr, ret, narrow_b1]
  (try refine ⟨rfl, ?_⟩); (try refine ⟨rfl, ?_⟩)
  first | (intro acts; rw [hret _ acts rfl rfl rfl]) | rw [hret _ _ rfl rfl rfl]
  exact Steps.refl _
/-- what holds at the law's entry: the machine, the code, the tables' words (any of lw_tbl by 'hts w (by decide +kernel)'), the script of L ints xs at the cell b, what the Statement gives of the start (any of its parts by flat_of_before) -/
def lw_At (p : Program) (s : State) (m : MethodId) (meth : Method) (c : Code) (b L : Nat) (xs : Nat → Int32) : Prop :=
  p.tables.exec = Jvm.exec ∧ c.code = code ∧ meth.sig.returnType = ret ∧ c.maxLocals = 8 ∧ s.vm.findClass R_law = some m.cls ∧ (∀ w ∈ lw_tbl, w.before #[Value.ref b] s = true) ∧ va_X b L xs s s.heap ∧ b < s.heap.size ∧ meth.locks = false ∧ (Jvm.Cond.and given_1 narrow_1).before #[Value.ref b] s = true
def LX (X : zX) (E : zE) (b : Nat) : Prop := CX X E RL ⟨RL, (xh X).name, ""⟩ code 8 (some .boolean) room_1 ∧ xQ X = lw_Z (xb X) (xa X) (xs X) ∧ E.2.2.1 = (xs X).heap.size ∧ xa X = #[Value.ref b]
section LW
variable {X : zX} {E : zE} {G : zG} {s : zS} {k n : Nat} {L : List (Nat × Value)} {pc pc2 : Nat} {b : Nat}
theorem j_lawend (hL : LX X E b) (hk : k ≤ 600002) (hn : n ≤ 7302232) (d : Dc code pc .ireturn 1 pc2) : JJ X E 8 G s k n L pc [.int (zI 1)] := by
  intro H locs ls hR hS hl
  obtain ⟨hx, hq, hE, ha⟩ := hL
  have hRm : xR X = room_1 := hx.2.2.2.2.2.2.2.2.2.1
  unfold WX
  rw [hq, hRm, ha]
  refine W.widen hk hn ?_
  refine va_forget (fun q hq2 => ?_) ?_
  · have := hS.2.2 q hq2
    rw [← hE]; exact this
  · exact lw_ret hx.1 hx.2.1 hx.2.2.2.2.2.2.2.1 hx.2.2.2.2.2.2.1 d.1
theorem w_exit (hL : LX X E b) {L0 : Nat} {ys : Nat → Int} (hs : ZS X E b L0 ys) (h0 : L0 ≤ 6) {c : Int} (hc : 0 ≤ c ∧ c ≤ 6 ∧ (L0 : Int) - 6 < c) (hk : k ≤ 600002) (hn : n ≤ 7302232) : JJ X E 8 G s k n [(4, .int (zI c)), (0, .ref b)] 23 [] := by
  have hx := hL.1
  refine j_iload hx 0 dL_law__23 rfl ?_
  refine j_aload_n hx 1 dL_law__25 rfl ?_
  refine j_slen hx hs (m := (L0 : Int)) rfl dL_law__26 ?_
  refine j_bipush hx dL_law__27 rfl ?_
  refine j_isub hx (r := (L0 : Int) - 6) dL_law__29 rfl ?_
  refine j_icmp_gt hx 2481 dL_law__30 rfl (by omega) (by omega) (fun h => ?_) (fun h => absurd h (by omega))
  refine j_iconst hx dL_law__2481 ?_
  exact j_lawend hL hk hn dL_law__2482
theorem w_tail (hL : LX X E b) {ys : Nat → Int} (hs : ZS X E b 6 ys) (hk : k ≤ 600002) (hn : n ≤ 7302232) : JJ X E 8 G s k n [(4, .int (zI 0)), (0, .ref b)] 2475 [] := by
  have hx := hL.1
  refine j_iinc hx 0 [(4, .int (zI (6 : Int))), (0, .ref b)] dL_law__2475 rfl (by omega) (by decide) rfl ?_
  refine j_goto hx 23 dL_law__2478 rfl ?_
  exact w_exit hL hs (by omega) (by omega) hk hn
end LW
theorem lk_RL_108 : LkV RL 108 RX11 yX11_feed cX11_feed 6 (some .int) 5 := ⟨km_RL_108, ki_yX11_feed, ks_RX11_yX11_feed, kn_RX11, kc_yX11_feed, rfl, by decide +kernel, by decide +kernel, by decide +kernel⟩
theorem lk_RL_111 : LkV RL 111 RX12 yX12_feed cX12_feed 8 (some .int) 5 := ⟨km_RL_111, ki_yX12_feed, ks_RX12_yX12_feed, kn_RX12, kc_yX12_feed, rfl, by decide +kernel, by decide +kernel, by decide +kernel⟩
set_option maxHeartbeats 4000000 in
set_option maxRecDepth 20000 in
theorem w_0 {X : zX} {E : zE} {G : zG} {s0 : zS} {b a m o : Nat} {ys : Nat → Int} (hL : LX X E b) (hG : zGK G) (hS0 : zSK G s0) (hF0 : zS0 G s0) (ha : gT G a = 12) (hm : gT G m = 13) (ho : gT G o = 120) (hs : ZS X E b 6 ys) (hy : ∀ j, -2147483648 ≤ ys j ∧ ys j ≤ 2147483647) : JJ X E 8 G s0 410 339631 [(4, .int (zI 0)), (3, .ref o), (2, .ref m), (1, .ref a), (0, .ref b)] 220 [] := by
  have hx := hL.1
  have hst := hx.2.2.2.2.2.2.2.2.2.2.2
  have hy0 := hy 0
  have hy1 := hy 1
  have hy2 := hy 2
  have hy3 := hy 3
  have hy4 := hy 4
  have hy5 := hy 5
  refine j_aload_n hx 3 dL_law__220 rfl ?_
  refine j_aload_n hx 4 dL_law__221 rfl ?_
  refine j_iload hx 0 dL_law__222 rfl ?_
  refine j_iconst hx dL_law__224 ?_
  refine j_iadd hx (r := 1) dL_law__225 (by omega) ?_
  refine j_sld hx hs (j := 1) rfl (by decide) (by decide) dL_law__226 ?_
  refine j_aload_n hx 4 dL_law__227 rfl ?_
  refine j_iload hx 0 dL_law__228 rfl ?_
  refine j_iconst hx dL_law__230 ?_
  refine j_iadd hx (r := 2) dL_law__231 (by omega) ?_
  refine j_sld hx hs (j := 2) rfl (by decide) (by decide) dL_law__232 ?_
  refine j_aload_n hx 4 dL_law__233 rfl ?_
  refine j_iload hx 0 dL_law__234 rfl ?_
  refine j_iconst hx dL_law__236 ?_
  refine j_iadd hx (r := 3) dL_law__237 (by omega) ?_
  refine j_sld hx hs (j := 3) rfl (by decide) (by decide) dL_law__238 ?_
  refine j_aload_n hx 4 dL_law__239 rfl ?_
  refine j_iload hx 0 dL_law__240 rfl ?_
  refine j_iconst hx dL_law__242 ?_
  refine j_iadd hx (r := 4) dL_law__243 (by omega) ?_
  refine j_sld hx hs (j := 4) rfl (by decide) (by decide) dL_law__244 ?_
  refine j_aload_n hx 4 dL_law__245 rfl ?_
  refine j_iload hx 0 dL_law__246 rfl ?_
  refine j_iconst hx dL_law__248 ?_
  refine j_iadd hx (r := 5) dL_law__249 (by omega) ?_
  refine j_sld hx hs (j := 5) rfl (by decide) (by decide) dL_law__250 ?_
  refine j_callV hx hG (c_X11_feed hst a ((ys 1)) ((ys 2)) ((ys 3)) ((ys 4)) ((ys 5))) lk_RL_108 ha (by decide) rfl rfl rfl rfl [.int (zI ((ys 1))), .int (zI ((ys 2))), .int (zI ((ys 3))), .int (zI ((ys 4))), .int (zI ((ys 5)))] ⟨rfl, hG, hS0, ha, (by omega), (by omega), (by omega), (by omega), (by omega), hF0⟩ rfl rfl ⟨by decide, by decide⟩ ⟨by decide, by decide⟩ (k2 := 410) (n2 := 339631) rfl rfl (Nat.le_of_ble_eq_true rfl) dL_law__251 (kIM (fun v1 s1 hS_s1 hF_s1 q2 => ?_))
  refine j_aload_n hx 2 dL_law__254 rfl ?_
  refine j_aload_n hx 4 dL_law__255 rfl ?_
  refine j_iload hx 0 dL_law__256 rfl ?_
  refine j_iconst hx dL_law__258 ?_
  refine j_iadd hx (r := 1) dL_law__259 (by omega) ?_
  refine j_sld hx hs (j := 1) rfl (by decide) (by decide) dL_law__260 ?_
  refine j_aload_n hx 4 dL_law__261 rfl ?_
  refine j_iload hx 0 dL_law__262 rfl ?_
  refine j_iconst hx dL_law__264 ?_
  refine j_iadd hx (r := 2) dL_law__265 (by omega) ?_
  refine j_sld hx hs (j := 2) rfl (by decide) (by decide) dL_law__266 ?_
  refine j_aload_n hx 4 dL_law__267 rfl ?_
  refine j_iload hx 0 dL_law__268 rfl ?_
  refine j_iconst hx dL_law__270 ?_
  refine j_iadd hx (r := 3) dL_law__271 (by omega) ?_
  refine j_sld hx hs (j := 3) rfl (by decide) (by decide) dL_law__272 ?_
  refine j_aload_n hx 4 dL_law__273 rfl ?_
  refine j_iload hx 0 dL_law__274 rfl ?_
  refine j_iconst hx dL_law__276 ?_
  refine j_iadd hx (r := 4) dL_law__277 (by omega) ?_
  refine j_sld hx hs (j := 4) rfl (by decide) (by decide) dL_law__278 ?_
  refine j_aload_n hx 4 dL_law__279 rfl ?_
  refine j_iload hx 0 dL_law__280 rfl ?_
  refine j_iconst hx dL_law__282 ?_
  refine j_iadd hx (r := 5) dL_law__283 (by omega) ?_
  refine j_sld hx hs (j := 5) rfl (by decide) (by decide) dL_law__284 ?_
  refine j_callV hx hG (c_X12_feed hst m ((ys 1)) ((ys 2)) ((ys 3)) ((ys 4)) ((ys 5))) lk_RL_111 hm (by decide) rfl rfl rfl rfl [.int (zI ((ys 1))), .int (zI ((ys 2))), .int (zI ((ys 3))), .int (zI ((ys 4))), .int (zI ((ys 5)))] ⟨rfl, hG, hS_s1, hm, (by omega), (by omega), (by omega), (by omega), (by omega), (zS0m_fr (ts := [10, 45]) (zS0m_of hF0) (zFr_t zFr_rf hF_s1 (by decide)) (by decide))⟩ rfl rfl ⟨by decide, by decide⟩ ⟨by decide, by decide⟩ (k2 := 410) (n2 := 339631) rfl rfl (Nat.le_of_ble_eq_true rfl) dL_law__285 (kIM (fun v3 s2 hS_s2 hF_s2 q4 => ?_))
  refine j_icmp_eq hx 2475 dL_law__288 rfl (by omega) (by omega) (fun h5 => ?_) (fun h5 => absurd h5 (by omega))
  exact j_sub [0, 4] [(4, .int (zI 0)), (0, .ref b)] rfl (w_tail hL hs (by decide) (by decide))

theorem lk_RL_112 : LkSH RL 112 yL_table cL_table 4 (some .int) [(0, 9, 12, 13)] 3 := ⟨km_RL_112, kst_yL_table, kn_RL, kc_yL_table, by decide +kernel, by decide +kernel, by decide +kernel⟩
theorem lk_RL_117 : LkV RL 117 RX12 yX12_table cX12_table 4 (some .int) 1 := ⟨km_RL_117, ki_yX12_table, ks_RX12_yX12_table, kn_RX12, kc_yX12_table, rfl, by decide +kernel, by decide +kernel, by decide +kernel⟩
theorem lk_RL_118 : LkV RL 118 RX12 yX12_thrown cX12_thrown 1 (some .int) 0 := ⟨km_RL_118, ki_yX12_thrown, ks_RX12_yX12_thrown, kn_RX12, kc_yX12_thrown, rfl, by decide +kernel, by decide +kernel, by decide +kernel⟩
set_option maxHeartbeats 4000000 in
set_option maxRecDepth 20000 in
theorem w_1 {X : zX} {E : zE} {G : zG} {s0 : zS} {b a m o : Nat} {ys : Nat → Int} (hL : LX X E b) (hG : zGK G) (hS0 : zSK G s0) (hF0 : zS0 G s0) (ha : gT G a = 12) (hm : gT G m = 13) (ho : gT G o = 120) (hs : ZS X E b 6 ys) (hy : ∀ j, -2147483648 ≤ ys j ∧ ys j ≤ 2147483647) : JJ X E 8 G s0 410 339631 [(4, .int (zI 0)), (3, .ref o), (2, .ref m), (1, .ref a), (0, .ref b)] 293 [] := by
  have hx := hL.1
  have hst := hx.2.2.2.2.2.2.2.2.2.2.2
  have hy0 := hy 0
  have hy1 := hy 1
  have hy2 := hy 2
  have hy3 := hy 3
  have hy4 := hy 4
  have hy5 := hy 5
  refine j_aload_n hx 3 dL_law__293 rfl ?_
  refine j_aload_n hx 4 dL_law__294 rfl ?_
  refine j_iload hx 0 dL_law__295 rfl ?_
  refine j_iconst hx dL_law__297 ?_
  refine j_iadd hx (r := 1) dL_law__298 (by omega) ?_
  refine j_sld hx hs (j := 1) rfl (by decide) (by decide) dL_law__299 ?_
  refine j_aload_n hx 1 dL_law__300 rfl ?_
  refine j_callSH hx (c_L_table hst a ((ys 1)) o) lk_RL_112 [.ref a, .int (zI ((ys 1))), .ref o] ⟨rfl, hG, hS0, hF0, ha, (by omega), ho⟩ rfl rfl ⟨by decide, by decide⟩ ⟨by decide, by decide⟩ (k2 := 411) (n2 := 339637) rfl rfl (Nat.le_of_ble_eq_true rfl) dL_law__301 (kIM (fun v1 s1 hS_s1 hF_s1 q2 => ?_))
  refine j_istore hx [(5, .int (zI v1)), (4, .int (zI 0)), (3, .ref o), (2, .ref m), (1, .ref a), (0, .ref b)] dL_law__304 (by decide) rfl ?_
  refine j_aload_n hx 3 dL_law__306 rfl ?_
  refine j_aload_n hx 5 dL_law__307 rfl ?_
  refine j_iload hx 1 dL_law__308 rfl ?_
  refine j_iconst hx dL_law__310 ?_
  refine j_iadd hx (r := 1) dL_law__311 (by omega) ?_
  refine j_sld hx hs (j := 1) rfl (by decide) (by decide) dL_law__312 ?_
  refine j_callV hx hG (c_X12_table hst m ((ys 1))) lk_RL_117 hm (by decide) rfl rfl rfl rfl [.int (zI ((ys 1)))] ⟨rfl, hG, hS_s1, hm, (by omega), (zS0m_fr (ts := [1, 2, 4, 5, 7, 9, 10, 12, 42, 43, 44, 49, 50, 120]) (zS0m_of hF0) (zFr_t zFr_rf hF_s1 (by decide)) (by decide))⟩ rfl rfl ⟨by decide, by decide⟩ ⟨by decide, by decide⟩ (k2 := 411) (n2 := 339637) rfl rfl (Nat.le_of_ble_eq_true rfl) dL_law__313 (kIM (fun v3 s2 hS_s2 hF_s2 q4 => ?_))
  refine j_istore hx [(6, .int (zI v3)), (5, .int (zI v1)), (4, .int (zI 0)), (3, .ref o), (2, .ref m), (1, .ref a), (0, .ref b)] dL_law__316 (by decide) rfl ?_
  refine j_aload_n hx 4 dL_law__318 rfl ?_
  refine j_callV hx hG (c_X12_thrown hst m) lk_RL_118 hm (by decide) rfl rfl rfl rfl [] ⟨rfl, hG, hS_s2, hm⟩ rfl rfl ⟨by decide, by decide⟩ ⟨by decide, by decide⟩ (k2 := 411) (n2 := 339637) rfl rfl (Nat.le_of_ble_eq_true rfl) dL_law__319 (kIP (fun v5 q6 => ?_))
  refine j_iload hx 1 dL_law__322 rfl ?_
  refine j_icmp_eq hx 329 dL_law__324 rfl (by omega) (by omega) (fun h7 => ?_) (fun h7 => ?_)
  · skip
    refine j_iload hx 1 dL_law__329 rfl ?_
    refine j_if_ne hx 346 dL_law__331 rfl (by omega) (fun h8 => ?_) (fun h8 => ?_)
    · skip
      refine j_goto hx 2475 dL_law__346 rfl ?_
      exact j_sub [2, 6] [(4, .int (zI 0)), (0, .ref b)] rfl (w_tail hL hs (by decide) (by decide))
    · skip
      refine j_aload_n hx 3 dL_law__334 rfl ?_
      refine j_iconst hx dL_law__335 ?_
      have f9 := zaI (j := 0) hS_s1 ho rfl (zlen hG ho (n := 1) rfl rfl) (show 0 ≤ 0 by omega) (by omega) rfl
      refine j_lald hx hG ho (by decide) rfl (zlen hG ho (n := 1) rfl rfl) (by omega) (by omega) (j := 0) rfl (v := (s1 o 0)) (by rw [(zFr_g hF_s2 ho (by decide))]) dL_law__336 ?_
      refine j_iload hx 0 dL_law__337 rfl ?_
      refine j_i2l hx dL_law__339 (by omega) ?_
      refine j_lcmp hx dL_law__340 (by omega) (by omega) (fun v10 f11 f12 f13 => ?_)
      have f14 : -1 ≤ v10 ∧ v10 ≤ 1 := by omega
      refine j_if_eq hx 346 dL_law__341 rfl (by omega) (fun h15 => ?_) (fun h15 => ?_)
      · skip
        refine j_goto hx 2475 dL_law__346 rfl ?_
        exact j_sub [2, 6] [(4, .int (zI 0)), (0, .ref b)] rfl (w_tail hL hs (by decide) (by decide))
      · skip
        exfalso
        omega
  · skip
    exfalso
    omega

theorem lk_RL_122 : LkSH RL 122 yL_plan cL_plan 5 (some .int) [(0, 10, 13, 19), (0, 10, 17, 13)] 4 := ⟨km_RL_122, kst_yL_plan, kn_RL, kc_yL_plan, by decide +kernel, by decide +kernel, by decide +kernel⟩
theorem lk_RL_125 : LkV RL 125 RX12 yX12_plan cX12_plan 3 (some .int) 2 := ⟨km_RL_125, ki_yX12_plan, ks_RX12_yX12_plan, kn_RX12, kc_yX12_plan, rfl, by decide +kernel, by decide +kernel, by decide +kernel⟩
set_option maxHeartbeats 4000000 in
set_option maxRecDepth 20000 in
theorem w_2 {X : zX} {E : zE} {G : zG} {s0 : zS} {b a m o : Nat} {ys : Nat → Int} (hL : LX X E b) (hG : zGK G) (hS0 : zSK G s0) (hF0 : zS0 G s0) (ha : gT G a = 12) (hm : gT G m = 13) (ho : gT G o = 120) (hs : ZS X E b 6 ys) (hy : ∀ j, -2147483648 ≤ ys j ∧ ys j ≤ 2147483647) : JJ X E 8 G s0 410 339631 [(4, .int (zI 0)), (3, .ref o), (2, .ref m), (1, .ref a), (0, .ref b)] 349 [] := by
  have hx := hL.1
  have hst := hx.2.2.2.2.2.2.2.2.2.2.2
  have hy0 := hy 0
  have hy1 := hy 1
  have hy2 := hy 2
  have hy3 := hy 3
  have hy4 := hy 4
  have hy5 := hy 5
  refine j_aload_n hx 3 dL_law__349 rfl ?_
  refine j_aload_n hx 4 dL_law__350 rfl ?_
  refine j_iload hx 0 dL_law__351 rfl ?_
  refine j_iconst hx dL_law__353 ?_
  refine j_iadd hx (r := 1) dL_law__354 (by omega) ?_
  refine j_sld hx hs (j := 1) rfl (by decide) (by decide) dL_law__355 ?_
  refine j_aload_n hx 4 dL_law__356 rfl ?_
  refine j_iload hx 0 dL_law__357 rfl ?_
  refine j_iconst hx dL_law__359 ?_
  refine j_iadd hx (r := 2) dL_law__360 (by omega) ?_
  refine j_sld hx hs (j := 2) rfl (by decide) (by decide) dL_law__361 ?_
  refine j_aload_n hx 1 dL_law__362 rfl ?_
  refine j_callSH hx (c_L_plan hst a ((ys 1)) ((ys 2)) o) lk_RL_122 [.ref a, .int (zI ((ys 1))), .int (zI ((ys 2))), .ref o] ⟨rfl, hG, hS0, hF0, ha, (by omega), (by omega), ho⟩ rfl rfl ⟨by decide, by decide⟩ ⟨by decide, by decide⟩ (k2 := 411) (n2 := 339637) rfl rfl (Nat.le_of_ble_eq_true rfl) dL_law__363 (kIM (fun v1 s1 hS_s1 hF_s1 q2 => ?_))
  refine j_istore hx [(5, .int (zI v1)), (4, .int (zI 0)), (3, .ref o), (2, .ref m), (1, .ref a), (0, .ref b)] dL_law__366 (by decide) rfl ?_
  refine j_aload_n hx 3 dL_law__368 rfl ?_
  refine j_aload_n hx 5 dL_law__369 rfl ?_
  refine j_iload hx 1 dL_law__370 rfl ?_
  refine j_iconst hx dL_law__372 ?_
  refine j_iadd hx (r := 1) dL_law__373 (by omega) ?_
  refine j_sld hx hs (j := 1) rfl (by decide) (by decide) dL_law__374 ?_
  refine j_aload_n hx 5 dL_law__375 rfl ?_
  refine j_iload hx 1 dL_law__376 rfl ?_
  refine j_iconst hx dL_law__378 ?_
  refine j_iadd hx (r := 2) dL_law__379 (by omega) ?_
  refine j_sld hx hs (j := 2) rfl (by decide) (by decide) dL_law__380 ?_
  refine j_callV hx hG (c_X12_plan hst m ((ys 1)) ((ys 2))) lk_RL_125 hm (by decide) rfl rfl rfl rfl [.int (zI ((ys 1))), .int (zI ((ys 2)))] ⟨rfl, hG, hS_s1, hm, (by omega), (by omega), (zS0m_fr (ts := [12, 120]) (zS0m_of hF0) (zFr_t zFr_rf hF_s1 (by decide)) (by decide))⟩ rfl rfl ⟨by decide, by decide⟩ ⟨by decide, by decide⟩ (k2 := 411) (n2 := 339637) rfl rfl (Nat.le_of_ble_eq_true rfl) dL_law__381 (kIM (fun v3 s2 hS_s2 hF_s2 q4 => ?_))
  refine j_istore hx [(6, .int (zI v3)), (5, .int (zI v1)), (4, .int (zI 0)), (3, .ref o), (2, .ref m), (1, .ref a), (0, .ref b)] dL_law__384 (by decide) rfl ?_
  refine j_aload_n hx 4 dL_law__386 rfl ?_
  refine j_callV hx hG (c_X12_thrown hst m) lk_RL_118 hm (by decide) rfl rfl rfl rfl [] ⟨rfl, hG, hS_s2, hm⟩ rfl rfl ⟨by decide, by decide⟩ ⟨by decide, by decide⟩ (k2 := 411) (n2 := 339637) rfl rfl (Nat.le_of_ble_eq_true rfl) dL_law__387 (kIP (fun v5 q6 => ?_))
  refine j_iload hx 1 dL_law__390 rfl ?_
  refine j_icmp_eq hx 397 dL_law__392 rfl (by omega) (by omega) (fun h7 => ?_) (fun h7 => ?_)
  · skip
    refine j_iload hx 1 dL_law__397 rfl ?_
    refine j_if_ne hx 414 dL_law__399 rfl (by omega) (fun h8 => ?_) (fun h8 => ?_)
    · skip
      refine j_goto hx 2475 dL_law__414 rfl ?_
      exact j_sub [2, 6] [(4, .int (zI 0)), (0, .ref b)] rfl (w_tail hL hs (by decide) (by decide))
    · skip
      refine j_aload_n hx 3 dL_law__402 rfl ?_
      refine j_iconst hx dL_law__403 ?_
      have f9 := zaI (j := 0) hS_s1 ho rfl (zlen hG ho (n := 1) rfl rfl) (show 0 ≤ 0 by omega) (by omega) rfl
      refine j_lald hx hG ho (by decide) rfl (zlen hG ho (n := 1) rfl rfl) (by omega) (by omega) (j := 0) rfl (v := (s1 o 0)) (by rw [(zFr_g hF_s2 ho (by decide))]) dL_law__404 ?_
      refine j_iload hx 0 dL_law__405 rfl ?_
      refine j_i2l hx dL_law__407 (by omega) ?_
      refine j_lcmp hx dL_law__408 (by omega) (by omega) (fun v10 f11 f12 f13 => ?_)
      have f14 : -1 ≤ v10 ∧ v10 ≤ 1 := by omega
      refine j_if_eq hx 414 dL_law__409 rfl (by omega) (fun h15 => ?_) (fun h15 => ?_)
      · skip
        refine j_goto hx 2475 dL_law__414 rfl ?_
        exact j_sub [2, 6] [(4, .int (zI 0)), (0, .ref b)] rfl (w_tail hL hs (by decide) (by decide))
      · skip
        exfalso
        omega
  · skip
    exfalso
    omega

theorem lk_RL_126 : LkSH RL 126 yL_guess cL_guess 5 (some .int) [(0, 10, 13, 19), (0, 10, 17, 13)] 4 := ⟨km_RL_126, kst_yL_guess, kn_RL, kc_yL_guess, by decide +kernel, by decide +kernel, by decide +kernel⟩
theorem lk_RL_128 : LkV RL 128 RX12 yX12_guess cX12_guess 3 (some .int) 2 := ⟨km_RL_128, ki_yX12_guess, ks_RX12_yX12_guess, kn_RX12, kc_yX12_guess, rfl, by decide +kernel, by decide +kernel, by decide +kernel⟩
set_option maxHeartbeats 4000000 in
set_option maxRecDepth 20000 in
theorem w_3 {X : zX} {E : zE} {G : zG} {s0 : zS} {b a m o : Nat} {ys : Nat → Int} (hL : LX X E b) (hG : zGK G) (hS0 : zSK G s0) (hF0 : zS0 G s0) (ha : gT G a = 12) (hm : gT G m = 13) (ho : gT G o = 120) (hs : ZS X E b 6 ys) (hy : ∀ j, -2147483648 ≤ ys j ∧ ys j ≤ 2147483647) : JJ X E 8 G s0 410 339631 [(4, .int (zI 0)), (3, .ref o), (2, .ref m), (1, .ref a), (0, .ref b)] 417 [] := by
  have hx := hL.1
  have hst := hx.2.2.2.2.2.2.2.2.2.2.2
  have hy0 := hy 0
  have hy1 := hy 1
  have hy2 := hy 2
  have hy3 := hy 3
  have hy4 := hy 4
  have hy5 := hy 5
  refine j_aload_n hx 3 dL_law__417 rfl ?_
  refine j_aload_n hx 4 dL_law__418 rfl ?_
  refine j_iload hx 0 dL_law__419 rfl ?_
  refine j_iconst hx dL_law__421 ?_
  refine j_iadd hx (r := 1) dL_law__422 (by omega) ?_
  refine j_sld hx hs (j := 1) rfl (by decide) (by decide) dL_law__423 ?_
  refine j_aload_n hx 4 dL_law__424 rfl ?_
  refine j_iload hx 0 dL_law__425 rfl ?_
  refine j_iconst hx dL_law__427 ?_
  refine j_iadd hx (r := 2) dL_law__428 (by omega) ?_
  refine j_sld hx hs (j := 2) rfl (by decide) (by decide) dL_law__429 ?_
  refine j_aload_n hx 1 dL_law__430 rfl ?_
  refine j_callSH hx (c_L_guess hst a ((ys 1)) ((ys 2)) o) lk_RL_126 [.ref a, .int (zI ((ys 1))), .int (zI ((ys 2))), .ref o] ⟨rfl, hG, hS0, hF0, ha, (by omega), (by omega), ho⟩ rfl rfl ⟨by decide, by decide⟩ ⟨by decide, by decide⟩ (k2 := 411) (n2 := 339637) rfl rfl (Nat.le_of_ble_eq_true rfl) dL_law__431 (kIM (fun v1 s1 hS_s1 hF_s1 q2 => ?_))
  refine j_istore hx [(5, .int (zI v1)), (4, .int (zI 0)), (3, .ref o), (2, .ref m), (1, .ref a), (0, .ref b)] dL_law__434 (by decide) rfl ?_
  refine j_aload_n hx 3 dL_law__436 rfl ?_
  refine j_aload_n hx 5 dL_law__437 rfl ?_
  refine j_iload hx 1 dL_law__438 rfl ?_
  refine j_iconst hx dL_law__440 ?_
  refine j_iadd hx (r := 1) dL_law__441 (by omega) ?_
  refine j_sld hx hs (j := 1) rfl (by decide) (by decide) dL_law__442 ?_
  refine j_aload_n hx 5 dL_law__443 rfl ?_
  refine j_iload hx 1 dL_law__444 rfl ?_
  refine j_iconst hx dL_law__446 ?_
  refine j_iadd hx (r := 2) dL_law__447 (by omega) ?_
  refine j_sld hx hs (j := 2) rfl (by decide) (by decide) dL_law__448 ?_
  refine j_callV hx hG (c_X12_guess hst m ((ys 1)) ((ys 2))) lk_RL_128 hm (by decide) rfl rfl rfl rfl [.int (zI ((ys 1))), .int (zI ((ys 2)))] ⟨rfl, hG, hS_s1, hm, (by omega), (by omega), (zS0m_fr (ts := [12, 120]) (zS0m_of hF0) (zFr_t zFr_rf hF_s1 (by decide)) (by decide))⟩ rfl rfl ⟨by decide, by decide⟩ ⟨by decide, by decide⟩ (k2 := 411) (n2 := 339637) rfl rfl (Nat.le_of_ble_eq_true rfl) dL_law__449 (kIM (fun v3 s2 hS_s2 hF_s2 q4 => ?_))
  refine j_istore hx [(6, .int (zI v3)), (5, .int (zI v1)), (4, .int (zI 0)), (3, .ref o), (2, .ref m), (1, .ref a), (0, .ref b)] dL_law__452 (by decide) rfl ?_
  refine j_aload_n hx 4 dL_law__454 rfl ?_
  refine j_callV hx hG (c_X12_thrown hst m) lk_RL_118 hm (by decide) rfl rfl rfl rfl [] ⟨rfl, hG, hS_s2, hm⟩ rfl rfl ⟨by decide, by decide⟩ ⟨by decide, by decide⟩ (k2 := 411) (n2 := 339637) rfl rfl (Nat.le_of_ble_eq_true rfl) dL_law__455 (kIP (fun v5 q6 => ?_))
  refine j_iload hx 1 dL_law__458 rfl ?_
  refine j_icmp_eq hx 465 dL_law__460 rfl (by omega) (by omega) (fun h7 => ?_) (fun h7 => ?_)
  · skip
    refine j_iload hx 1 dL_law__465 rfl ?_
    refine j_if_ne hx 482 dL_law__467 rfl (by omega) (fun h8 => ?_) (fun h8 => ?_)
    · skip
      refine j_goto hx 2475 dL_law__482 rfl ?_
      exact j_sub [2, 6] [(4, .int (zI 0)), (0, .ref b)] rfl (w_tail hL hs (by decide) (by decide))
    · skip
      refine j_aload_n hx 3 dL_law__470 rfl ?_
      refine j_iconst hx dL_law__471 ?_
      have f9 := zaI (j := 0) hS_s1 ho rfl (zlen hG ho (n := 1) rfl rfl) (show 0 ≤ 0 by omega) (by omega) rfl
      refine j_lald hx hG ho (by decide) rfl (zlen hG ho (n := 1) rfl rfl) (by omega) (by omega) (j := 0) rfl (v := (s1 o 0)) (by rw [(zFr_g hF_s2 ho (by decide))]) dL_law__472 ?_
      refine j_iload hx 0 dL_law__473 rfl ?_
      refine j_i2l hx dL_law__475 (by omega) ?_
      refine j_lcmp hx dL_law__476 (by omega) (by omega) (fun v10 f11 f12 f13 => ?_)
      have f14 : -1 ≤ v10 ∧ v10 ≤ 1 := by omega
      refine j_if_eq hx 482 dL_law__477 rfl (by omega) (fun h15 => ?_) (fun h15 => ?_)
      · skip
        refine j_goto hx 2475 dL_law__482 rfl ?_
        exact j_sub [2, 6] [(4, .int (zI 0)), (0, .ref b)] rfl (w_tail hL hs (by decide) (by decide))
      · skip
        exfalso
        omega
  · skip
    exfalso
    omega

theorem lk_RL_129 : LkSH RL 129 yL_book cL_book 4 (some .int) [(0, 9, 12, 13)] 3 := ⟨km_RL_129, kst_yL_book, kn_RL, kc_yL_book, by decide +kernel, by decide +kernel, by decide +kernel⟩
theorem lk_RL_131 : LkV RL 131 RX12 yX12_book cX12_book 6 (some .int) 1 := ⟨km_RL_131, ki_yX12_book, ks_RX12_yX12_book, kn_RX12, kc_yX12_book, rfl, by decide +kernel, by decide +kernel, by decide +kernel⟩
set_option maxHeartbeats 4000000 in
set_option maxRecDepth 20000 in
theorem w_4 {X : zX} {E : zE} {G : zG} {s0 : zS} {b a m o : Nat} {ys : Nat → Int} (hL : LX X E b) (hG : zGK G) (hS0 : zSK G s0) (hF0 : zS0 G s0) (ha : gT G a = 12) (hm : gT G m = 13) (ho : gT G o = 120) (hs : ZS X E b 6 ys) (hy : ∀ j, -2147483648 ≤ ys j ∧ ys j ≤ 2147483647) : JJ X E 8 G s0 410 339631 [(4, .int (zI 0)), (3, .ref o), (2, .ref m), (1, .ref a), (0, .ref b)] 485 [] := by
  have hx := hL.1
  have hst := hx.2.2.2.2.2.2.2.2.2.2.2
  have hy0 := hy 0
  have hy1 := hy 1
  have hy2 := hy 2
  have hy3 := hy 3
  have hy4 := hy 4
  have hy5 := hy 5
  refine j_aload_n hx 3 dL_law__485 rfl ?_
  refine j_aload_n hx 4 dL_law__486 rfl ?_
  refine j_iload hx 0 dL_law__487 rfl ?_
  refine j_iconst hx dL_law__489 ?_
  refine j_iadd hx (r := 1) dL_law__490 (by omega) ?_
  refine j_sld hx hs (j := 1) rfl (by decide) (by decide) dL_law__491 ?_
  refine j_aload_n hx 1 dL_law__492 rfl ?_
  refine j_callSH hx (c_L_book hst a ((ys 1)) o) lk_RL_129 [.ref a, .int (zI ((ys 1))), .ref o] ⟨rfl, hG, hS0, hF0, ha, (by omega), ho⟩ rfl rfl ⟨by decide, by decide⟩ ⟨by decide, by decide⟩ (k2 := 411) (n2 := 339637) rfl rfl (Nat.le_of_ble_eq_true rfl) dL_law__493 (kIM (fun v1 s1 hS_s1 hF_s1 q2 => ?_))
  refine j_istore hx [(5, .int (zI v1)), (4, .int (zI 0)), (3, .ref o), (2, .ref m), (1, .ref a), (0, .ref b)] dL_law__496 (by decide) rfl ?_
  refine j_aload_n hx 3 dL_law__498 rfl ?_
  refine j_aload_n hx 5 dL_law__499 rfl ?_
  refine j_iload hx 1 dL_law__500 rfl ?_
  refine j_iconst hx dL_law__502 ?_
  refine j_iadd hx (r := 1) dL_law__503 (by omega) ?_
  refine j_sld hx hs (j := 1) rfl (by decide) (by decide) dL_law__504 ?_
  refine j_callV hx hG (c_X12_book hst m ((ys 1))) lk_RL_131 hm (by decide) rfl rfl rfl rfl [.int (zI ((ys 1)))] ⟨rfl, hG, hS_s1, hm, (by omega), (zS0m_fr (ts := [2, 10, 12, 120]) (zS0m_of hF0) (zFr_t zFr_rf hF_s1 (by decide)) (by decide))⟩ rfl rfl ⟨by decide, by decide⟩ ⟨by decide, by decide⟩ (k2 := 411) (n2 := 339637) rfl rfl (Nat.le_of_ble_eq_true rfl) dL_law__505 (kIM (fun v3 s2 hS_s2 hF_s2 q4 => ?_))
  refine j_istore hx [(6, .int (zI v3)), (5, .int (zI v1)), (4, .int (zI 0)), (3, .ref o), (2, .ref m), (1, .ref a), (0, .ref b)] dL_law__508 (by decide) rfl ?_
  refine j_aload_n hx 4 dL_law__510 rfl ?_
  refine j_callV hx hG (c_X12_thrown hst m) lk_RL_118 hm (by decide) rfl rfl rfl rfl [] ⟨rfl, hG, hS_s2, hm⟩ rfl rfl ⟨by decide, by decide⟩ ⟨by decide, by decide⟩ (k2 := 411) (n2 := 339637) rfl rfl (Nat.le_of_ble_eq_true rfl) dL_law__511 (kIP (fun v5 q6 => ?_))
  refine j_iload hx 1 dL_law__514 rfl ?_
  refine j_icmp_eq hx 521 dL_law__516 rfl (by omega) (by omega) (fun h7 => ?_) (fun h7 => ?_)
  · skip
    refine j_iload hx 1 dL_law__521 rfl ?_
    refine j_if_ne hx 538 dL_law__523 rfl (by omega) (fun h8 => ?_) (fun h8 => ?_)
    · skip
      refine j_goto hx 2475 dL_law__538 rfl ?_
      exact j_sub [2, 6] [(4, .int (zI 0)), (0, .ref b)] rfl (w_tail hL hs (by decide) (by decide))
    · skip
      refine j_aload_n hx 3 dL_law__526 rfl ?_
      refine j_iconst hx dL_law__527 ?_
      have f9 := zaI (j := 0) hS_s1 ho rfl (zlen hG ho (n := 1) rfl rfl) (show 0 ≤ 0 by omega) (by omega) rfl
      refine j_lald hx hG ho (by decide) rfl (zlen hG ho (n := 1) rfl rfl) (by omega) (by omega) (j := 0) rfl (v := (s1 o 0)) (by rw [(zFr_g hF_s2 ho (by decide))]) dL_law__528 ?_
      refine j_iload hx 0 dL_law__529 rfl ?_
      refine j_i2l hx dL_law__531 (by omega) ?_
      refine j_lcmp hx dL_law__532 (by omega) (by omega) (fun v10 f11 f12 f13 => ?_)
      have f14 : -1 ≤ v10 ∧ v10 ≤ 1 := by omega
      refine j_if_eq hx 538 dL_law__533 rfl (by omega) (fun h15 => ?_) (fun h15 => ?_)
      · skip
        refine j_goto hx 2475 dL_law__538 rfl ?_
        exact j_sub [2, 6] [(4, .int (zI 0)), (0, .ref b)] rfl (w_tail hL hs (by decide) (by decide))
      · skip
        exfalso
        omega
  · skip
    exfalso
    omega

theorem lk_RL_132 : LkV RL 132 RX11 yX11_fault cX11_fault 1 (some .int) 0 := ⟨km_RL_132, ki_yX11_fault, ks_RX11_yX11_fault, kn_RX11, kc_yX11_fault, rfl, by decide +kernel, by decide +kernel, by decide +kernel⟩
theorem lk_RL_135 : LkV RL 135 RX12 yX12_fault cX12_fault 1 (some .int) 0 := ⟨km_RL_135, ki_yX12_fault, ks_RX12_yX12_fault, kn_RX12, kc_yX12_fault, rfl, by decide +kernel, by decide +kernel, by decide +kernel⟩
set_option maxHeartbeats 4000000 in
set_option maxRecDepth 20000 in
theorem w_5 {X : zX} {E : zE} {G : zG} {s0 : zS} {b a m o : Nat} {ys : Nat → Int} (hL : LX X E b) (hG : zGK G) (hS0 : zSK G s0) (hF0 : zS0 G s0) (ha : gT G a = 12) (hm : gT G m = 13) (ho : gT G o = 120) (hs : ZS X E b 6 ys) (hy : ∀ j, -2147483648 ≤ ys j ∧ ys j ≤ 2147483647) : JJ X E 8 G s0 410 339631 [(4, .int (zI 0)), (3, .ref o), (2, .ref m), (1, .ref a), (0, .ref b)] 541 [] := by
  have hx := hL.1
  have hst := hx.2.2.2.2.2.2.2.2.2.2.2
  have hy0 := hy 0
  have hy1 := hy 1
  have hy2 := hy 2
  have hy3 := hy 3
  have hy4 := hy 4
  have hy5 := hy 5
  refine j_aload_n hx 3 dL_law__541 rfl ?_
  refine j_callV hx hG (c_X11_fault hst a) lk_RL_132 ha (by decide) rfl rfl rfl rfl [] ⟨rfl, hG, hS0, ha, hF0⟩ rfl rfl ⟨by decide, by decide⟩ ⟨by decide, by decide⟩ (k2 := 410) (n2 := 339631) rfl rfl (Nat.le_of_ble_eq_true rfl) dL_law__542 (kIP (fun v1 q2 => ?_))
  refine j_aload_n hx 2 dL_law__545 rfl ?_
  refine j_callV hx hG (c_X12_fault hst m) lk_RL_135 hm (by decide) rfl rfl rfl rfl [] ⟨rfl, hG, hS0, hm, (zS0m_of hF0)⟩ rfl rfl ⟨by decide, by decide⟩ ⟨by decide, by decide⟩ (k2 := 410) (n2 := 339631) rfl rfl (Nat.le_of_ble_eq_true rfl) dL_law__546 (kIM (fun v3 s1 hS_s1 hF_s1 q4 => ?_))
  refine j_icmp_eq hx 2475 dL_law__549 rfl (by omega) (by omega) (fun h5 => ?_) (fun h5 => absurd h5 (by omega))
  exact j_sub [0, 4] [(4, .int (zI 0)), (0, .ref b)] rfl (w_tail hL hs (by decide) (by decide))

theorem lk_RL_136 : LkSH RL 136 yL_told cL_told 4 (some .int) [(0, 9, 12, 13)] 3 := ⟨km_RL_136, kst_yL_told, kn_RL, kc_yL_told, by decide +kernel, by decide +kernel, by decide +kernel⟩
theorem lk_RL_138 : LkV RL 138 RX12 yX12_told cX12_told 2 (some .int) 1 := ⟨km_RL_138, ki_yX12_told, ks_RX12_yX12_told, kn_RX12, kc_yX12_told, rfl, by decide +kernel, by decide +kernel, by decide +kernel⟩
set_option maxHeartbeats 4000000 in
set_option maxRecDepth 20000 in
theorem w_6 {X : zX} {E : zE} {G : zG} {s0 : zS} {b a m o : Nat} {ys : Nat → Int} (hL : LX X E b) (hG : zGK G) (hS0 : zSK G s0) (hF0 : zS0 G s0) (ha : gT G a = 12) (hm : gT G m = 13) (ho : gT G o = 120) (hs : ZS X E b 6 ys) (hy : ∀ j, -2147483648 ≤ ys j ∧ ys j ≤ 2147483647) : JJ X E 8 G s0 410 339631 [(4, .int (zI 0)), (3, .ref o), (2, .ref m), (1, .ref a), (0, .ref b)] 554 [] := by
  have hx := hL.1
  have hst := hx.2.2.2.2.2.2.2.2.2.2.2
  have hy0 := hy 0
  have hy1 := hy 1
  have hy2 := hy 2
  have hy3 := hy 3
  have hy4 := hy 4
  have hy5 := hy 5
  refine j_aload_n hx 3 dL_law__554 rfl ?_
  refine j_aload_n hx 4 dL_law__555 rfl ?_
  refine j_iload hx 0 dL_law__556 rfl ?_
  refine j_iconst hx dL_law__558 ?_
  refine j_iadd hx (r := 1) dL_law__559 (by omega) ?_
  refine j_sld hx hs (j := 1) rfl (by decide) (by decide) dL_law__560 ?_
  refine j_aload_n hx 1 dL_law__561 rfl ?_
  refine j_callSH hx (c_L_told hst a ((ys 1)) o) lk_RL_136 [.ref a, .int (zI ((ys 1))), .ref o] ⟨rfl, hG, hS0, hF0, ha, (by omega), ho⟩ rfl rfl ⟨by decide, by decide⟩ ⟨by decide, by decide⟩ (k2 := 411) (n2 := 339637) rfl rfl (Nat.le_of_ble_eq_true rfl) dL_law__562 (kIM (fun v1 s1 hS_s1 hF_s1 q2 => ?_))
  refine j_istore hx [(5, .int (zI v1)), (4, .int (zI 0)), (3, .ref o), (2, .ref m), (1, .ref a), (0, .ref b)] dL_law__565 (by decide) rfl ?_
  refine j_aload_n hx 3 dL_law__567 rfl ?_
  refine j_aload_n hx 5 dL_law__568 rfl ?_
  refine j_iload hx 1 dL_law__569 rfl ?_
  refine j_iconst hx dL_law__571 ?_
  refine j_iadd hx (r := 1) dL_law__572 (by omega) ?_
  refine j_sld hx hs (j := 1) rfl (by decide) (by decide) dL_law__573 ?_
  refine j_callV hx hG (c_X12_told hst m ((ys 1))) lk_RL_138 hm (by decide) rfl rfl rfl rfl [.int (zI ((ys 1)))] ⟨rfl, hG, hS_s1, hm, (by omega), (zS0m_fr (ts := [12, 120]) (zS0m_of hF0) (zFr_t zFr_rf hF_s1 (by decide)) (by decide))⟩ rfl rfl ⟨by decide, by decide⟩ ⟨by decide, by decide⟩ (k2 := 411) (n2 := 339637) rfl rfl (Nat.le_of_ble_eq_true rfl) dL_law__574 (kIM (fun v3 s2 hS_s2 hF_s2 q4 => ?_))
  refine j_istore hx [(6, .int (zI v3)), (5, .int (zI v1)), (4, .int (zI 0)), (3, .ref o), (2, .ref m), (1, .ref a), (0, .ref b)] dL_law__577 (by decide) rfl ?_
  refine j_aload_n hx 4 dL_law__579 rfl ?_
  refine j_callV hx hG (c_X12_thrown hst m) lk_RL_118 hm (by decide) rfl rfl rfl rfl [] ⟨rfl, hG, hS_s2, hm⟩ rfl rfl ⟨by decide, by decide⟩ ⟨by decide, by decide⟩ (k2 := 411) (n2 := 339637) rfl rfl (Nat.le_of_ble_eq_true rfl) dL_law__580 (kIP (fun v5 q6 => ?_))
  refine j_iload hx 1 dL_law__583 rfl ?_
  refine j_icmp_eq hx 590 dL_law__585 rfl (by omega) (by omega) (fun h7 => ?_) (fun h7 => ?_)
  · skip
    refine j_iload hx 1 dL_law__590 rfl ?_
    refine j_if_ne hx 607 dL_law__592 rfl (by omega) (fun h8 => ?_) (fun h8 => ?_)
    · skip
      refine j_goto hx 2475 dL_law__607 rfl ?_
      exact j_sub [2, 6] [(4, .int (zI 0)), (0, .ref b)] rfl (w_tail hL hs (by decide) (by decide))
    · skip
      refine j_aload_n hx 3 dL_law__595 rfl ?_
      refine j_iconst hx dL_law__596 ?_
      have f9 := zaI (j := 0) hS_s1 ho rfl (zlen hG ho (n := 1) rfl rfl) (show 0 ≤ 0 by omega) (by omega) rfl
      refine j_lald hx hG ho (by decide) rfl (zlen hG ho (n := 1) rfl rfl) (by omega) (by omega) (j := 0) rfl (v := (s1 o 0)) (by rw [(zFr_g hF_s2 ho (by decide))]) dL_law__597 ?_
      refine j_iload hx 0 dL_law__598 rfl ?_
      refine j_i2l hx dL_law__600 (by omega) ?_
      refine j_lcmp hx dL_law__601 (by omega) (by omega) (fun v10 f11 f12 f13 => ?_)
      have f14 : -1 ≤ v10 ∧ v10 ≤ 1 := by omega
      refine j_if_eq hx 607 dL_law__602 rfl (by omega) (fun h15 => ?_) (fun h15 => ?_)
      · skip
        refine j_goto hx 2475 dL_law__607 rfl ?_
        exact j_sub [2, 6] [(4, .int (zI 0)), (0, .ref b)] rfl (w_tail hL hs (by decide) (by decide))
      · skip
        exfalso
        omega
  · skip
    exfalso
    omega

theorem lk_RL_139 : LkSH RL 139 yL_player cL_player 5 (some .int) [(0, 10, 13, 19), (0, 10, 17, 13)] 4 := ⟨km_RL_139, kst_yL_player, kn_RL, kc_yL_player, by decide +kernel, by decide +kernel, by decide +kernel⟩
theorem lk_RL_141 : LkV RL 141 RX12 yX12_player cX12_player 3 (some .int) 2 := ⟨km_RL_141, ki_yX12_player, ks_RX12_yX12_player, kn_RX12, kc_yX12_player, rfl, by decide +kernel, by decide +kernel, by decide +kernel⟩
set_option maxHeartbeats 4000000 in
set_option maxRecDepth 20000 in
theorem w_7 {X : zX} {E : zE} {G : zG} {s0 : zS} {b a m o : Nat} {ys : Nat → Int} (hL : LX X E b) (hG : zGK G) (hS0 : zSK G s0) (hF0 : zS0 G s0) (ha : gT G a = 12) (hm : gT G m = 13) (ho : gT G o = 120) (hs : ZS X E b 6 ys) (hy : ∀ j, -2147483648 ≤ ys j ∧ ys j ≤ 2147483647) : JJ X E 8 G s0 410 339631 [(4, .int (zI 0)), (3, .ref o), (2, .ref m), (1, .ref a), (0, .ref b)] 610 [] := by
  have hx := hL.1
  have hst := hx.2.2.2.2.2.2.2.2.2.2.2
  have hy0 := hy 0
  have hy1 := hy 1
  have hy2 := hy 2
  have hy3 := hy 3
  have hy4 := hy 4
  have hy5 := hy 5
  refine j_aload_n hx 3 dL_law__610 rfl ?_
  refine j_aload_n hx 4 dL_law__611 rfl ?_
  refine j_iload hx 0 dL_law__612 rfl ?_
  refine j_iconst hx dL_law__614 ?_
  refine j_iadd hx (r := 1) dL_law__615 (by omega) ?_
  refine j_sld hx hs (j := 1) rfl (by decide) (by decide) dL_law__616 ?_
  refine j_aload_n hx 4 dL_law__617 rfl ?_
  refine j_iload hx 0 dL_law__618 rfl ?_
  refine j_iconst hx dL_law__620 ?_
  refine j_iadd hx (r := 2) dL_law__621 (by omega) ?_
  refine j_sld hx hs (j := 2) rfl (by decide) (by decide) dL_law__622 ?_
  refine j_aload_n hx 1 dL_law__623 rfl ?_
  refine j_callSH hx (c_L_player hst a ((ys 1)) ((ys 2)) o) lk_RL_139 [.ref a, .int (zI ((ys 1))), .int (zI ((ys 2))), .ref o] ⟨rfl, hG, hS0, hF0, ha, (by omega), (by omega), ho⟩ rfl rfl ⟨by decide, by decide⟩ ⟨by decide, by decide⟩ (k2 := 411) (n2 := 339637) rfl rfl (Nat.le_of_ble_eq_true rfl) dL_law__624 (kIM (fun v1 s1 hS_s1 hF_s1 q2 => ?_))
  refine j_istore hx [(5, .int (zI v1)), (4, .int (zI 0)), (3, .ref o), (2, .ref m), (1, .ref a), (0, .ref b)] dL_law__627 (by decide) rfl ?_
  refine j_aload_n hx 3 dL_law__629 rfl ?_
  refine j_aload_n hx 5 dL_law__630 rfl ?_
  refine j_iload hx 1 dL_law__631 rfl ?_
  refine j_iconst hx dL_law__633 ?_
  refine j_iadd hx (r := 1) dL_law__634 (by omega) ?_
  refine j_sld hx hs (j := 1) rfl (by decide) (by decide) dL_law__635 ?_
  refine j_aload_n hx 5 dL_law__636 rfl ?_
  refine j_iload hx 1 dL_law__637 rfl ?_
  refine j_iconst hx dL_law__639 ?_
  refine j_iadd hx (r := 2) dL_law__640 (by omega) ?_
  refine j_sld hx hs (j := 2) rfl (by decide) (by decide) dL_law__641 ?_
  refine j_callV hx hG (c_X12_player hst m ((ys 1)) ((ys 2))) lk_RL_141 hm (by decide) rfl rfl rfl rfl [.int (zI ((ys 1))), .int (zI ((ys 2)))] ⟨rfl, hG, hS_s1, hm, (by omega), (by omega), (zS0m_fr (ts := [12, 120]) (zS0m_of hF0) (zFr_t zFr_rf hF_s1 (by decide)) (by decide))⟩ rfl rfl ⟨by decide, by decide⟩ ⟨by decide, by decide⟩ (k2 := 411) (n2 := 339637) rfl rfl (Nat.le_of_ble_eq_true rfl) dL_law__642 (kIM (fun v3 s2 hS_s2 hF_s2 q4 => ?_))
  refine j_istore hx [(6, .int (zI v3)), (5, .int (zI v1)), (4, .int (zI 0)), (3, .ref o), (2, .ref m), (1, .ref a), (0, .ref b)] dL_law__645 (by decide) rfl ?_
  refine j_aload_n hx 4 dL_law__647 rfl ?_
  refine j_callV hx hG (c_X12_thrown hst m) lk_RL_118 hm (by decide) rfl rfl rfl rfl [] ⟨rfl, hG, hS_s2, hm⟩ rfl rfl ⟨by decide, by decide⟩ ⟨by decide, by decide⟩ (k2 := 411) (n2 := 339637) rfl rfl (Nat.le_of_ble_eq_true rfl) dL_law__648 (kIP (fun v5 q6 => ?_))
  refine j_iload hx 1 dL_law__651 rfl ?_
  refine j_icmp_eq hx 658 dL_law__653 rfl (by omega) (by omega) (fun h7 => ?_) (fun h7 => ?_)
  · skip
    refine j_iload hx 1 dL_law__658 rfl ?_
    refine j_if_ne hx 675 dL_law__660 rfl (by omega) (fun h8 => ?_) (fun h8 => ?_)
    · skip
      refine j_goto hx 2475 dL_law__675 rfl ?_
      exact j_sub [2, 6] [(4, .int (zI 0)), (0, .ref b)] rfl (w_tail hL hs (by decide) (by decide))
    · skip
      refine j_aload_n hx 3 dL_law__663 rfl ?_
      refine j_iconst hx dL_law__664 ?_
      have f9 := zaI (j := 0) hS_s1 ho rfl (zlen hG ho (n := 1) rfl rfl) (show 0 ≤ 0 by omega) (by omega) rfl
      refine j_lald hx hG ho (by decide) rfl (zlen hG ho (n := 1) rfl rfl) (by omega) (by omega) (j := 0) rfl (v := (s1 o 0)) (by rw [(zFr_g hF_s2 ho (by decide))]) dL_law__665 ?_
      refine j_iload hx 0 dL_law__666 rfl ?_
      refine j_i2l hx dL_law__668 (by omega) ?_
      refine j_lcmp hx dL_law__669 (by omega) (by omega) (fun v10 f11 f12 f13 => ?_)
      have f14 : -1 ≤ v10 ∧ v10 ≤ 1 := by omega
      refine j_if_eq hx 675 dL_law__670 rfl (by omega) (fun h15 => ?_) (fun h15 => ?_)
      · skip
        refine j_goto hx 2475 dL_law__675 rfl ?_
        exact j_sub [2, 6] [(4, .int (zI 0)), (0, .ref b)] rfl (w_tail hL hs (by decide) (by decide))
      · skip
        exfalso
        omega
  · skip
    exfalso
    omega

theorem lk_RL_142 : LkSH RL 142 yL_row cL_row 5 (some .int) [(0, 10, 13, 19)] 4 := ⟨km_RL_142, kst_yL_row, kn_RL, kc_yL_row, by decide +kernel, by decide +kernel, by decide +kernel⟩
theorem lk_RL_144 : LkV RL 144 RX12 yX12_row cX12_row 3 (some .int) 2 := ⟨km_RL_144, ki_yX12_row, ks_RX12_yX12_row, kn_RX12, kc_yX12_row, rfl, by decide +kernel, by decide +kernel, by decide +kernel⟩
set_option maxHeartbeats 4000000 in
set_option maxRecDepth 20000 in
theorem w_8 {X : zX} {E : zE} {G : zG} {s0 : zS} {b a m o : Nat} {ys : Nat → Int} (hL : LX X E b) (hG : zGK G) (hS0 : zSK G s0) (hF0 : zS0 G s0) (ha : gT G a = 12) (hm : gT G m = 13) (ho : gT G o = 120) (hs : ZS X E b 6 ys) (hy : ∀ j, -2147483648 ≤ ys j ∧ ys j ≤ 2147483647) : JJ X E 8 G s0 410 339631 [(4, .int (zI 0)), (3, .ref o), (2, .ref m), (1, .ref a), (0, .ref b)] 678 [] := by
  have hx := hL.1
  have hst := hx.2.2.2.2.2.2.2.2.2.2.2
  have hy0 := hy 0
  have hy1 := hy 1
  have hy2 := hy 2
  have hy3 := hy 3
  have hy4 := hy 4
  have hy5 := hy 5
  refine j_aload_n hx 3 dL_law__678 rfl ?_
  refine j_aload_n hx 4 dL_law__679 rfl ?_
  refine j_iload hx 0 dL_law__680 rfl ?_
  refine j_iconst hx dL_law__682 ?_
  refine j_iadd hx (r := 1) dL_law__683 (by omega) ?_
  refine j_sld hx hs (j := 1) rfl (by decide) (by decide) dL_law__684 ?_
  refine j_aload_n hx 4 dL_law__685 rfl ?_
  refine j_iload hx 0 dL_law__686 rfl ?_
  refine j_iconst hx dL_law__688 ?_
  refine j_iadd hx (r := 2) dL_law__689 (by omega) ?_
  refine j_sld hx hs (j := 2) rfl (by decide) (by decide) dL_law__690 ?_
  refine j_aload_n hx 1 dL_law__691 rfl ?_
  refine j_callSH hx (c_L_row hst a ((ys 1)) ((ys 2)) o) lk_RL_142 [.ref a, .int (zI ((ys 1))), .int (zI ((ys 2))), .ref o] ⟨rfl, hG, hS0, hF0, ha, (by omega), (by omega), ho⟩ rfl rfl ⟨by decide, by decide⟩ ⟨by decide, by decide⟩ (k2 := 411) (n2 := 339637) rfl rfl (Nat.le_of_ble_eq_true rfl) dL_law__692 (kIM (fun v1 s1 hS_s1 hF_s1 q2 => ?_))
  refine j_istore hx [(5, .int (zI v1)), (4, .int (zI 0)), (3, .ref o), (2, .ref m), (1, .ref a), (0, .ref b)] dL_law__695 (by decide) rfl ?_
  refine j_aload_n hx 3 dL_law__697 rfl ?_
  refine j_aload_n hx 5 dL_law__698 rfl ?_
  refine j_iload hx 1 dL_law__699 rfl ?_
  refine j_iconst hx dL_law__701 ?_
  refine j_iadd hx (r := 1) dL_law__702 (by omega) ?_
  refine j_sld hx hs (j := 1) rfl (by decide) (by decide) dL_law__703 ?_
  refine j_aload_n hx 5 dL_law__704 rfl ?_
  refine j_iload hx 1 dL_law__705 rfl ?_
  refine j_iconst hx dL_law__707 ?_
  refine j_iadd hx (r := 2) dL_law__708 (by omega) ?_
  refine j_sld hx hs (j := 2) rfl (by decide) (by decide) dL_law__709 ?_
  refine j_callV hx hG (c_X12_row hst m ((ys 1)) ((ys 2))) lk_RL_144 hm (by decide) rfl rfl rfl rfl [.int (zI ((ys 1))), .int (zI ((ys 2)))] ⟨rfl, hG, hS_s1, hm, (by omega), (by omega), (zS0m_fr (ts := [12, 120]) (zS0m_of hF0) (zFr_t zFr_rf hF_s1 (by decide)) (by decide))⟩ rfl rfl ⟨by decide, by decide⟩ ⟨by decide, by decide⟩ (k2 := 411) (n2 := 339637) rfl rfl (Nat.le_of_ble_eq_true rfl) dL_law__710 (kIM (fun v3 s2 hS_s2 hF_s2 q4 => ?_))
  refine j_istore hx [(6, .int (zI v3)), (5, .int (zI v1)), (4, .int (zI 0)), (3, .ref o), (2, .ref m), (1, .ref a), (0, .ref b)] dL_law__713 (by decide) rfl ?_
  refine j_aload_n hx 4 dL_law__715 rfl ?_
  refine j_callV hx hG (c_X12_thrown hst m) lk_RL_118 hm (by decide) rfl rfl rfl rfl [] ⟨rfl, hG, hS_s2, hm⟩ rfl rfl ⟨by decide, by decide⟩ ⟨by decide, by decide⟩ (k2 := 411) (n2 := 339637) rfl rfl (Nat.le_of_ble_eq_true rfl) dL_law__716 (kIP (fun v5 q6 => ?_))
  refine j_iload hx 1 dL_law__719 rfl ?_
  refine j_icmp_eq hx 726 dL_law__721 rfl (by omega) (by omega) (fun h7 => ?_) (fun h7 => ?_)
  · skip
    refine j_iload hx 1 dL_law__726 rfl ?_
    refine j_if_ne hx 743 dL_law__728 rfl (by omega) (fun h8 => ?_) (fun h8 => ?_)
    · skip
      refine j_goto hx 2475 dL_law__743 rfl ?_
      exact j_sub [2, 6] [(4, .int (zI 0)), (0, .ref b)] rfl (w_tail hL hs (by decide) (by decide))
    · skip
      refine j_aload_n hx 3 dL_law__731 rfl ?_
      refine j_iconst hx dL_law__732 ?_
      have f9 := zaI (j := 0) hS_s1 ho rfl (zlen hG ho (n := 1) rfl rfl) (show 0 ≤ 0 by omega) (by omega) rfl
      refine j_lald hx hG ho (by decide) rfl (zlen hG ho (n := 1) rfl rfl) (by omega) (by omega) (j := 0) rfl (v := (s1 o 0)) (by rw [(zFr_g hF_s2 ho (by decide))]) dL_law__733 ?_
      refine j_iload hx 0 dL_law__734 rfl ?_
      refine j_i2l hx dL_law__736 (by omega) ?_
      refine j_lcmp hx dL_law__737 (by omega) (by omega) (fun v10 f11 f12 f13 => ?_)
      have f14 : -1 ≤ v10 ∧ v10 ≤ 1 := by omega
      refine j_if_eq hx 743 dL_law__738 rfl (by omega) (fun h15 => ?_) (fun h15 => ?_)
      · skip
        refine j_goto hx 2475 dL_law__743 rfl ?_
        exact j_sub [2, 6] [(4, .int (zI 0)), (0, .ref b)] rfl (w_tail hL hs (by decide) (by decide))
      · skip
        exfalso
        omega
  · skip
    exfalso
    omega

theorem lk_RL_145 : LkSH RL 145 yL_heap cL_heap 5 (some .int) [(0, 10, 13, 19)] 4 := ⟨km_RL_145, kst_yL_heap, kn_RL, kc_yL_heap, by decide +kernel, by decide +kernel, by decide +kernel⟩
theorem lk_RL_147 : LkV RL 147 RX12 yX12_heap cX12_heap 3 (some .int) 2 := ⟨km_RL_147, ki_yX12_heap, ks_RX12_yX12_heap, kn_RX12, kc_yX12_heap, rfl, by decide +kernel, by decide +kernel, by decide +kernel⟩
set_option maxHeartbeats 4000000 in
set_option maxRecDepth 20000 in
theorem w_9 {X : zX} {E : zE} {G : zG} {s0 : zS} {b a m o : Nat} {ys : Nat → Int} (hL : LX X E b) (hG : zGK G) (hS0 : zSK G s0) (hF0 : zS0 G s0) (ha : gT G a = 12) (hm : gT G m = 13) (ho : gT G o = 120) (hs : ZS X E b 6 ys) (hy : ∀ j, -2147483648 ≤ ys j ∧ ys j ≤ 2147483647) : JJ X E 8 G s0 410 339631 [(4, .int (zI 0)), (3, .ref o), (2, .ref m), (1, .ref a), (0, .ref b)] 746 [] := by
  have hx := hL.1
  have hst := hx.2.2.2.2.2.2.2.2.2.2.2
  have hy0 := hy 0
  have hy1 := hy 1
  have hy2 := hy 2
  have hy3 := hy 3
  have hy4 := hy 4
  have hy5 := hy 5
  refine j_aload_n hx 3 dL_law__746 rfl ?_
  refine j_aload_n hx 4 dL_law__747 rfl ?_
  refine j_iload hx 0 dL_law__748 rfl ?_
  refine j_iconst hx dL_law__750 ?_
  refine j_iadd hx (r := 1) dL_law__751 (by omega) ?_
  refine j_sld hx hs (j := 1) rfl (by decide) (by decide) dL_law__752 ?_
  refine j_aload_n hx 4 dL_law__753 rfl ?_
  refine j_iload hx 0 dL_law__754 rfl ?_
  refine j_iconst hx dL_law__756 ?_
  refine j_iadd hx (r := 2) dL_law__757 (by omega) ?_
  refine j_sld hx hs (j := 2) rfl (by decide) (by decide) dL_law__758 ?_
  refine j_aload_n hx 1 dL_law__759 rfl ?_
  refine j_callSH hx (c_L_heap hst a ((ys 1)) ((ys 2)) o) lk_RL_145 [.ref a, .int (zI ((ys 1))), .int (zI ((ys 2))), .ref o] ⟨rfl, hG, hS0, hF0, ha, (by omega), (by omega), ho⟩ rfl rfl ⟨by decide, by decide⟩ ⟨by decide, by decide⟩ (k2 := 411) (n2 := 339637) rfl rfl (Nat.le_of_ble_eq_true rfl) dL_law__760 (kIM (fun v1 s1 hS_s1 hF_s1 q2 => ?_))
  refine j_istore hx [(5, .int (zI v1)), (4, .int (zI 0)), (3, .ref o), (2, .ref m), (1, .ref a), (0, .ref b)] dL_law__763 (by decide) rfl ?_
  refine j_aload_n hx 3 dL_law__765 rfl ?_
  refine j_aload_n hx 5 dL_law__766 rfl ?_
  refine j_iload hx 1 dL_law__767 rfl ?_
  refine j_iconst hx dL_law__769 ?_
  refine j_iadd hx (r := 1) dL_law__770 (by omega) ?_
  refine j_sld hx hs (j := 1) rfl (by decide) (by decide) dL_law__771 ?_
  refine j_aload_n hx 5 dL_law__772 rfl ?_
  refine j_iload hx 1 dL_law__773 rfl ?_
  refine j_iconst hx dL_law__775 ?_
  refine j_iadd hx (r := 2) dL_law__776 (by omega) ?_
  refine j_sld hx hs (j := 2) rfl (by decide) (by decide) dL_law__777 ?_
  refine j_callV hx hG (c_X12_heap hst m ((ys 1)) ((ys 2))) lk_RL_147 hm (by decide) rfl rfl rfl rfl [.int (zI ((ys 1))), .int (zI ((ys 2)))] ⟨rfl, hG, hS_s1, hm, (by omega), (by omega), (zS0m_fr (ts := [12, 120]) (zS0m_of hF0) (zFr_t zFr_rf hF_s1 (by decide)) (by decide))⟩ rfl rfl ⟨by decide, by decide⟩ ⟨by decide, by decide⟩ (k2 := 411) (n2 := 339637) rfl rfl (Nat.le_of_ble_eq_true rfl) dL_law__778 (kIM (fun v3 s2 hS_s2 hF_s2 q4 => ?_))
  refine j_istore hx [(6, .int (zI v3)), (5, .int (zI v1)), (4, .int (zI 0)), (3, .ref o), (2, .ref m), (1, .ref a), (0, .ref b)] dL_law__781 (by decide) rfl ?_
  refine j_aload_n hx 4 dL_law__783 rfl ?_
  refine j_callV hx hG (c_X12_thrown hst m) lk_RL_118 hm (by decide) rfl rfl rfl rfl [] ⟨rfl, hG, hS_s2, hm⟩ rfl rfl ⟨by decide, by decide⟩ ⟨by decide, by decide⟩ (k2 := 411) (n2 := 339637) rfl rfl (Nat.le_of_ble_eq_true rfl) dL_law__784 (kIP (fun v5 q6 => ?_))
  refine j_iload hx 1 dL_law__787 rfl ?_
  refine j_icmp_eq hx 794 dL_law__789 rfl (by omega) (by omega) (fun h7 => ?_) (fun h7 => ?_)
  · skip
    refine j_iload hx 1 dL_law__794 rfl ?_
    refine j_if_ne hx 811 dL_law__796 rfl (by omega) (fun h8 => ?_) (fun h8 => ?_)
    · skip
      refine j_goto hx 2475 dL_law__811 rfl ?_
      exact j_sub [2, 6] [(4, .int (zI 0)), (0, .ref b)] rfl (w_tail hL hs (by decide) (by decide))
    · skip
      refine j_aload_n hx 3 dL_law__799 rfl ?_
      refine j_iconst hx dL_law__800 ?_
      have f9 := zaI (j := 0) hS_s1 ho rfl (zlen hG ho (n := 1) rfl rfl) (show 0 ≤ 0 by omega) (by omega) rfl
      refine j_lald hx hG ho (by decide) rfl (zlen hG ho (n := 1) rfl rfl) (by omega) (by omega) (j := 0) rfl (v := (s1 o 0)) (by rw [(zFr_g hF_s2 ho (by decide))]) dL_law__801 ?_
      refine j_iload hx 0 dL_law__802 rfl ?_
      refine j_i2l hx dL_law__804 (by omega) ?_
      refine j_lcmp hx dL_law__805 (by omega) (by omega) (fun v10 f11 f12 f13 => ?_)
      have f14 : -1 ≤ v10 ∧ v10 ≤ 1 := by omega
      refine j_if_eq hx 811 dL_law__806 rfl (by omega) (fun h15 => ?_) (fun h15 => ?_)
      · skip
        refine j_goto hx 2475 dL_law__811 rfl ?_
        exact j_sub [2, 6] [(4, .int (zI 0)), (0, .ref b)] rfl (w_tail hL hs (by decide) (by decide))
      · skip
        exfalso
        omega
  · skip
    exfalso
    omega

theorem lk_RL_148 : LkV RL 148 RX11 yX11_pool cX11_pool 2 (some .int) 1 := ⟨km_RL_148, ki_yX11_pool, ks_RX11_yX11_pool, kn_RX11, kc_yX11_pool, rfl, by decide +kernel, by decide +kernel, by decide +kernel⟩
theorem lk_RL_151 : LkV RL 151 RX12 yX12_pool cX12_pool 2 (some .int) 1 := ⟨km_RL_151, ki_yX12_pool, ks_RX12_yX12_pool, kn_RX12, kc_yX12_pool, rfl, by decide +kernel, by decide +kernel, by decide +kernel⟩
set_option maxHeartbeats 4000000 in
set_option maxRecDepth 20000 in
theorem w_10 {X : zX} {E : zE} {G : zG} {s0 : zS} {b a m o : Nat} {ys : Nat → Int} (hL : LX X E b) (hG : zGK G) (hS0 : zSK G s0) (hF0 : zS0 G s0) (ha : gT G a = 12) (hm : gT G m = 13) (ho : gT G o = 120) (hs : ZS X E b 6 ys) (hy : ∀ j, -2147483648 ≤ ys j ∧ ys j ≤ 2147483647) : JJ X E 8 G s0 410 339631 [(4, .int (zI 0)), (3, .ref o), (2, .ref m), (1, .ref a), (0, .ref b)] 814 [] := by
  have hx := hL.1
  have hst := hx.2.2.2.2.2.2.2.2.2.2.2
  have hy0 := hy 0
  have hy1 := hy 1
  have hy2 := hy 2
  have hy3 := hy 3
  have hy4 := hy 4
  have hy5 := hy 5
  refine j_aload_n hx 3 dL_law__814 rfl ?_
  refine j_aload_n hx 4 dL_law__815 rfl ?_
  refine j_iload hx 0 dL_law__816 rfl ?_
  refine j_iconst hx dL_law__818 ?_
  refine j_iadd hx (r := 1) dL_law__819 (by omega) ?_
  refine j_sld hx hs (j := 1) rfl (by decide) (by decide) dL_law__820 ?_
  refine j_callV hx hG (c_X11_pool hst a ((ys 1))) lk_RL_148 ha (by decide) rfl rfl rfl rfl [.int (zI ((ys 1)))] ⟨rfl, hG, hS0, ha, (by omega), hF0⟩ rfl rfl ⟨by decide, by decide⟩ ⟨by decide, by decide⟩ (k2 := 410) (n2 := 339631) rfl rfl (Nat.le_of_ble_eq_true rfl) dL_law__821 (kIP (fun v1 q2 => ?_))
  refine j_aload_n hx 2 dL_law__824 rfl ?_
  refine j_aload_n hx 4 dL_law__825 rfl ?_
  refine j_iload hx 0 dL_law__826 rfl ?_
  refine j_iconst hx dL_law__828 ?_
  refine j_iadd hx (r := 1) dL_law__829 (by omega) ?_
  refine j_sld hx hs (j := 1) rfl (by decide) (by decide) dL_law__830 ?_
  refine j_callV hx hG (c_X12_pool hst m ((ys 1))) lk_RL_151 hm (by decide) rfl rfl rfl rfl [.int (zI ((ys 1)))] ⟨rfl, hG, hS0, hm, (by omega), (zS0m_of hF0)⟩ rfl rfl ⟨by decide, by decide⟩ ⟨by decide, by decide⟩ (k2 := 410) (n2 := 339631) rfl rfl (Nat.le_of_ble_eq_true rfl) dL_law__831 (kIM (fun v3 s1 hS_s1 hF_s1 q4 => ?_))
  refine j_icmp_eq hx 2475 dL_law__834 rfl (by omega) (by omega) (fun h5 => ?_) (fun h5 => absurd h5 (by omega))
  exact j_sub [0, 4] [(4, .int (zI 0)), (0, .ref b)] rfl (w_tail hL hs (by decide) (by decide))

theorem lk_RL_152 : LkSH RL 152 yL_lain cL_lain 5 (some .int) [(0, 10, 13, 19)] 4 := ⟨km_RL_152, kst_yL_lain, kn_RL, kc_yL_lain, by decide +kernel, by decide +kernel, by decide +kernel⟩
theorem lk_RL_154 : LkV RL 154 RX12 yX12_lain cX12_lain 3 (some .int) 2 := ⟨km_RL_154, ki_yX12_lain, ks_RX12_yX12_lain, kn_RX12, kc_yX12_lain, rfl, by decide +kernel, by decide +kernel, by decide +kernel⟩
set_option maxHeartbeats 4000000 in
set_option maxRecDepth 20000 in
theorem w_11 {X : zX} {E : zE} {G : zG} {s0 : zS} {b a m o : Nat} {ys : Nat → Int} (hL : LX X E b) (hG : zGK G) (hS0 : zSK G s0) (hF0 : zS0 G s0) (ha : gT G a = 12) (hm : gT G m = 13) (ho : gT G o = 120) (hs : ZS X E b 6 ys) (hy : ∀ j, -2147483648 ≤ ys j ∧ ys j ≤ 2147483647) : JJ X E 8 G s0 410 339631 [(4, .int (zI 0)), (3, .ref o), (2, .ref m), (1, .ref a), (0, .ref b)] 839 [] := by
  have hx := hL.1
  have hst := hx.2.2.2.2.2.2.2.2.2.2.2
  have hy0 := hy 0
  have hy1 := hy 1
  have hy2 := hy 2
  have hy3 := hy 3
  have hy4 := hy 4
  have hy5 := hy 5
  refine j_aload_n hx 3 dL_law__839 rfl ?_
  refine j_aload_n hx 4 dL_law__840 rfl ?_
  refine j_iload hx 0 dL_law__841 rfl ?_
  refine j_iconst hx dL_law__843 ?_
  refine j_iadd hx (r := 1) dL_law__844 (by omega) ?_
  refine j_sld hx hs (j := 1) rfl (by decide) (by decide) dL_law__845 ?_
  refine j_aload_n hx 4 dL_law__846 rfl ?_
  refine j_iload hx 0 dL_law__847 rfl ?_
  refine j_iconst hx dL_law__849 ?_
  refine j_iadd hx (r := 2) dL_law__850 (by omega) ?_
  refine j_sld hx hs (j := 2) rfl (by decide) (by decide) dL_law__851 ?_
  refine j_aload_n hx 1 dL_law__852 rfl ?_
  refine j_callSH hx (c_L_lain hst a ((ys 1)) ((ys 2)) o) lk_RL_152 [.ref a, .int (zI ((ys 1))), .int (zI ((ys 2))), .ref o] ⟨rfl, hG, hS0, hF0, ha, (by omega), (by omega), ho⟩ rfl rfl ⟨by decide, by decide⟩ ⟨by decide, by decide⟩ (k2 := 411) (n2 := 339637) rfl rfl (Nat.le_of_ble_eq_true rfl) dL_law__853 (kIM (fun v1 s1 hS_s1 hF_s1 q2 => ?_))
  refine j_istore hx [(5, .int (zI v1)), (4, .int (zI 0)), (3, .ref o), (2, .ref m), (1, .ref a), (0, .ref b)] dL_law__856 (by decide) rfl ?_
  refine j_aload_n hx 3 dL_law__858 rfl ?_
  refine j_aload_n hx 5 dL_law__859 rfl ?_
  refine j_iload hx 1 dL_law__860 rfl ?_
  refine j_iconst hx dL_law__862 ?_
  refine j_iadd hx (r := 1) dL_law__863 (by omega) ?_
  refine j_sld hx hs (j := 1) rfl (by decide) (by decide) dL_law__864 ?_
  refine j_aload_n hx 5 dL_law__865 rfl ?_
  refine j_iload hx 1 dL_law__866 rfl ?_
  refine j_iconst hx dL_law__868 ?_
  refine j_iadd hx (r := 2) dL_law__869 (by omega) ?_
  refine j_sld hx hs (j := 2) rfl (by decide) (by decide) dL_law__870 ?_
  refine j_callV hx hG (c_X12_lain hst m ((ys 1)) ((ys 2))) lk_RL_154 hm (by decide) rfl rfl rfl rfl [.int (zI ((ys 1))), .int (zI ((ys 2)))] ⟨rfl, hG, hS_s1, hm, (by omega), (by omega), (zS0m_fr (ts := [12, 120]) (zS0m_of hF0) (zFr_t zFr_rf hF_s1 (by decide)) (by decide))⟩ rfl rfl ⟨by decide, by decide⟩ ⟨by decide, by decide⟩ (k2 := 411) (n2 := 339637) rfl rfl (Nat.le_of_ble_eq_true rfl) dL_law__871 (kIM (fun v3 s2 hS_s2 hF_s2 q4 => ?_))
  refine j_istore hx [(6, .int (zI v3)), (5, .int (zI v1)), (4, .int (zI 0)), (3, .ref o), (2, .ref m), (1, .ref a), (0, .ref b)] dL_law__874 (by decide) rfl ?_
  refine j_aload_n hx 4 dL_law__876 rfl ?_
  refine j_callV hx hG (c_X12_thrown hst m) lk_RL_118 hm (by decide) rfl rfl rfl rfl [] ⟨rfl, hG, hS_s2, hm⟩ rfl rfl ⟨by decide, by decide⟩ ⟨by decide, by decide⟩ (k2 := 411) (n2 := 339637) rfl rfl (Nat.le_of_ble_eq_true rfl) dL_law__877 (kIP (fun v5 q6 => ?_))
  refine j_iload hx 1 dL_law__880 rfl ?_
  refine j_icmp_eq hx 887 dL_law__882 rfl (by omega) (by omega) (fun h7 => ?_) (fun h7 => ?_)
  · skip
    refine j_iload hx 1 dL_law__887 rfl ?_
    refine j_if_ne hx 904 dL_law__889 rfl (by omega) (fun h8 => ?_) (fun h8 => ?_)
    · skip
      refine j_goto hx 2475 dL_law__904 rfl ?_
      exact j_sub [2, 6] [(4, .int (zI 0)), (0, .ref b)] rfl (w_tail hL hs (by decide) (by decide))
    · skip
      refine j_aload_n hx 3 dL_law__892 rfl ?_
      refine j_iconst hx dL_law__893 ?_
      have f9 := zaI (j := 0) hS_s1 ho rfl (zlen hG ho (n := 1) rfl rfl) (show 0 ≤ 0 by omega) (by omega) rfl
      refine j_lald hx hG ho (by decide) rfl (zlen hG ho (n := 1) rfl rfl) (by omega) (by omega) (j := 0) rfl (v := (s1 o 0)) (by rw [(zFr_g hF_s2 ho (by decide))]) dL_law__894 ?_
      refine j_iload hx 0 dL_law__895 rfl ?_
      refine j_i2l hx dL_law__897 (by omega) ?_
      refine j_lcmp hx dL_law__898 (by omega) (by omega) (fun v10 f11 f12 f13 => ?_)
      have f14 : -1 ≤ v10 ∧ v10 ≤ 1 := by omega
      refine j_if_eq hx 904 dL_law__899 rfl (by omega) (fun h15 => ?_) (fun h15 => ?_)
      · skip
        refine j_goto hx 2475 dL_law__904 rfl ?_
        exact j_sub [2, 6] [(4, .int (zI 0)), (0, .ref b)] rfl (w_tail hL hs (by decide) (by decide))
      · skip
        exfalso
        omega
  · skip
    exfalso
    omega

theorem lk_RL_155 : LkV RL 155 RX11 yX11_alike cX11_alike 1 (some .int) 0 := ⟨km_RL_155, ki_yX11_alike, ks_RX11_yX11_alike, kn_RX11, kc_yX11_alike, rfl, by decide +kernel, by decide +kernel, by decide +kernel⟩
theorem lk_RL_158 : LkV RL 158 RX12 yX12_alike cX12_alike 1 (some .int) 0 := ⟨km_RL_158, ki_yX12_alike, ks_RX12_yX12_alike, kn_RX12, kc_yX12_alike, rfl, by decide +kernel, by decide +kernel, by decide +kernel⟩
set_option maxHeartbeats 4000000 in
set_option maxRecDepth 20000 in
theorem w_12 {X : zX} {E : zE} {G : zG} {s0 : zS} {b a m o : Nat} {ys : Nat → Int} (hL : LX X E b) (hG : zGK G) (hS0 : zSK G s0) (hF0 : zS0 G s0) (ha : gT G a = 12) (hm : gT G m = 13) (ho : gT G o = 120) (hs : ZS X E b 6 ys) (hy : ∀ j, -2147483648 ≤ ys j ∧ ys j ≤ 2147483647) : JJ X E 8 G s0 410 339631 [(4, .int (zI 0)), (3, .ref o), (2, .ref m), (1, .ref a), (0, .ref b)] 907 [] := by
  have hx := hL.1
  have hst := hx.2.2.2.2.2.2.2.2.2.2.2
  have hy0 := hy 0
  have hy1 := hy 1
  have hy2 := hy 2
  have hy3 := hy 3
  have hy4 := hy 4
  have hy5 := hy 5
  refine j_aload_n hx 3 dL_law__907 rfl ?_
  refine j_callV hx hG (c_X11_alike hst a) lk_RL_155 ha (by decide) rfl rfl rfl rfl [] ⟨rfl, hG, hS0, ha, hF0⟩ rfl rfl ⟨by decide, by decide⟩ ⟨by decide, by decide⟩ (k2 := 410) (n2 := 339631) rfl rfl (Nat.le_of_ble_eq_true rfl) dL_law__908 (kIP (fun v1 q2 => ?_))
  refine j_aload_n hx 2 dL_law__911 rfl ?_
  refine j_callV hx hG (c_X12_alike hst m) lk_RL_158 hm (by decide) rfl rfl rfl rfl [] ⟨rfl, hG, hS0, hm, (zS0m_of hF0)⟩ rfl rfl ⟨by decide, by decide⟩ ⟨by decide, by decide⟩ (k2 := 410) (n2 := 339631) rfl rfl (Nat.le_of_ble_eq_true rfl) dL_law__912 (kIM (fun v3 s1 hS_s1 hF_s1 q4 => ?_))
  refine j_icmp_eq hx 2475 dL_law__915 rfl (by omega) (by omega) (fun h5 => ?_) (fun h5 => absurd h5 (by omega))
  exact j_sub [0, 4] [(4, .int (zI 0)), (0, .ref b)] rfl (w_tail hL hs (by decide) (by decide))

theorem lk_RL_159 : LkSH RL 159 yL_would cL_would 5 (some .int) [(0, 17, 20, 19), (0, 17, 24, 13)] 4 := ⟨km_RL_159, kst_yL_would, kn_RL, kc_yL_would, by decide +kernel, by decide +kernel, by decide +kernel⟩
theorem lk_RL_161 : LkV RL 161 RX12 yX12_would cX12_would 3 (some .boolean) 2 := ⟨km_RL_161, ki_yX12_would, ks_RX12_yX12_would, kn_RX12, kc_yX12_would, rfl, by decide +kernel, by decide +kernel, by decide +kernel⟩
set_option maxHeartbeats 4000000 in
set_option maxRecDepth 20000 in
theorem w_13 {X : zX} {E : zE} {G : zG} {s0 : zS} {b a m o : Nat} {ys : Nat → Int} (hL : LX X E b) (hG : zGK G) (hS0 : zSK G s0) (hF0 : zS0 G s0) (ha : gT G a = 12) (hm : gT G m = 13) (ho : gT G o = 120) (hs : ZS X E b 6 ys) (hy : ∀ j, -2147483648 ≤ ys j ∧ ys j ≤ 2147483647) : JJ X E 8 G s0 410 339631 [(4, .int (zI 0)), (3, .ref o), (2, .ref m), (1, .ref a), (0, .ref b)] 920 [] := by
  have hx := hL.1
  have hst := hx.2.2.2.2.2.2.2.2.2.2.2
  have hy0 := hy 0
  have hy1 := hy 1
  have hy2 := hy 2
  have hy3 := hy 3
  have hy4 := hy 4
  have hy5 := hy 5
  refine j_aload_n hx 3 dL_law__920 rfl ?_
  refine j_aload_n hx 4 dL_law__921 rfl ?_
  refine j_iload hx 0 dL_law__922 rfl ?_
  refine j_iconst hx dL_law__924 ?_
  refine j_iadd hx (r := 1) dL_law__925 (by omega) ?_
  refine j_sld hx hs (j := 1) rfl (by decide) (by decide) dL_law__926 ?_
  refine j_aload_n hx 4 dL_law__927 rfl ?_
  refine j_iload hx 0 dL_law__928 rfl ?_
  refine j_iconst hx dL_law__930 ?_
  refine j_iadd hx (r := 2) dL_law__931 (by omega) ?_
  refine j_sld hx hs (j := 2) rfl (by decide) (by decide) dL_law__932 ?_
  refine j_aload_n hx 1 dL_law__933 rfl ?_
  refine j_callSH hx (c_L_would hst a ((ys 1)) ((ys 2)) o) lk_RL_159 [.ref a, .int (zI ((ys 1))), .int (zI ((ys 2))), .ref o] ⟨rfl, hG, hS0, hF0, ha, (by omega), (by omega), ho⟩ rfl rfl ⟨by decide, by decide⟩ ⟨by decide, by decide⟩ (k2 := 411) (n2 := 339637) rfl rfl (Nat.le_of_ble_eq_true rfl) dL_law__934 (kIM (fun v1 s1 hS_s1 hF_s1 q2 => ?_))
  refine j_istore hx [(5, .int (zI v1)), (4, .int (zI 0)), (3, .ref o), (2, .ref m), (1, .ref a), (0, .ref b)] dL_law__937 (by decide) rfl ?_
  refine j_aload_n hx 3 dL_law__939 rfl ?_
  refine j_aload_n hx 5 dL_law__940 rfl ?_
  refine j_iload hx 1 dL_law__941 rfl ?_
  refine j_iconst hx dL_law__943 ?_
  refine j_iadd hx (r := 1) dL_law__944 (by omega) ?_
  refine j_sld hx hs (j := 1) rfl (by decide) (by decide) dL_law__945 ?_
  refine j_aload_n hx 5 dL_law__946 rfl ?_
  refine j_iload hx 1 dL_law__947 rfl ?_
  refine j_iconst hx dL_law__949 ?_
  refine j_iadd hx (r := 2) dL_law__950 (by omega) ?_
  refine j_sld hx hs (j := 2) rfl (by decide) (by decide) dL_law__951 ?_
  refine j_callV hx hG (c_X12_would hst m ((ys 1)) ((ys 2))) lk_RL_161 hm (by decide) rfl rfl rfl rfl [.int (zI ((ys 1))), .int (zI ((ys 2)))] ⟨rfl, hG, hS_s1, hm, (by omega), (by omega), (zS0m_fr (ts := [12, 120]) (zS0m_of hF0) (zFr_t zFr_rf hF_s1 (by decide)) (by decide))⟩ rfl rfl ⟨by decide, by decide⟩ ⟨by decide, by decide⟩ (k2 := 411) (n2 := 339637) rfl rfl (Nat.le_of_ble_eq_true rfl) dL_law__952 (kIM (fun v3 s2 hS_s2 hF_s2 q4 => ?_))
  refine j_istore hx [(6, .int (zI v3)), (5, .int (zI v1)), (4, .int (zI 0)), (3, .ref o), (2, .ref m), (1, .ref a), (0, .ref b)] dL_law__955 (by decide) rfl ?_
  refine j_aload_n hx 4 dL_law__957 rfl ?_
  refine j_callV hx hG (c_X12_thrown hst m) lk_RL_118 hm (by decide) rfl rfl rfl rfl [] ⟨rfl, hG, hS_s2, hm⟩ rfl rfl ⟨by decide, by decide⟩ ⟨by decide, by decide⟩ (k2 := 411) (n2 := 339637) rfl rfl (Nat.le_of_ble_eq_true rfl) dL_law__958 (kIP (fun v5 q6 => ?_))
  refine j_iload hx 1 dL_law__961 rfl ?_
  refine j_icmp_eq hx 968 dL_law__963 rfl (by omega) (by omega) (fun h7 => ?_) (fun h7 => ?_)
  · skip
    refine j_iload hx 1 dL_law__968 rfl ?_
    refine j_if_ne hx 992 dL_law__970 rfl (by omega) (fun h8 => ?_) (fun h8 => ?_)
    · skip
      refine j_goto hx 2475 dL_law__992 rfl ?_
      exact j_sub [2, 6] [(4, .int (zI 0)), (0, .ref b)] rfl (w_tail hL hs (by decide) (by decide))
    · skip
      refine j_aload_n hx 3 dL_law__973 rfl ?_
      refine j_iconst hx dL_law__974 ?_
      have f9 := zaI (j := 0) hS_s1 ho rfl (zlen hG ho (n := 1) rfl rfl) (show 0 ≤ 0 by omega) (by omega) rfl
      refine j_lald hx hG ho (by decide) rfl (zlen hG ho (n := 1) rfl rfl) (by omega) (by omega) (j := 0) rfl (v := (s1 o 0)) (by rw [(zFr_g hF_s2 ho (by decide))]) dL_law__975 ?_
      refine j_iload hx 0 dL_law__976 rfl ?_
      refine j_if_eq hx 985 dL_law__978 rfl (by omega) (fun h10 => ?_) (fun h10 => ?_)
      · skip
        refine j_lconst hx dL_law__985 ?_
        show JJ X E 8 G s2 411 339637 [(6, .int (zI v3)), (5, .int (zI v1)), (4, .int (zI 0)), (3, .ref o), (2, .ref m), (1, .ref a), (0, .ref b)] 986 [.long (zL 0), .long (zL ((s1 o 0)))]
        refine j_lcmp hx dL_law__986 (by omega) (by omega) (fun v11 f12 f13 f14 => ?_)
        have f15 : -1 ≤ v11 ∧ v11 ≤ 1 := by omega
        refine j_if_eq hx 992 dL_law__987 rfl (by omega) (fun h16 => ?_) (fun h16 => ?_)
        · skip
          refine j_goto hx 2475 dL_law__992 rfl ?_
          exact j_sub [2, 6] [(4, .int (zI 0)), (0, .ref b)] rfl (w_tail hL hs (by decide) (by decide))
        · skip
          exfalso
          omega
      · skip
        refine j_lconst hx dL_law__981 ?_
        show JJ X E 8 G s2 411 339637 [(6, .int (zI v3)), (5, .int (zI v1)), (4, .int (zI 0)), (3, .ref o), (2, .ref m), (1, .ref a), (0, .ref b)] 982 [.long (zL 1), .long (zL ((s1 o 0)))]
        refine j_goto hx 986 dL_law__982 rfl ?_
        refine j_lcmp hx dL_law__986 (by omega) (by omega) (fun v17 f18 f19 f20 => ?_)
        have f21 : -1 ≤ v17 ∧ v17 ≤ 1 := by omega
        refine j_if_eq hx 992 dL_law__987 rfl (by omega) (fun h22 => ?_) (fun h22 => ?_)
        · skip
          refine j_goto hx 2475 dL_law__992 rfl ?_
          exact j_sub [2, 6] [(4, .int (zI 0)), (0, .ref b)] rfl (w_tail hL hs (by decide) (by decide))
        · skip
          exfalso
          omega
  · skip
    exfalso
    omega

theorem lk_RL_162 : LkSH RL 162 yL_law cL_law 5 (some .int) [(0, 10, 13, 13)] 4 := ⟨km_RL_162, kst_yL_law, kn_RL, kc_yL_law, by decide +kernel, by decide +kernel, by decide +kernel⟩
theorem lk_RL_164 : LkV RL 164 RX12 yX12_law cX12_law 4 (some .int) 2 := ⟨km_RL_164, ki_yX12_law, ks_RX12_yX12_law, kn_RX12, kc_yX12_law, rfl, by decide +kernel, by decide +kernel, by decide +kernel⟩
set_option maxHeartbeats 4000000 in
set_option maxRecDepth 20000 in
theorem w_14 {X : zX} {E : zE} {G : zG} {s0 : zS} {b a m o : Nat} {ys : Nat → Int} (hL : LX X E b) (hG : zGK G) (hS0 : zSK G s0) (hF0 : zS0 G s0) (ha : gT G a = 12) (hm : gT G m = 13) (ho : gT G o = 120) (hs : ZS X E b 6 ys) (hy : ∀ j, -2147483648 ≤ ys j ∧ ys j ≤ 2147483647) : JJ X E 8 G s0 410 339631 [(4, .int (zI 0)), (3, .ref o), (2, .ref m), (1, .ref a), (0, .ref b)] 995 [] := by
  have hx := hL.1
  have hst := hx.2.2.2.2.2.2.2.2.2.2.2
  have hy0 := hy 0
  have hy1 := hy 1
  have hy2 := hy 2
  have hy3 := hy 3
  have hy4 := hy 4
  have hy5 := hy 5
  refine j_aload_n hx 3 dL_law__995 rfl ?_
  refine j_aload_n hx 4 dL_law__996 rfl ?_
  refine j_iload hx 0 dL_law__997 rfl ?_
  refine j_iconst hx dL_law__999 ?_
  refine j_iadd hx (r := 1) dL_law__1000 (by omega) ?_
  refine j_sld hx hs (j := 1) rfl (by decide) (by decide) dL_law__1001 ?_
  refine j_aload_n hx 4 dL_law__1002 rfl ?_
  refine j_iload hx 0 dL_law__1003 rfl ?_
  refine j_iconst hx dL_law__1005 ?_
  refine j_iadd hx (r := 2) dL_law__1006 (by omega) ?_
  refine j_sld hx hs (j := 2) rfl (by decide) (by decide) dL_law__1007 ?_
  refine j_aload_n hx 1 dL_law__1008 rfl ?_
  refine j_callSH hx (c_L_law hst a ((ys 1)) ((ys 2)) o) lk_RL_162 [.ref a, .int (zI ((ys 1))), .int (zI ((ys 2))), .ref o] ⟨rfl, hG, hS0, hF0, ha, (by omega), (by omega), ho⟩ rfl rfl ⟨by decide, by decide⟩ ⟨by decide, by decide⟩ (k2 := 412) (n2 := 339643) rfl rfl (Nat.le_of_ble_eq_true rfl) dL_law__1009 (kIM (fun v1 s1 hS_s1 hF_s1 q2 => ?_))
  refine j_istore hx [(5, .int (zI v1)), (4, .int (zI 0)), (3, .ref o), (2, .ref m), (1, .ref a), (0, .ref b)] dL_law__1012 (by decide) rfl ?_
  refine j_aload_n hx 3 dL_law__1014 rfl ?_
  refine j_aload_n hx 5 dL_law__1015 rfl ?_
  refine j_iload hx 1 dL_law__1016 rfl ?_
  refine j_iconst hx dL_law__1018 ?_
  refine j_iadd hx (r := 1) dL_law__1019 (by omega) ?_
  refine j_sld hx hs (j := 1) rfl (by decide) (by decide) dL_law__1020 ?_
  refine j_aload_n hx 5 dL_law__1021 rfl ?_
  refine j_iload hx 1 dL_law__1022 rfl ?_
  refine j_iconst hx dL_law__1024 ?_
  refine j_iadd hx (r := 2) dL_law__1025 (by omega) ?_
  refine j_sld hx hs (j := 2) rfl (by decide) (by decide) dL_law__1026 ?_
  refine j_callV hx hG (c_X12_law hst m ((ys 1)) ((ys 2))) lk_RL_164 hm (by decide) rfl rfl rfl rfl [.int (zI ((ys 1))), .int (zI ((ys 2)))] ⟨rfl, hG, hS_s1, hm, (by omega), (by omega), (zS0m_fr (ts := [5, 12, 44, 120]) (zS0m_of hF0) (zFr_t zFr_rf hF_s1 (by decide)) (by decide))⟩ rfl rfl ⟨by decide, by decide⟩ ⟨by decide, by decide⟩ (k2 := 412) (n2 := 339643) rfl rfl (Nat.le_of_ble_eq_true rfl) dL_law__1027 (kIM (fun v3 s2 hS_s2 hF_s2 q4 => ?_))
  refine j_istore hx [(6, .int (zI v3)), (5, .int (zI v1)), (4, .int (zI 0)), (3, .ref o), (2, .ref m), (1, .ref a), (0, .ref b)] dL_law__1030 (by decide) rfl ?_
  refine j_aload_n hx 4 dL_law__1032 rfl ?_
  refine j_callV hx hG (c_X12_thrown hst m) lk_RL_118 hm (by decide) rfl rfl rfl rfl [] ⟨rfl, hG, hS_s2, hm⟩ rfl rfl ⟨by decide, by decide⟩ ⟨by decide, by decide⟩ (k2 := 412) (n2 := 339643) rfl rfl (Nat.le_of_ble_eq_true rfl) dL_law__1033 (kIP (fun v5 q6 => ?_))
  refine j_iload hx 1 dL_law__1036 rfl ?_
  refine j_icmp_eq hx 1043 dL_law__1038 rfl (by omega) (by omega) (fun h7 => ?_) (fun h7 => ?_)
  · skip
    refine j_iload hx 1 dL_law__1043 rfl ?_
    refine j_if_ne hx 1060 dL_law__1045 rfl (by omega) (fun h8 => ?_) (fun h8 => ?_)
    · skip
      refine j_goto hx 2475 dL_law__1060 rfl ?_
      exact j_sub [2, 6] [(4, .int (zI 0)), (0, .ref b)] rfl (w_tail hL hs (by decide) (by decide))
    · skip
      refine j_aload_n hx 3 dL_law__1048 rfl ?_
      refine j_iconst hx dL_law__1049 ?_
      have f9 := zaI (j := 0) hS_s1 ho rfl (zlen hG ho (n := 1) rfl rfl) (show 0 ≤ 0 by omega) (by omega) rfl
      refine j_lald hx hG ho (by decide) rfl (zlen hG ho (n := 1) rfl rfl) (by omega) (by omega) (j := 0) rfl (v := (s1 o 0)) (by rw [(zFr_g hF_s2 ho (by decide))]) dL_law__1050 ?_
      refine j_iload hx 0 dL_law__1051 rfl ?_
      refine j_i2l hx dL_law__1053 (by omega) ?_
      refine j_lcmp hx dL_law__1054 (by omega) (by omega) (fun v10 f11 f12 f13 => ?_)
      have f14 : -1 ≤ v10 ∧ v10 ≤ 1 := by omega
      refine j_if_eq hx 1060 dL_law__1055 rfl (by omega) (fun h15 => ?_) (fun h15 => ?_)
      · skip
        refine j_goto hx 2475 dL_law__1060 rfl ?_
        exact j_sub [2, 6] [(4, .int (zI 0)), (0, .ref b)] rfl (w_tail hL hs (by decide) (by decide))
      · skip
        exfalso
        omega
  · skip
    exfalso
    omega

theorem lk_RL_165 : LkV RL 165 RX11 yX11_draws cX11_draws 2 none 1 := ⟨km_RL_165, ki_yX11_draws, ks_RX11_yX11_draws, kn_RX11, kc_yX11_draws, rfl, by decide +kernel, by decide +kernel, by decide +kernel⟩
theorem lk_RL_169 : LkV RL 169 RX12 yX12_draws cX12_draws 2 none 1 := ⟨km_RL_169, ki_yX12_draws, ks_RX12_yX12_draws, kn_RX12, kc_yX12_draws, rfl, by decide +kernel, by decide +kernel, by decide +kernel⟩
set_option maxHeartbeats 4000000 in
set_option maxRecDepth 20000 in
theorem w_15 {X : zX} {E : zE} {G : zG} {s0 : zS} {b a m o : Nat} {ys : Nat → Int} (hL : LX X E b) (hG : zGK G) (hS0 : zSK G s0) (hF0 : zS0 G s0) (ha : gT G a = 12) (hm : gT G m = 13) (ho : gT G o = 120) (hs : ZS X E b 6 ys) (hy : ∀ j, -2147483648 ≤ ys j ∧ ys j ≤ 2147483647) : JJ X E 8 G s0 410 339631 [(4, .int (zI 0)), (3, .ref o), (2, .ref m), (1, .ref a), (0, .ref b)] 1063 [] := by
  have hx := hL.1
  have hst := hx.2.2.2.2.2.2.2.2.2.2.2
  have hy0 := hy 0
  have hy1 := hy 1
  have hy2 := hy 2
  have hy3 := hy 3
  have hy4 := hy 4
  have hy5 := hy 5
  refine j_aload_n hx 3 dL_law__1063 rfl ?_
  refine j_aload_n hx 4 dL_law__1064 rfl ?_
  refine j_iload hx 0 dL_law__1065 rfl ?_
  refine j_iconst hx dL_law__1067 ?_
  refine j_iadd hx (r := 1) dL_law__1068 (by omega) ?_
  refine j_sld hx hs (j := 1) rfl (by decide) (by decide) dL_law__1069 ?_
  refine j_callV hx hG (c_X11_draws hst a ((ys 1))) lk_RL_165 ha (by decide) rfl rfl rfl rfl [.int (zI ((ys 1)))] ⟨rfl, hG, hS0, ha, (by omega), hF0⟩ rfl rfl ⟨by decide, by decide⟩ ⟨by decide, by decide⟩ (k2 := 410) (n2 := 339631) rfl rfl (Nat.le_of_ble_eq_true rfl) dL_law__1070 (kVM (fun s1 hS_s1 hF_s1 q2 => ?_))
  refine j_aload_n hx 2 dL_law__1073 rfl ?_
  refine j_aload_n hx 4 dL_law__1074 rfl ?_
  refine j_iload hx 0 dL_law__1075 rfl ?_
  refine j_iconst hx dL_law__1077 ?_
  refine j_iadd hx (r := 1) dL_law__1078 (by omega) ?_
  refine j_sld hx hs (j := 1) rfl (by decide) (by decide) dL_law__1079 ?_
  refine j_callV hx hG (c_X12_draws hst m ((ys 1))) lk_RL_169 hm (by decide) rfl rfl rfl rfl [.int (zI ((ys 1)))] ⟨rfl, hG, hS_s1, hm, (by omega), (zS0m_fr (ts := [4, 5]) (zS0m_of hF0) (zFr_t zFr_rf hF_s1 (by decide)) (by decide))⟩ rfl rfl ⟨by decide, by decide⟩ ⟨by decide, by decide⟩ (k2 := 410) (n2 := 339631) rfl rfl (Nat.le_of_ble_eq_true rfl) dL_law__1080 (kVM (fun s2 hS_s2 hF_s2 q4 => ?_))
  refine j_goto hx 2475 dL_law__1083 rfl ?_
  exact j_sub [0, 4] [(4, .int (zI 0)), (0, .ref b)] rfl (w_tail hL hs (by decide) (by decide))

theorem lk_RL_170 : LkV RL 170 RX11 yX11_still cX11_still 2 (some .int) 0 := ⟨km_RL_170, ki_yX11_still, ks_RX11_yX11_still, kn_RX11, kc_yX11_still, rfl, by decide +kernel, by decide +kernel, by decide +kernel⟩
theorem lk_RL_173 : LkV RL 173 RX12 yX12_still cX12_still 2 (some .int) 0 := ⟨km_RL_173, ki_yX12_still, ks_RX12_yX12_still, kn_RX12, kc_yX12_still, rfl, by decide +kernel, by decide +kernel, by decide +kernel⟩
set_option maxHeartbeats 4000000 in
set_option maxRecDepth 20000 in
theorem w_16 {X : zX} {E : zE} {G : zG} {s0 : zS} {b a m o : Nat} {ys : Nat → Int} (hL : LX X E b) (hG : zGK G) (hS0 : zSK G s0) (hF0 : zS0 G s0) (ha : gT G a = 12) (hm : gT G m = 13) (ho : gT G o = 120) (hs : ZS X E b 6 ys) (hy : ∀ j, -2147483648 ≤ ys j ∧ ys j ≤ 2147483647) : JJ X E 8 G s0 410 339631 [(4, .int (zI 0)), (3, .ref o), (2, .ref m), (1, .ref a), (0, .ref b)] 1086 [] := by
  have hx := hL.1
  have hst := hx.2.2.2.2.2.2.2.2.2.2.2
  have hy0 := hy 0
  have hy1 := hy 1
  have hy2 := hy 2
  have hy3 := hy 3
  have hy4 := hy 4
  have hy5 := hy 5
  refine j_aload_n hx 3 dL_law__1086 rfl ?_
  refine j_callV hx hG (c_X11_still hst a) lk_RL_170 ha (by decide) rfl rfl rfl rfl [] ⟨rfl, hG, hS0, ha, hF0⟩ rfl rfl ⟨by decide, by decide⟩ ⟨by decide, by decide⟩ (k2 := 410) (n2 := 339631) rfl rfl (Nat.le_of_ble_eq_true rfl) dL_law__1087 (kIM (fun v1 s1 hS_s1 hF_s1 q2 => ?_))
  refine j_aload_n hx 2 dL_law__1090 rfl ?_
  refine j_callV hx hG (c_X12_still hst m) lk_RL_173 hm (by decide) rfl rfl rfl rfl [] ⟨rfl, hG, hS_s1, hm, (zS0m_fr (ts := [4, 5]) (zS0m_of hF0) (zFr_t zFr_rf hF_s1 (by decide)) (by decide))⟩ rfl rfl ⟨by decide, by decide⟩ ⟨by decide, by decide⟩ (k2 := 410) (n2 := 339631) rfl rfl (Nat.le_of_ble_eq_true rfl) dL_law__1091 (kIM (fun v3 s2 hS_s2 hF_s2 q4 => ?_))
  refine j_icmp_eq hx 2475 dL_law__1094 rfl (by omega) (by omega) (fun h5 => ?_) (fun h5 => absurd h5 (by omega))
  exact j_sub [0, 4] [(4, .int (zI 0)), (0, .ref b)] rfl (w_tail hL hs (by decide) (by decide))

theorem lk_RL_174 : LkSH RL 174 yL_play cL_play 4 (some .int) [(0, 9, 12, 13)] 3 := ⟨km_RL_174, kst_yL_play, kn_RL, kc_yL_play, by decide +kernel, by decide +kernel, by decide +kernel⟩
theorem lk_RL_176 : LkV RL 176 RX12 yX12_play cX12_play 3 (some .int) 1 := ⟨km_RL_176, ki_yX12_play, ks_RX12_yX12_play, kn_RX12, kc_yX12_play, rfl, by decide +kernel, by decide +kernel, by decide +kernel⟩
set_option maxHeartbeats 4000000 in
set_option maxRecDepth 20000 in
theorem w_17 {X : zX} {E : zE} {G : zG} {s0 : zS} {b a m o : Nat} {ys : Nat → Int} (hL : LX X E b) (hG : zGK G) (hS0 : zSK G s0) (hF0 : zS0 G s0) (ha : gT G a = 12) (hm : gT G m = 13) (ho : gT G o = 120) (hs : ZS X E b 6 ys) (hy : ∀ j, -2147483648 ≤ ys j ∧ ys j ≤ 2147483647) : JJ X E 8 G s0 410 339631 [(4, .int (zI 0)), (3, .ref o), (2, .ref m), (1, .ref a), (0, .ref b)] 1099 [] := by
  have hx := hL.1
  have hst := hx.2.2.2.2.2.2.2.2.2.2.2
  have hy0 := hy 0
  have hy1 := hy 1
  have hy2 := hy 2
  have hy3 := hy 3
  have hy4 := hy 4
  have hy5 := hy 5
  refine j_aload_n hx 3 dL_law__1099 rfl ?_
  refine j_aload_n hx 4 dL_law__1100 rfl ?_
  refine j_iload hx 0 dL_law__1101 rfl ?_
  refine j_iconst hx dL_law__1103 ?_
  refine j_iadd hx (r := 1) dL_law__1104 (by omega) ?_
  refine j_sld hx hs (j := 1) rfl (by decide) (by decide) dL_law__1105 ?_
  refine j_aload_n hx 1 dL_law__1106 rfl ?_
  refine j_callSH hx (c_L_play hst a ((ys 1)) o) lk_RL_174 [.ref a, .int (zI ((ys 1))), .ref o] ⟨rfl, hG, hS0, hF0, ha, (by omega), ho⟩ rfl rfl ⟨by decide, by decide⟩ ⟨by decide, by decide⟩ (k2 := 411) (n2 := 339637) rfl rfl (Nat.le_of_ble_eq_true rfl) dL_law__1107 (kIM (fun v1 s1 hS_s1 hF_s1 q2 => ?_))
  refine j_istore hx [(5, .int (zI v1)), (4, .int (zI 0)), (3, .ref o), (2, .ref m), (1, .ref a), (0, .ref b)] dL_law__1110 (by decide) rfl ?_
  refine j_aload_n hx 3 dL_law__1112 rfl ?_
  refine j_aload_n hx 5 dL_law__1113 rfl ?_
  refine j_iload hx 1 dL_law__1114 rfl ?_
  refine j_iconst hx dL_law__1116 ?_
  refine j_iadd hx (r := 1) dL_law__1117 (by omega) ?_
  refine j_sld hx hs (j := 1) rfl (by decide) (by decide) dL_law__1118 ?_
  refine j_callV hx hG (c_X12_play hst m ((ys 1))) lk_RL_176 hm (by decide) rfl rfl rfl rfl [.int (zI ((ys 1)))] ⟨rfl, hG, hS_s1, hm, (by omega), (zS0m_fr (ts := [5, 12, 53, 59, 60, 120]) (zS0m_of hF0) (zFr_t zFr_rf hF_s1 (by decide)) (by decide))⟩ rfl rfl ⟨by decide, by decide⟩ ⟨by decide, by decide⟩ (k2 := 411) (n2 := 339637) rfl rfl (Nat.le_of_ble_eq_true rfl) dL_law__1119 (kIM (fun v3 s2 hS_s2 hF_s2 q4 => ?_))
  refine j_istore hx [(6, .int (zI v3)), (5, .int (zI v1)), (4, .int (zI 0)), (3, .ref o), (2, .ref m), (1, .ref a), (0, .ref b)] dL_law__1122 (by decide) rfl ?_
  refine j_aload_n hx 4 dL_law__1124 rfl ?_
  refine j_callV hx hG (c_X12_thrown hst m) lk_RL_118 hm (by decide) rfl rfl rfl rfl [] ⟨rfl, hG, hS_s2, hm⟩ rfl rfl ⟨by decide, by decide⟩ ⟨by decide, by decide⟩ (k2 := 411) (n2 := 339637) rfl rfl (Nat.le_of_ble_eq_true rfl) dL_law__1125 (kIP (fun v5 q6 => ?_))
  refine j_iload hx 1 dL_law__1128 rfl ?_
  refine j_icmp_eq hx 1135 dL_law__1130 rfl (by omega) (by omega) (fun h7 => ?_) (fun h7 => ?_)
  · skip
    refine j_iload hx 1 dL_law__1135 rfl ?_
    refine j_if_ne hx 1152 dL_law__1137 rfl (by omega) (fun h8 => ?_) (fun h8 => ?_)
    · skip
      refine j_goto hx 2475 dL_law__1152 rfl ?_
      exact j_sub [2, 6] [(4, .int (zI 0)), (0, .ref b)] rfl (w_tail hL hs (by decide) (by decide))
    · skip
      refine j_aload_n hx 3 dL_law__1140 rfl ?_
      refine j_iconst hx dL_law__1141 ?_
      have f9 := zaI (j := 0) hS_s1 ho rfl (zlen hG ho (n := 1) rfl rfl) (show 0 ≤ 0 by omega) (by omega) rfl
      refine j_lald hx hG ho (by decide) rfl (zlen hG ho (n := 1) rfl rfl) (by omega) (by omega) (j := 0) rfl (v := (s1 o 0)) (by rw [(zFr_g hF_s2 ho (by decide))]) dL_law__1142 ?_
      refine j_iload hx 0 dL_law__1143 rfl ?_
      refine j_i2l hx dL_law__1145 (by omega) ?_
      refine j_lcmp hx dL_law__1146 (by omega) (by omega) (fun v10 f11 f12 f13 => ?_)
      have f14 : -1 ≤ v10 ∧ v10 ≤ 1 := by omega
      refine j_if_eq hx 1152 dL_law__1147 rfl (by omega) (fun h15 => ?_) (fun h15 => ?_)
      · skip
        refine j_goto hx 2475 dL_law__1152 rfl ?_
        exact j_sub [2, 6] [(4, .int (zI 0)), (0, .ref b)] rfl (w_tail hL hs (by decide) (by decide))
      · skip
        exfalso
        omega
  · skip
    exfalso
    omega

theorem lk_RL_177 : LkSH RL 177 yL_undo cL_undo 4 (some .int) [(0, 9, 12, 13)] 3 := ⟨km_RL_177, kst_yL_undo, kn_RL, kc_yL_undo, by decide +kernel, by decide +kernel, by decide +kernel⟩
theorem lk_RL_179 : LkV RL 179 RX12 yX12_undo cX12_undo 5 (some .int) 1 := ⟨km_RL_179, ki_yX12_undo, ks_RX12_yX12_undo, kn_RX12, kc_yX12_undo, rfl, by decide +kernel, by decide +kernel, by decide +kernel⟩
set_option maxHeartbeats 4000000 in
set_option maxRecDepth 20000 in
theorem w_18 {X : zX} {E : zE} {G : zG} {s0 : zS} {b a m o : Nat} {ys : Nat → Int} (hL : LX X E b) (hG : zGK G) (hS0 : zSK G s0) (hF0 : zS0 G s0) (ha : gT G a = 12) (hm : gT G m = 13) (ho : gT G o = 120) (hs : ZS X E b 6 ys) (hy : ∀ j, -2147483648 ≤ ys j ∧ ys j ≤ 2147483647) : JJ X E 8 G s0 410 339631 [(4, .int (zI 0)), (3, .ref o), (2, .ref m), (1, .ref a), (0, .ref b)] 1155 [] := by
  have hx := hL.1
  have hst := hx.2.2.2.2.2.2.2.2.2.2.2
  have hy0 := hy 0
  have hy1 := hy 1
  have hy2 := hy 2
  have hy3 := hy 3
  have hy4 := hy 4
  have hy5 := hy 5
  refine j_aload_n hx 3 dL_law__1155 rfl ?_
  refine j_aload_n hx 4 dL_law__1156 rfl ?_
  refine j_iload hx 0 dL_law__1157 rfl ?_
  refine j_iconst hx dL_law__1159 ?_
  refine j_iadd hx (r := 1) dL_law__1160 (by omega) ?_
  refine j_sld hx hs (j := 1) rfl (by decide) (by decide) dL_law__1161 ?_
  refine j_aload_n hx 1 dL_law__1162 rfl ?_
  refine j_callSH hx (c_L_undo hst a ((ys 1)) o) lk_RL_177 [.ref a, .int (zI ((ys 1))), .ref o] ⟨rfl, hG, hS0, hF0, ha, (by omega), ho⟩ rfl rfl ⟨by decide, by decide⟩ ⟨by decide, by decide⟩ (k2 := 411) (n2 := 339637) rfl rfl (Nat.le_of_ble_eq_true rfl) dL_law__1163 (kIM (fun v1 s1 hS_s1 hF_s1 q2 => ?_))
  refine j_istore hx [(5, .int (zI v1)), (4, .int (zI 0)), (3, .ref o), (2, .ref m), (1, .ref a), (0, .ref b)] dL_law__1166 (by decide) rfl ?_
  refine j_aload_n hx 3 dL_law__1168 rfl ?_
  refine j_aload_n hx 5 dL_law__1169 rfl ?_
  refine j_iload hx 1 dL_law__1170 rfl ?_
  refine j_iconst hx dL_law__1172 ?_
  refine j_iadd hx (r := 1) dL_law__1173 (by omega) ?_
  refine j_sld hx hs (j := 1) rfl (by decide) (by decide) dL_law__1174 ?_
  refine j_callV hx hG (c_X12_undo hst m ((ys 1))) lk_RL_179 hm (by decide) rfl rfl rfl rfl [.int (zI ((ys 1)))] ⟨rfl, hG, hS_s1, hm, (by omega), (zS0m_fr (ts := [12, 120]) (zS0m_of hF0) (zFr_t zFr_rf hF_s1 (by decide)) (by decide))⟩ rfl rfl ⟨by decide, by decide⟩ ⟨by decide, by decide⟩ (k2 := 411) (n2 := 339637) rfl rfl (Nat.le_of_ble_eq_true rfl) dL_law__1175 (kIM (fun v3 s2 hS_s2 hF_s2 q4 => ?_))
  refine j_istore hx [(6, .int (zI v3)), (5, .int (zI v1)), (4, .int (zI 0)), (3, .ref o), (2, .ref m), (1, .ref a), (0, .ref b)] dL_law__1178 (by decide) rfl ?_
  refine j_aload_n hx 4 dL_law__1180 rfl ?_
  refine j_callV hx hG (c_X12_thrown hst m) lk_RL_118 hm (by decide) rfl rfl rfl rfl [] ⟨rfl, hG, hS_s2, hm⟩ rfl rfl ⟨by decide, by decide⟩ ⟨by decide, by decide⟩ (k2 := 411) (n2 := 339637) rfl rfl (Nat.le_of_ble_eq_true rfl) dL_law__1181 (kIP (fun v5 q6 => ?_))
  refine j_iload hx 1 dL_law__1184 rfl ?_
  refine j_icmp_eq hx 1191 dL_law__1186 rfl (by omega) (by omega) (fun h7 => ?_) (fun h7 => ?_)
  · skip
    refine j_iload hx 1 dL_law__1191 rfl ?_
    refine j_if_ne hx 1208 dL_law__1193 rfl (by omega) (fun h8 => ?_) (fun h8 => ?_)
    · skip
      refine j_goto hx 2475 dL_law__1208 rfl ?_
      exact j_sub [2, 6] [(4, .int (zI 0)), (0, .ref b)] rfl (w_tail hL hs (by decide) (by decide))
    · skip
      refine j_aload_n hx 3 dL_law__1196 rfl ?_
      refine j_iconst hx dL_law__1197 ?_
      have f9 := zaI (j := 0) hS_s1 ho rfl (zlen hG ho (n := 1) rfl rfl) (show 0 ≤ 0 by omega) (by omega) rfl
      refine j_lald hx hG ho (by decide) rfl (zlen hG ho (n := 1) rfl rfl) (by omega) (by omega) (j := 0) rfl (v := (s1 o 0)) (by rw [(zFr_g hF_s2 ho (by decide))]) dL_law__1198 ?_
      refine j_iload hx 0 dL_law__1199 rfl ?_
      refine j_i2l hx dL_law__1201 (by omega) ?_
      refine j_lcmp hx dL_law__1202 (by omega) (by omega) (fun v10 f11 f12 f13 => ?_)
      have f14 : -1 ≤ v10 ∧ v10 ≤ 1 := by omega
      refine j_if_eq hx 1208 dL_law__1203 rfl (by omega) (fun h15 => ?_) (fun h15 => ?_)
      · skip
        refine j_goto hx 2475 dL_law__1208 rfl ?_
        exact j_sub [2, 6] [(4, .int (zI 0)), (0, .ref b)] rfl (w_tail hL hs (by decide) (by decide))
      · skip
        exfalso
        omega
  · skip
    exfalso
    omega

theorem lk_RL_180 : LkSH RL 180 yL_latest cL_latest 4 (some .int) [(0, 9, 12, 13)] 3 := ⟨km_RL_180, kst_yL_latest, kn_RL, kc_yL_latest, by decide +kernel, by decide +kernel, by decide +kernel⟩
theorem lk_RL_182 : LkV RL 182 RX12 yX12_latest cX12_latest 2 (some .int) 1 := ⟨km_RL_182, ki_yX12_latest, ks_RX12_yX12_latest, kn_RX12, kc_yX12_latest, rfl, by decide +kernel, by decide +kernel, by decide +kernel⟩
set_option maxHeartbeats 4000000 in
set_option maxRecDepth 20000 in
theorem w_19 {X : zX} {E : zE} {G : zG} {s0 : zS} {b a m o : Nat} {ys : Nat → Int} (hL : LX X E b) (hG : zGK G) (hS0 : zSK G s0) (hF0 : zS0 G s0) (ha : gT G a = 12) (hm : gT G m = 13) (ho : gT G o = 120) (hs : ZS X E b 6 ys) (hy : ∀ j, -2147483648 ≤ ys j ∧ ys j ≤ 2147483647) : JJ X E 8 G s0 410 339631 [(4, .int (zI 0)), (3, .ref o), (2, .ref m), (1, .ref a), (0, .ref b)] 1211 [] := by
  have hx := hL.1
  have hst := hx.2.2.2.2.2.2.2.2.2.2.2
  have hy0 := hy 0
  have hy1 := hy 1
  have hy2 := hy 2
  have hy3 := hy 3
  have hy4 := hy 4
  have hy5 := hy 5
  refine j_aload_n hx 3 dL_law__1211 rfl ?_
  refine j_aload_n hx 4 dL_law__1212 rfl ?_
  refine j_iload hx 0 dL_law__1213 rfl ?_
  refine j_iconst hx dL_law__1215 ?_
  refine j_iadd hx (r := 1) dL_law__1216 (by omega) ?_
  refine j_sld hx hs (j := 1) rfl (by decide) (by decide) dL_law__1217 ?_
  refine j_aload_n hx 1 dL_law__1218 rfl ?_
  refine j_callSH hx (c_L_latest hst a ((ys 1)) o) lk_RL_180 [.ref a, .int (zI ((ys 1))), .ref o] ⟨rfl, hG, hS0, hF0, ha, (by omega), ho⟩ rfl rfl ⟨by decide, by decide⟩ ⟨by decide, by decide⟩ (k2 := 411) (n2 := 339637) rfl rfl (Nat.le_of_ble_eq_true rfl) dL_law__1219 (kIM (fun v1 s1 hS_s1 hF_s1 q2 => ?_))
  refine j_istore hx [(5, .int (zI v1)), (4, .int (zI 0)), (3, .ref o), (2, .ref m), (1, .ref a), (0, .ref b)] dL_law__1222 (by decide) rfl ?_
  refine j_aload_n hx 3 dL_law__1224 rfl ?_
  refine j_aload_n hx 5 dL_law__1225 rfl ?_
  refine j_iload hx 1 dL_law__1226 rfl ?_
  refine j_iconst hx dL_law__1228 ?_
  refine j_iadd hx (r := 1) dL_law__1229 (by omega) ?_
  refine j_sld hx hs (j := 1) rfl (by decide) (by decide) dL_law__1230 ?_
  refine j_callV hx hG (c_X12_latest hst m ((ys 1))) lk_RL_182 hm (by decide) rfl rfl rfl rfl [.int (zI ((ys 1)))] ⟨rfl, hG, hS_s1, hm, (by omega), (zS0m_fr (ts := [12, 120]) (zS0m_of hF0) (zFr_t zFr_rf hF_s1 (by decide)) (by decide))⟩ rfl rfl ⟨by decide, by decide⟩ ⟨by decide, by decide⟩ (k2 := 411) (n2 := 339637) rfl rfl (Nat.le_of_ble_eq_true rfl) dL_law__1231 (kIM (fun v3 s2 hS_s2 hF_s2 q4 => ?_))
  refine j_istore hx [(6, .int (zI v3)), (5, .int (zI v1)), (4, .int (zI 0)), (3, .ref o), (2, .ref m), (1, .ref a), (0, .ref b)] dL_law__1234 (by decide) rfl ?_
  refine j_aload_n hx 4 dL_law__1236 rfl ?_
  refine j_callV hx hG (c_X12_thrown hst m) lk_RL_118 hm (by decide) rfl rfl rfl rfl [] ⟨rfl, hG, hS_s2, hm⟩ rfl rfl ⟨by decide, by decide⟩ ⟨by decide, by decide⟩ (k2 := 411) (n2 := 339637) rfl rfl (Nat.le_of_ble_eq_true rfl) dL_law__1237 (kIP (fun v5 q6 => ?_))
  refine j_iload hx 1 dL_law__1240 rfl ?_
  refine j_icmp_eq hx 1247 dL_law__1242 rfl (by omega) (by omega) (fun h7 => ?_) (fun h7 => ?_)
  · skip
    refine j_iload hx 1 dL_law__1247 rfl ?_
    refine j_if_ne hx 1264 dL_law__1249 rfl (by omega) (fun h8 => ?_) (fun h8 => ?_)
    · skip
      refine j_goto hx 2475 dL_law__1264 rfl ?_
      exact j_sub [2, 6] [(4, .int (zI 0)), (0, .ref b)] rfl (w_tail hL hs (by decide) (by decide))
    · skip
      refine j_aload_n hx 3 dL_law__1252 rfl ?_
      refine j_iconst hx dL_law__1253 ?_
      have f9 := zaI (j := 0) hS_s1 ho rfl (zlen hG ho (n := 1) rfl rfl) (show 0 ≤ 0 by omega) (by omega) rfl
      refine j_lald hx hG ho (by decide) rfl (zlen hG ho (n := 1) rfl rfl) (by omega) (by omega) (j := 0) rfl (v := (s1 o 0)) (by rw [(zFr_g hF_s2 ho (by decide))]) dL_law__1254 ?_
      refine j_iload hx 0 dL_law__1255 rfl ?_
      refine j_i2l hx dL_law__1257 (by omega) ?_
      refine j_lcmp hx dL_law__1258 (by omega) (by omega) (fun v10 f11 f12 f13 => ?_)
      have f14 : -1 ≤ v10 ∧ v10 ≤ 1 := by omega
      refine j_if_eq hx 1264 dL_law__1259 rfl (by omega) (fun h15 => ?_) (fun h15 => ?_)
      · skip
        refine j_goto hx 2475 dL_law__1264 rfl ?_
        exact j_sub [2, 6] [(4, .int (zI 0)), (0, .ref b)] rfl (w_tail hL hs (by decide) (by decide))
      · skip
        exfalso
        omega
  · skip
    exfalso
    omega

theorem lk_RL_183 : LkSH RL 183 yL_calls cL_calls 5 (some .int) [(0, 10, 13, 19), (0, 10, 17, 13)] 4 := ⟨km_RL_183, kst_yL_calls, kn_RL, kc_yL_calls, by decide +kernel, by decide +kernel, by decide +kernel⟩
theorem lk_RL_185 : LkV RL 185 RX12 yX12_calls cX12_calls 3 (some .int) 2 := ⟨km_RL_185, ki_yX12_calls, ks_RX12_yX12_calls, kn_RX12, kc_yX12_calls, rfl, by decide +kernel, by decide +kernel, by decide +kernel⟩
set_option maxHeartbeats 4000000 in
set_option maxRecDepth 20000 in
theorem w_20 {X : zX} {E : zE} {G : zG} {s0 : zS} {b a m o : Nat} {ys : Nat → Int} (hL : LX X E b) (hG : zGK G) (hS0 : zSK G s0) (hF0 : zS0 G s0) (ha : gT G a = 12) (hm : gT G m = 13) (ho : gT G o = 120) (hs : ZS X E b 6 ys) (hy : ∀ j, -2147483648 ≤ ys j ∧ ys j ≤ 2147483647) : JJ X E 8 G s0 410 339631 [(4, .int (zI 0)), (3, .ref o), (2, .ref m), (1, .ref a), (0, .ref b)] 1267 [] := by
  have hx := hL.1
  have hst := hx.2.2.2.2.2.2.2.2.2.2.2
  have hy0 := hy 0
  have hy1 := hy 1
  have hy2 := hy 2
  have hy3 := hy 3
  have hy4 := hy 4
  have hy5 := hy 5
  refine j_aload_n hx 3 dL_law__1267 rfl ?_
  refine j_aload_n hx 4 dL_law__1268 rfl ?_
  refine j_iload hx 0 dL_law__1269 rfl ?_
  refine j_iconst hx dL_law__1271 ?_
  refine j_iadd hx (r := 1) dL_law__1272 (by omega) ?_
  refine j_sld hx hs (j := 1) rfl (by decide) (by decide) dL_law__1273 ?_
  refine j_aload_n hx 4 dL_law__1274 rfl ?_
  refine j_iload hx 0 dL_law__1275 rfl ?_
  refine j_iconst hx dL_law__1277 ?_
  refine j_iadd hx (r := 2) dL_law__1278 (by omega) ?_
  refine j_sld hx hs (j := 2) rfl (by decide) (by decide) dL_law__1279 ?_
  refine j_aload_n hx 1 dL_law__1280 rfl ?_
  refine j_callSH hx (c_L_calls hst a ((ys 1)) ((ys 2)) o) lk_RL_183 [.ref a, .int (zI ((ys 1))), .int (zI ((ys 2))), .ref o] ⟨rfl, hG, hS0, hF0, ha, (by omega), (by omega), ho⟩ rfl rfl ⟨by decide, by decide⟩ ⟨by decide, by decide⟩ (k2 := 411) (n2 := 339637) rfl rfl (Nat.le_of_ble_eq_true rfl) dL_law__1281 (kIM (fun v1 s1 hS_s1 hF_s1 q2 => ?_))
  refine j_istore hx [(5, .int (zI v1)), (4, .int (zI 0)), (3, .ref o), (2, .ref m), (1, .ref a), (0, .ref b)] dL_law__1284 (by decide) rfl ?_
  refine j_aload_n hx 3 dL_law__1286 rfl ?_
  refine j_aload_n hx 5 dL_law__1287 rfl ?_
  refine j_iload hx 1 dL_law__1288 rfl ?_
  refine j_iconst hx dL_law__1290 ?_
  refine j_iadd hx (r := 1) dL_law__1291 (by omega) ?_
  refine j_sld hx hs (j := 1) rfl (by decide) (by decide) dL_law__1292 ?_
  refine j_aload_n hx 5 dL_law__1293 rfl ?_
  refine j_iload hx 1 dL_law__1294 rfl ?_
  refine j_iconst hx dL_law__1296 ?_
  refine j_iadd hx (r := 2) dL_law__1297 (by omega) ?_
  refine j_sld hx hs (j := 2) rfl (by decide) (by decide) dL_law__1298 ?_
  refine j_callV hx hG (c_X12_calls hst m ((ys 1)) ((ys 2))) lk_RL_185 hm (by decide) rfl rfl rfl rfl [.int (zI ((ys 1))), .int (zI ((ys 2)))] ⟨rfl, hG, hS_s1, hm, (by omega), (by omega), (zS0m_fr (ts := [12, 120]) (zS0m_of hF0) (zFr_t zFr_rf hF_s1 (by decide)) (by decide))⟩ rfl rfl ⟨by decide, by decide⟩ ⟨by decide, by decide⟩ (k2 := 411) (n2 := 339637) rfl rfl (Nat.le_of_ble_eq_true rfl) dL_law__1299 (kIM (fun v3 s2 hS_s2 hF_s2 q4 => ?_))
  refine j_istore hx [(6, .int (zI v3)), (5, .int (zI v1)), (4, .int (zI 0)), (3, .ref o), (2, .ref m), (1, .ref a), (0, .ref b)] dL_law__1302 (by decide) rfl ?_
  refine j_aload_n hx 4 dL_law__1304 rfl ?_
  refine j_callV hx hG (c_X12_thrown hst m) lk_RL_118 hm (by decide) rfl rfl rfl rfl [] ⟨rfl, hG, hS_s2, hm⟩ rfl rfl ⟨by decide, by decide⟩ ⟨by decide, by decide⟩ (k2 := 411) (n2 := 339637) rfl rfl (Nat.le_of_ble_eq_true rfl) dL_law__1305 (kIP (fun v5 q6 => ?_))
  refine j_iload hx 1 dL_law__1308 rfl ?_
  refine j_icmp_eq hx 1315 dL_law__1310 rfl (by omega) (by omega) (fun h7 => ?_) (fun h7 => ?_)
  · skip
    refine j_iload hx 1 dL_law__1315 rfl ?_
    refine j_if_ne hx 1332 dL_law__1317 rfl (by omega) (fun h8 => ?_) (fun h8 => ?_)
    · skip
      refine j_goto hx 2475 dL_law__1332 rfl ?_
      exact j_sub [2, 6] [(4, .int (zI 0)), (0, .ref b)] rfl (w_tail hL hs (by decide) (by decide))
    · skip
      refine j_aload_n hx 3 dL_law__1320 rfl ?_
      refine j_iconst hx dL_law__1321 ?_
      have f9 := zaI (j := 0) hS_s1 ho rfl (zlen hG ho (n := 1) rfl rfl) (show 0 ≤ 0 by omega) (by omega) rfl
      refine j_lald hx hG ho (by decide) rfl (zlen hG ho (n := 1) rfl rfl) (by omega) (by omega) (j := 0) rfl (v := (s1 o 0)) (by rw [(zFr_g hF_s2 ho (by decide))]) dL_law__1322 ?_
      refine j_iload hx 0 dL_law__1323 rfl ?_
      refine j_i2l hx dL_law__1325 (by omega) ?_
      refine j_lcmp hx dL_law__1326 (by omega) (by omega) (fun v10 f11 f12 f13 => ?_)
      have f14 : -1 ≤ v10 ∧ v10 ≤ 1 := by omega
      refine j_if_eq hx 1332 dL_law__1327 rfl (by omega) (fun h15 => ?_) (fun h15 => ?_)
      · skip
        refine j_goto hx 2475 dL_law__1332 rfl ?_
        exact j_sub [2, 6] [(4, .int (zI 0)), (0, .ref b)] rfl (w_tail hL hs (by decide) (by decide))
      · skip
        exfalso
        omega
  · skip
    exfalso
    omega

theorem lk_RL_186 : LkSH RL 186 yL_won cL_won 4 (some .int) [(0, 9, 12, 19)] 3 := ⟨km_RL_186, kst_yL_won, kn_RL, kc_yL_won, by decide +kernel, by decide +kernel, by decide +kernel⟩
theorem lk_RL_188 : LkV RL 188 RX12 yX12_won cX12_won 2 (some .int) 1 := ⟨km_RL_188, ki_yX12_won, ks_RX12_yX12_won, kn_RX12, kc_yX12_won, rfl, by decide +kernel, by decide +kernel, by decide +kernel⟩
set_option maxHeartbeats 4000000 in
set_option maxRecDepth 20000 in
theorem w_21 {X : zX} {E : zE} {G : zG} {s0 : zS} {b a m o : Nat} {ys : Nat → Int} (hL : LX X E b) (hG : zGK G) (hS0 : zSK G s0) (hF0 : zS0 G s0) (ha : gT G a = 12) (hm : gT G m = 13) (ho : gT G o = 120) (hs : ZS X E b 6 ys) (hy : ∀ j, -2147483648 ≤ ys j ∧ ys j ≤ 2147483647) : JJ X E 8 G s0 410 339631 [(4, .int (zI 0)), (3, .ref o), (2, .ref m), (1, .ref a), (0, .ref b)] 1335 [] := by
  have hx := hL.1
  have hst := hx.2.2.2.2.2.2.2.2.2.2.2
  have hy0 := hy 0
  have hy1 := hy 1
  have hy2 := hy 2
  have hy3 := hy 3
  have hy4 := hy 4
  have hy5 := hy 5
  refine j_aload_n hx 3 dL_law__1335 rfl ?_
  refine j_aload_n hx 4 dL_law__1336 rfl ?_
  refine j_iload hx 0 dL_law__1337 rfl ?_
  refine j_iconst hx dL_law__1339 ?_
  refine j_iadd hx (r := 1) dL_law__1340 (by omega) ?_
  refine j_sld hx hs (j := 1) rfl (by decide) (by decide) dL_law__1341 ?_
  refine j_aload_n hx 1 dL_law__1342 rfl ?_
  refine j_callSH hx (c_L_won hst a ((ys 1)) o) lk_RL_186 [.ref a, .int (zI ((ys 1))), .ref o] ⟨rfl, hG, hS0, hF0, ha, (by omega), ho⟩ rfl rfl ⟨by decide, by decide⟩ ⟨by decide, by decide⟩ (k2 := 411) (n2 := 339637) rfl rfl (Nat.le_of_ble_eq_true rfl) dL_law__1343 (kIM (fun v1 s1 hS_s1 hF_s1 q2 => ?_))
  refine j_istore hx [(5, .int (zI v1)), (4, .int (zI 0)), (3, .ref o), (2, .ref m), (1, .ref a), (0, .ref b)] dL_law__1346 (by decide) rfl ?_
  refine j_aload_n hx 3 dL_law__1348 rfl ?_
  refine j_aload_n hx 5 dL_law__1349 rfl ?_
  refine j_iload hx 1 dL_law__1350 rfl ?_
  refine j_iconst hx dL_law__1352 ?_
  refine j_iadd hx (r := 1) dL_law__1353 (by omega) ?_
  refine j_sld hx hs (j := 1) rfl (by decide) (by decide) dL_law__1354 ?_
  refine j_callV hx hG (c_X12_won hst m ((ys 1))) lk_RL_188 hm (by decide) rfl rfl rfl rfl [.int (zI ((ys 1)))] ⟨rfl, hG, hS_s1, hm, (by omega), (zS0m_fr (ts := [12, 120]) (zS0m_of hF0) (zFr_t zFr_rf hF_s1 (by decide)) (by decide))⟩ rfl rfl ⟨by decide, by decide⟩ ⟨by decide, by decide⟩ (k2 := 411) (n2 := 339637) rfl rfl (Nat.le_of_ble_eq_true rfl) dL_law__1355 (kIM (fun v3 s2 hS_s2 hF_s2 q4 => ?_))
  refine j_istore hx [(6, .int (zI v3)), (5, .int (zI v1)), (4, .int (zI 0)), (3, .ref o), (2, .ref m), (1, .ref a), (0, .ref b)] dL_law__1358 (by decide) rfl ?_
  refine j_aload_n hx 4 dL_law__1360 rfl ?_
  refine j_callV hx hG (c_X12_thrown hst m) lk_RL_118 hm (by decide) rfl rfl rfl rfl [] ⟨rfl, hG, hS_s2, hm⟩ rfl rfl ⟨by decide, by decide⟩ ⟨by decide, by decide⟩ (k2 := 411) (n2 := 339637) rfl rfl (Nat.le_of_ble_eq_true rfl) dL_law__1361 (kIP (fun v5 q6 => ?_))
  refine j_iload hx 1 dL_law__1364 rfl ?_
  refine j_icmp_eq hx 1371 dL_law__1366 rfl (by omega) (by omega) (fun h7 => ?_) (fun h7 => ?_)
  · skip
    refine j_iload hx 1 dL_law__1371 rfl ?_
    refine j_if_ne hx 1388 dL_law__1373 rfl (by omega) (fun h8 => ?_) (fun h8 => ?_)
    · skip
      refine j_goto hx 2475 dL_law__1388 rfl ?_
      exact j_sub [2, 6] [(4, .int (zI 0)), (0, .ref b)] rfl (w_tail hL hs (by decide) (by decide))
    · skip
      refine j_aload_n hx 3 dL_law__1376 rfl ?_
      refine j_iconst hx dL_law__1377 ?_
      have f9 := zaI (j := 0) hS_s1 ho rfl (zlen hG ho (n := 1) rfl rfl) (show 0 ≤ 0 by omega) (by omega) rfl
      refine j_lald hx hG ho (by decide) rfl (zlen hG ho (n := 1) rfl rfl) (by omega) (by omega) (j := 0) rfl (v := (s1 o 0)) (by rw [(zFr_g hF_s2 ho (by decide))]) dL_law__1378 ?_
      refine j_iload hx 0 dL_law__1379 rfl ?_
      refine j_i2l hx dL_law__1381 (by omega) ?_
      refine j_lcmp hx dL_law__1382 (by omega) (by omega) (fun v10 f11 f12 f13 => ?_)
      have f14 : -1 ≤ v10 ∧ v10 ≤ 1 := by omega
      refine j_if_eq hx 1388 dL_law__1383 rfl (by omega) (fun h15 => ?_) (fun h15 => ?_)
      · skip
        refine j_goto hx 2475 dL_law__1388 rfl ?_
        exact j_sub [2, 6] [(4, .int (zI 0)), (0, .ref b)] rfl (w_tail hL hs (by decide) (by decide))
      · skip
        exfalso
        omega
  · skip
    exfalso
    omega

theorem lk_RL_189 : LkSH RL 189 yL_ends cL_ends 4 (some .int) [(0, 9, 12, 13)] 3 := ⟨km_RL_189, kst_yL_ends, kn_RL, kc_yL_ends, by decide +kernel, by decide +kernel, by decide +kernel⟩
theorem lk_RL_191 : LkV RL 191 RX12 yX12_ends cX12_ends 2 (some .int) 1 := ⟨km_RL_191, ki_yX12_ends, ks_RX12_yX12_ends, kn_RX12, kc_yX12_ends, rfl, by decide +kernel, by decide +kernel, by decide +kernel⟩
set_option maxHeartbeats 4000000 in
set_option maxRecDepth 20000 in
theorem w_22 {X : zX} {E : zE} {G : zG} {s0 : zS} {b a m o : Nat} {ys : Nat → Int} (hL : LX X E b) (hG : zGK G) (hS0 : zSK G s0) (hF0 : zS0 G s0) (ha : gT G a = 12) (hm : gT G m = 13) (ho : gT G o = 120) (hs : ZS X E b 6 ys) (hy : ∀ j, -2147483648 ≤ ys j ∧ ys j ≤ 2147483647) : JJ X E 8 G s0 410 339631 [(4, .int (zI 0)), (3, .ref o), (2, .ref m), (1, .ref a), (0, .ref b)] 1391 [] := by
  have hx := hL.1
  have hst := hx.2.2.2.2.2.2.2.2.2.2.2
  have hy0 := hy 0
  have hy1 := hy 1
  have hy2 := hy 2
  have hy3 := hy 3
  have hy4 := hy 4
  have hy5 := hy 5
  refine j_aload_n hx 3 dL_law__1391 rfl ?_
  refine j_aload_n hx 4 dL_law__1392 rfl ?_
  refine j_iload hx 0 dL_law__1393 rfl ?_
  refine j_iconst hx dL_law__1395 ?_
  refine j_iadd hx (r := 1) dL_law__1396 (by omega) ?_
  refine j_sld hx hs (j := 1) rfl (by decide) (by decide) dL_law__1397 ?_
  refine j_aload_n hx 1 dL_law__1398 rfl ?_
  refine j_callSH hx (c_L_ends hst a ((ys 1)) o) lk_RL_189 [.ref a, .int (zI ((ys 1))), .ref o] ⟨rfl, hG, hS0, hF0, ha, (by omega), ho⟩ rfl rfl ⟨by decide, by decide⟩ ⟨by decide, by decide⟩ (k2 := 411) (n2 := 339637) rfl rfl (Nat.le_of_ble_eq_true rfl) dL_law__1399 (kIM (fun v1 s1 hS_s1 hF_s1 q2 => ?_))
  refine j_istore hx [(5, .int (zI v1)), (4, .int (zI 0)), (3, .ref o), (2, .ref m), (1, .ref a), (0, .ref b)] dL_law__1402 (by decide) rfl ?_
  refine j_aload_n hx 3 dL_law__1404 rfl ?_
  refine j_aload_n hx 5 dL_law__1405 rfl ?_
  refine j_iload hx 1 dL_law__1406 rfl ?_
  refine j_iconst hx dL_law__1408 ?_
  refine j_iadd hx (r := 1) dL_law__1409 (by omega) ?_
  refine j_sld hx hs (j := 1) rfl (by decide) (by decide) dL_law__1410 ?_
  refine j_callV hx hG (c_X12_ends hst m ((ys 1))) lk_RL_191 hm (by decide) rfl rfl rfl rfl [.int (zI ((ys 1)))] ⟨rfl, hG, hS_s1, hm, (by omega), (zS0m_fr (ts := [1, 3, 4, 7, 12, 44, 49, 50, 54, 120]) (zS0m_of hF0) (zFr_t zFr_rf hF_s1 (by decide)) (by decide))⟩ rfl rfl ⟨by decide, by decide⟩ ⟨by decide, by decide⟩ (k2 := 411) (n2 := 339637) rfl rfl (Nat.le_of_ble_eq_true rfl) dL_law__1411 (kIM (fun v3 s2 hS_s2 hF_s2 q4 => ?_))
  refine j_istore hx [(6, .int (zI v3)), (5, .int (zI v1)), (4, .int (zI 0)), (3, .ref o), (2, .ref m), (1, .ref a), (0, .ref b)] dL_law__1414 (by decide) rfl ?_
  refine j_aload_n hx 4 dL_law__1416 rfl ?_
  refine j_callV hx hG (c_X12_thrown hst m) lk_RL_118 hm (by decide) rfl rfl rfl rfl [] ⟨rfl, hG, hS_s2, hm⟩ rfl rfl ⟨by decide, by decide⟩ ⟨by decide, by decide⟩ (k2 := 411) (n2 := 339637) rfl rfl (Nat.le_of_ble_eq_true rfl) dL_law__1417 (kIP (fun v5 q6 => ?_))
  refine j_iload hx 1 dL_law__1420 rfl ?_
  refine j_icmp_eq hx 1427 dL_law__1422 rfl (by omega) (by omega) (fun h7 => ?_) (fun h7 => ?_)
  · skip
    refine j_iload hx 1 dL_law__1427 rfl ?_
    refine j_if_ne hx 1444 dL_law__1429 rfl (by omega) (fun h8 => ?_) (fun h8 => ?_)
    · skip
      refine j_goto hx 2475 dL_law__1444 rfl ?_
      exact j_sub [2, 6] [(4, .int (zI 0)), (0, .ref b)] rfl (w_tail hL hs (by decide) (by decide))
    · skip
      refine j_aload_n hx 3 dL_law__1432 rfl ?_
      refine j_iconst hx dL_law__1433 ?_
      have f9 := zaI (j := 0) hS_s1 ho rfl (zlen hG ho (n := 1) rfl rfl) (show 0 ≤ 0 by omega) (by omega) rfl
      refine j_lald hx hG ho (by decide) rfl (zlen hG ho (n := 1) rfl rfl) (by omega) (by omega) (j := 0) rfl (v := (s1 o 0)) (by rw [(zFr_g hF_s2 ho (by decide))]) dL_law__1434 ?_
      refine j_iload hx 0 dL_law__1435 rfl ?_
      refine j_i2l hx dL_law__1437 (by omega) ?_
      refine j_lcmp hx dL_law__1438 (by omega) (by omega) (fun v10 f11 f12 f13 => ?_)
      have f14 : -1 ≤ v10 ∧ v10 ≤ 1 := by omega
      refine j_if_eq hx 1444 dL_law__1439 rfl (by omega) (fun h15 => ?_) (fun h15 => ?_)
      · skip
        refine j_goto hx 2475 dL_law__1444 rfl ?_
        exact j_sub [2, 6] [(4, .int (zI 0)), (0, .ref b)] rfl (w_tail hL hs (by decide) (by decide))
      · skip
        exfalso
        omega
  · skip
    exfalso
    omega

theorem lk_RL_192 : LkV RL 192 RX11 yX11_where cX11_where 2 (some .int) 1 := ⟨km_RL_192, ki_yX11_where, ks_RX11_yX11_where, kn_RX11, kc_yX11_where, rfl, by decide +kernel, by decide +kernel, by decide +kernel⟩
theorem lk_RL_195 : LkV RL 195 RX12 yX12_where cX12_where 5 (some .int) 1 := ⟨km_RL_195, ki_yX12_where, ks_RX12_yX12_where, kn_RX12, kc_yX12_where, rfl, by decide +kernel, by decide +kernel, by decide +kernel⟩
set_option maxHeartbeats 4000000 in
set_option maxRecDepth 20000 in
theorem w_23 {X : zX} {E : zE} {G : zG} {s0 : zS} {b a m o : Nat} {ys : Nat → Int} (hL : LX X E b) (hG : zGK G) (hS0 : zSK G s0) (hF0 : zS0 G s0) (ha : gT G a = 12) (hm : gT G m = 13) (ho : gT G o = 120) (hs : ZS X E b 6 ys) (hy : ∀ j, -2147483648 ≤ ys j ∧ ys j ≤ 2147483647) : JJ X E 8 G s0 410 339631 [(4, .int (zI 0)), (3, .ref o), (2, .ref m), (1, .ref a), (0, .ref b)] 1447 [] := by
  have hx := hL.1
  have hst := hx.2.2.2.2.2.2.2.2.2.2.2
  have hy0 := hy 0
  have hy1 := hy 1
  have hy2 := hy 2
  have hy3 := hy 3
  have hy4 := hy 4
  have hy5 := hy 5
  refine j_aload_n hx 3 dL_law__1447 rfl ?_
  refine j_aload_n hx 4 dL_law__1448 rfl ?_
  refine j_iload hx 0 dL_law__1449 rfl ?_
  refine j_iconst hx dL_law__1451 ?_
  refine j_iadd hx (r := 1) dL_law__1452 (by omega) ?_
  refine j_sld hx hs (j := 1) rfl (by decide) (by decide) dL_law__1453 ?_
  refine j_callV hx hG (c_X11_where hst a ((ys 1))) lk_RL_192 ha (by decide) rfl rfl rfl rfl [.int (zI ((ys 1)))] ⟨rfl, hG, hS0, ha, (by omega), hF0⟩ rfl rfl ⟨by decide, by decide⟩ ⟨by decide, by decide⟩ (k2 := 410) (n2 := 339631) rfl rfl (Nat.le_of_ble_eq_true rfl) dL_law__1454 (kIM (fun v1 s1 hS_s1 hF_s1 q2 => ?_))
  refine j_aload_n hx 2 dL_law__1457 rfl ?_
  refine j_aload_n hx 4 dL_law__1458 rfl ?_
  refine j_iload hx 0 dL_law__1459 rfl ?_
  refine j_iconst hx dL_law__1461 ?_
  refine j_iadd hx (r := 1) dL_law__1462 (by omega) ?_
  refine j_sld hx hs (j := 1) rfl (by decide) (by decide) dL_law__1463 ?_
  refine j_callV hx hG (c_X12_where hst m ((ys 1))) lk_RL_195 hm (by decide) rfl rfl rfl rfl [.int (zI ((ys 1)))] ⟨rfl, hG, hS_s1, hm, (by omega), (zS0m_fr (ts := [1, 7]) (zS0m_of hF0) (zFr_t zFr_rf hF_s1 (by decide)) (by decide))⟩ rfl rfl ⟨by decide, by decide⟩ ⟨by decide, by decide⟩ (k2 := 410) (n2 := 339631) rfl rfl (Nat.le_of_ble_eq_true rfl) dL_law__1464 (kIM (fun v3 s2 hS_s2 hF_s2 q4 => ?_))
  refine j_icmp_eq hx 2475 dL_law__1467 rfl (by omega) (by omega) (fun h5 => ?_) (fun h5 => absurd h5 (by omega))
  exact j_sub [0, 4] [(4, .int (zI 0)), (0, .ref b)] rfl (w_tail hL hs (by decide) (by decide))

theorem lk_RL_196 : LkSH RL 196 yL_chance cL_chance 6 (some .int) [(0, 12, 15, 19), (0, 12, 19, 13)] 5 := ⟨km_RL_196, kst_yL_chance, kn_RL, kc_yL_chance, by decide +kernel, by decide +kernel, by decide +kernel⟩
theorem lk_RL_199 : LkV RL 199 RX12 yX12_chance cX12_chance 9 (some .int) 3 := ⟨km_RL_199, ki_yX12_chance, ks_RX12_yX12_chance, kn_RX12, kc_yX12_chance, rfl, by decide +kernel, by decide +kernel, by decide +kernel⟩
set_option maxHeartbeats 4000000 in
set_option maxRecDepth 20000 in
theorem w_24 {X : zX} {E : zE} {G : zG} {s0 : zS} {b a m o : Nat} {ys : Nat → Int} (hL : LX X E b) (hG : zGK G) (hS0 : zSK G s0) (hF0 : zS0 G s0) (ha : gT G a = 12) (hm : gT G m = 13) (ho : gT G o = 120) (hs : ZS X E b 6 ys) (hy : ∀ j, -2147483648 ≤ ys j ∧ ys j ≤ 2147483647) : JJ X E 8 G s0 410 339631 [(4, .int (zI 0)), (3, .ref o), (2, .ref m), (1, .ref a), (0, .ref b)] 1472 [] := by
  have hx := hL.1
  have hst := hx.2.2.2.2.2.2.2.2.2.2.2
  have hy0 := hy 0
  have hy1 := hy 1
  have hy2 := hy 2
  have hy3 := hy 3
  have hy4 := hy 4
  have hy5 := hy 5
  refine j_aload_n hx 3 dL_law__1472 rfl ?_
  refine j_aload_n hx 4 dL_law__1473 rfl ?_
  refine j_iload hx 0 dL_law__1474 rfl ?_
  refine j_iconst hx dL_law__1476 ?_
  refine j_iadd hx (r := 1) dL_law__1477 (by omega) ?_
  refine j_sld hx hs (j := 1) rfl (by decide) (by decide) dL_law__1478 ?_
  refine j_aload_n hx 4 dL_law__1479 rfl ?_
  refine j_iload hx 0 dL_law__1480 rfl ?_
  refine j_iconst hx dL_law__1482 ?_
  refine j_iadd hx (r := 2) dL_law__1483 (by omega) ?_
  refine j_sld hx hs (j := 2) rfl (by decide) (by decide) dL_law__1484 ?_
  refine j_aload_n hx 4 dL_law__1485 rfl ?_
  refine j_iload hx 0 dL_law__1486 rfl ?_
  refine j_iconst hx dL_law__1488 ?_
  refine j_iadd hx (r := 3) dL_law__1489 (by omega) ?_
  refine j_sld hx hs (j := 3) rfl (by decide) (by decide) dL_law__1490 ?_
  refine j_aload_n hx 1 dL_law__1491 rfl ?_
  refine j_callSH hx (c_L_chance hst a ((ys 1)) ((ys 2)) ((ys 3)) o) lk_RL_196 [.ref a, .int (zI ((ys 1))), .int (zI ((ys 2))), .int (zI ((ys 3))), .ref o] ⟨rfl, hG, hS0, hF0, ha, (by omega), (by omega), (by omega), ho⟩ rfl rfl ⟨by decide, by decide⟩ ⟨by decide, by decide⟩ (k2 := 411) (n2 := 339637) rfl rfl (Nat.le_of_ble_eq_true rfl) dL_law__1492 (kIM (fun v1 s1 hS_s1 hF_s1 q2 => ?_))
  refine j_istore hx [(5, .int (zI v1)), (4, .int (zI 0)), (3, .ref o), (2, .ref m), (1, .ref a), (0, .ref b)] dL_law__1495 (by decide) rfl ?_
  refine j_aload_n hx 3 dL_law__1497 rfl ?_
  refine j_aload_n hx 5 dL_law__1498 rfl ?_
  refine j_iload hx 1 dL_law__1499 rfl ?_
  refine j_iconst hx dL_law__1501 ?_
  refine j_iadd hx (r := 1) dL_law__1502 (by omega) ?_
  refine j_sld hx hs (j := 1) rfl (by decide) (by decide) dL_law__1503 ?_
  refine j_aload_n hx 5 dL_law__1504 rfl ?_
  refine j_iload hx 1 dL_law__1505 rfl ?_
  refine j_iconst hx dL_law__1507 ?_
  refine j_iadd hx (r := 2) dL_law__1508 (by omega) ?_
  refine j_sld hx hs (j := 2) rfl (by decide) (by decide) dL_law__1509 ?_
  refine j_aload_n hx 5 dL_law__1510 rfl ?_
  refine j_iload hx 1 dL_law__1511 rfl ?_
  refine j_iconst hx dL_law__1513 ?_
  refine j_iadd hx (r := 3) dL_law__1514 (by omega) ?_
  refine j_sld hx hs (j := 3) rfl (by decide) (by decide) dL_law__1515 ?_
  refine j_callV hx hG (c_X12_chance hst m ((ys 1)) ((ys 2)) ((ys 3))) lk_RL_199 hm (by decide) rfl rfl rfl rfl [.int (zI ((ys 1))), .int (zI ((ys 2))), .int (zI ((ys 3)))] ⟨rfl, hG, hS_s1, hm, (by omega), (by omega), (by omega), (zS0m_fr (ts := [12, 120]) (zS0m_of hF0) (zFr_t zFr_rf hF_s1 (by decide)) (by decide))⟩ rfl rfl ⟨by decide, by decide⟩ ⟨by decide, by decide⟩ (k2 := 411) (n2 := 339637) rfl rfl (Nat.le_of_ble_eq_true rfl) dL_law__1516 (kIM (fun v3 s2 hS_s2 hF_s2 q4 => ?_))
  refine j_istore hx [(6, .int (zI v3)), (5, .int (zI v1)), (4, .int (zI 0)), (3, .ref o), (2, .ref m), (1, .ref a), (0, .ref b)] dL_law__1519 (by decide) rfl ?_
  refine j_aload_n hx 4 dL_law__1521 rfl ?_
  refine j_callV hx hG (c_X12_thrown hst m) lk_RL_118 hm (by decide) rfl rfl rfl rfl [] ⟨rfl, hG, hS_s2, hm⟩ rfl rfl ⟨by decide, by decide⟩ ⟨by decide, by decide⟩ (k2 := 411) (n2 := 339637) rfl rfl (Nat.le_of_ble_eq_true rfl) dL_law__1522 (kIP (fun v5 q6 => ?_))
  refine j_iload hx 1 dL_law__1525 rfl ?_
  refine j_icmp_eq hx 1532 dL_law__1527 rfl (by omega) (by omega) (fun h7 => ?_) (fun h7 => ?_)
  · skip
    refine j_iload hx 1 dL_law__1532 rfl ?_
    refine j_if_ne hx 1549 dL_law__1534 rfl (by omega) (fun h8 => ?_) (fun h8 => ?_)
    · skip
      refine j_goto hx 2475 dL_law__1549 rfl ?_
      exact j_sub [2, 6] [(4, .int (zI 0)), (0, .ref b)] rfl (w_tail hL hs (by decide) (by decide))
    · skip
      refine j_aload_n hx 3 dL_law__1537 rfl ?_
      refine j_iconst hx dL_law__1538 ?_
      have f9 := zaI (j := 0) hS_s1 ho rfl (zlen hG ho (n := 1) rfl rfl) (show 0 ≤ 0 by omega) (by omega) rfl
      refine j_lald hx hG ho (by decide) rfl (zlen hG ho (n := 1) rfl rfl) (by omega) (by omega) (j := 0) rfl (v := (s1 o 0)) (by rw [(zFr_g hF_s2 ho (by decide))]) dL_law__1539 ?_
      refine j_iload hx 0 dL_law__1540 rfl ?_
      refine j_i2l hx dL_law__1542 (by omega) ?_
      refine j_lcmp hx dL_law__1543 (by omega) (by omega) (fun v10 f11 f12 f13 => ?_)
      have f14 : -1 ≤ v10 ∧ v10 ≤ 1 := by omega
      refine j_if_eq hx 1549 dL_law__1544 rfl (by omega) (fun h15 => ?_) (fun h15 => ?_)
      · skip
        refine j_goto hx 2475 dL_law__1549 rfl ?_
        exact j_sub [2, 6] [(4, .int (zI 0)), (0, .ref b)] rfl (w_tail hL hs (by decide) (by decide))
      · skip
        exfalso
        omega
  · skip
    exfalso
    omega

theorem lk_RL_200 : LkSH RL 200 yL_waits cL_waits 7 (some .int) [(0, 14, 17, 13)] 6 := ⟨km_RL_200, kst_yL_waits, kn_RL, kc_yL_waits, by decide +kernel, by decide +kernel, by decide +kernel⟩
theorem lk_RL_203 : LkV RL 203 RX12 yX12_waits cX12_waits 6 (some .int) 4 := ⟨km_RL_203, ki_yX12_waits, ks_RX12_yX12_waits, kn_RX12, kc_yX12_waits, rfl, by decide +kernel, by decide +kernel, by decide +kernel⟩
set_option maxHeartbeats 4000000 in
set_option maxRecDepth 20000 in
theorem w_25 {X : zX} {E : zE} {G : zG} {s0 : zS} {b a m o : Nat} {ys : Nat → Int} (hL : LX X E b) (hG : zGK G) (hS0 : zSK G s0) (hF0 : zS0 G s0) (ha : gT G a = 12) (hm : gT G m = 13) (ho : gT G o = 120) (hs : ZS X E b 6 ys) (hy : ∀ j, -2147483648 ≤ ys j ∧ ys j ≤ 2147483647) : JJ X E 8 G s0 410 339631 [(4, .int (zI 0)), (3, .ref o), (2, .ref m), (1, .ref a), (0, .ref b)] 1552 [] := by
  have hx := hL.1
  have hst := hx.2.2.2.2.2.2.2.2.2.2.2
  have hy0 := hy 0
  have hy1 := hy 1
  have hy2 := hy 2
  have hy3 := hy 3
  have hy4 := hy 4
  have hy5 := hy 5
  refine j_aload_n hx 3 dL_law__1552 rfl ?_
  refine j_aload_n hx 4 dL_law__1553 rfl ?_
  refine j_iload hx 0 dL_law__1554 rfl ?_
  refine j_iconst hx dL_law__1556 ?_
  refine j_iadd hx (r := 1) dL_law__1557 (by omega) ?_
  refine j_sld hx hs (j := 1) rfl (by decide) (by decide) dL_law__1558 ?_
  refine j_aload_n hx 4 dL_law__1559 rfl ?_
  refine j_iload hx 0 dL_law__1560 rfl ?_
  refine j_iconst hx dL_law__1562 ?_
  refine j_iadd hx (r := 2) dL_law__1563 (by omega) ?_
  refine j_sld hx hs (j := 2) rfl (by decide) (by decide) dL_law__1564 ?_
  refine j_aload_n hx 4 dL_law__1565 rfl ?_
  refine j_iload hx 0 dL_law__1566 rfl ?_
  refine j_iconst hx dL_law__1568 ?_
  refine j_iadd hx (r := 3) dL_law__1569 (by omega) ?_
  refine j_sld hx hs (j := 3) rfl (by decide) (by decide) dL_law__1570 ?_
  refine j_aload_n hx 4 dL_law__1571 rfl ?_
  refine j_iload hx 0 dL_law__1572 rfl ?_
  refine j_iconst hx dL_law__1574 ?_
  refine j_iadd hx (r := 4) dL_law__1575 (by omega) ?_
  refine j_sld hx hs (j := 4) rfl (by decide) (by decide) dL_law__1576 ?_
  refine j_aload_n hx 1 dL_law__1577 rfl ?_
  refine j_callSH hx (c_L_waits hst a ((ys 1)) ((ys 2)) ((ys 3)) ((ys 4)) o) lk_RL_200 [.ref a, .int (zI ((ys 1))), .int (zI ((ys 2))), .int (zI ((ys 3))), .int (zI ((ys 4))), .ref o] ⟨rfl, hG, hS0, hF0, ha, (by omega), (by omega), (by omega), (by omega), ho⟩ rfl rfl ⟨by decide, by decide⟩ ⟨by decide, by decide⟩ (k2 := 414) (n2 := 339655) rfl rfl (Nat.le_of_ble_eq_true rfl) dL_law__1578 (kIM (fun v1 s1 hS_s1 hF_s1 q2 => ?_))
  refine j_istore hx [(5, .int (zI v1)), (4, .int (zI 0)), (3, .ref o), (2, .ref m), (1, .ref a), (0, .ref b)] dL_law__1581 (by decide) rfl ?_
  refine j_aload_n hx 3 dL_law__1583 rfl ?_
  refine j_aload_n hx 5 dL_law__1584 rfl ?_
  refine j_iload hx 1 dL_law__1585 rfl ?_
  refine j_iconst hx dL_law__1587 ?_
  refine j_iadd hx (r := 1) dL_law__1588 (by omega) ?_
  refine j_sld hx hs (j := 1) rfl (by decide) (by decide) dL_law__1589 ?_
  refine j_aload_n hx 5 dL_law__1590 rfl ?_
  refine j_iload hx 1 dL_law__1591 rfl ?_
  refine j_iconst hx dL_law__1593 ?_
  refine j_iadd hx (r := 2) dL_law__1594 (by omega) ?_
  refine j_sld hx hs (j := 2) rfl (by decide) (by decide) dL_law__1595 ?_
  refine j_aload_n hx 5 dL_law__1596 rfl ?_
  refine j_iload hx 1 dL_law__1597 rfl ?_
  refine j_iconst hx dL_law__1599 ?_
  refine j_iadd hx (r := 3) dL_law__1600 (by omega) ?_
  refine j_sld hx hs (j := 3) rfl (by decide) (by decide) dL_law__1601 ?_
  refine j_aload_n hx 5 dL_law__1602 rfl ?_
  refine j_iload hx 1 dL_law__1603 rfl ?_
  refine j_iconst hx dL_law__1605 ?_
  refine j_iadd hx (r := 4) dL_law__1606 (by omega) ?_
  refine j_sld hx hs (j := 4) rfl (by decide) (by decide) dL_law__1607 ?_
  refine j_callV hx hG (c_X12_waits hst m ((ys 1)) ((ys 2)) ((ys 3)) ((ys 4))) lk_RL_203 hm (by decide) rfl rfl rfl rfl [.int (zI ((ys 1))), .int (zI ((ys 2))), .int (zI ((ys 3))), .int (zI ((ys 4)))] ⟨rfl, hG, hS_s1, hm, (by omega), (by omega), (by omega), (by omega), (zS0m_fr (ts := [12, 120]) (zS0m_of hF0) (zFr_t zFr_rf hF_s1 (by decide)) (by decide))⟩ rfl rfl ⟨by decide, by decide⟩ ⟨by decide, by decide⟩ (k2 := 414) (n2 := 339655) rfl rfl (Nat.le_of_ble_eq_true rfl) dL_law__1608 (kIM (fun v3 s2 hS_s2 hF_s2 q4 => ?_))
  refine j_istore hx [(6, .int (zI v3)), (5, .int (zI v1)), (4, .int (zI 0)), (3, .ref o), (2, .ref m), (1, .ref a), (0, .ref b)] dL_law__1611 (by decide) rfl ?_
  refine j_aload_n hx 4 dL_law__1613 rfl ?_
  refine j_callV hx hG (c_X12_thrown hst m) lk_RL_118 hm (by decide) rfl rfl rfl rfl [] ⟨rfl, hG, hS_s2, hm⟩ rfl rfl ⟨by decide, by decide⟩ ⟨by decide, by decide⟩ (k2 := 414) (n2 := 339655) rfl rfl (Nat.le_of_ble_eq_true rfl) dL_law__1614 (kIP (fun v5 q6 => ?_))
  refine j_iload hx 1 dL_law__1617 rfl ?_
  refine j_icmp_eq hx 1624 dL_law__1619 rfl (by omega) (by omega) (fun h7 => ?_) (fun h7 => ?_)
  · skip
    refine j_iload hx 1 dL_law__1624 rfl ?_
    refine j_if_ne hx 1641 dL_law__1626 rfl (by omega) (fun h8 => ?_) (fun h8 => ?_)
    · skip
      refine j_goto hx 2475 dL_law__1641 rfl ?_
      exact j_sub [2, 6] [(4, .int (zI 0)), (0, .ref b)] rfl (w_tail hL hs (by decide) (by decide))
    · skip
      refine j_aload_n hx 3 dL_law__1629 rfl ?_
      refine j_iconst hx dL_law__1630 ?_
      have f9 := zaI (j := 0) hS_s1 ho rfl (zlen hG ho (n := 1) rfl rfl) (show 0 ≤ 0 by omega) (by omega) rfl
      refine j_lald hx hG ho (by decide) rfl (zlen hG ho (n := 1) rfl rfl) (by omega) (by omega) (j := 0) rfl (v := (s1 o 0)) (by rw [(zFr_g hF_s2 ho (by decide))]) dL_law__1631 ?_
      refine j_iload hx 0 dL_law__1632 rfl ?_
      refine j_i2l hx dL_law__1634 (by omega) ?_
      refine j_lcmp hx dL_law__1635 (by omega) (by omega) (fun v10 f11 f12 f13 => ?_)
      have f14 : -1 ≤ v10 ∧ v10 ≤ 1 := by omega
      refine j_if_eq hx 1641 dL_law__1636 rfl (by omega) (fun h15 => ?_) (fun h15 => ?_)
      · skip
        refine j_goto hx 2475 dL_law__1641 rfl ?_
        exact j_sub [2, 6] [(4, .int (zI 0)), (0, .ref b)] rfl (w_tail hL hs (by decide) (by decide))
      · skip
        exfalso
        by_cases hc : 1 ≤ (ys 2) ∧ (ys 2) ≤ 99 ∧ 0 ≤ (ys 1) ∧ (ys 1) ≤ (ys 2) ∧ 0 ≤ (ys 3) ∧ (ys 3) ≤ 99 ∧ 0 ≤ (ys 4) ∧ (ys 4) ≤ 99
        · obtain ⟨-, w1, w2, w3, w4⟩ := q2.2.1 hc
          have hW : 0 ≤ ys 1 * ys 3 := Int.mul_nonneg (by omega) (by omega)
          obtain ⟨-, m3, m4⟩ := q4.2.1 hc
          have e9 := zuniq hW ⟨w1, w2⟩ q4.1 w3 w4 m3 m4
          omega
        · omega
  · skip
    exfalso
    by_cases hc : 1 ≤ (ys 2) ∧ (ys 2) ≤ 99 ∧ 0 ≤ (ys 1) ∧ (ys 1) ≤ (ys 2) ∧ 0 ≤ (ys 3) ∧ (ys 3) ≤ 99 ∧ 0 ≤ (ys 4) ∧ (ys 4) ≤ 99
    · obtain ⟨-, w1, w2, w3, w4⟩ := q2.2.1 hc
      have hW : 0 ≤ ys 1 * ys 3 := Int.mul_nonneg (by omega) (by omega)
      obtain ⟨-, m3, m4⟩ := q4.2.1 hc
      have e9 := zuniq hW ⟨w1, w2⟩ q4.1 w3 w4 m3 m4
      omega
    · omega

theorem lk_RL_204 : LkSH RL 204 yL_ahead cL_ahead 7 (some .int) [(0, 14, 17, 13)] 6 := ⟨km_RL_204, kst_yL_ahead, kn_RL, kc_yL_ahead, by decide +kernel, by decide +kernel, by decide +kernel⟩
theorem lk_RL_206 : LkV RL 206 RX12 yX12_ahead cX12_ahead 5 (some .int) 4 := ⟨km_RL_206, ki_yX12_ahead, ks_RX12_yX12_ahead, kn_RX12, kc_yX12_ahead, rfl, by decide +kernel, by decide +kernel, by decide +kernel⟩
set_option maxHeartbeats 4000000 in
set_option maxRecDepth 20000 in
theorem w_26 {X : zX} {E : zE} {G : zG} {s0 : zS} {b a m o : Nat} {ys : Nat → Int} (hL : LX X E b) (hG : zGK G) (hS0 : zSK G s0) (hF0 : zS0 G s0) (ha : gT G a = 12) (hm : gT G m = 13) (ho : gT G o = 120) (hs : ZS X E b 6 ys) (hy : ∀ j, -2147483648 ≤ ys j ∧ ys j ≤ 2147483647) : JJ X E 8 G s0 410 339631 [(4, .int (zI 0)), (3, .ref o), (2, .ref m), (1, .ref a), (0, .ref b)] 1644 [] := by
  have hx := hL.1
  have hst := hx.2.2.2.2.2.2.2.2.2.2.2
  have hy0 := hy 0
  have hy1 := hy 1
  have hy2 := hy 2
  have hy3 := hy 3
  have hy4 := hy 4
  have hy5 := hy 5
  refine j_aload_n hx 3 dL_law__1644 rfl ?_
  refine j_aload_n hx 4 dL_law__1645 rfl ?_
  refine j_iload hx 0 dL_law__1646 rfl ?_
  refine j_iconst hx dL_law__1648 ?_
  refine j_iadd hx (r := 1) dL_law__1649 (by omega) ?_
  refine j_sld hx hs (j := 1) rfl (by decide) (by decide) dL_law__1650 ?_
  refine j_aload_n hx 4 dL_law__1651 rfl ?_
  refine j_iload hx 0 dL_law__1652 rfl ?_
  refine j_iconst hx dL_law__1654 ?_
  refine j_iadd hx (r := 2) dL_law__1655 (by omega) ?_
  refine j_sld hx hs (j := 2) rfl (by decide) (by decide) dL_law__1656 ?_
  refine j_aload_n hx 4 dL_law__1657 rfl ?_
  refine j_iload hx 0 dL_law__1658 rfl ?_
  refine j_iconst hx dL_law__1660 ?_
  refine j_iadd hx (r := 3) dL_law__1661 (by omega) ?_
  refine j_sld hx hs (j := 3) rfl (by decide) (by decide) dL_law__1662 ?_
  refine j_aload_n hx 4 dL_law__1663 rfl ?_
  refine j_iload hx 0 dL_law__1664 rfl ?_
  refine j_iconst hx dL_law__1666 ?_
  refine j_iadd hx (r := 4) dL_law__1667 (by omega) ?_
  refine j_sld hx hs (j := 4) rfl (by decide) (by decide) dL_law__1668 ?_
  refine j_aload_n hx 1 dL_law__1669 rfl ?_
  refine j_callSH hx (c_L_ahead hst a ((ys 1)) ((ys 2)) ((ys 3)) ((ys 4)) o) lk_RL_204 [.ref a, .int (zI ((ys 1))), .int (zI ((ys 2))), .int (zI ((ys 3))), .int (zI ((ys 4))), .ref o] ⟨rfl, hG, hS0, hF0, ha, (by omega), (by omega), (by omega), (by omega), ho⟩ rfl rfl ⟨by decide, by decide⟩ ⟨by decide, by decide⟩ (k2 := 414) (n2 := 339655) rfl rfl (Nat.le_of_ble_eq_true rfl) dL_law__1670 (kIM (fun v1 s1 hS_s1 hF_s1 q2 => ?_))
  refine j_istore hx [(5, .int (zI v1)), (4, .int (zI 0)), (3, .ref o), (2, .ref m), (1, .ref a), (0, .ref b)] dL_law__1673 (by decide) rfl ?_
  refine j_aload_n hx 3 dL_law__1675 rfl ?_
  refine j_aload_n hx 5 dL_law__1676 rfl ?_
  refine j_iload hx 1 dL_law__1677 rfl ?_
  refine j_iconst hx dL_law__1679 ?_
  refine j_iadd hx (r := 1) dL_law__1680 (by omega) ?_
  refine j_sld hx hs (j := 1) rfl (by decide) (by decide) dL_law__1681 ?_
  refine j_aload_n hx 5 dL_law__1682 rfl ?_
  refine j_iload hx 1 dL_law__1683 rfl ?_
  refine j_iconst hx dL_law__1685 ?_
  refine j_iadd hx (r := 2) dL_law__1686 (by omega) ?_
  refine j_sld hx hs (j := 2) rfl (by decide) (by decide) dL_law__1687 ?_
  refine j_aload_n hx 5 dL_law__1688 rfl ?_
  refine j_iload hx 1 dL_law__1689 rfl ?_
  refine j_iconst hx dL_law__1691 ?_
  refine j_iadd hx (r := 3) dL_law__1692 (by omega) ?_
  refine j_sld hx hs (j := 3) rfl (by decide) (by decide) dL_law__1693 ?_
  refine j_aload_n hx 5 dL_law__1694 rfl ?_
  refine j_iload hx 1 dL_law__1695 rfl ?_
  refine j_iconst hx dL_law__1697 ?_
  refine j_iadd hx (r := 4) dL_law__1698 (by omega) ?_
  refine j_sld hx hs (j := 4) rfl (by decide) (by decide) dL_law__1699 ?_
  refine j_callV hx hG (c_X12_ahead hst m ((ys 1)) ((ys 2)) ((ys 3)) ((ys 4))) lk_RL_206 hm (by decide) rfl rfl rfl rfl [.int (zI ((ys 1))), .int (zI ((ys 2))), .int (zI ((ys 3))), .int (zI ((ys 4)))] ⟨rfl, hG, hS_s1, hm, (by omega), (by omega), (by omega), (by omega), (zS0m_fr (ts := [12, 120]) (zS0m_of hF0) (zFr_t zFr_rf hF_s1 (by decide)) (by decide))⟩ rfl rfl ⟨by decide, by decide⟩ ⟨by decide, by decide⟩ (k2 := 414) (n2 := 339655) rfl rfl (Nat.le_of_ble_eq_true rfl) dL_law__1700 (kIM (fun v3 s2 hS_s2 hF_s2 q4 => ?_))
  refine j_istore hx [(6, .int (zI v3)), (5, .int (zI v1)), (4, .int (zI 0)), (3, .ref o), (2, .ref m), (1, .ref a), (0, .ref b)] dL_law__1703 (by decide) rfl ?_
  refine j_aload_n hx 4 dL_law__1705 rfl ?_
  refine j_callV hx hG (c_X12_thrown hst m) lk_RL_118 hm (by decide) rfl rfl rfl rfl [] ⟨rfl, hG, hS_s2, hm⟩ rfl rfl ⟨by decide, by decide⟩ ⟨by decide, by decide⟩ (k2 := 414) (n2 := 339655) rfl rfl (Nat.le_of_ble_eq_true rfl) dL_law__1706 (kIP (fun v5 q6 => ?_))
  refine j_iload hx 1 dL_law__1709 rfl ?_
  refine j_icmp_eq hx 1716 dL_law__1711 rfl (by omega) (by omega) (fun h7 => ?_) (fun h7 => ?_)
  · skip
    refine j_iload hx 1 dL_law__1716 rfl ?_
    refine j_if_ne hx 1733 dL_law__1718 rfl (by omega) (fun h8 => ?_) (fun h8 => ?_)
    · skip
      refine j_goto hx 2475 dL_law__1733 rfl ?_
      exact j_sub [2, 6] [(4, .int (zI 0)), (0, .ref b)] rfl (w_tail hL hs (by decide) (by decide))
    · skip
      refine j_aload_n hx 3 dL_law__1721 rfl ?_
      refine j_iconst hx dL_law__1722 ?_
      have f9 := zaI (j := 0) hS_s1 ho rfl (zlen hG ho (n := 1) rfl rfl) (show 0 ≤ 0 by omega) (by omega) rfl
      refine j_lald hx hG ho (by decide) rfl (zlen hG ho (n := 1) rfl rfl) (by omega) (by omega) (j := 0) rfl (v := (s1 o 0)) (by rw [(zFr_g hF_s2 ho (by decide))]) dL_law__1723 ?_
      refine j_iload hx 0 dL_law__1724 rfl ?_
      refine j_i2l hx dL_law__1726 (by omega) ?_
      refine j_lcmp hx dL_law__1727 (by omega) (by omega) (fun v10 f11 f12 f13 => ?_)
      have f14 : -1 ≤ v10 ∧ v10 ≤ 1 := by omega
      refine j_if_eq hx 1733 dL_law__1728 rfl (by omega) (fun h15 => ?_) (fun h15 => ?_)
      · skip
        refine j_goto hx 2475 dL_law__1733 rfl ?_
        exact j_sub [2, 6] [(4, .int (zI 0)), (0, .ref b)] rfl (w_tail hL hs (by decide) (by decide))
      · skip
        exfalso
        omega
  · skip
    exfalso
    omega

theorem lk_RL_207 : LkSH RL 207 yL_moments cL_moments 6 (some .int) [(0, 12, 15, 13)] 5 := ⟨km_RL_207, kst_yL_moments, kn_RL, kc_yL_moments, by decide +kernel, by decide +kernel, by decide +kernel⟩
theorem lk_RL_209 : LkV RL 209 RX12 yX12_moments cX12_moments 4 (some .int) 3 := ⟨km_RL_209, ki_yX12_moments, ks_RX12_yX12_moments, kn_RX12, kc_yX12_moments, rfl, by decide +kernel, by decide +kernel, by decide +kernel⟩
set_option maxHeartbeats 4000000 in
set_option maxRecDepth 20000 in
theorem w_27 {X : zX} {E : zE} {G : zG} {s0 : zS} {b a m o : Nat} {ys : Nat → Int} (hL : LX X E b) (hG : zGK G) (hS0 : zSK G s0) (hF0 : zS0 G s0) (ha : gT G a = 12) (hm : gT G m = 13) (ho : gT G o = 120) (hs : ZS X E b 6 ys) (hy : ∀ j, -2147483648 ≤ ys j ∧ ys j ≤ 2147483647) : JJ X E 8 G s0 410 339631 [(4, .int (zI 0)), (3, .ref o), (2, .ref m), (1, .ref a), (0, .ref b)] 1736 [] := by
  have hx := hL.1
  have hst := hx.2.2.2.2.2.2.2.2.2.2.2
  have hy0 := hy 0
  have hy1 := hy 1
  have hy2 := hy 2
  have hy3 := hy 3
  have hy4 := hy 4
  have hy5 := hy 5
  refine j_aload_n hx 3 dL_law__1736 rfl ?_
  refine j_aload_n hx 4 dL_law__1737 rfl ?_
  refine j_iload hx 0 dL_law__1738 rfl ?_
  refine j_iconst hx dL_law__1740 ?_
  refine j_iadd hx (r := 1) dL_law__1741 (by omega) ?_
  refine j_sld hx hs (j := 1) rfl (by decide) (by decide) dL_law__1742 ?_
  refine j_aload_n hx 4 dL_law__1743 rfl ?_
  refine j_iload hx 0 dL_law__1744 rfl ?_
  refine j_iconst hx dL_law__1746 ?_
  refine j_iadd hx (r := 2) dL_law__1747 (by omega) ?_
  refine j_sld hx hs (j := 2) rfl (by decide) (by decide) dL_law__1748 ?_
  refine j_aload_n hx 4 dL_law__1749 rfl ?_
  refine j_iload hx 0 dL_law__1750 rfl ?_
  refine j_iconst hx dL_law__1752 ?_
  refine j_iadd hx (r := 3) dL_law__1753 (by omega) ?_
  refine j_sld hx hs (j := 3) rfl (by decide) (by decide) dL_law__1754 ?_
  refine j_aload_n hx 1 dL_law__1755 rfl ?_
  refine j_callSH hx (c_L_moments hst a ((ys 1)) ((ys 2)) ((ys 3)) o) lk_RL_207 [.ref a, .int (zI ((ys 1))), .int (zI ((ys 2))), .int (zI ((ys 3))), .ref o] ⟨rfl, hG, hS0, hF0, ha, (by omega), (by omega), (by omega), ho⟩ rfl rfl ⟨by decide, by decide⟩ ⟨by decide, by decide⟩ (k2 := 413) (n2 := 339649) rfl rfl (Nat.le_of_ble_eq_true rfl) dL_law__1756 (kIM (fun v1 s1 hS_s1 hF_s1 q2 => ?_))
  refine j_istore hx [(5, .int (zI v1)), (4, .int (zI 0)), (3, .ref o), (2, .ref m), (1, .ref a), (0, .ref b)] dL_law__1759 (by decide) rfl ?_
  refine j_aload_n hx 3 dL_law__1761 rfl ?_
  refine j_aload_n hx 5 dL_law__1762 rfl ?_
  refine j_iload hx 1 dL_law__1763 rfl ?_
  refine j_iconst hx dL_law__1765 ?_
  refine j_iadd hx (r := 1) dL_law__1766 (by omega) ?_
  refine j_sld hx hs (j := 1) rfl (by decide) (by decide) dL_law__1767 ?_
  refine j_aload_n hx 5 dL_law__1768 rfl ?_
  refine j_iload hx 1 dL_law__1769 rfl ?_
  refine j_iconst hx dL_law__1771 ?_
  refine j_iadd hx (r := 2) dL_law__1772 (by omega) ?_
  refine j_sld hx hs (j := 2) rfl (by decide) (by decide) dL_law__1773 ?_
  refine j_aload_n hx 5 dL_law__1774 rfl ?_
  refine j_iload hx 1 dL_law__1775 rfl ?_
  refine j_iconst hx dL_law__1777 ?_
  refine j_iadd hx (r := 3) dL_law__1778 (by omega) ?_
  refine j_sld hx hs (j := 3) rfl (by decide) (by decide) dL_law__1779 ?_
  refine j_callV hx hG (c_X12_moments hst m ((ys 1)) ((ys 2)) ((ys 3))) lk_RL_209 hm (by decide) rfl rfl rfl rfl [.int (zI ((ys 1))), .int (zI ((ys 2))), .int (zI ((ys 3)))] ⟨rfl, hG, hS_s1, hm, (by omega), (by omega), (by omega), (zS0m_fr (ts := [12, 120]) (zS0m_of hF0) (zFr_t zFr_rf hF_s1 (by decide)) (by decide))⟩ rfl rfl ⟨by decide, by decide⟩ ⟨by decide, by decide⟩ (k2 := 413) (n2 := 339649) rfl rfl (Nat.le_of_ble_eq_true rfl) dL_law__1780 (kIM (fun v3 s2 hS_s2 hF_s2 q4 => ?_))
  refine j_istore hx [(6, .int (zI v3)), (5, .int (zI v1)), (4, .int (zI 0)), (3, .ref o), (2, .ref m), (1, .ref a), (0, .ref b)] dL_law__1783 (by decide) rfl ?_
  refine j_aload_n hx 4 dL_law__1785 rfl ?_
  refine j_callV hx hG (c_X12_thrown hst m) lk_RL_118 hm (by decide) rfl rfl rfl rfl [] ⟨rfl, hG, hS_s2, hm⟩ rfl rfl ⟨by decide, by decide⟩ ⟨by decide, by decide⟩ (k2 := 413) (n2 := 339649) rfl rfl (Nat.le_of_ble_eq_true rfl) dL_law__1786 (kIP (fun v5 q6 => ?_))
  refine j_iload hx 1 dL_law__1789 rfl ?_
  refine j_icmp_eq hx 1796 dL_law__1791 rfl (by omega) (by omega) (fun h7 => ?_) (fun h7 => ?_)
  · skip
    refine j_iload hx 1 dL_law__1796 rfl ?_
    refine j_if_ne hx 1813 dL_law__1798 rfl (by omega) (fun h8 => ?_) (fun h8 => ?_)
    · skip
      refine j_goto hx 2475 dL_law__1813 rfl ?_
      exact j_sub [2, 6] [(4, .int (zI 0)), (0, .ref b)] rfl (w_tail hL hs (by decide) (by decide))
    · skip
      refine j_aload_n hx 3 dL_law__1801 rfl ?_
      refine j_iconst hx dL_law__1802 ?_
      have f9 := zaI (j := 0) hS_s1 ho rfl (zlen hG ho (n := 1) rfl rfl) (show 0 ≤ 0 by omega) (by omega) rfl
      refine j_lald hx hG ho (by decide) rfl (zlen hG ho (n := 1) rfl rfl) (by omega) (by omega) (j := 0) rfl (v := (s1 o 0)) (by rw [(zFr_g hF_s2 ho (by decide))]) dL_law__1803 ?_
      refine j_iload hx 0 dL_law__1804 rfl ?_
      refine j_i2l hx dL_law__1806 (by omega) ?_
      refine j_lcmp hx dL_law__1807 (by omega) (by omega) (fun v10 f11 f12 f13 => ?_)
      have f14 : -1 ≤ v10 ∧ v10 ≤ 1 := by omega
      refine j_if_eq hx 1813 dL_law__1808 rfl (by omega) (fun h15 => ?_) (fun h15 => ?_)
      · skip
        refine j_goto hx 2475 dL_law__1813 rfl ?_
        exact j_sub [2, 6] [(4, .int (zI 0)), (0, .ref b)] rfl (w_tail hL hs (by decide) (by decide))
      · skip
        exfalso
        omega
  · skip
    exfalso
    omega

theorem lk_RL_210 : LkSH RL 210 yL_rests cL_rests 5 (some .int) [(0, 10, 13, 13)] 4 := ⟨km_RL_210, kst_yL_rests, kn_RL, kc_yL_rests, by decide +kernel, by decide +kernel, by decide +kernel⟩
theorem lk_RL_212 : LkV RL 212 RX12 yX12_rests cX12_rests 7 (some .int) 2 := ⟨km_RL_212, ki_yX12_rests, ks_RX12_yX12_rests, kn_RX12, kc_yX12_rests, rfl, by decide +kernel, by decide +kernel, by decide +kernel⟩
set_option maxHeartbeats 4000000 in
set_option maxRecDepth 20000 in
theorem w_28 {X : zX} {E : zE} {G : zG} {s0 : zS} {b a m o : Nat} {ys : Nat → Int} (hL : LX X E b) (hG : zGK G) (hS0 : zSK G s0) (hF0 : zS0 G s0) (ha : gT G a = 12) (hm : gT G m = 13) (ho : gT G o = 120) (hs : ZS X E b 6 ys) (hy : ∀ j, -2147483648 ≤ ys j ∧ ys j ≤ 2147483647) : JJ X E 8 G s0 410 339631 [(4, .int (zI 0)), (3, .ref o), (2, .ref m), (1, .ref a), (0, .ref b)] 1816 [] := by
  have hx := hL.1
  have hst := hx.2.2.2.2.2.2.2.2.2.2.2
  have hy0 := hy 0
  have hy1 := hy 1
  have hy2 := hy 2
  have hy3 := hy 3
  have hy4 := hy 4
  have hy5 := hy 5
  refine j_aload_n hx 3 dL_law__1816 rfl ?_
  refine j_aload_n hx 4 dL_law__1817 rfl ?_
  refine j_iload hx 0 dL_law__1818 rfl ?_
  refine j_iconst hx dL_law__1820 ?_
  refine j_iadd hx (r := 1) dL_law__1821 (by omega) ?_
  refine j_sld hx hs (j := 1) rfl (by decide) (by decide) dL_law__1822 ?_
  refine j_aload_n hx 4 dL_law__1823 rfl ?_
  refine j_iload hx 0 dL_law__1824 rfl ?_
  refine j_iconst hx dL_law__1826 ?_
  refine j_iadd hx (r := 2) dL_law__1827 (by omega) ?_
  refine j_sld hx hs (j := 2) rfl (by decide) (by decide) dL_law__1828 ?_
  refine j_aload_n hx 1 dL_law__1829 rfl ?_
  refine j_callSH hx (c_L_rests hst a ((ys 1)) ((ys 2)) o) lk_RL_210 [.ref a, .int (zI ((ys 1))), .int (zI ((ys 2))), .ref o] ⟨rfl, hG, hS0, hF0, ha, (by omega), (by omega), ho⟩ rfl rfl ⟨by decide, by decide⟩ ⟨by decide, by decide⟩ (k2 := 412) (n2 := 339643) rfl rfl (Nat.le_of_ble_eq_true rfl) dL_law__1830 (kIM (fun v1 s1 hS_s1 hF_s1 q2 => ?_))
  refine j_istore hx [(5, .int (zI v1)), (4, .int (zI 0)), (3, .ref o), (2, .ref m), (1, .ref a), (0, .ref b)] dL_law__1833 (by decide) rfl ?_
  refine j_aload_n hx 3 dL_law__1835 rfl ?_
  refine j_aload_n hx 5 dL_law__1836 rfl ?_
  refine j_iload hx 1 dL_law__1837 rfl ?_
  refine j_iconst hx dL_law__1839 ?_
  refine j_iadd hx (r := 1) dL_law__1840 (by omega) ?_
  refine j_sld hx hs (j := 1) rfl (by decide) (by decide) dL_law__1841 ?_
  refine j_aload_n hx 5 dL_law__1842 rfl ?_
  refine j_iload hx 1 dL_law__1843 rfl ?_
  refine j_iconst hx dL_law__1845 ?_
  refine j_iadd hx (r := 2) dL_law__1846 (by omega) ?_
  refine j_sld hx hs (j := 2) rfl (by decide) (by decide) dL_law__1847 ?_
  refine j_callV hx hG (c_X12_rests hst m ((ys 1)) ((ys 2))) lk_RL_212 hm (by decide) rfl rfl rfl rfl [.int (zI ((ys 1))), .int (zI ((ys 2)))] ⟨rfl, hG, hS_s1, hm, (by omega), (by omega), (zS0m_fr (ts := [12, 120]) (zS0m_of hF0) (zFr_t zFr_rf hF_s1 (by decide)) (by decide))⟩ rfl rfl ⟨by decide, by decide⟩ ⟨by decide, by decide⟩ (k2 := 412) (n2 := 339643) rfl rfl (Nat.le_of_ble_eq_true rfl) dL_law__1848 (kIM (fun v3 s2 hS_s2 hF_s2 q4 => ?_))
  refine j_istore hx [(6, .int (zI v3)), (5, .int (zI v1)), (4, .int (zI 0)), (3, .ref o), (2, .ref m), (1, .ref a), (0, .ref b)] dL_law__1851 (by decide) rfl ?_
  refine j_aload_n hx 4 dL_law__1853 rfl ?_
  refine j_callV hx hG (c_X12_thrown hst m) lk_RL_118 hm (by decide) rfl rfl rfl rfl [] ⟨rfl, hG, hS_s2, hm⟩ rfl rfl ⟨by decide, by decide⟩ ⟨by decide, by decide⟩ (k2 := 412) (n2 := 339643) rfl rfl (Nat.le_of_ble_eq_true rfl) dL_law__1854 (kIP (fun v5 q6 => ?_))
  refine j_iload hx 1 dL_law__1857 rfl ?_
  refine j_icmp_eq hx 1864 dL_law__1859 rfl (by omega) (by omega) (fun h7 => ?_) (fun h7 => ?_)
  · skip
    refine j_iload hx 1 dL_law__1864 rfl ?_
    refine j_if_ne hx 1881 dL_law__1866 rfl (by omega) (fun h8 => ?_) (fun h8 => ?_)
    · skip
      refine j_goto hx 2475 dL_law__1881 rfl ?_
      exact j_sub [2, 6] [(4, .int (zI 0)), (0, .ref b)] rfl (w_tail hL hs (by decide) (by decide))
    · skip
      refine j_aload_n hx 3 dL_law__1869 rfl ?_
      refine j_iconst hx dL_law__1870 ?_
      have f9 := zaI (j := 0) hS_s1 ho rfl (zlen hG ho (n := 1) rfl rfl) (show 0 ≤ 0 by omega) (by omega) rfl
      refine j_lald hx hG ho (by decide) rfl (zlen hG ho (n := 1) rfl rfl) (by omega) (by omega) (j := 0) rfl (v := (s1 o 0)) (by rw [(zFr_g hF_s2 ho (by decide))]) dL_law__1871 ?_
      refine j_iload hx 0 dL_law__1872 rfl ?_
      refine j_i2l hx dL_law__1874 (by omega) ?_
      refine j_lcmp hx dL_law__1875 (by omega) (by omega) (fun v10 f11 f12 f13 => ?_)
      have f14 : -1 ≤ v10 ∧ v10 ≤ 1 := by omega
      refine j_if_eq hx 1881 dL_law__1876 rfl (by omega) (fun h15 => ?_) (fun h15 => ?_)
      · skip
        refine j_goto hx 2475 dL_law__1881 rfl ?_
        exact j_sub [2, 6] [(4, .int (zI 0)), (0, .ref b)] rfl (w_tail hL hs (by decide) (by decide))
      · skip
        exfalso
        omega
  · skip
    exfalso
    omega

theorem lk_RL_213 : LkSH RL 213 yL_remember cL_remember 6 (some .int) [(0, 12, 15, 19), (0, 12, 19, 13)] 5 := ⟨km_RL_213, kst_yL_remember, kn_RL, kc_yL_remember, by decide +kernel, by decide +kernel, by decide +kernel⟩
theorem lk_RL_215 : LkV RL 215 RX12 yX12_remember cX12_remember 8 (some .int) 3 := ⟨km_RL_215, ki_yX12_remember, ks_RX12_yX12_remember, kn_RX12, kc_yX12_remember, rfl, by decide +kernel, by decide +kernel, by decide +kernel⟩
set_option maxHeartbeats 4000000 in
set_option maxRecDepth 20000 in
theorem w_29 {X : zX} {E : zE} {G : zG} {s0 : zS} {b a m o : Nat} {ys : Nat → Int} (hL : LX X E b) (hG : zGK G) (hS0 : zSK G s0) (hF0 : zS0 G s0) (ha : gT G a = 12) (hm : gT G m = 13) (ho : gT G o = 120) (hs : ZS X E b 6 ys) (hy : ∀ j, -2147483648 ≤ ys j ∧ ys j ≤ 2147483647) : JJ X E 8 G s0 410 339631 [(4, .int (zI 0)), (3, .ref o), (2, .ref m), (1, .ref a), (0, .ref b)] 1884 [] := by
  have hx := hL.1
  have hst := hx.2.2.2.2.2.2.2.2.2.2.2
  have hy0 := hy 0
  have hy1 := hy 1
  have hy2 := hy 2
  have hy3 := hy 3
  have hy4 := hy 4
  have hy5 := hy 5
  refine j_aload_n hx 3 dL_law__1884 rfl ?_
  refine j_aload_n hx 4 dL_law__1885 rfl ?_
  refine j_iload hx 0 dL_law__1886 rfl ?_
  refine j_iconst hx dL_law__1888 ?_
  refine j_iadd hx (r := 1) dL_law__1889 (by omega) ?_
  refine j_sld hx hs (j := 1) rfl (by decide) (by decide) dL_law__1890 ?_
  refine j_aload_n hx 4 dL_law__1891 rfl ?_
  refine j_iload hx 0 dL_law__1892 rfl ?_
  refine j_iconst hx dL_law__1894 ?_
  refine j_iadd hx (r := 2) dL_law__1895 (by omega) ?_
  refine j_sld hx hs (j := 2) rfl (by decide) (by decide) dL_law__1896 ?_
  refine j_aload_n hx 4 dL_law__1897 rfl ?_
  refine j_iload hx 0 dL_law__1898 rfl ?_
  refine j_iconst hx dL_law__1900 ?_
  refine j_iadd hx (r := 3) dL_law__1901 (by omega) ?_
  refine j_sld hx hs (j := 3) rfl (by decide) (by decide) dL_law__1902 ?_
  refine j_aload_n hx 1 dL_law__1903 rfl ?_
  refine j_callSH hx (c_L_remember hst a ((ys 1)) ((ys 2)) ((ys 3)) o) lk_RL_213 [.ref a, .int (zI ((ys 1))), .int (zI ((ys 2))), .int (zI ((ys 3))), .ref o] ⟨rfl, hG, hS0, hF0, ha, (by omega), (by omega), (by omega), ho⟩ rfl rfl ⟨by decide, by decide⟩ ⟨by decide, by decide⟩ (k2 := 411) (n2 := 339637) rfl rfl (Nat.le_of_ble_eq_true rfl) dL_law__1904 (kIM (fun v1 s1 hS_s1 hF_s1 q2 => ?_))
  refine j_istore hx [(5, .int (zI v1)), (4, .int (zI 0)), (3, .ref o), (2, .ref m), (1, .ref a), (0, .ref b)] dL_law__1907 (by decide) rfl ?_
  refine j_aload_n hx 3 dL_law__1909 rfl ?_
  refine j_aload_n hx 5 dL_law__1910 rfl ?_
  refine j_iload hx 1 dL_law__1911 rfl ?_
  refine j_iconst hx dL_law__1913 ?_
  refine j_iadd hx (r := 1) dL_law__1914 (by omega) ?_
  refine j_sld hx hs (j := 1) rfl (by decide) (by decide) dL_law__1915 ?_
  refine j_aload_n hx 5 dL_law__1916 rfl ?_
  refine j_iload hx 1 dL_law__1917 rfl ?_
  refine j_iconst hx dL_law__1919 ?_
  refine j_iadd hx (r := 2) dL_law__1920 (by omega) ?_
  refine j_sld hx hs (j := 2) rfl (by decide) (by decide) dL_law__1921 ?_
  refine j_aload_n hx 5 dL_law__1922 rfl ?_
  refine j_iload hx 1 dL_law__1923 rfl ?_
  refine j_iconst hx dL_law__1925 ?_
  refine j_iadd hx (r := 3) dL_law__1926 (by omega) ?_
  refine j_sld hx hs (j := 3) rfl (by decide) (by decide) dL_law__1927 ?_
  refine j_callV hx hG (c_X12_remember hst m ((ys 1)) ((ys 2)) ((ys 3))) lk_RL_215 hm (by decide) rfl rfl rfl rfl [.int (zI ((ys 1))), .int (zI ((ys 2))), .int (zI ((ys 3)))] ⟨rfl, hG, hS_s1, hm, (by omega), (by omega), (by omega), (zS0m_fr (ts := [12, 120]) (zS0m_of hF0) (zFr_t zFr_rf hF_s1 (by decide)) (by decide))⟩ rfl rfl ⟨by decide, by decide⟩ ⟨by decide, by decide⟩ (k2 := 411) (n2 := 339637) rfl rfl (Nat.le_of_ble_eq_true rfl) dL_law__1928 (kIM (fun v3 s2 hS_s2 hF_s2 q4 => ?_))
  refine j_istore hx [(6, .int (zI v3)), (5, .int (zI v1)), (4, .int (zI 0)), (3, .ref o), (2, .ref m), (1, .ref a), (0, .ref b)] dL_law__1931 (by decide) rfl ?_
  refine j_aload_n hx 4 dL_law__1933 rfl ?_
  refine j_callV hx hG (c_X12_thrown hst m) lk_RL_118 hm (by decide) rfl rfl rfl rfl [] ⟨rfl, hG, hS_s2, hm⟩ rfl rfl ⟨by decide, by decide⟩ ⟨by decide, by decide⟩ (k2 := 411) (n2 := 339637) rfl rfl (Nat.le_of_ble_eq_true rfl) dL_law__1934 (kIP (fun v5 q6 => ?_))
  refine j_iload hx 1 dL_law__1937 rfl ?_
  refine j_icmp_eq hx 1944 dL_law__1939 rfl (by omega) (by omega) (fun h7 => ?_) (fun h7 => ?_)
  · skip
    refine j_iload hx 1 dL_law__1944 rfl ?_
    refine j_if_ne hx 1961 dL_law__1946 rfl (by omega) (fun h8 => ?_) (fun h8 => ?_)
    · skip
      refine j_goto hx 2475 dL_law__1961 rfl ?_
      exact j_sub [2, 6] [(4, .int (zI 0)), (0, .ref b)] rfl (w_tail hL hs (by decide) (by decide))
    · skip
      refine j_aload_n hx 3 dL_law__1949 rfl ?_
      refine j_iconst hx dL_law__1950 ?_
      have f9 := zaI (j := 0) hS_s1 ho rfl (zlen hG ho (n := 1) rfl rfl) (show 0 ≤ 0 by omega) (by omega) rfl
      refine j_lald hx hG ho (by decide) rfl (zlen hG ho (n := 1) rfl rfl) (by omega) (by omega) (j := 0) rfl (v := (s1 o 0)) (by rw [(zFr_g hF_s2 ho (by decide))]) dL_law__1951 ?_
      refine j_iload hx 0 dL_law__1952 rfl ?_
      refine j_i2l hx dL_law__1954 (by omega) ?_
      refine j_lcmp hx dL_law__1955 (by omega) (by omega) (fun v10 f11 f12 f13 => ?_)
      have f14 : -1 ≤ v10 ∧ v10 ≤ 1 := by omega
      refine j_if_eq hx 1961 dL_law__1956 rfl (by omega) (fun h15 => ?_) (fun h15 => ?_)
      · skip
        refine j_goto hx 2475 dL_law__1961 rfl ?_
        exact j_sub [2, 6] [(4, .int (zI 0)), (0, .ref b)] rfl (w_tail hL hs (by decide) (by decide))
      · skip
        exfalso
        omega
  · skip
    exfalso
    omega

theorem lk_RL_216 : LkSH RL 216 yL_odds cL_odds 6 (some .int) [(0, 11, 14, 19), (0, 11, 18, 13)] 5 := ⟨km_RL_216, kst_yL_odds, kn_RL, kc_yL_odds, by decide +kernel, by decide +kernel, by decide +kernel⟩
theorem lk_RL_218 : LkV RL 218 RX12 yX12_odds cX12_odds 9 (some .long) 3 := ⟨km_RL_218, ki_yX12_odds, ks_RX12_yX12_odds, kn_RX12, kc_yX12_odds, rfl, by decide +kernel, by decide +kernel, by decide +kernel⟩
set_option maxHeartbeats 4000000 in
set_option maxRecDepth 20000 in
theorem w_30 {X : zX} {E : zE} {G : zG} {s0 : zS} {b a m o : Nat} {ys : Nat → Int} (hL : LX X E b) (hG : zGK G) (hS0 : zSK G s0) (hF0 : zS0 G s0) (ha : gT G a = 12) (hm : gT G m = 13) (ho : gT G o = 120) (hs : ZS X E b 6 ys) (hy : ∀ j, -2147483648 ≤ ys j ∧ ys j ≤ 2147483647) : JJ X E 8 G s0 410 339631 [(4, .int (zI 0)), (3, .ref o), (2, .ref m), (1, .ref a), (0, .ref b)] 1964 [] := by
  have hx := hL.1
  have hst := hx.2.2.2.2.2.2.2.2.2.2.2
  have hy0 := hy 0
  have hy1 := hy 1
  have hy2 := hy 2
  have hy3 := hy 3
  have hy4 := hy 4
  have hy5 := hy 5
  refine j_aload_n hx 3 dL_law__1964 rfl ?_
  refine j_aload_n hx 4 dL_law__1965 rfl ?_
  refine j_iload hx 0 dL_law__1966 rfl ?_
  refine j_iconst hx dL_law__1968 ?_
  refine j_iadd hx (r := 1) dL_law__1969 (by omega) ?_
  refine j_sld hx hs (j := 1) rfl (by decide) (by decide) dL_law__1970 ?_
  refine j_aload_n hx 4 dL_law__1971 rfl ?_
  refine j_iload hx 0 dL_law__1972 rfl ?_
  refine j_iconst hx dL_law__1974 ?_
  refine j_iadd hx (r := 2) dL_law__1975 (by omega) ?_
  refine j_sld hx hs (j := 2) rfl (by decide) (by decide) dL_law__1976 ?_
  refine j_aload_n hx 4 dL_law__1977 rfl ?_
  refine j_iload hx 0 dL_law__1978 rfl ?_
  refine j_iconst hx dL_law__1980 ?_
  refine j_iadd hx (r := 3) dL_law__1981 (by omega) ?_
  refine j_sld hx hs (j := 3) rfl (by decide) (by decide) dL_law__1982 ?_
  refine j_aload_n hx 1 dL_law__1983 rfl ?_
  refine j_callSH hx (c_L_odds hst a ((ys 1)) ((ys 2)) ((ys 3)) o) lk_RL_216 [.ref a, .int (zI ((ys 1))), .int (zI ((ys 2))), .int (zI ((ys 3))), .ref o] ⟨rfl, hG, hS0, hF0, ha, (by omega), (by omega), (by omega), ho⟩ rfl rfl ⟨by decide, by decide⟩ ⟨by decide, by decide⟩ (k2 := 411) (n2 := 339637) rfl rfl (Nat.le_of_ble_eq_true rfl) dL_law__1984 (kIM (fun v1 s1 hS_s1 hF_s1 q2 => ?_))
  refine j_istore hx [(5, .int (zI v1)), (4, .int (zI 0)), (3, .ref o), (2, .ref m), (1, .ref a), (0, .ref b)] dL_law__1987 (by decide) rfl ?_
  refine j_aload_n hx 3 dL_law__1989 rfl ?_
  refine j_aload_n hx 5 dL_law__1990 rfl ?_
  refine j_iload hx 1 dL_law__1991 rfl ?_
  refine j_iconst hx dL_law__1993 ?_
  refine j_iadd hx (r := 1) dL_law__1994 (by omega) ?_
  refine j_sld hx hs (j := 1) rfl (by decide) (by decide) dL_law__1995 ?_
  refine j_aload_n hx 5 dL_law__1996 rfl ?_
  refine j_iload hx 1 dL_law__1997 rfl ?_
  refine j_iconst hx dL_law__1999 ?_
  refine j_iadd hx (r := 2) dL_law__2000 (by omega) ?_
  refine j_sld hx hs (j := 2) rfl (by decide) (by decide) dL_law__2001 ?_
  refine j_aload_n hx 5 dL_law__2002 rfl ?_
  refine j_iload hx 1 dL_law__2003 rfl ?_
  refine j_iconst hx dL_law__2005 ?_
  refine j_iadd hx (r := 3) dL_law__2006 (by omega) ?_
  refine j_sld hx hs (j := 3) rfl (by decide) (by decide) dL_law__2007 ?_
  refine j_callV hx hG (c_X12_odds hst m ((ys 1)) ((ys 2)) ((ys 3))) lk_RL_218 hm (by decide) rfl rfl rfl rfl [.int (zI ((ys 1))), .int (zI ((ys 2))), .int (zI ((ys 3)))] ⟨rfl, hG, hS_s1, hm, (by omega), (by omega), (by omega), (zS0m_fr (ts := [12, 120]) (zS0m_of hF0) (zFr_t zFr_rf hF_s1 (by decide)) (by decide))⟩ rfl rfl ⟨by decide, by decide⟩ ⟨by decide, by decide⟩ (k2 := 411) (n2 := 339637) rfl rfl (Nat.le_of_ble_eq_true rfl) dL_law__2008 (kLM (fun v3 s2 hS_s2 hF_s2 q4 => ?_))
  refine j_lstore hx [(6, .long (zL v3)), (5, .int (zI v1)), (4, .int (zI 0)), (3, .ref o), (2, .ref m), (1, .ref a), (0, .ref b)] dL_law__2011 (by decide) rfl ?_
  refine j_aload_n hx 4 dL_law__2013 rfl ?_
  refine j_callV hx hG (c_X12_thrown hst m) lk_RL_118 hm (by decide) rfl rfl rfl rfl [] ⟨rfl, hG, hS_s2, hm⟩ rfl rfl ⟨by decide, by decide⟩ ⟨by decide, by decide⟩ (k2 := 411) (n2 := 339637) rfl rfl (Nat.le_of_ble_eq_true rfl) dL_law__2014 (kIP (fun v5 q6 => ?_))
  refine j_iload hx 1 dL_law__2017 rfl ?_
  refine j_icmp_eq hx 2024 dL_law__2019 rfl (by omega) (by omega) (fun h7 => ?_) (fun h7 => ?_)
  · skip
    refine j_iload hx 1 dL_law__2024 rfl ?_
    refine j_if_ne hx 2040 dL_law__2026 rfl (by omega) (fun h8 => ?_) (fun h8 => ?_)
    · skip
      refine j_goto hx 2475 dL_law__2040 rfl ?_
      exact j_sub [2, 6] [(4, .int (zI 0)), (0, .ref b)] rfl (w_tail hL hs (by decide) (by decide))
    · skip
      refine j_aload_n hx 3 dL_law__2029 rfl ?_
      refine j_iconst hx dL_law__2030 ?_
      have f9 := zaI (j := 0) hS_s1 ho rfl (zlen hG ho (n := 1) rfl rfl) (show 0 ≤ 0 by omega) (by omega) rfl
      refine j_lald hx hG ho (by decide) rfl (zlen hG ho (n := 1) rfl rfl) (by omega) (by omega) (j := 0) rfl (v := (s1 o 0)) (by rw [(zFr_g hF_s2 ho (by decide))]) dL_law__2031 ?_
      refine j_lload hx 0 dL_law__2032 rfl ?_
      refine j_lcmp hx dL_law__2034 (by omega) (by omega) (fun v10 f11 f12 f13 => ?_)
      have f14 : -1 ≤ v10 ∧ v10 ≤ 1 := by omega
      refine j_if_eq hx 2040 dL_law__2035 rfl (by omega) (fun h15 => ?_) (fun h15 => ?_)
      · skip
        refine j_goto hx 2475 dL_law__2040 rfl ?_
        exact j_sub [2, 6] [(4, .int (zI 0)), (0, .ref b)] rfl (w_tail hL hs (by decide) (by decide))
      · skip
        exfalso
        omega
  · skip
    exfalso
    omega

theorem lk_RL_219 : LkV RL 219 RX11 yX11_shuffle cX11_shuffle 2 none 1 := ⟨km_RL_219, ki_yX11_shuffle, ks_RX11_yX11_shuffle, kn_RX11, kc_yX11_shuffle, rfl, by decide +kernel, by decide +kernel, by decide +kernel⟩
theorem lk_RL_222 : LkV RL 222 RX12 yX12_shuffle cX12_shuffle 2 none 1 := ⟨km_RL_222, ki_yX12_shuffle, ks_RX12_yX12_shuffle, kn_RX12, kc_yX12_shuffle, rfl, by decide +kernel, by decide +kernel, by decide +kernel⟩
set_option maxHeartbeats 4000000 in
set_option maxRecDepth 20000 in
theorem w_31 {X : zX} {E : zE} {G : zG} {s0 : zS} {b a m o : Nat} {ys : Nat → Int} (hL : LX X E b) (hG : zGK G) (hS0 : zSK G s0) (hF0 : zS0 G s0) (ha : gT G a = 12) (hm : gT G m = 13) (ho : gT G o = 120) (hs : ZS X E b 6 ys) (hy : ∀ j, -2147483648 ≤ ys j ∧ ys j ≤ 2147483647) : JJ X E 8 G s0 410 339631 [(4, .int (zI 0)), (3, .ref o), (2, .ref m), (1, .ref a), (0, .ref b)] 2043 [] := by
  have hx := hL.1
  have hst := hx.2.2.2.2.2.2.2.2.2.2.2
  have hy0 := hy 0
  have hy1 := hy 1
  have hy2 := hy 2
  have hy3 := hy 3
  have hy4 := hy 4
  have hy5 := hy 5
  refine j_aload_n hx 3 dL_law__2043 rfl ?_
  refine j_aload_n hx 4 dL_law__2044 rfl ?_
  refine j_iload hx 0 dL_law__2045 rfl ?_
  refine j_iconst hx dL_law__2047 ?_
  refine j_iadd hx (r := 1) dL_law__2048 (by omega) ?_
  refine j_sld hx hs (j := 1) rfl (by decide) (by decide) dL_law__2049 ?_
  refine j_callV hx hG (c_X11_shuffle hst a ((ys 1))) lk_RL_219 ha (by decide) rfl rfl rfl rfl [.int (zI ((ys 1)))] ⟨rfl, hG, hS0, ha, (by omega), hF0⟩ rfl rfl ⟨by decide, by decide⟩ ⟨by decide, by decide⟩ (k2 := 410) (n2 := 339631) rfl rfl (Nat.le_of_ble_eq_true rfl) dL_law__2050 (kVM (fun s1 hS_s1 hF_s1 q2 => ?_))
  refine j_aload_n hx 2 dL_law__2053 rfl ?_
  refine j_aload_n hx 4 dL_law__2054 rfl ?_
  refine j_iload hx 0 dL_law__2055 rfl ?_
  refine j_iconst hx dL_law__2057 ?_
  refine j_iadd hx (r := 1) dL_law__2058 (by omega) ?_
  refine j_sld hx hs (j := 1) rfl (by decide) (by decide) dL_law__2059 ?_
  refine j_callV hx hG (c_X12_shuffle hst m ((ys 1))) lk_RL_222 hm (by decide) rfl rfl rfl rfl [.int (zI ((ys 1)))] ⟨rfl, hG, hS_s1, hm, (by omega), (zS0m_fr (ts := [5]) (zS0m_of hF0) (zFr_t zFr_rf hF_s1 (by decide)) (by decide))⟩ rfl rfl ⟨by decide, by decide⟩ ⟨by decide, by decide⟩ (k2 := 410) (n2 := 339631) rfl rfl (Nat.le_of_ble_eq_true rfl) dL_law__2060 (kVM (fun s2 hS_s2 hF_s2 q4 => ?_))
  refine j_goto hx 2475 dL_law__2063 rfl ?_
  exact j_sub [0, 4] [(4, .int (zI 0)), (0, .ref b)] rfl (w_tail hL hs (by decide) (by decide))

theorem lk_RL_223 : LkSH RL 223 yL_lot cL_lot 6 (some .int) [(0, 12, 15, 13)] 5 := ⟨km_RL_223, kst_yL_lot, kn_RL, kc_yL_lot, by decide +kernel, by decide +kernel, by decide +kernel⟩
theorem lk_RL_225 : LkV RL 225 RX12 yX12_lot cX12_lot 5 (some .int) 3 := ⟨km_RL_225, ki_yX12_lot, ks_RX12_yX12_lot, kn_RX12, kc_yX12_lot, rfl, by decide +kernel, by decide +kernel, by decide +kernel⟩
set_option maxHeartbeats 4000000 in
set_option maxRecDepth 20000 in
theorem w_32 {X : zX} {E : zE} {G : zG} {s0 : zS} {b a m o : Nat} {ys : Nat → Int} (hL : LX X E b) (hG : zGK G) (hS0 : zSK G s0) (hF0 : zS0 G s0) (ha : gT G a = 12) (hm : gT G m = 13) (ho : gT G o = 120) (hs : ZS X E b 6 ys) (hy : ∀ j, -2147483648 ≤ ys j ∧ ys j ≤ 2147483647) : JJ X E 8 G s0 410 339631 [(4, .int (zI 0)), (3, .ref o), (2, .ref m), (1, .ref a), (0, .ref b)] 2066 [] := by
  have hx := hL.1
  have hst := hx.2.2.2.2.2.2.2.2.2.2.2
  have hy0 := hy 0
  have hy1 := hy 1
  have hy2 := hy 2
  have hy3 := hy 3
  have hy4 := hy 4
  have hy5 := hy 5
  refine j_aload_n hx 3 dL_law__2066 rfl ?_
  refine j_aload_n hx 4 dL_law__2067 rfl ?_
  refine j_iload hx 0 dL_law__2068 rfl ?_
  refine j_iconst hx dL_law__2070 ?_
  refine j_iadd hx (r := 1) dL_law__2071 (by omega) ?_
  refine j_sld hx hs (j := 1) rfl (by decide) (by decide) dL_law__2072 ?_
  refine j_aload_n hx 4 dL_law__2073 rfl ?_
  refine j_iload hx 0 dL_law__2074 rfl ?_
  refine j_iconst hx dL_law__2076 ?_
  refine j_iadd hx (r := 2) dL_law__2077 (by omega) ?_
  refine j_sld hx hs (j := 2) rfl (by decide) (by decide) dL_law__2078 ?_
  refine j_aload_n hx 4 dL_law__2079 rfl ?_
  refine j_iload hx 0 dL_law__2080 rfl ?_
  refine j_iconst hx dL_law__2082 ?_
  refine j_iadd hx (r := 3) dL_law__2083 (by omega) ?_
  refine j_sld hx hs (j := 3) rfl (by decide) (by decide) dL_law__2084 ?_
  refine j_aload_n hx 1 dL_law__2085 rfl ?_
  refine j_callSH hx (c_L_lot hst a ((ys 1)) ((ys 2)) ((ys 3)) o) lk_RL_223 [.ref a, .int (zI ((ys 1))), .int (zI ((ys 2))), .int (zI ((ys 3))), .ref o] ⟨rfl, hG, hS0, hF0, ha, (by omega), (by omega), (by omega), ho⟩ rfl rfl ⟨by decide, by decide⟩ ⟨by decide, by decide⟩ (k2 := 412) (n2 := 339643) rfl rfl (Nat.le_of_ble_eq_true rfl) dL_law__2086 (kIM (fun v1 s1 hS_s1 hF_s1 q2 => ?_))
  refine j_istore hx [(5, .int (zI v1)), (4, .int (zI 0)), (3, .ref o), (2, .ref m), (1, .ref a), (0, .ref b)] dL_law__2089 (by decide) rfl ?_
  refine j_aload_n hx 3 dL_law__2091 rfl ?_
  refine j_aload_n hx 5 dL_law__2092 rfl ?_
  refine j_iload hx 1 dL_law__2093 rfl ?_
  refine j_iconst hx dL_law__2095 ?_
  refine j_iadd hx (r := 1) dL_law__2096 (by omega) ?_
  refine j_sld hx hs (j := 1) rfl (by decide) (by decide) dL_law__2097 ?_
  refine j_aload_n hx 5 dL_law__2098 rfl ?_
  refine j_iload hx 1 dL_law__2099 rfl ?_
  refine j_iconst hx dL_law__2101 ?_
  refine j_iadd hx (r := 2) dL_law__2102 (by omega) ?_
  refine j_sld hx hs (j := 2) rfl (by decide) (by decide) dL_law__2103 ?_
  refine j_aload_n hx 5 dL_law__2104 rfl ?_
  refine j_iload hx 1 dL_law__2105 rfl ?_
  refine j_iconst hx dL_law__2107 ?_
  refine j_iadd hx (r := 3) dL_law__2108 (by omega) ?_
  refine j_sld hx hs (j := 3) rfl (by decide) (by decide) dL_law__2109 ?_
  refine j_callV hx hG (c_X12_lot hst m ((ys 1)) ((ys 2)) ((ys 3))) lk_RL_225 hm (by decide) rfl rfl rfl rfl [.int (zI ((ys 1))), .int (zI ((ys 2))), .int (zI ((ys 3)))] ⟨rfl, hG, hS_s1, hm, (by omega), (by omega), (by omega), (zS0m_fr (ts := [1, 3, 4, 7, 12, 44, 49, 50, 54, 120]) (zS0m_of hF0) (zFr_t zFr_rf hF_s1 (by decide)) (by decide))⟩ rfl rfl ⟨by decide, by decide⟩ ⟨by decide, by decide⟩ (k2 := 412) (n2 := 339643) rfl rfl (Nat.le_of_ble_eq_true rfl) dL_law__2110 (kIM (fun v3 s2 hS_s2 hF_s2 q4 => ?_))
  refine j_istore hx [(6, .int (zI v3)), (5, .int (zI v1)), (4, .int (zI 0)), (3, .ref o), (2, .ref m), (1, .ref a), (0, .ref b)] dL_law__2113 (by decide) rfl ?_
  refine j_aload_n hx 4 dL_law__2115 rfl ?_
  refine j_callV hx hG (c_X12_thrown hst m) lk_RL_118 hm (by decide) rfl rfl rfl rfl [] ⟨rfl, hG, hS_s2, hm⟩ rfl rfl ⟨by decide, by decide⟩ ⟨by decide, by decide⟩ (k2 := 412) (n2 := 339643) rfl rfl (Nat.le_of_ble_eq_true rfl) dL_law__2116 (kIP (fun v5 q6 => ?_))
  refine j_iload hx 1 dL_law__2119 rfl ?_
  refine j_icmp_eq hx 2126 dL_law__2121 rfl (by omega) (by omega) (fun h7 => ?_) (fun h7 => ?_)
  · skip
    refine j_iload hx 1 dL_law__2126 rfl ?_
    refine j_if_ne hx 2143 dL_law__2128 rfl (by omega) (fun h8 => ?_) (fun h8 => ?_)
    · skip
      refine j_goto hx 2475 dL_law__2143 rfl ?_
      exact j_sub [2, 6] [(4, .int (zI 0)), (0, .ref b)] rfl (w_tail hL hs (by decide) (by decide))
    · skip
      refine j_aload_n hx 3 dL_law__2131 rfl ?_
      refine j_iconst hx dL_law__2132 ?_
      have f9 := zaI (j := 0) hS_s1 ho rfl (zlen hG ho (n := 1) rfl rfl) (show 0 ≤ 0 by omega) (by omega) rfl
      refine j_lald hx hG ho (by decide) rfl (zlen hG ho (n := 1) rfl rfl) (by omega) (by omega) (j := 0) rfl (v := (s1 o 0)) (by rw [(zFr_g hF_s2 ho (by decide))]) dL_law__2133 ?_
      refine j_iload hx 0 dL_law__2134 rfl ?_
      refine j_i2l hx dL_law__2136 (by omega) ?_
      refine j_lcmp hx dL_law__2137 (by omega) (by omega) (fun v10 f11 f12 f13 => ?_)
      have f14 : -1 ≤ v10 ∧ v10 ≤ 1 := by omega
      refine j_if_eq hx 2143 dL_law__2138 rfl (by omega) (fun h15 => ?_) (fun h15 => ?_)
      · skip
        refine j_goto hx 2475 dL_law__2143 rfl ?_
        exact j_sub [2, 6] [(4, .int (zI 0)), (0, .ref b)] rfl (w_tail hL hs (by decide) (by decide))
      · skip
        exfalso
        omega
  · skip
    exfalso
    omega

theorem lk_RL_226 : LkSH RL 226 yL_film cL_film 8 (some .int) [(0, 16, 19, 13)] 7 := ⟨km_RL_226, kst_yL_film, kn_RL, kc_yL_film, by decide +kernel, by decide +kernel, by decide +kernel⟩
theorem lk_RL_229 : LkV RL 229 RX12 yX12_film cX12_film 10 (some .int) 5 := ⟨km_RL_229, ki_yX12_film, ks_RX12_yX12_film, kn_RX12, kc_yX12_film, rfl, by decide +kernel, by decide +kernel, by decide +kernel⟩
set_option maxHeartbeats 4000000 in
set_option maxRecDepth 20000 in
theorem w_33 {X : zX} {E : zE} {G : zG} {s0 : zS} {b a m o : Nat} {ys : Nat → Int} (hL : LX X E b) (hG : zGK G) (hS0 : zSK G s0) (hF0 : zS0 G s0) (ha : gT G a = 12) (hm : gT G m = 13) (ho : gT G o = 120) (hs : ZS X E b 6 ys) (hy : ∀ j, -2147483648 ≤ ys j ∧ ys j ≤ 2147483647) : JJ X E 8 G s0 410 339631 [(4, .int (zI 0)), (3, .ref o), (2, .ref m), (1, .ref a), (0, .ref b)] 2146 [] := by
  have hx := hL.1
  have hst := hx.2.2.2.2.2.2.2.2.2.2.2
  have hy0 := hy 0
  have hy1 := hy 1
  have hy2 := hy 2
  have hy3 := hy 3
  have hy4 := hy 4
  have hy5 := hy 5
  refine j_aload_n hx 3 dL_law__2146 rfl ?_
  refine j_aload_n hx 4 dL_law__2147 rfl ?_
  refine j_iload hx 0 dL_law__2148 rfl ?_
  refine j_iconst hx dL_law__2150 ?_
  refine j_iadd hx (r := 1) dL_law__2151 (by omega) ?_
  refine j_sld hx hs (j := 1) rfl (by decide) (by decide) dL_law__2152 ?_
  refine j_aload_n hx 4 dL_law__2153 rfl ?_
  refine j_iload hx 0 dL_law__2154 rfl ?_
  refine j_iconst hx dL_law__2156 ?_
  refine j_iadd hx (r := 2) dL_law__2157 (by omega) ?_
  refine j_sld hx hs (j := 2) rfl (by decide) (by decide) dL_law__2158 ?_
  refine j_aload_n hx 4 dL_law__2159 rfl ?_
  refine j_iload hx 0 dL_law__2160 rfl ?_
  refine j_iconst hx dL_law__2162 ?_
  refine j_iadd hx (r := 3) dL_law__2163 (by omega) ?_
  refine j_sld hx hs (j := 3) rfl (by decide) (by decide) dL_law__2164 ?_
  refine j_aload_n hx 4 dL_law__2165 rfl ?_
  refine j_iload hx 0 dL_law__2166 rfl ?_
  refine j_iconst hx dL_law__2168 ?_
  refine j_iadd hx (r := 4) dL_law__2169 (by omega) ?_
  refine j_sld hx hs (j := 4) rfl (by decide) (by decide) dL_law__2170 ?_
  refine j_aload_n hx 4 dL_law__2171 rfl ?_
  refine j_iload hx 0 dL_law__2172 rfl ?_
  refine j_iconst hx dL_law__2174 ?_
  refine j_iadd hx (r := 5) dL_law__2175 (by omega) ?_
  refine j_sld hx hs (j := 5) rfl (by decide) (by decide) dL_law__2176 ?_
  refine j_aload_n hx 1 dL_law__2177 rfl ?_
  refine j_callSH hx (c_L_film hst a ((ys 1)) ((ys 2)) ((ys 3)) ((ys 4)) ((ys 5)) o) lk_RL_226 [.ref a, .int (zI ((ys 1))), .int (zI ((ys 2))), .int (zI ((ys 3))), .int (zI ((ys 4))), .int (zI ((ys 5))), .ref o] ⟨rfl, hG, hS0, hF0, ha, (by omega), (by omega), (by omega), (by omega), (by omega), ho⟩ rfl rfl ⟨by decide, by decide⟩ ⟨by decide, by decide⟩ (k2 := 415) (n2 := 339661) rfl rfl (Nat.le_of_ble_eq_true rfl) dL_law__2178 (kIM (fun v1 s1 hS_s1 hF_s1 q2 => ?_))
  refine j_istore hx [(5, .int (zI v1)), (4, .int (zI 0)), (3, .ref o), (2, .ref m), (1, .ref a), (0, .ref b)] dL_law__2181 (by decide) rfl ?_
  refine j_aload_n hx 3 dL_law__2183 rfl ?_
  refine j_aload_n hx 5 dL_law__2184 rfl ?_
  refine j_iload hx 1 dL_law__2185 rfl ?_
  refine j_iconst hx dL_law__2187 ?_
  refine j_iadd hx (r := 1) dL_law__2188 (by omega) ?_
  refine j_sld hx hs (j := 1) rfl (by decide) (by decide) dL_law__2189 ?_
  refine j_aload_n hx 5 dL_law__2190 rfl ?_
  refine j_iload hx 1 dL_law__2191 rfl ?_
  refine j_iconst hx dL_law__2193 ?_
  refine j_iadd hx (r := 2) dL_law__2194 (by omega) ?_
  refine j_sld hx hs (j := 2) rfl (by decide) (by decide) dL_law__2195 ?_
  refine j_aload_n hx 5 dL_law__2196 rfl ?_
  refine j_iload hx 1 dL_law__2197 rfl ?_
  refine j_iconst hx dL_law__2199 ?_
  refine j_iadd hx (r := 3) dL_law__2200 (by omega) ?_
  refine j_sld hx hs (j := 3) rfl (by decide) (by decide) dL_law__2201 ?_
  refine j_aload_n hx 5 dL_law__2202 rfl ?_
  refine j_iload hx 1 dL_law__2203 rfl ?_
  refine j_iconst hx dL_law__2205 ?_
  refine j_iadd hx (r := 4) dL_law__2206 (by omega) ?_
  refine j_sld hx hs (j := 4) rfl (by decide) (by decide) dL_law__2207 ?_
  refine j_aload_n hx 5 dL_law__2208 rfl ?_
  refine j_iload hx 1 dL_law__2209 rfl ?_
  refine j_iconst hx dL_law__2211 ?_
  refine j_iadd hx (r := 5) dL_law__2212 (by omega) ?_
  refine j_sld hx hs (j := 5) rfl (by decide) (by decide) dL_law__2213 ?_
  refine j_callV hx hG (c_X12_film hst m ((ys 1)) ((ys 2)) ((ys 3)) ((ys 4)) ((ys 5))) lk_RL_229 hm (by decide) rfl rfl rfl rfl [.int (zI ((ys 1))), .int (zI ((ys 2))), .int (zI ((ys 3))), .int (zI ((ys 4))), .int (zI ((ys 5)))] ⟨rfl, hG, hS_s1, hm, (by omega), (by omega), (by omega), (by omega), (by omega), (zS0m_fr (ts := [12, 120]) (zS0m_of hF0) (zFr_t zFr_rf hF_s1 (by decide)) (by decide))⟩ rfl rfl ⟨by decide, by decide⟩ ⟨by decide, by decide⟩ (k2 := 415) (n2 := 339661) rfl rfl (Nat.le_of_ble_eq_true rfl) dL_law__2214 (kIM (fun v3 s2 hS_s2 hF_s2 q4 => ?_))
  refine j_istore hx [(6, .int (zI v3)), (5, .int (zI v1)), (4, .int (zI 0)), (3, .ref o), (2, .ref m), (1, .ref a), (0, .ref b)] dL_law__2217 (by decide) rfl ?_
  refine j_aload_n hx 4 dL_law__2219 rfl ?_
  refine j_callV hx hG (c_X12_thrown hst m) lk_RL_118 hm (by decide) rfl rfl rfl rfl [] ⟨rfl, hG, hS_s2, hm⟩ rfl rfl ⟨by decide, by decide⟩ ⟨by decide, by decide⟩ (k2 := 415) (n2 := 339661) rfl rfl (Nat.le_of_ble_eq_true rfl) dL_law__2220 (kIP (fun v5 q6 => ?_))
  refine j_iload hx 1 dL_law__2223 rfl ?_
  refine j_icmp_eq hx 2230 dL_law__2225 rfl (by omega) (by omega) (fun h7 => ?_) (fun h7 => ?_)
  · skip
    refine j_iload hx 1 dL_law__2230 rfl ?_
    refine j_if_ne hx 2247 dL_law__2232 rfl (by omega) (fun h8 => ?_) (fun h8 => ?_)
    · skip
      refine j_goto hx 2475 dL_law__2247 rfl ?_
      exact j_sub [2, 6] [(4, .int (zI 0)), (0, .ref b)] rfl (w_tail hL hs (by decide) (by decide))
    · skip
      refine j_aload_n hx 3 dL_law__2235 rfl ?_
      refine j_iconst hx dL_law__2236 ?_
      have f9 := zaI (j := 0) hS_s1 ho rfl (zlen hG ho (n := 1) rfl rfl) (show 0 ≤ 0 by omega) (by omega) rfl
      refine j_lald hx hG ho (by decide) rfl (zlen hG ho (n := 1) rfl rfl) (by omega) (by omega) (j := 0) rfl (v := (s1 o 0)) (by rw [(zFr_g hF_s2 ho (by decide))]) dL_law__2237 ?_
      refine j_iload hx 0 dL_law__2238 rfl ?_
      refine j_i2l hx dL_law__2240 (by omega) ?_
      refine j_lcmp hx dL_law__2241 (by omega) (by omega) (fun v10 f11 f12 f13 => ?_)
      have f14 : -1 ≤ v10 ∧ v10 ≤ 1 := by omega
      refine j_if_eq hx 2247 dL_law__2242 rfl (by omega) (fun h15 => ?_) (fun h15 => ?_)
      · skip
        refine j_goto hx 2475 dL_law__2247 rfl ?_
        exact j_sub [2, 6] [(4, .int (zI 0)), (0, .ref b)] rfl (w_tail hL hs (by decide) (by decide))
      · skip
        exfalso
        omega
  · skip
    exfalso
    omega

theorem lk_RL_230 : LkSH RL 230 yL_laws cL_laws 5 (some .int) [(0, 10, 13, 13)] 4 := ⟨km_RL_230, kst_yL_laws, kn_RL, kc_yL_laws, by decide +kernel, by decide +kernel, by decide +kernel⟩
theorem lk_RL_232 : LkV RL 232 RX12 yX12_laws cX12_laws 3 (some .int) 2 := ⟨km_RL_232, ki_yX12_laws, ks_RX12_yX12_laws, kn_RX12, kc_yX12_laws, rfl, by decide +kernel, by decide +kernel, by decide +kernel⟩
set_option maxHeartbeats 4000000 in
set_option maxRecDepth 20000 in
theorem w_34 {X : zX} {E : zE} {G : zG} {s0 : zS} {b a m o : Nat} {ys : Nat → Int} (hL : LX X E b) (hG : zGK G) (hS0 : zSK G s0) (hF0 : zS0 G s0) (ha : gT G a = 12) (hm : gT G m = 13) (ho : gT G o = 120) (hs : ZS X E b 6 ys) (hy : ∀ j, -2147483648 ≤ ys j ∧ ys j ≤ 2147483647) : JJ X E 8 G s0 410 339631 [(4, .int (zI 0)), (3, .ref o), (2, .ref m), (1, .ref a), (0, .ref b)] 2250 [] := by
  have hx := hL.1
  have hst := hx.2.2.2.2.2.2.2.2.2.2.2
  have hy0 := hy 0
  have hy1 := hy 1
  have hy2 := hy 2
  have hy3 := hy 3
  have hy4 := hy 4
  have hy5 := hy 5
  refine j_aload_n hx 3 dL_law__2250 rfl ?_
  refine j_aload_n hx 4 dL_law__2251 rfl ?_
  refine j_iload hx 0 dL_law__2252 rfl ?_
  refine j_iconst hx dL_law__2254 ?_
  refine j_iadd hx (r := 1) dL_law__2255 (by omega) ?_
  refine j_sld hx hs (j := 1) rfl (by decide) (by decide) dL_law__2256 ?_
  refine j_aload_n hx 4 dL_law__2257 rfl ?_
  refine j_iload hx 0 dL_law__2258 rfl ?_
  refine j_iconst hx dL_law__2260 ?_
  refine j_iadd hx (r := 2) dL_law__2261 (by omega) ?_
  refine j_sld hx hs (j := 2) rfl (by decide) (by decide) dL_law__2262 ?_
  refine j_aload_n hx 1 dL_law__2263 rfl ?_
  refine j_callSH hx (c_L_laws hst a ((ys 1)) ((ys 2)) o) lk_RL_230 [.ref a, .int (zI ((ys 1))), .int (zI ((ys 2))), .ref o] ⟨rfl, hG, hS0, hF0, ha, (by omega), (by omega), ho⟩ rfl rfl ⟨by decide, by decide⟩ ⟨by decide, by decide⟩ (k2 := 412) (n2 := 339643) rfl rfl (Nat.le_of_ble_eq_true rfl) dL_law__2264 (kIM (fun v1 s1 hS_s1 hF_s1 q2 => ?_))
  refine j_istore hx [(5, .int (zI v1)), (4, .int (zI 0)), (3, .ref o), (2, .ref m), (1, .ref a), (0, .ref b)] dL_law__2267 (by decide) rfl ?_
  refine j_aload_n hx 3 dL_law__2269 rfl ?_
  refine j_aload_n hx 5 dL_law__2270 rfl ?_
  refine j_iload hx 1 dL_law__2271 rfl ?_
  refine j_iconst hx dL_law__2273 ?_
  refine j_iadd hx (r := 1) dL_law__2274 (by omega) ?_
  refine j_sld hx hs (j := 1) rfl (by decide) (by decide) dL_law__2275 ?_
  refine j_aload_n hx 5 dL_law__2276 rfl ?_
  refine j_iload hx 1 dL_law__2277 rfl ?_
  refine j_iconst hx dL_law__2279 ?_
  refine j_iadd hx (r := 2) dL_law__2280 (by omega) ?_
  refine j_sld hx hs (j := 2) rfl (by decide) (by decide) dL_law__2281 ?_
  refine j_callV hx hG (c_X12_laws hst m ((ys 1)) ((ys 2))) lk_RL_232 hm (by decide) rfl rfl rfl rfl [.int (zI ((ys 1))), .int (zI ((ys 2)))] ⟨rfl, hG, hS_s1, hm, (by omega), (by omega), (zS0m_fr (ts := [1, 3, 4, 7, 12, 44, 49, 50, 54, 120]) (zS0m_of hF0) (zFr_t zFr_rf hF_s1 (by decide)) (by decide))⟩ rfl rfl ⟨by decide, by decide⟩ ⟨by decide, by decide⟩ (k2 := 412) (n2 := 339643) rfl rfl (Nat.le_of_ble_eq_true rfl) dL_law__2282 (kIM (fun v3 s2 hS_s2 hF_s2 q4 => ?_))
  refine j_istore hx [(6, .int (zI v3)), (5, .int (zI v1)), (4, .int (zI 0)), (3, .ref o), (2, .ref m), (1, .ref a), (0, .ref b)] dL_law__2285 (by decide) rfl ?_
  refine j_aload_n hx 4 dL_law__2287 rfl ?_
  refine j_callV hx hG (c_X12_thrown hst m) lk_RL_118 hm (by decide) rfl rfl rfl rfl [] ⟨rfl, hG, hS_s2, hm⟩ rfl rfl ⟨by decide, by decide⟩ ⟨by decide, by decide⟩ (k2 := 412) (n2 := 339643) rfl rfl (Nat.le_of_ble_eq_true rfl) dL_law__2288 (kIP (fun v5 q6 => ?_))
  refine j_iload hx 1 dL_law__2291 rfl ?_
  refine j_icmp_eq hx 2298 dL_law__2293 rfl (by omega) (by omega) (fun h7 => ?_) (fun h7 => ?_)
  · skip
    refine j_iload hx 1 dL_law__2298 rfl ?_
    refine j_if_ne hx 2315 dL_law__2300 rfl (by omega) (fun h8 => ?_) (fun h8 => ?_)
    · skip
      refine j_goto hx 2475 dL_law__2315 rfl ?_
      exact j_sub [2, 6] [(4, .int (zI 0)), (0, .ref b)] rfl (w_tail hL hs (by decide) (by decide))
    · skip
      refine j_aload_n hx 3 dL_law__2303 rfl ?_
      refine j_iconst hx dL_law__2304 ?_
      have f9 := zaI (j := 0) hS_s1 ho rfl (zlen hG ho (n := 1) rfl rfl) (show 0 ≤ 0 by omega) (by omega) rfl
      refine j_lald hx hG ho (by decide) rfl (zlen hG ho (n := 1) rfl rfl) (by omega) (by omega) (j := 0) rfl (v := (s1 o 0)) (by rw [(zFr_g hF_s2 ho (by decide))]) dL_law__2305 ?_
      refine j_iload hx 0 dL_law__2306 rfl ?_
      refine j_i2l hx dL_law__2308 (by omega) ?_
      refine j_lcmp hx dL_law__2309 (by omega) (by omega) (fun v10 f11 f12 f13 => ?_)
      have f14 : -1 ≤ v10 ∧ v10 ≤ 1 := by omega
      refine j_if_eq hx 2315 dL_law__2310 rfl (by omega) (fun h15 => ?_) (fun h15 => ?_)
      · skip
        refine j_goto hx 2475 dL_law__2315 rfl ?_
        exact j_sub [2, 6] [(4, .int (zI 0)), (0, .ref b)] rfl (w_tail hL hs (by decide) (by decide))
      · skip
        exfalso
        omega
  · skip
    exfalso
    omega

theorem lk_RL_233 : LkV RL 233 RX11 yX11_right cX11_right 3 (some .int) 0 := ⟨km_RL_233, ki_yX11_right, ks_RX11_yX11_right, kn_RX11, kc_yX11_right, rfl, by decide +kernel, by decide +kernel, by decide +kernel⟩
theorem lk_RL_236 : LkV RL 236 RX12 yX12_right cX12_right 2 (some .int) 0 := ⟨km_RL_236, ki_yX12_right, ks_RX12_yX12_right, kn_RX12, kc_yX12_right, rfl, by decide +kernel, by decide +kernel, by decide +kernel⟩
set_option maxHeartbeats 4000000 in
set_option maxRecDepth 20000 in
theorem w_35 {X : zX} {E : zE} {G : zG} {s0 : zS} {b a m o : Nat} {ys : Nat → Int} (hL : LX X E b) (hG : zGK G) (hS0 : zSK G s0) (hF0 : zS0 G s0) (ha : gT G a = 12) (hm : gT G m = 13) (ho : gT G o = 120) (hs : ZS X E b 6 ys) (hy : ∀ j, -2147483648 ≤ ys j ∧ ys j ≤ 2147483647) : JJ X E 8 G s0 410 339631 [(4, .int (zI 0)), (3, .ref o), (2, .ref m), (1, .ref a), (0, .ref b)] 2318 [] := by
  have hx := hL.1
  have hst := hx.2.2.2.2.2.2.2.2.2.2.2
  have hy0 := hy 0
  have hy1 := hy 1
  have hy2 := hy 2
  have hy3 := hy 3
  have hy4 := hy 4
  have hy5 := hy 5
  refine j_aload_n hx 3 dL_law__2318 rfl ?_
  refine j_callV hx hG (c_X11_right hst a) lk_RL_233 ha (by decide) rfl rfl rfl rfl [] ⟨rfl, hG, hS0, ha, hF0⟩ rfl rfl ⟨by decide, by decide⟩ ⟨by decide, by decide⟩ (k2 := 410) (n2 := 339631) rfl rfl (Nat.le_of_ble_eq_true rfl) dL_law__2319 (kIP (fun v1 q2 => ?_))
  refine j_aload_n hx 2 dL_law__2322 rfl ?_
  refine j_callV hx hG (c_X12_right hst m) lk_RL_236 hm (by decide) rfl rfl rfl rfl [] ⟨rfl, hG, hS0, hm, (zS0m_of hF0)⟩ rfl rfl ⟨by decide, by decide⟩ ⟨by decide, by decide⟩ (k2 := 410) (n2 := 339631) rfl rfl (Nat.le_of_ble_eq_true rfl) dL_law__2323 (kIM (fun v3 s1 hS_s1 hF_s1 q4 => ?_))
  refine j_icmp_eq hx 2475 dL_law__2326 rfl (by omega) (by omega) (fun h5 => ?_) (fun h5 => absurd h5 (by omega))
  exact j_sub [0, 4] [(4, .int (zI 0)), (0, .ref b)] rfl (w_tail hL hs (by decide) (by decide))

theorem lk_RL_237 : LkSH RL 237 yL_entry cL_entry 5 (some .int) [(0, 10, 13, 13)] 4 := ⟨km_RL_237, kst_yL_entry, kn_RL, kc_yL_entry, by decide +kernel, by decide +kernel, by decide +kernel⟩
theorem lk_RL_239 : LkV RL 239 RX12 yX12_entry cX12_entry 3 (some .int) 2 := ⟨km_RL_239, ki_yX12_entry, ks_RX12_yX12_entry, kn_RX12, kc_yX12_entry, rfl, by decide +kernel, by decide +kernel, by decide +kernel⟩
set_option maxHeartbeats 4000000 in
set_option maxRecDepth 20000 in
theorem w_36 {X : zX} {E : zE} {G : zG} {s0 : zS} {b a m o : Nat} {ys : Nat → Int} (hL : LX X E b) (hG : zGK G) (hS0 : zSK G s0) (hF0 : zS0 G s0) (ha : gT G a = 12) (hm : gT G m = 13) (ho : gT G o = 120) (hs : ZS X E b 6 ys) (hy : ∀ j, -2147483648 ≤ ys j ∧ ys j ≤ 2147483647) : JJ X E 8 G s0 410 339631 [(4, .int (zI 0)), (3, .ref o), (2, .ref m), (1, .ref a), (0, .ref b)] 2331 [] := by
  have hx := hL.1
  have hst := hx.2.2.2.2.2.2.2.2.2.2.2
  have hy0 := hy 0
  have hy1 := hy 1
  have hy2 := hy 2
  have hy3 := hy 3
  have hy4 := hy 4
  have hy5 := hy 5
  refine j_aload_n hx 3 dL_law__2331 rfl ?_
  refine j_aload_n hx 4 dL_law__2332 rfl ?_
  refine j_iload hx 0 dL_law__2333 rfl ?_
  refine j_iconst hx dL_law__2335 ?_
  refine j_iadd hx (r := 1) dL_law__2336 (by omega) ?_
  refine j_sld hx hs (j := 1) rfl (by decide) (by decide) dL_law__2337 ?_
  refine j_aload_n hx 4 dL_law__2338 rfl ?_
  refine j_iload hx 0 dL_law__2339 rfl ?_
  refine j_iconst hx dL_law__2341 ?_
  refine j_iadd hx (r := 2) dL_law__2342 (by omega) ?_
  refine j_sld hx hs (j := 2) rfl (by decide) (by decide) dL_law__2343 ?_
  refine j_aload_n hx 1 dL_law__2344 rfl ?_
  refine j_callSH hx (c_L_entry hst a ((ys 1)) ((ys 2)) o) lk_RL_237 [.ref a, .int (zI ((ys 1))), .int (zI ((ys 2))), .ref o] ⟨rfl, hG, hS0, hF0, ha, (by omega), (by omega), ho⟩ rfl rfl ⟨by decide, by decide⟩ ⟨by decide, by decide⟩ (k2 := 411) (n2 := 339637) rfl rfl (Nat.le_of_ble_eq_true rfl) dL_law__2345 (kIM (fun v1 s1 hS_s1 hF_s1 q2 => ?_))
  refine j_istore hx [(5, .int (zI v1)), (4, .int (zI 0)), (3, .ref o), (2, .ref m), (1, .ref a), (0, .ref b)] dL_law__2348 (by decide) rfl ?_
  refine j_aload_n hx 3 dL_law__2350 rfl ?_
  refine j_aload_n hx 5 dL_law__2351 rfl ?_
  refine j_iload hx 1 dL_law__2352 rfl ?_
  refine j_iconst hx dL_law__2354 ?_
  refine j_iadd hx (r := 1) dL_law__2355 (by omega) ?_
  refine j_sld hx hs (j := 1) rfl (by decide) (by decide) dL_law__2356 ?_
  refine j_aload_n hx 5 dL_law__2357 rfl ?_
  refine j_iload hx 1 dL_law__2358 rfl ?_
  refine j_iconst hx dL_law__2360 ?_
  refine j_iadd hx (r := 2) dL_law__2361 (by omega) ?_
  refine j_sld hx hs (j := 2) rfl (by decide) (by decide) dL_law__2362 ?_
  refine j_callV hx hG (c_X12_entry hst m ((ys 1)) ((ys 2))) lk_RL_239 hm (by decide) rfl rfl rfl rfl [.int (zI ((ys 1))), .int (zI ((ys 2)))] ⟨rfl, hG, hS_s1, hm, (by omega), (by omega), (zS0m_fr (ts := [12, 120]) (zS0m_of hF0) (zFr_t zFr_rf hF_s1 (by decide)) (by decide))⟩ rfl rfl ⟨by decide, by decide⟩ ⟨by decide, by decide⟩ (k2 := 411) (n2 := 339637) rfl rfl (Nat.le_of_ble_eq_true rfl) dL_law__2363 (kIM (fun v3 s2 hS_s2 hF_s2 q4 => ?_))
  refine j_istore hx [(6, .int (zI v3)), (5, .int (zI v1)), (4, .int (zI 0)), (3, .ref o), (2, .ref m), (1, .ref a), (0, .ref b)] dL_law__2366 (by decide) rfl ?_
  refine j_aload_n hx 4 dL_law__2368 rfl ?_
  refine j_callV hx hG (c_X12_thrown hst m) lk_RL_118 hm (by decide) rfl rfl rfl rfl [] ⟨rfl, hG, hS_s2, hm⟩ rfl rfl ⟨by decide, by decide⟩ ⟨by decide, by decide⟩ (k2 := 411) (n2 := 339637) rfl rfl (Nat.le_of_ble_eq_true rfl) dL_law__2369 (kIP (fun v5 q6 => ?_))
  refine j_iload hx 1 dL_law__2372 rfl ?_
  refine j_icmp_eq hx 2379 dL_law__2374 rfl (by omega) (by omega) (fun h7 => ?_) (fun h7 => ?_)
  · skip
    refine j_iload hx 1 dL_law__2379 rfl ?_
    refine j_if_ne hx 2396 dL_law__2381 rfl (by omega) (fun h8 => ?_) (fun h8 => ?_)
    · skip
      refine j_goto hx 2475 dL_law__2396 rfl ?_
      exact j_sub [2, 6] [(4, .int (zI 0)), (0, .ref b)] rfl (w_tail hL hs (by decide) (by decide))
    · skip
      refine j_aload_n hx 3 dL_law__2384 rfl ?_
      refine j_iconst hx dL_law__2385 ?_
      have f9 := zaI (j := 0) hS_s1 ho rfl (zlen hG ho (n := 1) rfl rfl) (show 0 ≤ 0 by omega) (by omega) rfl
      refine j_lald hx hG ho (by decide) rfl (zlen hG ho (n := 1) rfl rfl) (by omega) (by omega) (j := 0) rfl (v := (s1 o 0)) (by rw [(zFr_g hF_s2 ho (by decide))]) dL_law__2386 ?_
      refine j_iload hx 0 dL_law__2387 rfl ?_
      refine j_i2l hx dL_law__2389 (by omega) ?_
      refine j_lcmp hx dL_law__2390 (by omega) (by omega) (fun v10 f11 f12 f13 => ?_)
      have f14 : -1 ≤ v10 ∧ v10 ≤ 1 := by omega
      refine j_if_eq hx 2396 dL_law__2391 rfl (by omega) (fun h15 => ?_) (fun h15 => ?_)
      · skip
        refine j_goto hx 2475 dL_law__2396 rfl ?_
        exact j_sub [2, 6] [(4, .int (zI 0)), (0, .ref b)] rfl (w_tail hL hs (by decide) (by decide))
      · skip
        exfalso
        omega
  · skip
    exfalso
    omega

theorem lk_RL_240 : LkV RL 240 RX11 yX11_image cX11_image 1 (some .int) 0 := ⟨km_RL_240, ki_yX11_image, ks_RX11_yX11_image, kn_RX11, kc_yX11_image, rfl, by decide +kernel, by decide +kernel, by decide +kernel⟩
theorem lk_RL_243 : LkV RL 243 RX12 yX12_image cX12_image 1 (some .int) 0 := ⟨km_RL_243, ki_yX12_image, ks_RX12_yX12_image, kn_RX12, kc_yX12_image, rfl, by decide +kernel, by decide +kernel, by decide +kernel⟩
set_option maxHeartbeats 4000000 in
set_option maxRecDepth 20000 in
theorem w_37 {X : zX} {E : zE} {G : zG} {s0 : zS} {b a m o : Nat} {ys : Nat → Int} (hL : LX X E b) (hG : zGK G) (hS0 : zSK G s0) (hF0 : zS0 G s0) (ha : gT G a = 12) (hm : gT G m = 13) (ho : gT G o = 120) (hs : ZS X E b 6 ys) (hy : ∀ j, -2147483648 ≤ ys j ∧ ys j ≤ 2147483647) : JJ X E 8 G s0 410 339631 [(4, .int (zI 0)), (3, .ref o), (2, .ref m), (1, .ref a), (0, .ref b)] 2399 [] := by
  have hx := hL.1
  have hst := hx.2.2.2.2.2.2.2.2.2.2.2
  have hy0 := hy 0
  have hy1 := hy 1
  have hy2 := hy 2
  have hy3 := hy 3
  have hy4 := hy 4
  have hy5 := hy 5
  refine j_aload_n hx 3 dL_law__2399 rfl ?_
  refine j_callV hx hG (c_X11_image hst a) lk_RL_240 ha (by decide) rfl rfl rfl rfl [] ⟨rfl, hG, hS0, ha, hF0⟩ rfl rfl ⟨by decide, by decide⟩ ⟨by decide, by decide⟩ (k2 := 410) (n2 := 339631) rfl rfl (Nat.le_of_ble_eq_true rfl) dL_law__2400 (kIM (fun v1 s1 hS_s1 hF_s1 q2 => ?_))
  refine j_aload_n hx 2 dL_law__2403 rfl ?_
  refine j_callV hx hG (c_X12_image hst m) lk_RL_243 hm (by decide) rfl rfl rfl rfl [] ⟨rfl, hG, hS_s1, hm, (zS0m_fr (ts := [1, 4, 7, 10, 12, 44, 45, 49, 50, 57]) (zS0m_of hF0) (zFr_t zFr_rf hF_s1 (by decide)) (by decide))⟩ rfl rfl ⟨by decide, by decide⟩ ⟨by decide, by decide⟩ (k2 := 410) (n2 := 339631) rfl rfl (Nat.le_of_ble_eq_true rfl) dL_law__2404 (kIM (fun v3 s2 hS_s2 hF_s2 q4 => ?_))
  refine j_icmp_eq hx 2475 dL_law__2407 rfl (by omega) (by omega) (fun h5 => ?_) (fun h5 => absurd h5 (by omega))
  exact j_sub [0, 4] [(4, .int (zI 0)), (0, .ref b)] rfl (w_tail hL hs (by decide) (by decide))

theorem lk_RL_244 : LkV RL 244 RX11 yX11_restore cX11_restore 1 (some .int) 0 := ⟨km_RL_244, ki_yX11_restore, ks_RX11_yX11_restore, kn_RX11, kc_yX11_restore, rfl, by decide +kernel, by decide +kernel, by decide +kernel⟩
theorem lk_RL_247 : LkV RL 247 RX12 yX12_restore cX12_restore 1 (some .int) 0 := ⟨km_RL_247, ki_yX12_restore, ks_RX12_yX12_restore, kn_RX12, kc_yX12_restore, rfl, by decide +kernel, by decide +kernel, by decide +kernel⟩
set_option maxHeartbeats 4000000 in
set_option maxRecDepth 20000 in
theorem w_38 {X : zX} {E : zE} {G : zG} {s0 : zS} {b a m o : Nat} {ys : Nat → Int} (hL : LX X E b) (hG : zGK G) (hS0 : zSK G s0) (hF0 : zS0 G s0) (ha : gT G a = 12) (hm : gT G m = 13) (ho : gT G o = 120) (hs : ZS X E b 6 ys) (hy : ∀ j, -2147483648 ≤ ys j ∧ ys j ≤ 2147483647) : JJ X E 8 G s0 410 339631 [(4, .int (zI 0)), (3, .ref o), (2, .ref m), (1, .ref a), (0, .ref b)] 2412 [] := by
  have hx := hL.1
  have hst := hx.2.2.2.2.2.2.2.2.2.2.2
  have hy0 := hy 0
  have hy1 := hy 1
  have hy2 := hy 2
  have hy3 := hy 3
  have hy4 := hy 4
  have hy5 := hy 5
  refine j_aload_n hx 3 dL_law__2412 rfl ?_
  refine j_callV hx hG (c_X11_restore hst a) lk_RL_244 ha (by decide) rfl rfl rfl rfl [] ⟨rfl, hG, hS0, ha, hF0⟩ rfl rfl ⟨by decide, by decide⟩ ⟨by decide, by decide⟩ (k2 := 410) (n2 := 339631) rfl rfl (Nat.le_of_ble_eq_true rfl) dL_law__2413 (kIM (fun v1 s1 hS_s1 hF_s1 q2 => ?_))
  refine j_aload_n hx 2 dL_law__2416 rfl ?_
  refine j_callV hx hG (c_X12_restore hst m) lk_RL_247 hm (by decide) rfl rfl rfl rfl [] ⟨rfl, hG, hS_s1, hm, (zS0m_fr (ts := [1, 4, 5, 7, 10, 12, 44, 45, 49, 50, 57]) (zS0m_of hF0) (zFr_t zFr_rf hF_s1 (by decide)) (by decide))⟩ rfl rfl ⟨by decide, by decide⟩ ⟨by decide, by decide⟩ (k2 := 410) (n2 := 339631) rfl rfl (Nat.le_of_ble_eq_true rfl) dL_law__2417 (kIM (fun v3 s2 hS_s2 hF_s2 q4 => ?_))
  refine j_icmp_eq hx 2475 dL_law__2420 rfl (by omega) (by omega) (fun h5 => ?_) (fun h5 => absurd h5 (by omega))
  exact j_sub [0, 4] [(4, .int (zI 0)), (0, .ref b)] rfl (w_tail hL hs (by decide) (by decide))

theorem lk_RL_248 : LkV RL 248 RX11 yX11_status cX11_status 2 (some .int) 1 := ⟨km_RL_248, ki_yX11_status, ks_RX11_yX11_status, kn_RX11, kc_yX11_status, rfl, by decide +kernel, by decide +kernel, by decide +kernel⟩
theorem lk_RL_251 : LkV RL 251 RX12 yX12_status cX12_status 2 (some .int) 1 := ⟨km_RL_251, ki_yX12_status, ks_RX12_yX12_status, kn_RX12, kc_yX12_status, rfl, by decide +kernel, by decide +kernel, by decide +kernel⟩
set_option maxHeartbeats 4000000 in
set_option maxRecDepth 20000 in
theorem w_39 {X : zX} {E : zE} {G : zG} {s0 : zS} {b a m o : Nat} {ys : Nat → Int} (hL : LX X E b) (hG : zGK G) (hS0 : zSK G s0) (hF0 : zS0 G s0) (ha : gT G a = 12) (hm : gT G m = 13) (ho : gT G o = 120) (hs : ZS X E b 6 ys) (hy : ∀ j, -2147483648 ≤ ys j ∧ ys j ≤ 2147483647) : JJ X E 8 G s0 410 339631 [(4, .int (zI 0)), (3, .ref o), (2, .ref m), (1, .ref a), (0, .ref b)] 2425 [] := by
  have hx := hL.1
  have hst := hx.2.2.2.2.2.2.2.2.2.2.2
  have hy0 := hy 0
  have hy1 := hy 1
  have hy2 := hy 2
  have hy3 := hy 3
  have hy4 := hy 4
  have hy5 := hy 5
  refine j_aload_n hx 3 dL_law__2425 rfl ?_
  refine j_aload_n hx 4 dL_law__2426 rfl ?_
  refine j_iload hx 0 dL_law__2427 rfl ?_
  refine j_iconst hx dL_law__2429 ?_
  refine j_iadd hx (r := 1) dL_law__2430 (by omega) ?_
  refine j_sld hx hs (j := 1) rfl (by decide) (by decide) dL_law__2431 ?_
  refine j_callV hx hG (c_X11_status hst a ((ys 1))) lk_RL_248 ha (by decide) rfl rfl rfl rfl [.int (zI ((ys 1)))] ⟨rfl, hG, hS0, ha, (by omega), hF0⟩ rfl rfl ⟨by decide, by decide⟩ ⟨by decide, by decide⟩ (k2 := 410) (n2 := 339631) rfl rfl (Nat.le_of_ble_eq_true rfl) dL_law__2432 (kIP (fun v1 q2 => ?_))
  refine j_aload_n hx 2 dL_law__2435 rfl ?_
  refine j_aload_n hx 4 dL_law__2436 rfl ?_
  refine j_iload hx 0 dL_law__2437 rfl ?_
  refine j_iconst hx dL_law__2439 ?_
  refine j_iadd hx (r := 1) dL_law__2440 (by omega) ?_
  refine j_sld hx hs (j := 1) rfl (by decide) (by decide) dL_law__2441 ?_
  refine j_callV hx hG (c_X12_status hst m ((ys 1))) lk_RL_251 hm (by decide) rfl rfl rfl rfl [.int (zI ((ys 1)))] ⟨rfl, hG, hS0, hm, (by omega), (zS0m_of hF0)⟩ rfl rfl ⟨by decide, by decide⟩ ⟨by decide, by decide⟩ (k2 := 410) (n2 := 339631) rfl rfl (Nat.le_of_ble_eq_true rfl) dL_law__2442 (kIM (fun v3 s1 hS_s1 hF_s1 q4 => ?_))
  refine j_icmp_eq hx 2475 dL_law__2445 rfl (by omega) (by omega) (fun h5 => ?_) (fun h5 => ?_)
  · skip
    exact j_sub [0, 4] [(4, .int (zI 0)), (0, .ref b)] rfl (w_tail hL hs (by decide) (by decide))
  · skip
    exfalso
    omega

theorem lk_RL_252 : LkV RL 252 RX11 yX11_count cX11_count 2 (some .int) 1 := ⟨km_RL_252, ki_yX11_count, ks_RX11_yX11_count, kn_RX11, kc_yX11_count, rfl, by decide +kernel, by decide +kernel, by decide +kernel⟩
theorem lk_RL_255 : LkV RL 255 RX12 yX12_count cX12_count 2 (some .int) 1 := ⟨km_RL_255, ki_yX12_count, ks_RX12_yX12_count, kn_RX12, kc_yX12_count, rfl, by decide +kernel, by decide +kernel, by decide +kernel⟩
set_option maxHeartbeats 4000000 in
set_option maxRecDepth 20000 in
theorem w_40 {X : zX} {E : zE} {G : zG} {s0 : zS} {b a m o : Nat} {ys : Nat → Int} (hL : LX X E b) (hG : zGK G) (hS0 : zSK G s0) (hF0 : zS0 G s0) (ha : gT G a = 12) (hm : gT G m = 13) (ho : gT G o = 120) (hs : ZS X E b 6 ys) (hy : ∀ j, -2147483648 ≤ ys j ∧ ys j ≤ 2147483647) : JJ X E 8 G s0 410 339631 [(4, .int (zI 0)), (3, .ref o), (2, .ref m), (1, .ref a), (0, .ref b)] 2450 [] := by
  have hx := hL.1
  have hst := hx.2.2.2.2.2.2.2.2.2.2.2
  have hy0 := hy 0
  have hy1 := hy 1
  have hy2 := hy 2
  have hy3 := hy 3
  have hy4 := hy 4
  have hy5 := hy 5
  refine j_aload_n hx 3 dL_law__2450 rfl ?_
  refine j_aload_n hx 4 dL_law__2451 rfl ?_
  refine j_iload hx 0 dL_law__2452 rfl ?_
  refine j_iconst hx dL_law__2454 ?_
  refine j_iadd hx (r := 1) dL_law__2455 (by omega) ?_
  refine j_sld hx hs (j := 1) rfl (by decide) (by decide) dL_law__2456 ?_
  refine j_callV hx hG (c_X11_count hst a ((ys 1))) lk_RL_252 ha (by decide) rfl rfl rfl rfl [.int (zI ((ys 1)))] ⟨rfl, hG, hS0, ha, (by omega), hF0⟩ rfl rfl ⟨by decide, by decide⟩ ⟨by decide, by decide⟩ (k2 := 410) (n2 := 339631) rfl rfl (Nat.le_of_ble_eq_true rfl) dL_law__2457 (kIP (fun v1 q2 => ?_))
  refine j_aload_n hx 2 dL_law__2460 rfl ?_
  refine j_aload_n hx 4 dL_law__2461 rfl ?_
  refine j_iload hx 0 dL_law__2462 rfl ?_
  refine j_iconst hx dL_law__2464 ?_
  refine j_iadd hx (r := 1) dL_law__2465 (by omega) ?_
  refine j_sld hx hs (j := 1) rfl (by decide) (by decide) dL_law__2466 ?_
  refine j_callV hx hG (c_X12_count hst m ((ys 1))) lk_RL_255 hm (by decide) rfl rfl rfl rfl [.int (zI ((ys 1)))] ⟨rfl, hG, hS0, hm, (by omega), (zS0m_of hF0)⟩ rfl rfl ⟨by decide, by decide⟩ ⟨by decide, by decide⟩ (k2 := 410) (n2 := 339631) rfl rfl (Nat.le_of_ble_eq_true rfl) dL_law__2467 (kIM (fun v3 s1 hS_s1 hF_s1 q4 => ?_))
  refine j_icmp_eq hx 2475 dL_law__2470 rfl (by omega) (by omega) (fun h5 => ?_) (fun h5 => ?_)
  · skip
    exact j_sub [0, 4] [(4, .int (zI 0)), (0, .ref b)] rfl (w_tail hL hs (by decide) (by decide))
  · skip
    exfalso
    omega

set_option maxHeartbeats 4000000 in
set_option maxRecDepth 20000 in
theorem w_main {X : zX} {E : zE} {G : zG} {s0 : zS} {b a m o L0 : Nat} {ys : Nat → Int} (hL : LX X E b) (hG : zGK G) (hS0 : zSK G s0) (hF0 : zS0 G s0) (ha : gT G a = 12) (hm : gT G m = 13) (ho : gT G o = 120) (h0 : L0 ≤ 6) (hs : ZS X E b L0 ys) (hy : ∀ j, -2147483648 ≤ ys j ∧ ys j ≤ 2147483647) : JJ X E 8 G s0 410 339631 [(4, .int (zI 0)), (3, .ref o), (2, .ref m), (1, .ref a), (0, .ref b)] 23 [] := by
  have hx := hL.1
  by_cases h6 : L0 < 6
  · exact j_sub [0, 4] [(4, .int (zI 0)), (0, .ref b)] rfl (w_exit hL hs h0 (by omega) (by decide) (by decide))
  obtain rfl : L0 = 6 := by omega
  have hy0 := hy 0
  refine j_iload hx 0 dL_law__23 rfl ?_
  refine j_aload_n hx 4 dL_law__25 rfl ?_
  refine j_slen hx hs (m := 6) rfl dL_law__26 ?_
  refine j_bipush hx dL_law__27 rfl ?_
  refine j_isub hx (r := 0) dL_law__29 rfl ?_
  refine j_icmp_gt hx 2481 dL_law__30 rfl (by omega) (by omega) (fun h => absurd h (by omega)) (fun h => ?_)
  refine j_aload_n hx 4 dL_law__33 rfl ?_
  refine j_iload hx 0 dL_law__34 rfl ?_
  refine j_sld hx hs (j := 0) rfl (by decide) (by decide) dL_law__36 ?_
  refine j_bipush hx dL_law__37 rfl ?_
  refine j_iand hx dL_law__39 (by omega) ⟨by decide, by decide⟩ (fun v1 f2 f3 f4 f5 _ => ?_)
  have h7 : (v1 = 0) ∨ (v1 = 1) ∨ (v1 = 2) ∨ (v1 = 3) ∨ (v1 = 4) ∨ (v1 = 5) ∨ (v1 = 6) ∨ (v1 = 7) ∨ (v1 = 8) ∨ (v1 = 9) ∨ (v1 = 10) ∨ (v1 = 11) ∨ (v1 = 12) ∨ (v1 = 13) ∨ (v1 = 14) ∨ (v1 = 15) ∨ (v1 = 16) ∨ (v1 = 17) ∨ (v1 = 18) ∨ (v1 = 19) ∨ (v1 = 20) ∨ (v1 = 21) ∨ (v1 = 22) ∨ (v1 = 23) ∨ (v1 = 24) ∨ (v1 = 25) ∨ (v1 = 26) ∨ (v1 = 27) ∨ (v1 = 28) ∨ (v1 = 29) ∨ (v1 = 30) ∨ (v1 = 31) ∨ (v1 = 32) ∨ (v1 = 33) ∨ (v1 = 34) ∨ (v1 = 35) ∨ (v1 = 36) ∨ (v1 = 37) ∨ (v1 = 38) ∨ (v1 = 39) ∨ (v1 = 40) ∨ (v1 < 0 ∨ 40 < v1) := by omega
  rcases h7 with h7 | h7 | h7 | h7 | h7 | h7 | h7 | h7 | h7 | h7 | h7 | h7 | h7 | h7 | h7 | h7 | h7 | h7 | h7 | h7 | h7 | h7 | h7 | h7 | h7 | h7 | h7 | h7 | h7 | h7 | h7 | h7 | h7 | h7 | h7 | h7 | h7 | h7 | h7 | h7 | h7 | h7
  · skip
    refine j_switchIn hx 220 dL_law__40 (by omega) (by omega) (by omega) (by rw [h7]; rfl) rfl ?_
    exact w_0 hL hG hS0 hF0 ha hm ho hs hy
  · skip
    refine j_switchIn hx 293 dL_law__40 (by omega) (by omega) (by omega) (by rw [h7]; rfl) rfl ?_
    exact w_1 hL hG hS0 hF0 ha hm ho hs hy
  · skip
    refine j_switchIn hx 349 dL_law__40 (by omega) (by omega) (by omega) (by rw [h7]; rfl) rfl ?_
    exact w_2 hL hG hS0 hF0 ha hm ho hs hy
  · skip
    refine j_switchIn hx 417 dL_law__40 (by omega) (by omega) (by omega) (by rw [h7]; rfl) rfl ?_
    exact w_3 hL hG hS0 hF0 ha hm ho hs hy
  · skip
    refine j_switchIn hx 485 dL_law__40 (by omega) (by omega) (by omega) (by rw [h7]; rfl) rfl ?_
    exact w_4 hL hG hS0 hF0 ha hm ho hs hy
  · skip
    refine j_switchIn hx 541 dL_law__40 (by omega) (by omega) (by omega) (by rw [h7]; rfl) rfl ?_
    exact w_5 hL hG hS0 hF0 ha hm ho hs hy
  · skip
    refine j_switchIn hx 554 dL_law__40 (by omega) (by omega) (by omega) (by rw [h7]; rfl) rfl ?_
    exact w_6 hL hG hS0 hF0 ha hm ho hs hy
  · skip
    refine j_switchIn hx 610 dL_law__40 (by omega) (by omega) (by omega) (by rw [h7]; rfl) rfl ?_
    exact w_7 hL hG hS0 hF0 ha hm ho hs hy
  · skip
    refine j_switchIn hx 678 dL_law__40 (by omega) (by omega) (by omega) (by rw [h7]; rfl) rfl ?_
    exact w_8 hL hG hS0 hF0 ha hm ho hs hy
  · skip
    refine j_switchIn hx 746 dL_law__40 (by omega) (by omega) (by omega) (by rw [h7]; rfl) rfl ?_
    exact w_9 hL hG hS0 hF0 ha hm ho hs hy
  · skip
    refine j_switchIn hx 814 dL_law__40 (by omega) (by omega) (by omega) (by rw [h7]; rfl) rfl ?_
    exact w_10 hL hG hS0 hF0 ha hm ho hs hy
  · skip
    refine j_switchIn hx 839 dL_law__40 (by omega) (by omega) (by omega) (by rw [h7]; rfl) rfl ?_
    exact w_11 hL hG hS0 hF0 ha hm ho hs hy
  · skip
    refine j_switchIn hx 907 dL_law__40 (by omega) (by omega) (by omega) (by rw [h7]; rfl) rfl ?_
    exact w_12 hL hG hS0 hF0 ha hm ho hs hy
  · skip
    refine j_switchIn hx 920 dL_law__40 (by omega) (by omega) (by omega) (by rw [h7]; rfl) rfl ?_
    exact w_13 hL hG hS0 hF0 ha hm ho hs hy
  · skip
    refine j_switchIn hx 995 dL_law__40 (by omega) (by omega) (by omega) (by rw [h7]; rfl) rfl ?_
    exact w_14 hL hG hS0 hF0 ha hm ho hs hy
  · skip
    refine j_switchIn hx 1063 dL_law__40 (by omega) (by omega) (by omega) (by rw [h7]; rfl) rfl ?_
    exact w_15 hL hG hS0 hF0 ha hm ho hs hy
  · skip
    refine j_switchIn hx 1086 dL_law__40 (by omega) (by omega) (by omega) (by rw [h7]; rfl) rfl ?_
    exact w_16 hL hG hS0 hF0 ha hm ho hs hy
  · skip
    refine j_switchIn hx 1099 dL_law__40 (by omega) (by omega) (by omega) (by rw [h7]; rfl) rfl ?_
    exact w_17 hL hG hS0 hF0 ha hm ho hs hy
  · skip
    refine j_switchIn hx 1155 dL_law__40 (by omega) (by omega) (by omega) (by rw [h7]; rfl) rfl ?_
    exact w_18 hL hG hS0 hF0 ha hm ho hs hy
  · skip
    refine j_switchIn hx 1211 dL_law__40 (by omega) (by omega) (by omega) (by rw [h7]; rfl) rfl ?_
    exact w_19 hL hG hS0 hF0 ha hm ho hs hy
  · skip
    refine j_switchIn hx 1267 dL_law__40 (by omega) (by omega) (by omega) (by rw [h7]; rfl) rfl ?_
    exact w_20 hL hG hS0 hF0 ha hm ho hs hy
  · skip
    refine j_switchIn hx 1335 dL_law__40 (by omega) (by omega) (by omega) (by rw [h7]; rfl) rfl ?_
    exact w_21 hL hG hS0 hF0 ha hm ho hs hy
  · skip
    refine j_switchIn hx 1391 dL_law__40 (by omega) (by omega) (by omega) (by rw [h7]; rfl) rfl ?_
    exact w_22 hL hG hS0 hF0 ha hm ho hs hy
  · skip
    refine j_switchIn hx 1447 dL_law__40 (by omega) (by omega) (by omega) (by rw [h7]; rfl) rfl ?_
    exact w_23 hL hG hS0 hF0 ha hm ho hs hy
  · skip
    refine j_switchIn hx 1472 dL_law__40 (by omega) (by omega) (by omega) (by rw [h7]; rfl) rfl ?_
    exact w_24 hL hG hS0 hF0 ha hm ho hs hy
  · skip
    refine j_switchIn hx 1552 dL_law__40 (by omega) (by omega) (by omega) (by rw [h7]; rfl) rfl ?_
    exact w_25 hL hG hS0 hF0 ha hm ho hs hy
  · skip
    refine j_switchIn hx 1644 dL_law__40 (by omega) (by omega) (by omega) (by rw [h7]; rfl) rfl ?_
    exact w_26 hL hG hS0 hF0 ha hm ho hs hy
  · skip
    refine j_switchIn hx 1736 dL_law__40 (by omega) (by omega) (by omega) (by rw [h7]; rfl) rfl ?_
    exact w_27 hL hG hS0 hF0 ha hm ho hs hy
  · skip
    refine j_switchIn hx 1816 dL_law__40 (by omega) (by omega) (by omega) (by rw [h7]; rfl) rfl ?_
    exact w_28 hL hG hS0 hF0 ha hm ho hs hy
  · skip
    refine j_switchIn hx 1884 dL_law__40 (by omega) (by omega) (by omega) (by rw [h7]; rfl) rfl ?_
    exact w_29 hL hG hS0 hF0 ha hm ho hs hy
  · skip
    refine j_switchIn hx 1964 dL_law__40 (by omega) (by omega) (by omega) (by rw [h7]; rfl) rfl ?_
    exact w_30 hL hG hS0 hF0 ha hm ho hs hy
  · skip
    refine j_switchIn hx 2043 dL_law__40 (by omega) (by omega) (by omega) (by rw [h7]; rfl) rfl ?_
    exact w_31 hL hG hS0 hF0 ha hm ho hs hy
  · skip
    refine j_switchIn hx 2066 dL_law__40 (by omega) (by omega) (by omega) (by rw [h7]; rfl) rfl ?_
    exact w_32 hL hG hS0 hF0 ha hm ho hs hy
  · skip
    refine j_switchIn hx 2146 dL_law__40 (by omega) (by omega) (by omega) (by rw [h7]; rfl) rfl ?_
    exact w_33 hL hG hS0 hF0 ha hm ho hs hy
  · skip
    refine j_switchIn hx 2250 dL_law__40 (by omega) (by omega) (by omega) (by rw [h7]; rfl) rfl ?_
    exact w_34 hL hG hS0 hF0 ha hm ho hs hy
  · skip
    refine j_switchIn hx 2318 dL_law__40 (by omega) (by omega) (by omega) (by rw [h7]; rfl) rfl ?_
    exact w_35 hL hG hS0 hF0 ha hm ho hs hy
  · skip
    refine j_switchIn hx 2331 dL_law__40 (by omega) (by omega) (by omega) (by rw [h7]; rfl) rfl ?_
    exact w_36 hL hG hS0 hF0 ha hm ho hs hy
  · skip
    refine j_switchIn hx 2399 dL_law__40 (by omega) (by omega) (by omega) (by rw [h7]; rfl) rfl ?_
    exact w_37 hL hG hS0 hF0 ha hm ho hs hy
  · skip
    refine j_switchIn hx 2412 dL_law__40 (by omega) (by omega) (by omega) (by rw [h7]; rfl) rfl ?_
    exact w_38 hL hG hS0 hF0 ha hm ho hs hy
  · skip
    refine j_switchIn hx 2425 dL_law__40 (by omega) (by omega) (by omega) (by rw [h7]; rfl) rfl ?_
    exact w_39 hL hG hS0 hF0 ha hm ho hs hy
  · skip
    refine j_switchIn hx 2450 dL_law__40 (by omega) (by omega) (by omega) (by rw [h7]; rfl) rfl ?_
    exact w_40 hL hG hS0 hF0 ha hm ho hs hy
  · skip
    refine j_switchOut hx 2475 dL_law__40 (by omega) (by omega) rfl ?_
    exact j_sub [0, 4] [(4, .int (zI 0)), (0, .ref b)] rfl (w_tail hL hs (by decide) (by decide))

