set_option maxHeartbeats 4000000 in
set_option maxRecDepth 20000 in
theorem c_X11_row {E : zE} {l : Launch} (hst : l.stackTraces = false) (a : Nat) (x1 : Int) (x2 : Int) : ConX E l yX11_row cX11_row 3 (some .int) { frames := 7, cells := 1, slots := 6, locals := 111 } (fun G s vs => vs = [.ref a, .int (zI x1), .int (zI x2)] ∧ zGK G ∧ zSK G s ∧ (gT G a = 12) ∧ ((-2147483648) ≤ x1 ∧ x1 ≤ 2147483647) ∧ ((-2147483648) ≤ x2 ∧ x2 ≤ 2147483647) ∧ (zS0 G s)) (fun G s _ => fun _ _ _ => False) (fun G s _ Ex G2 s2 => G2 = G ∧ zSK G s2 ∧ zFr [12] G s s2 ∧ ((Ex = "java/util/NoSuchElementException" ∧ (True)))) := by
  refine ConX.mk hst (by decide) (fun G s vs h => by rw [h.1]; exact Nat.le_of_ble_eq_true rfl) ?_
  rintro X G s0 vs ⟨rfl, hG, hS0, ha, hx1, hx2, hF0⟩ rfl hx hq
  show JJ X E 3 G s0 0 0 [(0, .ref a), (1, .int (zI x1)), (2, .int (zI x2))] 0 []
  refine j_aload_n hx 0 dX11_row_0 rfl ?_
  refine j_iload_n hx 1 dX11_row_1 rfl ?_
  refine j_callVX hx hq hG (c_X11_needPlayer hst a x1) lk_RX11_134 ha (by decide) rfl rfl rfl rfl [.int (zI x1)] ⟨rfl, hG, hS0, ha, (by omega), hF0⟩ rfl rfl ⟨by decide, by decide⟩ ⟨by decide, by decide⟩ (k2 := 1) (n2 := 6) rfl rfl (Nat.le_of_ble_eq_true rfl) ⟨by decide, by decide⟩ dX11_row_2 (by rintro Ex9 G9 s9 ⟨rfl, hS9, hF9, e9, c9⟩; exact ⟨rfl, hS9, (zFr_t zFr_rf hF9 (by decide)), ⟨e9, by first | trivial | omega⟩⟩) (fun _ _ _ h => h.elim)

set_option maxHeartbeats 4000000 in
set_option maxRecDepth 20000 in
theorem c_X11_heap {E : zE} {l : Launch} (hst : l.stackTraces = false) (a : Nat) (x1 : Int) (x2 : Int) : ConX E l yX11_heap cX11_heap 3 (some .int) { frames := 7, cells := 1, slots := 6, locals := 111 } (fun G s vs => vs = [.ref a, .int (zI x1), .int (zI x2)] ∧ zGK G ∧ zSK G s ∧ (gT G a = 12) ∧ ((-2147483648) ≤ x1 ∧ x1 ≤ 2147483647) ∧ ((-2147483648) ≤ x2 ∧ x2 ≤ 2147483647) ∧ (zS0 G s)) (fun G s _ => fun _ _ _ => False) (fun G s _ Ex G2 s2 => G2 = G ∧ zSK G s2 ∧ zFr [12] G s s2 ∧ ((Ex = "java/util/NoSuchElementException" ∧ (True)))) := by
  refine ConX.mk hst (by decide) (fun G s vs h => by rw [h.1]; exact Nat.le_of_ble_eq_true rfl) ?_
  rintro X G s0 vs ⟨rfl, hG, hS0, ha, hx1, hx2, hF0⟩ rfl hx hq
  show JJ X E 3 G s0 0 0 [(0, .ref a), (1, .int (zI x1)), (2, .int (zI x2))] 0 []
  refine j_aload_n hx 0 dX11_heap_0 rfl ?_
  refine j_iload_n hx 1 dX11_heap_1 rfl ?_
  refine j_callVX hx hq hG (c_X11_needPlayer hst a x1) lk_RX11_134 ha (by decide) rfl rfl rfl rfl [.int (zI x1)] ⟨rfl, hG, hS0, ha, (by omega), hF0⟩ rfl rfl ⟨by decide, by decide⟩ ⟨by decide, by decide⟩ (k2 := 1) (n2 := 6) rfl rfl (Nat.le_of_ble_eq_true rfl) ⟨by decide, by decide⟩ dX11_heap_2 (by rintro Ex9 G9 s9 ⟨rfl, hS9, hF9, e9, c9⟩; exact ⟨rfl, hS9, (zFr_t zFr_rf hF9 (by decide)), ⟨e9, by first | trivial | omega⟩⟩) (fun _ _ _ h => h.elim)

set_option maxHeartbeats 4000000 in
set_option maxRecDepth 20000 in
theorem c_X6_kindAt {E : zE} {l : Launch} (hst : l.stackTraces = false) (a : Nat) (x1 : Int) : Con E l yX6_kindAt cX6_kindAt 2 (some .int) { frames := 0, cells := 0, slots := 0, locals := 0 } (fun G s vs => vs = [.ref a, .int (zI x1)] ∧ zGK G ∧ zSK G s ∧ (gT G a = 7) ∧ ((-2147483648) ≤ x1 ∧ x1 ≤ 2147483647)) (fun G s _ => pI (fun r G2 s2 => G2 = G ∧ s2 = s ∧ ((-1) ≤ r ∧ r ≤ (-1)))) := by
  refine Con.mk hst (by decide) (fun G s vs h => by rw [h.1]; exact Nat.le_of_ble_eq_true rfl) ?_
  rintro X G s0 vs ⟨rfl, hG, hS0, ha, hx1⟩ rfl hx hq
  show JJ X E 2 G s0 0 0 [(0, .ref a), (1, .int (zI x1))] 0 []
  refine j_iload_n hx 1 dX6_kindAt_0 rfl ?_
  refine j_if_lt hx 32 dX6_kindAt_1 rfl (by omega) (fun h1 => ?_) (fun h1 => ?_)
  · skip
    refine j_iconst hx dX6_kindAt_32 ?_
    exact j_iret hx hq rfl (by decide) (by decide) dX6_kindAt_33 ⟨(-1), rfl, rfl, rfl, (by omega)⟩
  · skip
    refine j_iload_n hx 1 dX6_kindAt_4 rfl ?_
    refine j_aload_n hx 0 dX6_kindAt_5 rfl ?_
    have f2 := zf hS0 ha (k := 1) rfl
    refine g7_1 hx hG ha kf_RX6_15 rfl dX6_kindAt_6 ?_
    refine j_icmp_ge hx 32 dX6_kindAt_9 rfl (by omega) (by omega) (fun h3 => ?_) (fun h3 => absurd h3 (by omega))
    refine j_iconst hx dX6_kindAt_32 ?_
    exact j_iret hx hq rfl (by decide) (by decide) dX6_kindAt_33 ⟨(-1), rfl, rfl, rfl, (by omega)⟩

theorem lk_RX11_197 : LkV RX11 197 RX6 yX6_kindAt cX6_kindAt 2 (some .int) 1 := ⟨km_RX11_197, ki_yX6_kindAt, ks_RX6_yX6_kindAt, kn_RX6, kc_yX6_kindAt, rfl, by decide +kernel, by decide +kernel, by decide +kernel⟩
set_option maxHeartbeats 4000000 in
set_option maxRecDepth 20000 in
theorem c_X11_pool {E : zE} {l : Launch} (hst : l.stackTraces = false) (a : Nat) (x1 : Int) : Con E l yX11_pool cX11_pool 2 (some .int) { frames := 1, cells := 0, slots := 0, locals := 21 } (fun G s vs => vs = [.ref a, .int (zI x1)] ∧ zGK G ∧ zSK G s ∧ (gT G a = 12) ∧ ((-2147483648) ≤ x1 ∧ x1 ≤ 2147483647) ∧ (zS0 G s)) (fun G s _ => pI (fun r G2 s2 => G2 = G ∧ s2 = s ∧ ((-1) ≤ r ∧ r ≤ (-1)))) := by
  refine Con.mk hst (by decide) (fun G s vs h => by rw [h.1]; exact Nat.le_of_ble_eq_true rfl) ?_
  rintro X G s0 vs ⟨rfl, hG, hS0, ha, hx1, hF0⟩ rfl hx hq
  show JJ X E 2 G s0 0 0 [(0, .ref a), (1, .int (zI x1))] 0 []
  refine j_aload_n hx 0 dX11_pool_0 rfl ?_
  refine g12_6 hx hG ha kf_RX11_48 dX11_pool_1 ?_
  refine gN4_1 hx hG (zr (k := 6) (t2 := 4) hG ha rfl) kf_RX11_155 dX11_pool_4 ?_
  refine gN1_6 hx hG (zr (k := 1) (t2 := 1) hG (zr (k := 6) (t2 := 4) hG ha rfl) rfl) kf_RX11_171 dX11_pool_7 ?_
  refine j_iload_n hx 1 dX11_pool_10 rfl ?_
  refine j_callV hx hG (c_X6_kindAt hst (gP G (gP G (gP G a 6) 1) 6) x1) lk_RX11_197 (zr (k := 6) (t2 := 7) hG (zr (k := 1) (t2 := 1) hG (zr (k := 6) (t2 := 4) hG ha rfl) rfl) rfl) (by decide) rfl rfl rfl rfl [.int (zI x1)] ⟨rfl, hG, hS0, (zr (k := 6) (t2 := 7) hG (zr (k := 1) (t2 := 1) hG (zr (k := 6) (t2 := 4) hG ha rfl) rfl) rfl), (by omega)⟩ rfl rfl ⟨by decide, by decide⟩ ⟨by decide, by decide⟩ (k2 := 0) (n2 := 0) rfl rfl (Nat.le_of_ble_eq_true rfl) dX11_pool_11 (kIP (fun v1 q2 => ?_))
  exact j_iret hx hq rfl (by decide) (by decide) dX11_pool_14 ⟨v1, rfl, rfl, rfl, (by omega)⟩

set_option maxHeartbeats 4000000 in
set_option maxRecDepth 20000 in
theorem c_X11_lain {E : zE} {l : Launch} (hst : l.stackTraces = false) (a : Nat) (x1 : Int) (x2 : Int) : ConX E l yX11_lain cX11_lain 4 (some .int) { frames := 7, cells := 1, slots := 6, locals := 111 } (fun G s vs => vs = [.ref a, .int (zI x1), .int (zI x2)] ∧ zGK G ∧ zSK G s ∧ (gT G a = 12) ∧ ((-2147483648) ≤ x1 ∧ x1 ≤ 2147483647) ∧ ((-2147483648) ≤ x2 ∧ x2 ≤ 2147483647) ∧ (zS0 G s)) (fun G s _ => fun _ _ _ => False) (fun G s _ Ex G2 s2 => G2 = G ∧ zSK G s2 ∧ zFr [12] G s s2 ∧ ((Ex = "java/util/NoSuchElementException" ∧ (True)))) := by
  refine ConX.mk hst (by decide) (fun G s vs h => by rw [h.1]; exact Nat.le_of_ble_eq_true rfl) ?_
  rintro X G s0 vs ⟨rfl, hG, hS0, ha, hx1, hx2, hF0⟩ rfl hx hq
  show JJ X E 4 G s0 0 0 [(0, .ref a), (1, .int (zI x1)), (2, .int (zI x2))] 0 []
  refine j_aload_n hx 0 dX11_lain_0 rfl ?_
  refine j_iload_n hx 1 dX11_lain_1 rfl ?_
  refine j_callVX hx hq hG (c_X11_needPlayer hst a x1) lk_RX11_134 ha (by decide) rfl rfl rfl rfl [.int (zI x1)] ⟨rfl, hG, hS0, ha, (by omega), hF0⟩ rfl rfl ⟨by decide, by decide⟩ ⟨by decide, by decide⟩ (k2 := 1) (n2 := 6) rfl rfl (Nat.le_of_ble_eq_true rfl) ⟨by decide, by decide⟩ dX11_lain_2 (by rintro Ex9 G9 s9 ⟨rfl, hS9, hF9, e9, c9⟩; exact ⟨rfl, hS9, (zFr_t zFr_rf hF9 (by decide)), ⟨e9, by first | trivial | omega⟩⟩) (fun _ _ _ h => h.elim)

set_option maxHeartbeats 4000000 in
set_option maxRecDepth 20000 in
theorem c_X6_topKind {E : zE} {l : Launch} (hst : l.stackTraces = false) (a : Nat) : Con E l yX6_topKind cX6_topKind 1 (some .int) { frames := 0, cells := 0, slots := 0, locals := 0 } (fun G s vs => vs = [.ref a] ∧ zGK G ∧ zSK G s ∧ (gT G a = 7)) (fun G s _ => pI (fun r G2 s2 => G2 = G ∧ s2 = s ∧ ((-1) ≤ r ∧ r ≤ (-1)))) := by
  refine Con.mk hst (by decide) (fun G s vs h => by rw [h.1]; exact Nat.le_of_ble_eq_true rfl) ?_
  rintro X G s0 vs ⟨rfl, hG, hS0, ha⟩ rfl hx hq
  show JJ X E 1 G s0 0 0 [(0, .ref a)] 0 []
  refine j_aload_n hx 0 dX6_topKind_0 rfl ?_
  have f1 := zf hS0 ha (k := 1) rfl
  refine g7_1 hx hG ha kf_RX6_15 rfl dX6_topKind_1 ?_
  refine j_if_le hx 35 dX6_topKind_4 rfl (by omega) (fun h2 => ?_) (fun h2 => absurd h2 (by omega))
  refine j_iconst hx dX6_topKind_35 ?_
  exact j_iret hx hq rfl (by decide) (by decide) dX6_topKind_36 ⟨(-1), rfl, rfl, rfl, (by omega)⟩

theorem lk_RX0_75 : LkV RX0 75 RX6 yX6_topKind cX6_topKind 1 (some .int) 0 := ⟨km_RX0_75, ki_yX6_topKind, ks_RX6_yX6_topKind, kn_RX6, kc_yX6_topKind, rfl, by decide +kernel, by decide +kernel, by decide +kernel⟩
set_option maxHeartbeats 4000000 in
set_option maxRecDepth 20000 in
theorem c_X0_likeTopsIf {E : zE} {l : Launch} (hst : l.stackTraces = false) (a : Nat) (x1 : Int) (x2 : Int) : Con E l yX0_likeTopsIf cX0_likeTopsIf 6 (some .int) { frames := 1, cells := 0, slots := 0, locals := 20 } (fun G s vs => vs = [.ref a, .int (zI x1), .int (zI x2)] ∧ zGK G ∧ zSK G s ∧ (gT G a = 1) ∧ ((-1) ≤ x1 ∧ x1 ≤ (-1)) ∧ ((-1) ≤ x2 ∧ x2 ≤ (-1))) (fun G s _ => pI (fun r G2 s2 => G2 = G ∧ s2 = s ∧ ((-1) ≤ r ∧ r ≤ (-1)))) := by
  refine Con.mk hst (by decide) (fun G s vs h => by rw [h.1]; exact Nat.le_of_ble_eq_true rfl) ?_
  rintro X G s0 vs ⟨rfl, hG, hS0, ha, hx1, hx2⟩ rfl hx hq
  show JJ X E 6 G s0 0 0 [(0, .ref a), (1, .int (zI x1)), (2, .int (zI x2))] 0 []
  refine j_iload_n hx 1 dX0_likeTopsIf_0 rfl ?_
  refine j_if_ne hx 8 dX0_likeTopsIf_1 rfl (by omega) (fun h1 => ?_) (fun h1 => absurd h1 (by omega))
  refine j_aload_n hx 0 dX0_likeTopsIf_8 rfl ?_
  refine g1_3 hx hG ha kf_RX0_24 dX0_likeTopsIf_9 ?_
  refine j_callV hx hG (c_X6_topKind hst (gP G a 3)) lk_RX0_75 (zr (k := 3) (t2 := 7) hG ha rfl) (by decide) rfl rfl rfl rfl [] ⟨rfl, hG, hS0, (zr (k := 3) (t2 := 7) hG ha rfl)⟩ rfl rfl ⟨by decide, by decide⟩ ⟨by decide, by decide⟩ (k2 := 0) (n2 := 0) rfl rfl (Nat.le_of_ble_eq_true rfl) dX0_likeTopsIf_12 (kIP (fun v2 q3 => ?_))
  refine j_istore_n hx [(3, .int (zI v2)), (0, .ref a), (1, .int (zI x1)), (2, .int (zI x2))] dX0_likeTopsIf_15 (by decide) rfl ?_
  refine j_iload_n hx 2 dX0_likeTopsIf_16 rfl ?_
  refine j_iconst hx dX0_likeTopsIf_17 ?_
  refine j_icmp_ne hx 25 dX0_likeTopsIf_18 rfl (by omega) ⟨by decide, by decide⟩ (fun h4 => ?_) (fun h4 => absurd h4 (by omega))
  refine j_aload_n hx 1 dX0_likeTopsIf_25 rfl ?_
  refine g1_4 hx hG ha kf_RX0_27 dX0_likeTopsIf_26 ?_
  refine j_callV hx hG (c_X6_topKind hst (gP G a 4)) lk_RX0_75 (zr (k := 4) (t2 := 7) hG ha rfl) (by decide) rfl rfl rfl rfl [] ⟨rfl, hG, hS0, (zr (k := 4) (t2 := 7) hG ha rfl)⟩ rfl rfl ⟨by decide, by decide⟩ ⟨by decide, by decide⟩ (k2 := 0) (n2 := 0) rfl rfl (Nat.le_of_ble_eq_true rfl) dX0_likeTopsIf_29 (kIP (fun v5 q6 => ?_))
  refine j_istore hx [(4, .int (zI v5)), (3, .int (zI v2)), (0, .ref a), (1, .int (zI x1)), (2, .int (zI x2))] dX0_likeTopsIf_32 (by decide) rfl ?_
  refine j_iload_n hx 3 dX0_likeTopsIf_34 rfl ?_
  refine j_iconst hx dX0_likeTopsIf_35 ?_
  refine j_icmp_ne hx 43 dX0_likeTopsIf_36 rfl (by omega) ⟨by decide, by decide⟩ (fun h7 => ?_) (fun h7 => absurd h7 (by omega))
  refine j_aload_n hx 2 dX0_likeTopsIf_43 rfl ?_
  refine g1_5 hx hG ha kf_RX0_30 dX0_likeTopsIf_44 ?_
  refine j_callV hx hG (c_X6_topKind hst (gP G a 5)) lk_RX0_75 (zr (k := 5) (t2 := 7) hG ha rfl) (by decide) rfl rfl rfl rfl [] ⟨rfl, hG, hS0, (zr (k := 5) (t2 := 7) hG ha rfl)⟩ rfl rfl ⟨by decide, by decide⟩ ⟨by decide, by decide⟩ (k2 := 0) (n2 := 0) rfl rfl (Nat.le_of_ble_eq_true rfl) dX0_likeTopsIf_47 (kIP (fun v8 q9 => ?_))
  refine j_istore hx [(5, .int (zI v8)), (4, .int (zI v5)), (3, .int (zI v2)), (0, .ref a), (1, .int (zI x1)), (2, .int (zI x2))] dX0_likeTopsIf_50 (by decide) rfl ?_
  refine j_iload_n hx 2 dX0_likeTopsIf_52 rfl ?_
  refine j_iconst hx dX0_likeTopsIf_53 ?_
  refine j_icmp_eq hx 65 dX0_likeTopsIf_54 rfl (by omega) ⟨by decide, by decide⟩ (fun h10 => ?_) (fun h10 => absurd h10 (by omega))
  refine j_iload_n hx 2 dX0_likeTopsIf_65 rfl ?_
  refine j_iconst hx dX0_likeTopsIf_66 ?_
  refine j_icmp_eq hx 78 dX0_likeTopsIf_67 rfl (by omega) ⟨by decide, by decide⟩ (fun h11 => ?_) (fun h11 => absurd h11 (by omega))
  refine j_iload hx 1 dX0_likeTopsIf_78 rfl ?_
  refine j_iconst hx dX0_likeTopsIf_80 ?_
  refine j_icmp_eq hx 96 dX0_likeTopsIf_81 rfl (by omega) ⟨by decide, by decide⟩ (fun h12 => ?_) (fun h12 => absurd h12 (by omega))
  refine j_iconst hx dX0_likeTopsIf_96 ?_
  exact j_iret hx hq rfl (by decide) (by decide) dX0_likeTopsIf_97 ⟨(-1), rfl, rfl, rfl, (by omega)⟩

theorem lk_RX0_72 : LkV RX0 72 RX0 yX0_likeTopsIf cX0_likeTopsIf 6 (some .int) 2 := ⟨km_RX0_72, ki_yX0_likeTopsIf, ks_RX0_yX0_likeTopsIf, kn_RX0, kc_yX0_likeTopsIf, rfl, by decide +kernel, by decide +kernel, by decide +kernel⟩
set_option maxHeartbeats 4000000 in
set_option maxRecDepth 20000 in
theorem c_X0_likeTops {E : zE} {l : Launch} (hst : l.stackTraces = false) (a : Nat) : Con E l yX0_likeTops cX0_likeTops 1 (some .int) { frames := 2, cells := 0, slots := 0, locals := 45 } (fun G s vs => vs = [.ref a] ∧ zGK G ∧ zSK G s ∧ (gT G a = 1)) (fun G s _ => pI (fun r G2 s2 => G2 = G ∧ s2 = s ∧ ((-1) ≤ r ∧ r ≤ (-1)))) := by
  refine Con.mk hst (by decide) (fun G s vs h => by rw [h.1]; exact Nat.le_of_ble_eq_true rfl) ?_
  rintro X G s0 vs ⟨rfl, hG, hS0, ha⟩ rfl hx hq
  show JJ X E 1 G s0 0 0 [(0, .ref a)] 0 []
  refine j_aload_n hx 0 dX0_likeTops_0 rfl ?_
  refine j_iconst hx dX0_likeTops_1 ?_
  refine j_iconst hx dX0_likeTops_2 ?_
  refine j_callV hx hG (c_X0_likeTopsIf hst a (-1) (-1)) lk_RX0_72 ha (by decide) rfl rfl rfl rfl [.int (zI (-1)), .int (zI (-1))] ⟨rfl, hG, hS0, ha, (by omega), (by omega)⟩ rfl rfl ⟨by decide, by decide⟩ ⟨by decide, by decide⟩ (k2 := 0) (n2 := 0) rfl rfl (Nat.le_of_ble_eq_true rfl) dX0_likeTops_3 (kIP (fun v1 q2 => ?_))
  exact j_iret hx hq rfl (by decide) (by decide) dX0_likeTops_6 ⟨v1, rfl, rfl, rfl, (by omega)⟩

theorem lk_RX11_203 : LkV RX11 203 RX0 yX0_likeTops cX0_likeTops 1 (some .int) 0 := ⟨km_RX11_203, ki_yX0_likeTops, ks_RX0_yX0_likeTops, kn_RX0, kc_yX0_likeTops, rfl, by decide +kernel, by decide +kernel, by decide +kernel⟩
set_option maxHeartbeats 4000000 in
set_option maxRecDepth 20000 in
theorem c_X11_alike {E : zE} {l : Launch} (hst : l.stackTraces = false) (a : Nat) : Con E l yX11_alike cX11_alike 1 (some .int) { frames := 3, cells := 0, slots := 0, locals := 65 } (fun G s vs => vs = [.ref a] ∧ zGK G ∧ zSK G s ∧ (gT G a = 12) ∧ (zS0 G s)) (fun G s _ => pI (fun r G2 s2 => G2 = G ∧ s2 = s ∧ ((-1) ≤ r ∧ r ≤ (-1)))) := by
  refine Con.mk hst (by decide) (fun G s vs h => by rw [h.1]; exact Nat.le_of_ble_eq_true rfl) ?_
  rintro X G s0 vs ⟨rfl, hG, hS0, ha, hF0⟩ rfl hx hq
  show JJ X E 1 G s0 0 0 [(0, .ref a)] 0 []
  refine j_aload_n hx 0 dX11_alike_0 rfl ?_
  refine g12_6 hx hG ha kf_RX11_48 dX11_alike_1 ?_
  refine gN4_1 hx hG (zr (k := 6) (t2 := 4) hG ha rfl) kf_RX11_155 dX11_alike_4 ?_
  refine j_callV hx hG (c_X0_likeTops hst (gP G (gP G a 6) 1)) lk_RX11_203 (zr (k := 1) (t2 := 1) hG (zr (k := 6) (t2 := 4) hG ha rfl) rfl) (by decide) rfl rfl rfl rfl [] ⟨rfl, hG, hS0, (zr (k := 1) (t2 := 1) hG (zr (k := 6) (t2 := 4) hG ha rfl) rfl)⟩ rfl rfl ⟨by decide, by decide⟩ ⟨by decide, by decide⟩ (k2 := 0) (n2 := 0) rfl rfl (Nat.le_of_ble_eq_true rfl) dX11_alike_7 (kIP (fun v1 q2 => ?_))
  exact j_iret hx hq rfl (by decide) (by decide) dX11_alike_10 ⟨v1, rfl, rfl, rfl, (by omega)⟩

set_option maxHeartbeats 4000000 in
set_option maxRecDepth 20000 in
theorem c_X11_would {E : zE} {l : Launch} (hst : l.stackTraces = false) (a : Nat) (x1 : Int) (x2 : Int) : ConX E l yX11_would cX11_would 3 (some .boolean) { frames := 7, cells := 1, slots := 6, locals := 111 } (fun G s vs => vs = [.ref a, .int (zI x1), .int (zI x2)] ∧ zGK G ∧ zSK G s ∧ (gT G a = 12) ∧ ((-2147483648) ≤ x1 ∧ x1 ≤ 2147483647) ∧ ((-2147483648) ≤ x2 ∧ x2 ≤ 2147483647) ∧ (zS0 G s)) (fun G s _ => fun _ _ _ => False) (fun G s _ Ex G2 s2 => G2 = G ∧ zSK G s2 ∧ zFr [12] G s s2 ∧ ((Ex = "java/util/NoSuchElementException" ∧ (True)))) := by
  refine ConX.mk hst (by decide) (fun G s vs h => by rw [h.1]; exact Nat.le_of_ble_eq_true rfl) ?_
  rintro X G s0 vs ⟨rfl, hG, hS0, ha, hx1, hx2, hF0⟩ rfl hx hq
  show JJ X E 3 G s0 0 0 [(0, .ref a), (1, .int (zI x1)), (2, .int (zI x2))] 0 []
  refine j_aload_n hx 0 dX11_would_0 rfl ?_
  refine j_iload_n hx 1 dX11_would_1 rfl ?_
  refine j_callVX hx hq hG (c_X11_needPlayer hst a x1) lk_RX11_134 ha (by decide) rfl rfl rfl rfl [.int (zI x1)] ⟨rfl, hG, hS0, ha, (by omega), hF0⟩ rfl rfl ⟨by decide, by decide⟩ ⟨by decide, by decide⟩ (k2 := 1) (n2 := 6) rfl rfl (Nat.le_of_ble_eq_true rfl) ⟨by decide, by decide⟩ dX11_would_2 (by rintro Ex9 G9 s9 ⟨rfl, hS9, hF9, e9, c9⟩; exact ⟨rfl, hS9, (zFr_t zFr_rf hF9 (by decide)), ⟨e9, by first | trivial | omega⟩⟩) (fun _ _ _ h => h.elim)

set_option maxHeartbeats 4000000 in
set_option maxRecDepth 20000 in
theorem c_X3_setLaw {E : zE} {l : Launch} (hst : l.stackTraces = false) (a : Nat) (x1 : Int) (x2 : Int) : Con E l yX3_setLaw cX3_setLaw 3 none { frames := 0, cells := 0, slots := 0, locals := 0 } (fun G s vs => vs = [.ref a, .int (zI x1), .int (zI x2)] ∧ zGK G ∧ zSK G s ∧ (gT G a = 4) ∧ (0 ≤ x1 ∧ x1 ≤ 2) ∧ (0 ≤ x2 ∧ x2 ≤ 2)) (fun G s _ => pV (fun G2 s2 => G2 = G ∧ zSK G s2 ∧ zFr [44] G s s2 ∧ True)) := by
  refine Con.mk hst (by decide) (fun G s vs h => by rw [h.1]; exact Nat.le_of_ble_eq_true rfl) ?_
  rintro X G s0 vs ⟨rfl, hG, hS0, ha, hx1, hx2⟩ rfl hx hq
  show JJ X E 3 G s0 0 0 [(0, .ref a), (1, .int (zI x1)), (2, .int (zI x2))] 0 []
  refine j_iload_n hx 1 dX3_setLaw_0 rfl ?_
  refine j_if_lt hx 20 dX3_setLaw_1 rfl (by omega) (fun h1 => absurd h1 (by omega)) (fun h1 => ?_)
  refine j_iload_n hx 1 dX3_setLaw_4 rfl ?_
  refine j_aload_n hx 0 dX3_setLaw_5 rfl ?_
  refine g4_2 hx hG ha kf_RX3_18 dX3_setLaw_6 ?_
  refine j_alen hx hG (zr (k := 2) (t2 := 44) hG ha rfl) (by decide) (by decide) (zlen hG (zr (k := 2) (t2 := 44) hG ha rfl) (n := 3) rfl rfl) dX3_setLaw_9 ?_
  refine j_icmp_ge hx 20 dX3_setLaw_10 rfl (by omega) ⟨by decide, by decide⟩ (fun h2 => absurd h2 (by omega)) (fun h2 => ?_)
  refine j_aload_n hx 0 dX3_setLaw_13 rfl ?_
  refine g4_2 hx hG ha kf_RX3_18 dX3_setLaw_14 ?_
  refine j_iload_n hx 1 dX3_setLaw_17 rfl ?_
  refine j_iload_n hx 2 dX3_setLaw_18 rfl ?_
  refine j_iast hx hG (zr (k := 2) (t2 := 44) hG ha rfl) (by decide) rfl (zlen hG (zr (k := 2) (t2 := 44) hG ha rfl) (n := 3) rfl rfl) (by omega) (by omega) (j := (x1).toNat) rfl dX3_setLaw_19 ?_
  obtain ⟨s1, e_s1⟩ : ∃ z, z = zU s0 (gP G a 2) (x1).toNat x2 := ⟨_, rfl⟩
  rw [← e_s1]
  have hS_s1 : zSK G s1 := by rw [e_s1]; exact zSK_A hS0 (zr (k := 2) (t2 := 44) hG ha rfl) rfl rfl rfl (by omega)
  exact j_vret hx hq rfl (by decide) (by decide) dX3_setLaw_20 ⟨rfl, rfl, hS_s1, (zFr_u zFr_rf e_s1 (zr (k := 2) (t2 := 44) hG ha rfl) (by decide)), trivial⟩

theorem lk_RX11_213 : LkV RX11 213 RX3 yX3_setLaw cX3_setLaw 3 none 2 := ⟨km_RX11_213, ki_yX3_setLaw, ks_RX3_yX3_setLaw, kn_RX3, kc_yX3_setLaw, rfl, by decide +kernel, by decide +kernel, by decide +kernel⟩
theorem lk_RX11_124 : LkV RX11 124 RX4 yX4_settle cX4_settle 2 none 1 := ⟨km_RX11_124, ki_yX4_settle, ks_RX4_yX4_settle, kn_RX4, kc_yX4_settle, rfl, by decide +kernel, by decide +kernel, by decide +kernel⟩
set_option maxHeartbeats 4000000 in
set_option maxRecDepth 20000 in
theorem c_X11_law {E : zE} {l : Launch} (hst : l.stackTraces = false) (a : Nat) (x1 : Int) (x2 : Int) : ConX E l yX11_law cX11_law 4 (some .int) { frames := 7, cells := 2, slots := 12, locals := 113 } (fun G s vs => vs = [.ref a, .int (zI x1), .int (zI x2)] ∧ zGK G ∧ zSK G s ∧ (gT G a = 12) ∧ ((-2147483648) ≤ x1 ∧ x1 ≤ 2147483647) ∧ ((-2147483648) ≤ x2 ∧ x2 ≤ 2147483647) ∧ (zS0 G s)) (fun G s _ => pI (fun r G2 s2 => G2 = G ∧ zSK G s2 ∧ zFr [5, 44] G s s2 ∧ (0 ≤ r ∧ r ≤ 0) ∧ (0 ≤ x1 ∧ x1 ≤ 2 ∧ 0 ≤ x2 ∧ x2 ≤ 2))) (fun G s _ Ex G2 s2 => G2 = G ∧ zSK G s2 ∧ zFr [5, 12, 44] G s s2 ∧ ((Ex = "java/lang/IllegalArgumentException" ∧ (¬ (0 ≤ x1 ∧ x1 ≤ 2 ∧ 0 ≤ x2 ∧ x2 ≤ 2))))) := by
  refine ConX.mk hst (by decide) (fun G s vs h => by rw [h.1]; exact Nat.le_of_ble_eq_true rfl) ?_
  rintro X G s0 vs ⟨rfl, hG, hS0, ha, hx1, hx2, hF0⟩ rfl hx hq
  show JJ X E 4 G s0 0 0 [(0, .ref a), (1, .int (zI x1)), (2, .int (zI x2))] 0 []
  refine j_aload_n hx 0 dX11_law_0 rfl ?_
  refine j_iload_n hx 1 dX11_law_1 rfl ?_
  refine j_iconst hx dX11_law_2 ?_
  refine j_iconst hx dX11_law_3 ?_
  refine j_callVX hx hq hG (c_X11_needRange hst a x1 0 2) lk_RX11_98 ha (by decide) rfl rfl rfl rfl [.int (zI x1), .int (zI 0), .int (zI 2)] ⟨rfl, hG, hS0, ha, (by omega), (by omega), (by omega), hF0⟩ rfl rfl ⟨by decide, by decide⟩ ⟨by decide, by decide⟩ (k2 := 1) (n2 := 6) rfl rfl (Nat.le_of_ble_eq_true rfl) ⟨by decide, by decide⟩ dX11_law_4 (by rintro Ex9 G9 s9 ⟨rfl, hS9, hF9, e9, c9⟩; exact ⟨rfl, hS9, (zFr_t zFr_rf hF9 (by decide)), ⟨e9, by first | trivial | omega⟩⟩) (kVP (fun q2 => ?_))
  refine j_aload_n hx 0 dX11_law_7 rfl ?_
  refine j_iload_n hx 2 dX11_law_8 rfl ?_
  refine j_iconst hx dX11_law_9 ?_
  refine j_iconst hx dX11_law_10 ?_
  refine j_callVX hx hq hG (c_X11_needRange hst a x2 0 2) lk_RX11_98 ha (by decide) rfl rfl rfl rfl [.int (zI x2), .int (zI 0), .int (zI 2)] ⟨rfl, hG, hS0, ha, (by omega), (by omega), (by omega), hF0⟩ rfl rfl ⟨by decide, by decide⟩ ⟨by decide, by decide⟩ (k2 := 2) (n2 := 12) rfl rfl (Nat.le_of_ble_eq_true rfl) ⟨by decide, by decide⟩ dX11_law_11 (by rintro Ex9 G9 s9 ⟨rfl, hS9, hF9, e9, c9⟩; exact ⟨rfl, hS9, (zFr_t zFr_rf hF9 (by decide)), ⟨e9, by first | trivial | omega⟩⟩) (kVP (fun q4 => ?_))
  refine j_aload_n hx 0 dX11_law_14 rfl ?_
  refine g12_6 hx hG ha kf_RX11_48 dX11_law_15 ?_
  refine j_iload_n hx 1 dX11_law_18 rfl ?_
  refine j_callV hx hG (c_X3_lawOf_f hst (gP G a 6) x1) lk_RX11_178 (zr (k := 6) (t2 := 4) hG ha rfl) (by decide) rfl rfl rfl rfl [.int (zI x1)] ⟨rfl, hG, hS0, (zr (k := 6) (t2 := 4) hG ha rfl), (by omega), hF0⟩ rfl rfl ⟨by decide, by decide⟩ ⟨by decide, by decide⟩ (k2 := 2) (n2 := 12) rfl rfl (Nat.le_of_ble_eq_true rfl) dX11_law_19 (kIP (fun v5 q6 => ?_))
  refine j_istore_n hx [(3, .int (zI v5)), (0, .ref a), (1, .int (zI x1)), (2, .int (zI x2))] dX11_law_22 (by decide) rfl ?_
  refine j_aload_n hx 1 dX11_law_23 rfl ?_
  refine g12_6 hx hG ha kf_RX11_48 dX11_law_24 ?_
  refine j_iload_n hx 2 dX11_law_27 rfl ?_
  refine j_iload_n hx 3 dX11_law_28 rfl ?_
  refine j_callV hx hG (c_X3_setLaw hst (gP G a 6) x1 x2) lk_RX11_213 (zr (k := 6) (t2 := 4) hG ha rfl) (by decide) rfl rfl rfl rfl [.int (zI x1), .int (zI x2)] ⟨rfl, hG, hS0, (zr (k := 6) (t2 := 4) hG ha rfl), (by omega), (by omega)⟩ rfl rfl ⟨by decide, by decide⟩ ⟨by decide, by decide⟩ (k2 := 2) (n2 := 12) rfl rfl (Nat.le_of_ble_eq_true rfl) dX11_law_29 (kVM (fun s1 hS_s1 hF_s1 q8 => ?_))
  refine j_aload_n hx 1 dX11_law_32 rfl ?_
  refine g12_9 hx hG ha kf_RX11_69 dX11_law_33 ?_
  refine j_aload_n hx 1 dX11_law_36 rfl ?_
  refine g12_6 hx hG ha kf_RX11_48 dX11_law_37 ?_
  have f9 := z0f hF0 (zr (k := 6) (t2 := 4) hG ha rfl) (k := 10) rfl
  refine gN4_10 hx hG (zr (k := 6) (t2 := 4) hG ha rfl) kf_RX11_165 (v := (s0 (gP G a 6) 10)) (by rw [(zFr_g hF_s1 (zr (k := 6) (t2 := 4) hG ha rfl) (by decide))]) dX11_law_40 ?_
  refine j_callV hx hG (c_X4_settle hst (gP G a 9) ((s0 (gP G a 6) 10))) lk_RX11_124 (zr (k := 9) (t2 := 5) hG ha rfl) (by decide) rfl rfl rfl rfl [.int (zI ((s0 (gP G a 6) 10)))] ⟨rfl, hG, hS_s1, (zr (k := 9) (t2 := 5) hG ha rfl), (by omega)⟩ rfl rfl ⟨by decide, by decide⟩ ⟨by decide, by decide⟩ (k2 := 2) (n2 := 12) rfl rfl (Nat.le_of_ble_eq_true rfl) dX11_law_43 (kVM (fun s2 hS_s2 hF_s2 q11 => ?_))
  refine j_iload_n hx 0 dX11_law_46 rfl ?_
  exact j_iret hx hq.r rfl (by decide) (by decide) dX11_law_47 ⟨v5, rfl, rfl, hS_s2, (zFr_t (zFr_t zFr_rf hF_s1 (by decide)) hF_s2 (by decide)), ⟨(by omega), by omega⟩⟩

set_option maxHeartbeats 4000000 in
set_option maxRecDepth 20000 in
theorem c_X11_draws {E : zE} {l : Launch} (hst : l.stackTraces = false) (a : Nat) (x1 : Int) : Con E l yX11_draws cX11_draws 2 none { frames := 1, cells := 0, slots := 0, locals := 21 } (fun G s vs => vs = [.ref a, .int (zI x1)] ∧ zGK G ∧ zSK G s ∧ (gT G a = 12) ∧ ((-2147483648) ≤ x1 ∧ x1 ≤ 2147483647) ∧ (zS0 G s)) (fun G s _ => pV (fun G2 s2 => G2 = G ∧ zSK G s2 ∧ zFr [4, 5] G s s2 ∧ True)) := by
  refine Con.mk hst (by decide) (fun G s vs h => by rw [h.1]; exact Nat.le_of_ble_eq_true rfl) ?_
  rintro X G s0 vs ⟨rfl, hG, hS0, ha, hx1, hF0⟩ rfl hx hq
  show JJ X E 2 G s0 0 0 [(0, .ref a), (1, .int (zI x1))] 0 []
  refine j_aload_n hx 0 dX11_draws_0 rfl ?_
  refine g12_6 hx hG ha kf_RX11_48 dX11_draws_1 ?_
  refine j_iconst hx dX11_draws_4 ?_
  refine pN4_8 hx hG (zr (k := 6) (t2 := 4) hG ha rfl) kf_RX11_217 (by omega) dX11_draws_5 ?_
  obtain ⟨s1, e_s1⟩ : ∃ z, z = zU s0 (gP G a 6) 8 1 := ⟨_, rfl⟩
  rw [← e_s1]
  have hS_s1 : zSK G s1 := by rw [e_s1]; exact zSK_F hS0 (zr (k := 6) (t2 := 4) hG ha rfl) rfl rfl rfl (by omega)
  refine j_aload_n hx 0 dX11_draws_8 rfl ?_
  refine g12_6 hx hG ha kf_RX11_48 dX11_draws_9 ?_
  refine j_iload_n hx 1 dX11_draws_12 rfl ?_
  refine pN4_9 hx hG (zr (k := 6) (t2 := 4) hG ha rfl) kf_RX11_221 dX11_draws_13 ?_
  obtain ⟨s2, e_s2⟩ : ∃ z, z = zU s1 (gP G a 6) 9 x1 := ⟨_, rfl⟩
  rw [← e_s2]
  have hS_s2 : zSK G s2 := by rw [e_s2]; exact zSK_F hS_s1 (zr (k := 6) (t2 := 4) hG ha rfl) rfl rfl rfl (by omega)
  refine j_aload_n hx 0 dX11_draws_16 rfl ?_
  refine g12_9 hx hG ha kf_RX11_69 dX11_draws_17 ?_
  refine j_aload_n hx 0 dX11_draws_20 rfl ?_
  refine g12_6 hx hG ha kf_RX11_48 dX11_draws_21 ?_
  have f1 := z0f hF0 (zr (k := 6) (t2 := 4) hG ha rfl) (k := 10) rfl
  refine gN4_10 hx hG (zr (k := 6) (t2 := 4) hG ha rfl) kf_RX11_165 (v := (s0 (gP G a 6) 10)) (by rw [e_s2, zU_at (Or.inr (by decide)), e_s1, zU_at (Or.inr (by decide))]) dX11_draws_24 ?_
  refine j_callV hx hG (c_X4_settle hst (gP G a 9) ((s0 (gP G a 6) 10))) lk_RX11_124 (zr (k := 9) (t2 := 5) hG ha rfl) (by decide) rfl rfl rfl rfl [.int (zI ((s0 (gP G a 6) 10)))] ⟨rfl, hG, hS_s2, (zr (k := 9) (t2 := 5) hG ha rfl), (by omega)⟩ rfl rfl ⟨by decide, by decide⟩ ⟨by decide, by decide⟩ (k2 := 0) (n2 := 0) rfl rfl (Nat.le_of_ble_eq_true rfl) dX11_draws_27 (kVM (fun s3 hS_s3 hF_s3 q3 => ?_))
  exact j_vret hx hq rfl (by decide) (by decide) dX11_draws_30 ⟨rfl, rfl, hS_s3, (zFr_t (zFr_u (zFr_u zFr_rf e_s1 (zr (k := 6) (t2 := 4) hG ha rfl) (by decide)) e_s2 (zr (k := 6) (t2 := 4) hG ha rfl) (by decide)) hF_s3 (by decide)), trivial⟩

set_option maxHeartbeats 4000000 in
set_option maxRecDepth 20000 in
theorem c_X11_still {E : zE} {l : Launch} (hst : l.stackTraces = false) (a : Nat) : Con E l yX11_still cX11_still 2 (some .int) { frames := 1, cells := 0, slots := 0, locals := 21 } (fun G s vs => vs = [.ref a] ∧ zGK G ∧ zSK G s ∧ (gT G a = 12) ∧ (zS0 G s)) (fun G s _ => pI (fun r G2 s2 => G2 = G ∧ zSK G s2 ∧ zFr [4, 5] G s s2 ∧ (0 ≤ r ∧ r ≤ 0))) := by
  refine Con.mk hst (by decide) (fun G s vs h => by rw [h.1]; exact Nat.le_of_ble_eq_true rfl) ?_
  rintro X G s0 vs ⟨rfl, hG, hS0, ha, hF0⟩ rfl hx hq
  show JJ X E 2 G s0 0 0 [(0, .ref a)] 0 []
  refine j_aload_n hx 0 dX11_still_0 rfl ?_
  refine g12_6 hx hG ha kf_RX11_48 dX11_still_1 ?_
  have f1 := z0f hF0 (zr (k := 6) (t2 := 4) hG ha rfl) (k := 8) rfl
  refine gN4_8 hx hG (zr (k := 6) (t2 := 4) hG ha rfl) kf_RX11_217 rfl dX11_still_4 ?_
  refine j_if_eq hx 14 dX11_still_7 rfl (by omega) (fun h2 => ?_) (fun h2 => absurd h2 (by omega))
  refine j_iconst hx dX11_still_14 ?_
  refine j_istore_n hx [(1, .int (zI 0)), (0, .ref a)] dX11_still_15 (by decide) rfl ?_
  refine j_aload_n hx 1 dX11_still_16 rfl ?_
  refine g12_6 hx hG ha kf_RX11_48 dX11_still_17 ?_
  refine j_iconst hx dX11_still_20 ?_
  refine pN4_8 hx hG (zr (k := 6) (t2 := 4) hG ha rfl) kf_RX11_217 (by omega) dX11_still_21 ?_
  obtain ⟨s1, e_s1⟩ : ∃ z, z = zU s0 (gP G a 6) 8 0 := ⟨_, rfl⟩
  rw [← e_s1]
  have hS_s1 : zSK G s1 := by rw [e_s1]; exact zSK_F hS0 (zr (k := 6) (t2 := 4) hG ha rfl) rfl rfl rfl (by omega)
  refine j_aload_n hx 1 dX11_still_24 rfl ?_
  refine g12_9 hx hG ha kf_RX11_69 dX11_still_25 ?_
  refine j_aload_n hx 1 dX11_still_28 rfl ?_
  refine g12_6 hx hG ha kf_RX11_48 dX11_still_29 ?_
  have f3 := z0f hF0 (zr (k := 6) (t2 := 4) hG ha rfl) (k := 10) rfl
  refine gN4_10 hx hG (zr (k := 6) (t2 := 4) hG ha rfl) kf_RX11_165 (v := (s0 (gP G a 6) 10)) (by rw [e_s1, zU_at (Or.inr (by decide))]) dX11_still_32 ?_
  refine j_callV hx hG (c_X4_settle hst (gP G a 9) ((s0 (gP G a 6) 10))) lk_RX11_124 (zr (k := 9) (t2 := 5) hG ha rfl) (by decide) rfl rfl rfl rfl [.int (zI ((s0 (gP G a 6) 10)))] ⟨rfl, hG, hS_s1, (zr (k := 9) (t2 := 5) hG ha rfl), (by omega)⟩ rfl rfl ⟨by decide, by decide⟩ ⟨by decide, by decide⟩ (k2 := 0) (n2 := 0) rfl rfl (Nat.le_of_ble_eq_true rfl) dX11_still_35 (kVM (fun s2 hS_s2 hF_s2 q5 => ?_))
  refine j_iload_n hx 0 dX11_still_38 rfl ?_
  exact j_iret hx hq rfl (by decide) (by decide) dX11_still_39 ⟨0, rfl, rfl, hS_s2, (zFr_t (zFr_u zFr_rf e_s1 (zr (k := 6) (t2 := 4) hG ha rfl) (by decide)) hF_s2 (by decide)), (by omega)⟩

theorem lk_RX0_92 : LkV RX0 92 RX0 yX0_whose cX0_whose 1 (some .int) 0 := ⟨km_RX0_92, ki_yX0_whose, ks_RX0_yX0_whose, kn_RX0, kc_yX0_whose, rfl, by decide +kernel, by decide +kernel, by decide +kernel⟩
set_option maxHeartbeats 4000000 in
set_option maxRecDepth 20000 in
theorem c_X0_pack {E : zE} {l : Launch} (hst : l.stackTraces = false) (a : Nat) (b1 : Nat) (x2 : Int) : Con E l yX0_pack cX0_pack 12 none { frames := 2, cells := 0, slots := 0, locals := 42 } (fun G s vs => vs = [.ref a, .ref b1, .int (zI x2)] ∧ zGK G ∧ zSK G s ∧ (gT G a = 1) ∧ (gT G b1 = 53) ∧ (0 ≤ x2 ∧ x2 ≤ 0)) (fun G s _ => pV (fun G2 s2 => G2 = G ∧ zSK G s2 ∧ zFr [53] G s s2 ∧ True)) := by
  refine Con.mk hst (by decide) (fun G s vs h => by rw [h.1]; exact Nat.le_of_ble_eq_true rfl) ?_
  rintro X G s0 vs ⟨rfl, hG, hS0, ha, hb1, hx2⟩ rfl hx hq
  show JJ X E 12 G s0 0 0 [(0, .ref a), (1, .ref b1), (2, .int (zI x2))] 0 []
  refine j_iload_n hx 2 dX0_pack_0 rfl ?_
  refine j_if_lt hx 13 dX0_pack_1 rfl (by omega) (fun h1 => absurd h1 (by omega)) (fun h1 => ?_)
  refine j_iload_n hx 2 dX0_pack_4 rfl ?_
  refine j_aload_n hx 1 dX0_pack_5 rfl ?_
  have f2 := znb hG b1
  refine j_alen hx hG hb1 (by decide) (by decide) rfl dX0_pack_6 ?_
  refine j_bipush hx dX0_pack_7 rfl ?_
  refine j_isub hx (r := (gN G b1 : Int) - 7) dX0_pack_9 (by omega) ?_
  refine j_icmp_le hx 14 dX0_pack_10 rfl (by omega) (by omega) (fun h3 => ?_) (fun h3 => ?_)
  · skip
    refine j_iconst hx dX0_pack_14 ?_
    refine j_istore_n hx [(3, .int (zI 0)), (0, .ref a), (1, .ref b1), (2, .int (zI x2))] dX0_pack_15 (by decide) rfl ?_
    have c16_1 : ∀ (m_c16_1 : Nat) (v4 : Int) (s2 : zS), 2147483648 - v4 < m_c16_1 → (0 ≤ v4 ∧ v4 ≤ 7) → (zSK G s2) → (zFr [53] G s0 s2) → JJ X E 12 G s2 0 0 [(0, .ref a), (1, .ref b1), (2, .int (zI x2)), (3, .int (zI v4))] 16 [] := by
      intro m_c16_1
      induction m_c16_1 with
      | zero => intro v4 s2 hm_c16_1 fA3 hS_s2 hF_s2; exfalso; omega
      | succ m_c16_1 ih_c16_1 => 
        intro v4 s2 hm_c16_1 fA3 hS_s2 hF_s2
        refine j_iload_n hx 3 dX0_pack_16 rfl ?_
        refine j_bipush hx dX0_pack_17 rfl ?_
        refine j_icmp_ge hx 34 dX0_pack_19 rfl (by omega) ⟨by decide, by decide⟩ (fun h5 => ?_) (fun h5 => ?_)
        · skip
          refine j_aload_n hx 0 dX0_pack_34 rfl ?_
          refine j_callV hx hG (c_X0_whose hst a) lk_RX0_92 ha (by decide) rfl rfl rfl rfl [] ⟨rfl, hG, hS_s2, ha⟩ rfl rfl ⟨by decide, by decide⟩ ⟨by decide, by decide⟩ (k2 := 0) (n2 := 0) rfl rfl (Nat.le_of_ble_eq_true rfl) dX0_pack_35 (kIP (fun v6 q7 => ?_))
          refine j_iconst hx dX0_pack_38 ?_
          refine j_iadd hx (r := v6 + 1) dX0_pack_39 rfl ?_
          refine j_i2l hx dX0_pack_40 (by omega) ?_
          refine j_bipush hx dX0_pack_41 rfl ?_
          refine j_lshl hx dX0_pack_43 (fun w8 f9 f10 => ?_)
          refine j_lstore_n hx [(3, .long (zL w8)), (0, .ref a), (1, .ref b1), (2, .int (zI x2))] dX0_pack_44 (by decide) rfl ?_
          refine j_lconst hx dX0_pack_45 ?_
          show JJ X E 12 G s2 0 0 [(3, .long (zL w8)), (0, .ref a), (1, .ref b1), (2, .int (zI x2))] 46 [.long (zL 0)]
          refine j_lstore hx [(5, .long (zL 0)), (3, .long (zL w8)), (0, .ref a), (1, .ref b1), (2, .int (zI x2))] dX0_pack_46 (by decide) rfl ?_
          refine j_iconst hx dX0_pack_48 ?_
          refine j_istore hx [(7, .int (zI 0)), (5, .long (zL 0)), (3, .long (zL w8)), (0, .ref a), (1, .ref b1), (2, .int (zI x2))] dX0_pack_49 (by decide) rfl ?_
          refine j_iconst hx dX0_pack_51 ?_
          refine j_istore hx [(8, .int (zI 0)), (7, .int (zI 0)), (5, .long (zL 0)), (3, .long (zL w8)), (0, .ref a), (1, .ref b1), (2, .int (zI x2))] dX0_pack_52 (by decide) rfl ?_
          refine j_iconst hx dX0_pack_54 ?_
          refine j_istore hx [(9, .int (zI 0)), (8, .int (zI 0)), (7, .int (zI 0)), (5, .long (zL 0)), (3, .long (zL w8)), (0, .ref a), (1, .ref b1), (2, .int (zI x2))] dX0_pack_55 (by decide) rfl ?_
          have c57_6 : ∀ (m_c57_6 : Nat) (w11 : Int) (v12 : Int), 2147483648 - v12 < m_c57_6 → ((-9223372036854775808) ≤ w11 ∧ w11 ≤ 9223372036854775807) → (0 ≤ v12 ∧ v12 ≤ 7) → JJ X E 12 G s2 0 0 [(0, .ref a), (1, .ref b1), (2, .int (zI x2)), (3, .long (zL w11)), (9, .int (zI v12))] 57 [] := by
            intro m_c57_6
            induction m_c57_6 with
            | zero => intro w11 v12 hm_c57_6 fA7 fA8; exfalso; omega
            | succ m_c57_6 ih_c57_6 => 
              intro w11 v12 hm_c57_6 fA7 fA8
              refine j_iload hx 4 dX0_pack_57 rfl ?_
              refine j_bipush hx dX0_pack_59 rfl ?_
              refine j_icmp_ge hx 175 dX0_pack_61 rfl (by omega) ⟨by decide, by decide⟩ (fun h13 => ?_) (fun h13 => ?_)
              · skip
                refine j_aload_n hx 1 dX0_pack_175 rfl ?_
                refine j_iload_n hx 2 dX0_pack_176 rfl ?_
                refine j_iconst hx dX0_pack_177 ?_
                refine j_iadd hx (r := x2 + 5) dX0_pack_178 rfl ?_
                refine j_lload_n hx 3 dX0_pack_179 rfl ?_
                refine j_last hx hG hb1 (by decide) rfl rfl (by omega) (by omega) (j := (x2 + 5).toNat) rfl dX0_pack_180 ?_
                obtain ⟨s9, e_s9⟩ : ∃ z, z = zU s2 b1 (x2 + 5).toNat w11 := ⟨_, rfl⟩
                rw [← e_s9]
                have hS_s9 : zSK G s9 := by rw [e_s9]; exact zSK_A hS_s2 hb1 rfl rfl rfl (by omega)
                exact j_vret hx hq rfl (by decide) (by decide) dX0_pack_181 ⟨rfl, rfl, hS_s9, (zFr_u (zFr_t zFr_rf hF_s2 (by decide)) e_s9 hb1 (by decide)), trivial⟩
              · skip
                refine j_aload_n hx 0 dX0_pack_64 rfl ?_
                refine j_iload hx 4 dX0_pack_65 rfl ?_
                refine j_callV hx hG (c_X0_pileOf hst a v12) lk_RX0_47 ha (by decide) rfl rfl rfl rfl [.int (zI v12)] ⟨rfl, hG, hS_s2, ha, (by omega)⟩ rfl rfl ⟨by decide, by decide⟩ ⟨by decide, by decide⟩ (k2 := 0) (n2 := 0) rfl rfl (Nat.le_of_ble_eq_true rfl) dX0_pack_67 (kRP (fun r14 q15 => ?_))
                refine j_astore hx [(10, .ref r14), (0, .ref a), (1, .ref b1), (2, .int (zI x2)), (3, .long (zL w11)), (9, .int (zI v12))] dX0_pack_70 (by decide) rfl ?_
                refine j_lload_n hx 4 dX0_pack_72 rfl ?_
                refine j_aload hx 0 dX0_pack_73 rfl ?_
                have f16 := zf hS0 q15 (k := 1) rfl
                refine gN7_1 hx hG q15 kf_RX0_43 (v := (s0 r14 1)) (by rw [(zFr_g hF_s2 q15 (by decide))]) dX0_pack_75 ?_
                refine j_i2l hx dX0_pack_78 (by omega) ?_
                refine j_bipush hx dX0_pack_79 rfl ?_
                refine j_iload hx 5 dX0_pack_81 rfl ?_
                refine j_imul hx (r := 6 * v12) dX0_pack_83 rfl ?_
                refine j_lshl hx dX0_pack_84 (fun w17 f18 f19 => ?_)
                refine j_lor hx dX0_pack_85 (fun w20 f21 f22 => ?_)
                refine j_lstore_n hx [(3, .long (zL w20)), (10, .ref r14), (0, .ref a), (1, .ref b1), (2, .int (zI x2)), (9, .int (zI v12))] dX0_pack_86 (by decide) rfl ?_
                refine j_iconst hx dX0_pack_87 ?_
                refine j_istore hx [(11, .int (zI 0)), (3, .long (zL w20)), (10, .ref r14), (0, .ref a), (1, .ref b1), (2, .int (zI x2)), (9, .int (zI v12))] dX0_pack_88 (by decide) rfl ?_
                refine j_iload hx 0 dX0_pack_90 rfl ?_
                refine j_aload hx 2 dX0_pack_92 rfl ?_
                refine gN7_1 hx hG q15 kf_RX0_43 (v := (s0 r14 1)) (by rw [(zFr_g hF_s2 q15 (by decide))]) dX0_pack_94 ?_
                refine j_icmp_ge hx 169 dX0_pack_97 rfl ⟨by decide, by decide⟩ (by omega) (fun h23 => ?_) (fun h23 => absurd h23 (by omega))
                refine j_iinc hx 6 [(9, .int (zI (v12 + 1))), (11, .int (zI 0)), (3, .long (zL w20)), (10, .ref r14), (0, .ref a), (1, .ref b1), (2, .int (zI x2))] dX0_pack_169 rfl (by omega) (by decide) rfl ?_
                refine j_goto hx 57 dX0_pack_172 rfl ?_
                exact j_sub [4, 5, 6, 2, 0] [(0, .ref a), (1, .ref b1), (2, .int (zI x2)), (3, .long (zL w20)), (9, .int (zI (v12 + 1)))] rfl (ih_c57_6 w20 (v12 + 1) (by omega) (by omega) (by omega))
          exact j_sub [5, 6, 7, 4, 0] [(0, .ref a), (1, .ref b1), (2, .int (zI x2)), (3, .long (zL w8)), (9, .int (zI 0))] rfl (c57_6 (2147483648 * 4) w8 0 (by omega) (by omega) (by omega))
        · skip
          refine j_aload_n hx 1 dX0_pack_22 rfl ?_
          refine j_iload_n hx 2 dX0_pack_23 rfl ?_
          refine j_iload_n hx 3 dX0_pack_24 rfl ?_
          refine j_iadd hx (r := x2 + v4) dX0_pack_25 rfl ?_
          refine j_lconst hx dX0_pack_26 ?_
          show JJ X E 12 G s2 0 0 [(0, .ref a), (1, .ref b1), (2, .int (zI x2)), (3, .int (zI v4))] 27 [.long (zL 0), .int (zI (x2 + v4)), .ref b1]
          refine j_last hx hG hb1 (by decide) rfl rfl (by omega) (by omega) (j := (x2 + v4).toNat) rfl dX0_pack_27 ?_
          obtain ⟨s10, e_s10⟩ : ∃ z, z = zU s2 b1 (x2 + v4).toNat 0 := ⟨_, rfl⟩
          rw [← e_s10]
          have hS_s10 : zSK G s10 := by rw [e_s10]; exact zSK_A hS_s2 hb1 rfl rfl rfl (by omega)
          refine j_iinc hx 3 [(3, .int (zI (v4 + 1))), (0, .ref a), (1, .ref b1), (2, .int (zI x2))] dX0_pack_28 rfl (by omega) (by decide) rfl ?_
          refine j_goto hx 16 dX0_pack_31 rfl ?_
          exact j_sub [1, 2, 3, 0] [(0, .ref a), (1, .ref b1), (2, .int (zI x2)), (3, .int (zI (v4 + 1)))] rfl (ih_c16_1 (v4 + 1) s10 (by omega) (by omega) hS_s10 (zFr_u (zFr_t zFr_rf hF_s2 (by decide)) e_s10 hb1 (by decide)))
    exact j_sub [1, 2, 3, 0] [(0, .ref a), (1, .ref b1), (2, .int (zI x2)), (3, .int (zI 0))] rfl (c16_1 (2147483648 * 4) 0 s0 (by omega) (by omega) hS0 zFr_rf)
  · skip
    exact j_vret hx hq rfl (by decide) (by decide) dX0_pack_13 ⟨rfl, rfl, hS0, zFr_rf, trivial⟩

set_option maxHeartbeats 4000000 in
set_option maxRecDepth 20000 in
theorem c_X3_tallyOf {E : zE} {l : Launch} (hst : l.stackTraces = false) (a : Nat) (x1 : Int) : Con E l yX3_tallyOf cX3_tallyOf 2 (some .int) { frames := 0, cells := 0, slots := 0, locals := 0 } (fun G s vs => vs = [.ref a, .int (zI x1)] ∧ zGK G ∧ zSK G s ∧ (gT G a = 4) ∧ ((-2147483648) ≤ x1 ∧ x1 ≤ 2147483647)) (fun G s _ => pI (fun r G2 s2 => G2 = G ∧ s2 = s ∧ ((-2147483648) ≤ r ∧ r ≤ 2147483647))) := by
  refine Con.mk hst (by decide) (fun G s vs h => by rw [h.1]; exact Nat.le_of_ble_eq_true rfl) ?_
  rintro X G s0 vs ⟨rfl, hG, hS0, ha, hx1⟩ rfl hx hq
  show JJ X E 2 G s0 0 0 [(0, .ref a), (1, .int (zI x1))] 0 []
  refine j_iload_n hx 1 dX3_tallyOf_0 rfl ?_
  refine j_if_lt hx 22 dX3_tallyOf_1 rfl (by omega) (fun h1 => ?_) (fun h1 => ?_)
  · skip
    refine j_iconst hx dX3_tallyOf_22 ?_
    exact j_iret hx hq rfl (by decide) (by decide) dX3_tallyOf_23 ⟨0, rfl, rfl, rfl, (by omega)⟩
  · skip
    refine j_iload_n hx 1 dX3_tallyOf_4 rfl ?_
    refine j_aload_n hx 0 dX3_tallyOf_5 rfl ?_
    refine g4_4 hx hG ha kf_RX3_28 dX3_tallyOf_6 ?_
    refine j_alen hx hG (zr (k := 4) (t2 := 50) hG ha rfl) (by decide) (by decide) (zlen hG (zr (k := 4) (t2 := 50) hG ha rfl) (n := 21) rfl rfl) dX3_tallyOf_9 ?_
    refine j_icmp_ge hx 22 dX3_tallyOf_10 rfl (by omega) ⟨by decide, by decide⟩ (fun h2 => ?_) (fun h2 => ?_)
    · skip
      refine j_iconst hx dX3_tallyOf_22 ?_
      exact j_iret hx hq rfl (by decide) (by decide) dX3_tallyOf_23 ⟨0, rfl, rfl, rfl, (by omega)⟩
    · skip
      refine j_aload_n hx 0 dX3_tallyOf_13 rfl ?_
      refine g4_4 hx hG ha kf_RX3_28 dX3_tallyOf_14 ?_
      refine j_iload_n hx 1 dX3_tallyOf_17 rfl ?_
      have f3 := zaI (j := (x1).toNat) hS0 (zr (k := 4) (t2 := 50) hG ha rfl) rfl (zlen hG (zr (k := 4) (t2 := 50) hG ha rfl) (n := 21) rfl rfl) (show 0 ≤ x1 by omega) (by omega) rfl
      refine j_iald hx hG (zr (k := 4) (t2 := 50) hG ha rfl) (by decide) rfl (zlen hG (zr (k := 4) (t2 := 50) hG ha rfl) (n := 21) rfl rfl) (by omega) (by omega) (j := (x1).toNat) rfl rfl dX3_tallyOf_18 ?_
      refine j_goto hx 23 dX3_tallyOf_19 rfl ?_
      exact j_iret hx hq rfl (by decide) (by decide) dX3_tallyOf_23 ⟨(s0 (gP G a 4) (x1).toNat), rfl, rfl, rfl, (by omega)⟩

theorem lk_RX4_78 : LkV RX4 78 RX0 yX0_pack cX0_pack 12 none 2 := ⟨km_RX4_78, ki_yX0_pack, ks_RX0_yX0_pack, kn_RX0, kc_yX0_pack, rfl, by decide +kernel, by decide +kernel, by decide +kernel⟩
theorem lk_RX4_87 : LkV RX4 87 RX3 yX3_tallyOf cX3_tallyOf 2 (some .int) 1 := ⟨km_RX4_87, ki_yX3_tallyOf, ks_RX3_yX3_tallyOf, kn_RX3, kc_yX3_tallyOf, rfl, by decide +kernel, by decide +kernel, by decide +kernel⟩
set_option maxHeartbeats 4000000 in
set_option maxRecDepth 20000 in
theorem c_X4_mark {E : zE} {l : Launch} (hst : l.stackTraces = false) (a : Nat) (b1 : Nat) : Con E l yX4_mark cX4_mark 5 none { frames := 3, cells := 0, slots := 0, locals := 73 } (fun G s vs => vs = [.ref a, .ref b1] ∧ zGK G ∧ zSK G s ∧ (gT G a = 5) ∧ (gT G b1 = 4) ∧ (s a 4 = 0)) (fun G s _ => pV (fun G2 s2 => G2 = G ∧ zSK G s2 ∧ zFr [5, 53, 59, 60] G s s2 ∧ True)) := by
  refine Con.mk hst (by decide) (fun G s vs h => by rw [h.1]; exact Nat.le_of_ble_eq_true rfl) ?_
  rintro X G s0 vs ⟨rfl, hG, hS0, ha, hb1, e0⟩ rfl hx hq
  show JJ X E 5 G s0 0 0 [(0, .ref a), (1, .ref b1)] 0 []
  refine j_aload_n hx 0 dX4_mark_0 rfl ?_
  refine g5_4 hx hG ha kf_RX4_31 rfl dX4_mark_1 ?_
  refine j_bipush hx dX4_mark_4 rfl ?_
  refine j_imul hx (r := 7 * (s0 a 4)) dX4_mark_6 (by omega) ?_
  refine j_istore_n hx [(2, .int (zI (7 * (s0 a 4)))), (0, .ref a), (1, .ref b1)] dX4_mark_7 (by decide) rfl ?_
  refine j_aload_n hx 1 dX4_mark_8 rfl ?_
  refine g5_4 hx hG ha kf_RX4_31 rfl dX4_mark_9 ?_
  refine j_if_lt hx 39 dX4_mark_12 rfl (by omega) (fun h1 => absurd h1 (by omega)) (fun h1 => ?_)
  refine j_aload_n hx 1 dX4_mark_15 rfl ?_
  refine g5_4 hx hG ha kf_RX4_31 rfl dX4_mark_16 ?_
  refine j_aload_n hx 1 dX4_mark_19 rfl ?_
  refine g5_3 hx hG ha kf_RX4_24 dX4_mark_20 ?_
  refine j_alen hx hG (zr (k := 3) (t2 := 60) hG ha rfl) (by decide) (by decide) (zlen hG (zr (k := 3) (t2 := 60) hG ha rfl) (n := 512) rfl rfl) dX4_mark_23 ?_
  refine j_icmp_ge hx 39 dX4_mark_24 rfl (by omega) ⟨by decide, by decide⟩ (fun h2 => absurd h2 (by omega)) (fun h2 => ?_)
  refine j_iload_n hx 0 dX4_mark_27 rfl ?_
  refine j_aload_n hx 1 dX4_mark_28 rfl ?_
  refine g5_1 hx hG ha kf_RX4_15 dX4_mark_29 ?_
  have f3 := znb hG (gP G a 1)
  refine j_alen hx hG (zr (k := 1) (t2 := 53) hG ha rfl) (by decide) (by decide) rfl dX4_mark_32 ?_
  refine j_bipush hx dX4_mark_33 rfl ?_
  refine j_isub hx (r := (gN G (gP G a 1) : Int) - 7) dX4_mark_35 (by omega) ?_
  refine j_icmp_le hx 40 dX4_mark_36 rfl (by omega) (by omega) (fun h4 => ?_) (fun h4 => ?_)
  · skip
    refine j_aload_n hx 2 dX4_mark_40 rfl ?_
    refine gN4_1 hx hG hb1 kf_RX4_74 dX4_mark_41 ?_
    refine j_aload_n hx 1 dX4_mark_44 rfl ?_
    refine g5_1 hx hG ha kf_RX4_15 dX4_mark_45 ?_
    refine j_iload_n hx 0 dX4_mark_48 rfl ?_
    refine j_callV hx hG (c_X0_pack hst (gP G b1 1) (gP G a 1) (7 * (s0 a 4))) lk_RX4_78 (zr (k := 1) (t2 := 1) hG hb1 rfl) (by decide) rfl rfl rfl rfl [.ref (gP G a 1), .int (zI (7 * (s0 a 4)))] ⟨rfl, hG, hS0, (zr (k := 1) (t2 := 1) hG hb1 rfl), (zr (k := 1) (t2 := 53) hG ha rfl), (by omega)⟩ rfl rfl ⟨by decide, by decide⟩ ⟨by decide, by decide⟩ (k2 := 0) (n2 := 0) rfl rfl (Nat.le_of_ble_eq_true rfl) dX4_mark_49 (kVM (fun s1 hS_s1 hF_s1 q6 => ?_))
    refine j_aload_n hx 1 dX4_mark_52 rfl ?_
    refine g5_1 hx hG ha kf_RX4_15 dX4_mark_53 ?_
    refine j_iload_n hx 0 dX4_mark_56 rfl ?_
    refine j_bipush hx dX4_mark_57 rfl ?_
    refine j_iadd hx (r := 7 * (s0 a 4) + 6) dX4_mark_59 (by omega) ?_
    refine j_aload_n hx 2 dX4_mark_60 rfl ?_
    have f7 := zf hS0 hb1 (k := 9) rfl
    refine gN4_9 hx hG hb1 kf_RX4_84 (v := (s0 b1 9)) (by rw [(zFr_g hF_s1 hb1 (by decide))]) dX4_mark_61 ?_
    refine j_i2l hx dX4_mark_64 (by omega) ?_
    refine j_last hx hG (zr (k := 1) (t2 := 53) hG ha rfl) (by decide) rfl rfl (by omega) (by omega) (j := (7 * (s0 a 4) + 6).toNat) rfl dX4_mark_65 ?_
    obtain ⟨s2, e_s2⟩ : ∃ z, z = zU s1 (gP G a 1) (7 * (s0 a 4) + 6).toNat ((s0 b1 9)) := ⟨_, rfl⟩
    rw [← e_s2]
    have hS_s2 : zSK G s2 := by rw [e_s2]; exact zSK_A hS_s1 (zr (k := 1) (t2 := 53) hG ha rfl) rfl rfl rfl (by omega)
    refine j_iconst hx dX4_mark_66 ?_
    refine j_istore_n hx [(3, .int (zI 0)), (2, .int (zI (7 * (s0 a 4)))), (0, .ref a), (1, .ref b1)] dX4_mark_67 (by decide) rfl ?_
    have c68_3 : ∀ (m_c68_3 : Nat) (v8 : Int) (s4 : zS), 2147483648 - v8 < m_c68_3 → (0 ≤ v8 ∧ v8 ≤ 21) → (zSK G s4) → (zFr [59] G s2 s4) → JJ X E 5 G s4 0 0 [(0, .ref a), (1, .ref b1), (3, .int (zI v8))] 68 [] := by
      intro m_c68_3
      induction m_c68_3 with
      | zero => intro v8 s4 hm_c68_3 fA5 hS_s4 hF_s4; exfalso; omega
      | succ m_c68_3 ih_c68_3 => 
        intro v8 s4 hm_c68_3 fA5 hS_s4 hF_s4
        refine j_iload_n hx 2 dX4_mark_68 rfl ?_
        refine j_bipush hx dX4_mark_69 rfl ?_
        refine j_icmp_ge hx 113 dX4_mark_71 rfl (by omega) ⟨by decide, by decide⟩ (fun h9 => ?_) (fun h9 => ?_)
        · skip
          refine j_aload_n hx 0 dX4_mark_113 rfl ?_
          refine g5_3 hx hG ha kf_RX4_24 dX4_mark_114 ?_
          refine j_aload_n hx 0 dX4_mark_117 rfl ?_
          refine g5_4 hx hG ha kf_RX4_31 (v := (s0 a 4)) (by rw [(zFr_g hF_s4 ha (by decide)), e_s2, zU_at (Or.inl (zne (zr (k := 1) (t2 := 53) hG ha rfl) ha (by decide))), (zFr_g hF_s1 ha (by decide))]) dX4_mark_118 ?_
          refine j_aload_n hx 1 dX4_mark_121 rfl ?_
          have f10 := zf hS0 hb1 (k := 10) rfl
          refine gN4_10 hx hG hb1 kf_RX4_46 (v := (s0 b1 10)) (by rw [(zFr_g hF_s4 hb1 (by decide)), e_s2, zU_at (Or.inl (zne (zr (k := 1) (t2 := 53) hG ha rfl) hb1 (by decide))), (zFr_g hF_s1 hb1 (by decide))]) dX4_mark_122 ?_
          refine j_iast hx hG (zr (k := 3) (t2 := 60) hG ha rfl) (by decide) rfl (zlen hG (zr (k := 3) (t2 := 60) hG ha rfl) (n := 512) rfl rfl) (by omega) (by omega) (j := ((s0 a 4)).toNat) rfl dX4_mark_125 ?_
          obtain ⟨s8, e_s8⟩ : ∃ z, z = zU s4 (gP G a 3) ((s0 a 4)).toNat ((s0 b1 10)) := ⟨_, rfl⟩
          rw [← e_s8]
          have hS_s8 : zSK G s8 := by rw [e_s8]; exact zSK_A hS_s4 (zr (k := 3) (t2 := 60) hG ha rfl) rfl rfl rfl (by omega)
          refine j_aload_n hx 0 dX4_mark_126 rfl ?_
          refine j_dup hx dX4_mark_127 rfl ?_
          refine g5_4 hx hG ha kf_RX4_31 (v := (s0 a 4)) (by rw [e_s8, zU_at (Or.inl (zne (zr (k := 3) (t2 := 60) hG ha rfl) ha (by decide))), (zFr_g hF_s4 ha (by decide)), e_s2, zU_at (Or.inl (zne (zr (k := 1) (t2 := 53) hG ha rfl) ha (by decide))), (zFr_g hF_s1 ha (by decide))]) dX4_mark_128 ?_
          refine j_iconst hx dX4_mark_131 ?_
          refine j_iadd hx (r := (s0 a 4) + 1) dX4_mark_132 (by omega) ?_
          refine p5_4 hx hG ha kf_RX4_31 dX4_mark_133 ?_
          obtain ⟨s9, e_s9⟩ : ∃ z, z = zU s8 a 4 ((s0 a 4) + 1) := ⟨_, rfl⟩
          rw [← e_s9]
          have hS_s9 : zSK G s9 := by rw [e_s9]; exact zSK_F hS_s8 ha rfl rfl rfl (by omega)
          exact j_vret hx hq rfl (by decide) (by decide) dX4_mark_136 ⟨rfl, rfl, hS_s9, (zFr_u (zFr_u (zFr_t (zFr_u (zFr_t zFr_rf hF_s1 (by decide)) e_s2 (zr (k := 1) (t2 := 53) hG ha rfl) (by decide)) hF_s4 (by decide)) e_s8 (zr (k := 3) (t2 := 60) hG ha rfl) (by decide)) e_s9 ha (by decide)), trivial⟩
        · skip
          refine j_aload_n hx 0 dX4_mark_74 rfl ?_
          refine g5_4 hx hG ha kf_RX4_31 (v := (s0 a 4)) (by rw [(zFr_g hF_s4 ha (by decide)), e_s2, zU_at (Or.inl (zne (zr (k := 1) (t2 := 53) hG ha rfl) ha (by decide))), (zFr_g hF_s1 ha (by decide))]) dX4_mark_75 ?_
          refine j_bipush hx dX4_mark_78 rfl ?_
          refine j_imul hx (r := 21 * (s0 a 4)) dX4_mark_80 (by omega) ?_
          refine j_iload_n hx 2 dX4_mark_81 rfl ?_
          refine j_iadd hx (r := 21 * (s0 a 4) + v8) dX4_mark_82 (by omega) ?_
          refine j_istore hx [(4, .int (zI (21 * (s0 a 4) + v8))), (0, .ref a), (1, .ref b1), (3, .int (zI v8))] dX4_mark_83 (by decide) rfl ?_
          refine j_iload hx 0 dX4_mark_85 rfl ?_
          refine j_aload_n hx 1 dX4_mark_87 rfl ?_
          refine g5_2 hx hG ha kf_RX4_20 dX4_mark_88 ?_
          refine j_alen hx hG (zr (k := 2) (t2 := 59) hG ha rfl) (by decide) (by decide) (zlen hG (zr (k := 2) (t2 := 59) hG ha rfl) (n := 10752) rfl rfl) dX4_mark_91 ?_
          refine j_icmp_ge hx 107 dX4_mark_92 rfl (by omega) ⟨by decide, by decide⟩ (fun h11 => absurd h11 (by omega)) (fun h11 => ?_)
          refine j_aload_n hx 1 dX4_mark_95 rfl ?_
          refine g5_2 hx hG ha kf_RX4_20 dX4_mark_96 ?_
          refine j_iload hx 0 dX4_mark_99 rfl ?_
          refine j_aload_n hx 2 dX4_mark_101 rfl ?_
          refine j_iload_n hx 3 dX4_mark_102 rfl ?_
          refine j_callV hx hG (c_X3_tallyOf hst b1 v8) lk_RX4_87 hb1 (by decide) rfl rfl rfl rfl [.int (zI v8)] ⟨rfl, hG, hS_s4, hb1, (by omega)⟩ rfl rfl ⟨by decide, by decide⟩ ⟨by decide, by decide⟩ (k2 := 0) (n2 := 0) rfl rfl (Nat.le_of_ble_eq_true rfl) dX4_mark_103 (kIP (fun v12 q13 => ?_))
          refine j_iast hx hG (zr (k := 2) (t2 := 59) hG ha rfl) (by decide) rfl (zlen hG (zr (k := 2) (t2 := 59) hG ha rfl) (n := 10752) rfl rfl) (by omega) (by omega) (j := (21 * (s0 a 4) + v8).toNat) rfl dX4_mark_106 ?_
          obtain ⟨s10, e_s10⟩ : ∃ z, z = zU s4 (gP G a 2) (21 * (s0 a 4) + v8).toNat v12 := ⟨_, rfl⟩
          rw [← e_s10]
          have hS_s10 : zSK G s10 := by rw [e_s10]; exact zSK_A hS_s4 (zr (k := 2) (t2 := 59) hG ha rfl) rfl rfl rfl (by omega)
          refine j_iinc hx 3 [(3, .int (zI (v8 + 1))), (4, .int (zI (21 * (s0 a 4) + v8))), (0, .ref a), (1, .ref b1)] dX4_mark_107 rfl (by omega) (by decide) rfl ?_
          refine j_goto hx 68 dX4_mark_110 rfl ?_
          exact j_sub [2, 3, 0] [(0, .ref a), (1, .ref b1), (3, .int (zI (v8 + 1)))] rfl (ih_c68_3 (v8 + 1) s10 (by omega) (by omega) hS_s10 (zFr_u (zFr_t zFr_rf hF_s4 (by decide)) e_s10 (zr (k := 2) (t2 := 59) hG ha rfl) (by decide)))
    exact j_sub [2, 3, 0] [(0, .ref a), (1, .ref b1), (3, .int (zI 0))] rfl (c68_3 (2147483648 * 4) 0 s2 (by omega) (by omega) hS_s2 zFr_rf)
  · skip
    exact j_vret hx hq rfl (by decide) (by decide) dX4_mark_39 ⟨rfl, rfl, hS0, zFr_rf, trivial⟩

theorem lk_RX3_123 : LkV RX3 123 RX0 yX0_whose cX0_whose 1 (some .int) 0 := ⟨km_RX3_123, ki_yX0_whose, ks_RX0_yX0_whose, kn_RX0, kc_yX0_whose, rfl, by decide +kernel, by decide +kernel, by decide +kernel⟩
set_option maxHeartbeats 4000000 in
set_option maxRecDepth 20000 in
theorem c_X3_playTurn {E : zE} {l : Launch} (hst : l.stackTraces = false) (a : Nat) : Con E l yX3_playTurn cX3_playTurn 3 (some .boolean) { frames := 2, cells := 0, slots := 0, locals := 42 } (fun G s vs => vs = [.ref a] ∧ zGK G ∧ zSK G s ∧ (gT G a = 4)) (fun G s _ => pI (fun r G2 s2 => G2 = G ∧ s2 = s ∧ (0 ≤ r ∧ r ≤ 0))) := by
  refine Con.mk hst (by decide) (fun G s vs h => by rw [h.1]; exact Nat.le_of_ble_eq_true rfl) ?_
  rintro X G s0 vs ⟨rfl, hG, hS0, ha⟩ rfl hx hq
  show JJ X E 3 G s0 0 0 [(0, .ref a)] 0 []
  refine j_aload_n hx 0 dX3_playTurn_0 rfl ?_
  refine g4_1 hx hG ha kf_RX3_14 dX3_playTurn_1 ?_
  refine j_callV hx hG (c_X0_whose hst (gP G a 1)) lk_RX3_123 (zr (k := 1) (t2 := 1) hG ha rfl) (by decide) rfl rfl rfl rfl [] ⟨rfl, hG, hS0, (zr (k := 1) (t2 := 1) hG ha rfl)⟩ rfl rfl ⟨by decide, by decide⟩ ⟨by decide, by decide⟩ (k2 := 0) (n2 := 0) rfl rfl (Nat.le_of_ble_eq_true rfl) dX3_playTurn_4 (kIP (fun v1 q2 => ?_))
  refine j_istore_n hx [(1, .int (zI v1)), (0, .ref a)] dX3_playTurn_7 (by decide) rfl ?_
  refine j_iload_n hx 0 dX3_playTurn_8 rfl ?_
  refine j_iconst hx dX3_playTurn_9 ?_
  refine j_icmp_ne hx 15 dX3_playTurn_10 rfl (by omega) ⟨by decide, by decide⟩ (fun h3 => absurd h3 (by omega)) (fun h3 => ?_)
  refine j_iconst hx dX3_playTurn_13 ?_
  exact j_zret hx hq rfl (by decide) (by decide) dX3_playTurn_14 (by omega) ⟨0, rfl, rfl, rfl, (by omega)⟩

theorem lk_RX4_38 : LkV RX4 38 RX4 yX4_mark cX4_mark 5 none 1 := ⟨km_RX4_38, ki_yX4_mark, ks_RX4_yX4_mark, kn_RX4, kc_yX4_mark, rfl, by decide +kernel, by decide +kernel, by decide +kernel⟩
theorem lk_RX4_42 : LkV RX4 42 RX3 yX3_playTurn cX3_playTurn 3 (some .boolean) 0 := ⟨km_RX4_42, ki_yX3_playTurn, ks_RX3_yX3_playTurn, kn_RX3, kc_yX3_playTurn, rfl, by decide +kernel, by decide +kernel, by decide +kernel⟩
set_option maxHeartbeats 4000000 in
set_option maxRecDepth 20000 in
theorem c_X4_playTurns {E : zE} {l : Launch} (hst : l.stackTraces = false) (a : Nat) (b1 : Nat) (x2 : Int) : Con E l yX4_playTurns cX4_playTurns 4 (some .int) { frames := 4, cells := 0, slots := 0, locals := 97 } (fun G s vs => vs = [.ref a, .ref b1, .int (zI x2)] ∧ zGK G ∧ zSK G s ∧ (gT G a = 5) ∧ (gT G b1 = 4) ∧ (1 ≤ x2 ∧ x2 ≤ 999) ∧ (s a 4 = 0)) (fun G s _ => pI (fun r G2 s2 => G2 = G ∧ zSK G s2 ∧ zFr [5, 53, 59, 60] G s s2 ∧ (0 ≤ r ∧ r ≤ 0))) := by
  refine Con.mk hst (by decide) (fun G s vs h => by rw [h.1]; exact Nat.le_of_ble_eq_true rfl) ?_
  rintro X G s0 vs ⟨rfl, hG, hS0, ha, hb1, hx2, e0⟩ rfl hx hq
  show JJ X E 4 G s0 0 0 [(0, .ref a), (1, .ref b1), (2, .int (zI x2))] 0 []
  refine j_aload_n hx 0 dX4_playTurns_0 rfl ?_
  refine j_aload_n hx 1 dX4_playTurns_1 rfl ?_
  refine j_callV hx hG (c_X4_mark hst a b1) lk_RX4_38 ha (by decide) rfl rfl rfl rfl [.ref b1] ⟨rfl, hG, hS0, ha, hb1, (by omega)⟩ rfl rfl ⟨by decide, by decide⟩ ⟨by decide, by decide⟩ (k2 := 0) (n2 := 0) rfl rfl (Nat.le_of_ble_eq_true rfl) dX4_playTurns_2 (kVM (fun s1 hS_s1 hF_s1 q2 => ?_))
  refine j_iconst hx dX4_playTurns_5 ?_
  refine j_istore_n hx [(3, .int (zI 0)), (0, .ref a), (1, .ref b1), (2, .int (zI x2))] dX4_playTurns_6 (by decide) rfl ?_
  refine j_iload_n hx 0 dX4_playTurns_7 rfl ?_
  refine j_iload_n hx 3 dX4_playTurns_8 rfl ?_
  refine j_icmp_ge hx 42 dX4_playTurns_9 rfl ⟨by decide, by decide⟩ (by omega) (fun h3 => absurd h3 (by omega)) (fun h3 => ?_)
  refine j_aload_n hx 2 dX4_playTurns_12 rfl ?_
  refine j_callV hx hG (c_X3_playTurn hst b1) lk_RX4_42 hb1 (by decide) rfl rfl rfl rfl [] ⟨rfl, hG, hS_s1, hb1⟩ rfl rfl ⟨by decide, by decide⟩ ⟨by decide, by decide⟩ (k2 := 0) (n2 := 0) rfl rfl (Nat.le_of_ble_eq_true rfl) dX4_playTurns_13 (kIP (fun v4 q5 => ?_))
  refine j_if_ne hx 21 dX4_playTurns_16 rfl (by omega) (fun h6 => absurd h6 (by omega)) (fun h6 => ?_)
  refine j_iload_n hx 0 dX4_playTurns_19 rfl ?_
  exact j_iret hx hq rfl (by decide) (by decide) dX4_playTurns_20 ⟨0, rfl, rfl, hS_s1, (zFr_t zFr_rf hF_s1 (by decide)), (by omega)⟩

theorem lk_RX11_224 : LkV RX11 224 RX4 yX4_playTurns cX4_playTurns 4 (some .int) 2 := ⟨km_RX11_224, ki_yX4_playTurns, ks_RX4_yX4_playTurns, kn_RX4, kc_yX4_playTurns, rfl, by decide +kernel, by decide +kernel, by decide +kernel⟩
set_option maxHeartbeats 4000000 in
set_option maxRecDepth 20000 in
theorem c_X11_play {E : zE} {l : Launch} (hst : l.stackTraces = false) (a : Nat) (x1 : Int) : ConX E l yX11_play cX11_play 2 (some .int) { frames := 7, cells := 1, slots := 6, locals := 120 } (fun G s vs => vs = [.ref a, .int (zI x1)] ∧ zGK G ∧ zSK G s ∧ (gT G a = 12) ∧ ((-2147483648) ≤ x1 ∧ x1 ≤ 2147483647) ∧ (zS0 G s)) (fun G s _ => pI (fun r G2 s2 => G2 = G ∧ zSK G s2 ∧ zFr [5, 53, 59, 60] G s s2 ∧ (0 ≤ r ∧ r ≤ 0) ∧ (1 ≤ x1 ∧ x1 ≤ 999))) (fun G s _ Ex G2 s2 => G2 = G ∧ zSK G s2 ∧ zFr [5, 12, 53, 59, 60] G s s2 ∧ ((Ex = "java/lang/IllegalArgumentException" ∧ (¬ (1 ≤ x1 ∧ x1 ≤ 999))))) := by
  refine ConX.mk hst (by decide) (fun G s vs h => by rw [h.1]; exact Nat.le_of_ble_eq_true rfl) ?_
  rintro X G s0 vs ⟨rfl, hG, hS0, ha, hx1, hF0⟩ rfl hx hq
  show JJ X E 2 G s0 0 0 [(0, .ref a), (1, .int (zI x1))] 0 []
  refine j_aload_n hx 0 dX11_play_0 rfl ?_
  refine j_iload_n hx 1 dX11_play_1 rfl ?_
  refine j_iconst hx dX11_play_2 ?_
  refine j_sipush hx dX11_play_3 rfl ?_
  refine j_callVX hx hq hG (c_X11_needRange hst a x1 1 999) lk_RX11_98 ha (by decide) rfl rfl rfl rfl [.int (zI x1), .int (zI 1), .int (zI 999)] ⟨rfl, hG, hS0, ha, (by omega), (by omega), (by omega), hF0⟩ rfl rfl ⟨by decide, by decide⟩ ⟨by decide, by decide⟩ (k2 := 1) (n2 := 6) rfl rfl (Nat.le_of_ble_eq_true rfl) ⟨by decide, by decide⟩ dX11_play_6 (by rintro Ex9 G9 s9 ⟨rfl, hS9, hF9, e9, c9⟩; exact ⟨rfl, hS9, (zFr_t zFr_rf hF9 (by decide)), ⟨e9, by first | trivial | omega⟩⟩) (kVP (fun q2 => ?_))
  refine j_aload_n hx 0 dX11_play_9 rfl ?_
  refine g12_9 hx hG ha kf_RX11_69 dX11_play_10 ?_
  refine j_aload_n hx 0 dX11_play_13 rfl ?_
  refine g12_6 hx hG ha kf_RX11_48 dX11_play_14 ?_
  refine j_iload_n hx 1 dX11_play_17 rfl ?_
  have f3 := z0f hF0 (zr (k := 9) (t2 := 5) hG ha rfl) (k := 4) rfl
  refine j_callV hx hG (c_X4_playTurns hst (gP G a 9) (gP G a 6) x1) lk_RX11_224 (zr (k := 9) (t2 := 5) hG ha rfl) (by decide) rfl rfl rfl rfl [.ref (gP G a 6), .int (zI x1)] ⟨rfl, hG, hS0, (zr (k := 9) (t2 := 5) hG ha rfl), (zr (k := 6) (t2 := 4) hG ha rfl), (by omega), (by omega)⟩ rfl rfl ⟨by decide, by decide⟩ ⟨by decide, by decide⟩ (k2 := 1) (n2 := 6) rfl rfl (Nat.le_of_ble_eq_true rfl) dX11_play_18 (kIM (fun v4 s1 hS_s1 hF_s1 q5 => ?_))
  exact j_iret hx hq.r rfl (by decide) (by decide) dX11_play_21 ⟨v4, rfl, rfl, hS_s1, (zFr_t zFr_rf hF_s1 (by decide)), ⟨(by omega), by omega⟩⟩

set_option maxHeartbeats 4000000 in
set_option maxRecDepth 20000 in
theorem c_X4_turnOfMark {E : zE} {l : Launch} (hst : l.stackTraces = false) (a : Nat) (x1 : Int) : Con E l yX4_turnOfMark cX4_turnOfMark 2 (some .int) { frames := 0, cells := 0, slots := 0, locals := 0 } (fun G s vs => vs = [.ref a, .int (zI x1)] ∧ zGK G ∧ zSK G s ∧ (gT G a = 5) ∧ ((-1) ≤ x1 ∧ x1 ≤ (-1))) (fun G s _ => pI (fun r G2 s2 => G2 = G ∧ s2 = s ∧ ((-1) ≤ r ∧ r ≤ (-1)))) := by
  refine Con.mk hst (by decide) (fun G s vs h => by rw [h.1]; exact Nat.le_of_ble_eq_true rfl) ?_
  rintro X G s0 vs ⟨rfl, hG, hS0, ha, hx1⟩ rfl hx hq
  show JJ X E 2 G s0 0 0 [(0, .ref a), (1, .int (zI x1))] 0 []
  refine j_iload_n hx 1 dX4_turnOfMark_0 rfl ?_
  refine j_if_lt hx 22 dX4_turnOfMark_1 rfl (by omega) (fun h1 => ?_) (fun h1 => absurd h1 (by omega))
  refine j_iconst hx dX4_turnOfMark_22 ?_
  exact j_iret hx hq rfl (by decide) (by decide) dX4_turnOfMark_23 ⟨(-1), rfl, rfl, rfl, (by omega)⟩

theorem lk_RX4_63 : LkV RX4 63 RX4 yX4_turnOfMark cX4_turnOfMark 2 (some .int) 1 := ⟨km_RX4_63, ki_yX4_turnOfMark, ks_RX4_yX4_turnOfMark, kn_RX4, kc_yX4_turnOfMark, rfl, by decide +kernel, by decide +kernel, by decide +kernel⟩
set_option maxHeartbeats 4000000 in
set_option maxRecDepth 20000 in
theorem c_X4_undoTurns {E : zE} {l : Launch} (hst : l.stackTraces = false) (a : Nat) (b1 : Nat) (x2 : Int) : Con E l yX4_undoTurns cX4_undoTurns 7 (some .int) { frames := 1, cells := 0, slots := 0, locals := 33 } (fun G s vs => vs = [.ref a, .ref b1, .int (zI x2)] ∧ zGK G ∧ zSK G s ∧ (gT G a = 5) ∧ (gT G b1 = 4) ∧ (1 ≤ x2 ∧ x2 ≤ 999) ∧ (s a 4 = 0)) (fun G s _ => pI (fun r G2 s2 => G2 = G ∧ s2 = s ∧ (0 ≤ r ∧ r ≤ 0))) := by
  refine Con.mk hst (by decide) (fun G s vs h => by rw [h.1]; exact Nat.le_of_ble_eq_true rfl) ?_
  rintro X G s0 vs ⟨rfl, hG, hS0, ha, hb1, hx2, e0⟩ rfl hx hq
  show JJ X E 7 G s0 0 0 [(0, .ref a), (1, .ref b1), (2, .int (zI x2))] 0 []
  refine j_iload_n hx 2 dX4_undoTurns_0 rfl ?_
  refine j_aload_n hx 1 dX4_undoTurns_1 rfl ?_
  have f1 := zf hS0 hb1 (k := 10) rfl
  refine gN4_10 hx hG hb1 kf_RX4_46 rfl dX4_undoTurns_2 ?_
  refine j_aload_n hx 0 dX4_undoTurns_5 rfl ?_
  have f2 := zf hS0 ha (k := 5) rfl
  refine g5_5 hx hG ha kf_RX4_27 rfl dX4_undoTurns_6 ?_
  refine j_isub hx (r := (s0 b1 10) - (s0 a 5)) dX4_undoTurns_9 (by omega) ?_
  refine j_mmin hx km_RX4_57 kst_min kn_RJ9 kc_Lib_Math_min_name (by omega) (by omega) ⟨by decide, Nat.le_of_ble_eq_true rfl⟩ ⟨by decide, by decide⟩ dX4_undoTurns_10 (fun v3 f4 f5 f6 => ?_)
  refine j_istore_n hx [(3, .int (zI v3)), (0, .ref a), (1, .ref b1), (2, .int (zI x2))] dX4_undoTurns_13 (by decide) rfl ?_
  refine j_aload_n hx 2 dX4_undoTurns_14 rfl ?_
  refine gN4_10 hx hG hb1 kf_RX4_46 rfl dX4_undoTurns_15 ?_
  refine j_iload_n hx 0 dX4_undoTurns_18 rfl ?_
  refine j_isub hx (r := (s0 b1 10) - v3) dX4_undoTurns_19 (by omega) ?_
  refine j_istore hx [(4, .int (zI ((s0 b1 10) - v3))), (3, .int (zI v3)), (0, .ref a), (1, .ref b1), (2, .int (zI x2))] dX4_undoTurns_20 (by decide) rfl ?_
  refine j_iconst hx dX4_undoTurns_22 ?_
  refine j_istore hx [(5, .int (zI 0)), (4, .int (zI ((s0 b1 10) - v3))), (3, .int (zI v3)), (0, .ref a), (1, .ref b1), (2, .int (zI x2))] dX4_undoTurns_23 (by decide) rfl ?_
  refine j_iload hx 0 dX4_undoTurns_25 rfl ?_
  refine j_sipush hx dX4_undoTurns_27 rfl ?_
  refine j_icmp_ge hx 64 dX4_undoTurns_30 rfl ⟨by decide, by decide⟩ ⟨by decide, by decide⟩ (fun h7 => absurd h7 (by omega)) (fun h7 => ?_)
  refine j_aload_n hx 3 dX4_undoTurns_33 rfl ?_
  refine j_aload_n hx 3 dX4_undoTurns_34 rfl ?_
  refine g5_4 hx hG ha kf_RX4_31 rfl dX4_undoTurns_35 ?_
  refine j_iconst hx dX4_undoTurns_38 ?_
  refine j_isub hx (r := (s0 a 4) - 1) dX4_undoTurns_39 (by omega) ?_
  refine j_callV hx hG (c_X4_turnOfMark hst a ((s0 a 4) - 1)) lk_RX4_63 ha (by decide) rfl rfl rfl rfl [.int (zI ((s0 a 4) - 1))] ⟨rfl, hG, hS0, ha, (by omega)⟩ rfl rfl ⟨by decide, by decide⟩ ⟨by decide, by decide⟩ (k2 := 0) (n2 := 0) rfl rfl (Nat.le_of_ble_eq_true rfl) dX4_undoTurns_40 (kIP (fun v8 q9 => ?_))
  refine j_iload hx 1 dX4_undoTurns_43 rfl ?_
  refine j_icmp_le hx 64 dX4_undoTurns_45 rfl (by omega) (by omega) (fun h10 => ?_) (fun h10 => absurd h10 (by omega))
  refine j_iload_n hx 2 dX4_undoTurns_64 rfl ?_
  refine j_if_le hx 82 dX4_undoTurns_65 rfl (by omega) (fun h11 => ?_) (fun h11 => absurd h11 (by omega))
  refine j_iconst hx dX4_undoTurns_82 ?_
  exact j_iret hx hq rfl (by decide) (by decide) dX4_undoTurns_83 ⟨0, rfl, rfl, rfl, (by omega)⟩

theorem lk_RX11_228 : LkV RX11 228 RX4 yX4_undoTurns cX4_undoTurns 7 (some .int) 2 := ⟨km_RX11_228, ki_yX4_undoTurns, ks_RX4_yX4_undoTurns, kn_RX4, kc_yX4_undoTurns, rfl, by decide +kernel, by decide +kernel, by decide +kernel⟩
set_option maxHeartbeats 4000000 in
set_option maxRecDepth 20000 in
theorem c_X11_undo {E : zE} {l : Launch} (hst : l.stackTraces = false) (a : Nat) (x1 : Int) : ConX E l yX11_undo cX11_undo 2 (some .int) { frames := 7, cells := 1, slots := 6, locals := 113 } (fun G s vs => vs = [.ref a, .int (zI x1)] ∧ zGK G ∧ zSK G s ∧ (gT G a = 12) ∧ ((-2147483648) ≤ x1 ∧ x1 ≤ 2147483647) ∧ (zS0 G s)) (fun G s _ => pI (fun r G2 s2 => G2 = G ∧ s2 = s ∧ (0 ≤ r ∧ r ≤ 0) ∧ (1 ≤ x1 ∧ x1 ≤ 999))) (fun G s _ Ex G2 s2 => G2 = G ∧ zSK G s2 ∧ zFr [12] G s s2 ∧ ((Ex = "java/lang/IllegalArgumentException" ∧ (¬ (1 ≤ x1 ∧ x1 ≤ 999))))) := by
  refine ConX.mk hst (by decide) (fun G s vs h => by rw [h.1]; exact Nat.le_of_ble_eq_true rfl) ?_
  rintro X G s0 vs ⟨rfl, hG, hS0, ha, hx1, hF0⟩ rfl hx hq
  show JJ X E 2 G s0 0 0 [(0, .ref a), (1, .int (zI x1))] 0 []
  refine j_aload_n hx 0 dX11_undo_0 rfl ?_
  refine j_iload_n hx 1 dX11_undo_1 rfl ?_
  refine j_iconst hx dX11_undo_2 ?_
  refine j_sipush hx dX11_undo_3 rfl ?_
  refine j_callVX hx hq hG (c_X11_needRange hst a x1 1 999) lk_RX11_98 ha (by decide) rfl rfl rfl rfl [.int (zI x1), .int (zI 1), .int (zI 999)] ⟨rfl, hG, hS0, ha, (by omega), (by omega), (by omega), hF0⟩ rfl rfl ⟨by decide, by decide⟩ ⟨by decide, by decide⟩ (k2 := 1) (n2 := 6) rfl rfl (Nat.le_of_ble_eq_true rfl) ⟨by decide, by decide⟩ dX11_undo_6 (by rintro Ex9 G9 s9 ⟨rfl, hS9, hF9, e9, c9⟩; exact ⟨rfl, hS9, (zFr_t zFr_rf hF9 (by decide)), ⟨e9, by first | trivial | omega⟩⟩) (kVP (fun q2 => ?_))
  refine j_aload_n hx 0 dX11_undo_9 rfl ?_
  refine g12_9 hx hG ha kf_RX11_69 dX11_undo_10 ?_
  refine j_aload_n hx 0 dX11_undo_13 rfl ?_
  refine g12_6 hx hG ha kf_RX11_48 dX11_undo_14 ?_
  refine j_iload_n hx 1 dX11_undo_17 rfl ?_
  have f3 := z0f hF0 (zr (k := 9) (t2 := 5) hG ha rfl) (k := 4) rfl
  refine j_callV hx hG (c_X4_undoTurns hst (gP G a 9) (gP G a 6) x1) lk_RX11_228 (zr (k := 9) (t2 := 5) hG ha rfl) (by decide) rfl rfl rfl rfl [.ref (gP G a 6), .int (zI x1)] ⟨rfl, hG, hS0, (zr (k := 9) (t2 := 5) hG ha rfl), (zr (k := 6) (t2 := 4) hG ha rfl), (by omega), (by omega)⟩ rfl rfl ⟨by decide, by decide⟩ ⟨by decide, by decide⟩ (k2 := 1) (n2 := 6) rfl rfl (Nat.le_of_ble_eq_true rfl) dX11_undo_18 (kIP (fun v4 q5 => ?_))
  exact j_iret hx hq.r rfl (by decide) (by decide) dX11_undo_21 ⟨v4, rfl, rfl, rfl, ⟨(by omega), by omega⟩⟩

set_option maxHeartbeats 4000000 in
set_option maxRecDepth 20000 in
theorem c_X3_lastOf {E : zE} {l : Launch} (hst : l.stackTraces = false) (a : Nat) (x1 : Int) : Con E l yX3_lastOf cX3_lastOf 2 (some .int) { frames := 0, cells := 0, slots := 0, locals := 0 } (fun G s vs => vs = [.ref a, .int (zI x1)] ∧ zGK G ∧ zSK G s ∧ (gT G a = 4) ∧ ((-2147483648) ≤ x1 ∧ x1 ≤ 2147483647)) (fun G s _ => pI (fun r G2 s2 => G2 = G ∧ s2 = s ∧ ((-1) ≤ r ∧ r ≤ (-1)))) := by
  refine Con.mk hst (by decide) (fun G s vs h => by rw [h.1]; exact Nat.le_of_ble_eq_true rfl) ?_
  rintro X G s0 vs ⟨rfl, hG, hS0, ha, hx1⟩ rfl hx hq
  show JJ X E 2 G s0 0 0 [(0, .ref a), (1, .int (zI x1))] 0 []
  refine j_aload_n hx 0 dX3_lastOf_0 rfl ?_
  have f1 := zf hS0 ha (k := 7) rfl
  refine g4_7 hx hG ha kf_RX3_61 rfl dX3_lastOf_1 ?_
  refine j_if_eq hx 29 dX3_lastOf_4 rfl (by omega) (fun h2 => ?_) (fun h2 => absurd h2 (by omega))
  refine j_iconst hx dX3_lastOf_29 ?_
  exact j_iret hx hq rfl (by decide) (by decide) dX3_lastOf_30 ⟨(-1), rfl, rfl, rfl, (by omega)⟩

theorem lk_RX11_231 : LkV RX11 231 RX3 yX3_lastOf cX3_lastOf 2 (some .int) 1 := ⟨km_RX11_231, ki_yX3_lastOf, ks_RX3_yX3_lastOf, kn_RX3, kc_yX3_lastOf, rfl, by decide +kernel, by decide +kernel, by decide +kernel⟩
set_option maxHeartbeats 4000000 in
set_option maxRecDepth 20000 in
theorem c_X11_latest {E : zE} {l : Launch} (hst : l.stackTraces = false) (a : Nat) (x1 : Int) : ConX E l yX11_latest cX11_latest 2 (some .int) { frames := 7, cells := 1, slots := 6, locals := 113 } (fun G s vs => vs = [.ref a, .int (zI x1)] ∧ zGK G ∧ zSK G s ∧ (gT G a = 12) ∧ ((-2147483648) ≤ x1 ∧ x1 ≤ 2147483647) ∧ (zS0 G s)) (fun G s _ => pI (fun r G2 s2 => G2 = G ∧ s2 = s ∧ ((-1) ≤ r ∧ r ≤ (-1)) ∧ (0 ≤ x1 ∧ x1 ≤ 4))) (fun G s _ Ex G2 s2 => G2 = G ∧ zSK G s2 ∧ zFr [12] G s s2 ∧ ((Ex = "java/lang/IllegalArgumentException" ∧ (¬ (0 ≤ x1 ∧ x1 ≤ 4))))) := by
  refine ConX.mk hst (by decide) (fun G s vs h => by rw [h.1]; exact Nat.le_of_ble_eq_true rfl) ?_
  rintro X G s0 vs ⟨rfl, hG, hS0, ha, hx1, hF0⟩ rfl hx hq
  show JJ X E 2 G s0 0 0 [(0, .ref a), (1, .int (zI x1))] 0 []
  refine j_aload_n hx 0 dX11_latest_0 rfl ?_
  refine j_iload_n hx 1 dX11_latest_1 rfl ?_
  refine j_iconst hx dX11_latest_2 ?_
  refine j_iconst hx dX11_latest_3 ?_
  refine j_callVX hx hq hG (c_X11_needRange hst a x1 0 4) lk_RX11_98 ha (by decide) rfl rfl rfl rfl [.int (zI x1), .int (zI 0), .int (zI 4)] ⟨rfl, hG, hS0, ha, (by omega), (by omega), (by omega), hF0⟩ rfl rfl ⟨by decide, by decide⟩ ⟨by decide, by decide⟩ (k2 := 1) (n2 := 6) rfl rfl (Nat.le_of_ble_eq_true rfl) ⟨by decide, by decide⟩ dX11_latest_4 (by rintro Ex9 G9 s9 ⟨rfl, hS9, hF9, e9, c9⟩; exact ⟨rfl, hS9, (zFr_t zFr_rf hF9 (by decide)), ⟨e9, by first | trivial | omega⟩⟩) (kVP (fun q2 => ?_))
  refine j_aload_n hx 0 dX11_latest_7 rfl ?_
  refine g12_6 hx hG ha kf_RX11_48 dX11_latest_8 ?_
  refine j_iload_n hx 1 dX11_latest_11 rfl ?_
  refine j_callV hx hG (c_X3_lastOf hst (gP G a 6) x1) lk_RX11_231 (zr (k := 6) (t2 := 4) hG ha rfl) (by decide) rfl rfl rfl rfl [.int (zI x1)] ⟨rfl, hG, hS0, (zr (k := 6) (t2 := 4) hG ha rfl), (by omega)⟩ rfl rfl ⟨by decide, by decide⟩ ⟨by decide, by decide⟩ (k2 := 1) (n2 := 6) rfl rfl (Nat.le_of_ble_eq_true rfl) dX11_latest_12 (kIP (fun v3 q4 => ?_))
  exact j_iret hx hq.r rfl (by decide) (by decide) dX11_latest_15 ⟨v3, rfl, rfl, rfl, ⟨(by omega), by omega⟩⟩

set_option maxHeartbeats 4000000 in
set_option maxRecDepth 20000 in
theorem c_X11_calls {E : zE} {l : Launch} (hst : l.stackTraces = false) (a : Nat) (x1 : Int) (x2 : Int) : ConX E l yX11_calls cX11_calls 3 (some .int) { frames := 7, cells := 1, slots := 6, locals := 111 } (fun G s vs => vs = [.ref a, .int (zI x1), .int (zI x2)] ∧ zGK G ∧ zSK G s ∧ (gT G a = 12) ∧ ((-2147483648) ≤ x1 ∧ x1 ≤ 2147483647) ∧ ((-2147483648) ≤ x2 ∧ x2 ≤ 2147483647) ∧ (zS0 G s)) (fun G s _ => fun _ _ _ => False) (fun G s _ Ex G2 s2 => G2 = G ∧ zSK G s2 ∧ zFr [12] G s s2 ∧ ((Ex = "java/util/NoSuchElementException" ∧ (True)))) := by
  refine ConX.mk hst (by decide) (fun G s vs h => by rw [h.1]; exact Nat.le_of_ble_eq_true rfl) ?_
  rintro X G s0 vs ⟨rfl, hG, hS0, ha, hx1, hx2, hF0⟩ rfl hx hq
  show JJ X E 3 G s0 0 0 [(0, .ref a), (1, .int (zI x1)), (2, .int (zI x2))] 0 []
  refine j_aload_n hx 0 dX11_calls_0 rfl ?_
  refine j_iload_n hx 1 dX11_calls_1 rfl ?_
  refine j_callVX hx hq hG (c_X11_needPlayer hst a x1) lk_RX11_134 ha (by decide) rfl rfl rfl rfl [.int (zI x1)] ⟨rfl, hG, hS0, ha, (by omega), hF0⟩ rfl rfl ⟨by decide, by decide⟩ ⟨by decide, by decide⟩ (k2 := 1) (n2 := 6) rfl rfl (Nat.le_of_ble_eq_true rfl) ⟨by decide, by decide⟩ dX11_calls_2 (by rintro Ex9 G9 s9 ⟨rfl, hS9, hF9, e9, c9⟩; exact ⟨rfl, hS9, (zFr_t zFr_rf hF9 (by decide)), ⟨e9, by first | trivial | omega⟩⟩) (fun _ _ _ h => h.elim)

set_option maxHeartbeats 4000000 in
set_option maxRecDepth 20000 in
theorem c_X11_won {E : zE} {l : Launch} (hst : l.stackTraces = false) (a : Nat) (x1 : Int) : ConX E l yX11_won cX11_won 2 (some .int) { frames := 7, cells := 1, slots := 6, locals := 111 } (fun G s vs => vs = [.ref a, .int (zI x1)] ∧ zGK G ∧ zSK G s ∧ (gT G a = 12) ∧ ((-2147483648) ≤ x1 ∧ x1 ≤ 2147483647) ∧ (zS0 G s)) (fun G s _ => fun _ _ _ => False) (fun G s _ Ex G2 s2 => G2 = G ∧ zSK G s2 ∧ zFr [12] G s s2 ∧ ((Ex = "java/util/NoSuchElementException" ∧ (True)))) := by
  refine ConX.mk hst (by decide) (fun G s vs h => by rw [h.1]; exact Nat.le_of_ble_eq_true rfl) ?_
  rintro X G s0 vs ⟨rfl, hG, hS0, ha, hx1, hF0⟩ rfl hx hq
  show JJ X E 2 G s0 0 0 [(0, .ref a), (1, .int (zI x1))] 0 []
  refine j_aload_n hx 0 dX11_won_0 rfl ?_
  refine j_iload_n hx 1 dX11_won_1 rfl ?_
  refine j_callVX hx hq hG (c_X11_needPlayer hst a x1) lk_RX11_134 ha (by decide) rfl rfl rfl rfl [.int (zI x1)] ⟨rfl, hG, hS0, ha, (by omega), hF0⟩ rfl rfl ⟨by decide, by decide⟩ ⟨by decide, by decide⟩ (k2 := 1) (n2 := 6) rfl rfl (Nat.le_of_ble_eq_true rfl) ⟨by decide, by decide⟩ dX11_won_2 (by rintro Ex9 G9 s9 ⟨rfl, hS9, hF9, e9, c9⟩; exact ⟨rfl, hS9, (zFr_t zFr_rf hF9 (by decide)), ⟨e9, by first | trivial | omega⟩⟩) (fun _ _ _ h => h.elim)

set_option maxHeartbeats 4000000 in
set_option maxRecDepth 20000 in
theorem c_X3_become {E : zE} {l : Launch} (hst : l.stackTraces = false) (a : Nat) (b1 : Nat) : Con E l yX3_become cX3_become 3 none { frames := 3, cells := 0, slots := 0, locals := 64 } (fun G s vs => vs = [.ref a, .ref b1] ∧ zGK G ∧ zSK G s ∧ (gT G a = 4) ∧ (gT G b1 = 4)) (fun G s _ => pV (fun G2 s2 => G2 = G ∧ zSK G s2 ∧ zFr [1, 4, 7, 44, 49, 50] G s s2 ∧ True)) := by
  refine Con.mk hst (by decide) (fun G s vs h => by rw [h.1]; exact Nat.le_of_ble_eq_true rfl) ?_
  rintro X G s0 vs ⟨rfl, hG, hS0, ha, hb1⟩ rfl hx hq
  show JJ X E 3 G s0 0 0 [(0, .ref a), (1, .ref b1)] 0 []
  refine j_aload_n hx 0 dX3_become_0 rfl ?_
  refine g4_1 hx hG ha kf_RX3_14 dX3_become_1 ?_
  refine j_aload_n hx 1 dX3_become_4 rfl ?_
  refine g4_1 hx hG hb1 kf_RX3_14 dX3_become_5 ?_
  refine j_callV hx hG (c_X0_become hst (gP G a 1) (gP G b1 1)) lk_RX3_50 (zr (k := 1) (t2 := 1) hG ha rfl) (by decide) rfl rfl rfl rfl [.ref (gP G b1 1)] ⟨rfl, hG, hS0, (zr (k := 1) (t2 := 1) hG ha rfl), (zr (k := 1) (t2 := 1) hG hb1 rfl)⟩ rfl rfl ⟨by decide, by decide⟩ ⟨by decide, by decide⟩ (k2 := 0) (n2 := 0) rfl rfl (Nat.le_of_ble_eq_true rfl) dX3_become_8 (kVM (fun s1 hS_s1 hF_s1 q2 => ?_))
  refine j_iconst hx dX3_become_11 ?_
  refine j_istore_n hx [(2, .int (zI 0)), (0, .ref a), (1, .ref b1)] dX3_become_12 (by decide) rfl ?_
  have c13_2 : ∀ (m_c13_2 : Nat) (v3 : Int) (s3 : zS), 2147483648 - v3 < m_c13_2 → (0 ≤ v3 ∧ v3 ≤ 3) → (zSK G s3) → (zFr [44] G s1 s3) → JJ X E 3 G s3 0 0 [(0, .ref a), (1, .ref b1), (2, .int (zI v3))] 13 [] := by
    intro m_c13_2
    induction m_c13_2 with
    | zero => intro v3 s3 hm_c13_2 fA4 hS_s3 hF_s3; exfalso; omega
    | succ m_c13_2 ih_c13_2 => 
      intro v3 s3 hm_c13_2 fA4 hS_s3 hF_s3
      refine j_iload_n hx 2 dX3_become_13 rfl ?_
      refine j_aload_n hx 0 dX3_become_14 rfl ?_
      refine g4_2 hx hG ha kf_RX3_18 dX3_become_15 ?_
      refine j_alen hx hG (zr (k := 2) (t2 := 44) hG ha rfl) (by decide) (by decide) (zlen hG (zr (k := 2) (t2 := 44) hG ha rfl) (n := 3) rfl rfl) dX3_become_18 ?_
      refine j_icmp_ge hx 49 dX3_become_19 rfl (by omega) ⟨by decide, by decide⟩ (fun h4 => ?_) (fun h4 => ?_)
      · skip
        refine j_iconst hx dX3_become_49 ?_
        refine j_istore_n hx [(2, .int (zI 0)), (0, .ref a), (1, .ref b1)] dX3_become_50 (by decide) rfl ?_
        have c51_7 : ∀ (m_c51_7 : Nat) (v5 : Int) (s8 : zS), 2147483648 - v5 < m_c51_7 → (0 ≤ v5 ∧ v5 ≤ 6) → (zSK G s8) → (zFr [49] G s3 s8) → JJ X E 3 G s8 0 0 [(0, .ref a), (1, .ref b1), (2, .int (zI v5))] 51 [] := by
          intro m_c51_7
          induction m_c51_7 with
          | zero => intro v5 s8 hm_c51_7 fA9 hS_s8 hF_s8; exfalso; omega
          | succ m_c51_7 ih_c51_7 => 
            intro v5 s8 hm_c51_7 fA9 hS_s8 hF_s8
            refine j_iload_n hx 2 dX3_become_51 rfl ?_
            refine j_aload_n hx 0 dX3_become_52 rfl ?_
            refine g4_3 hx hG ha kf_RX3_24 dX3_become_53 ?_
            refine j_alen hx hG (zr (k := 3) (t2 := 49) hG ha rfl) (by decide) (by decide) (zlen hG (zr (k := 3) (t2 := 49) hG ha rfl) (n := 6) rfl rfl) dX3_become_56 ?_
            refine j_icmp_ge hx 87 dX3_become_57 rfl (by omega) ⟨by decide, by decide⟩ (fun h6 => ?_) (fun h6 => ?_)
            · skip
              refine j_iconst hx dX3_become_87 ?_
              refine j_istore_n hx [(2, .int (zI 0)), (0, .ref a), (1, .ref b1)] dX3_become_88 (by decide) rfl ?_
              have c89_12 : ∀ (m_c89_12 : Nat) (v7 : Int) (s13 : zS), 2147483648 - v7 < m_c89_12 → (0 ≤ v7 ∧ v7 ≤ 21) → (zSK G s13) → (zFr [50] G s8 s13) → JJ X E 3 G s13 0 0 [(0, .ref a), (1, .ref b1), (2, .int (zI v7))] 89 [] := by
                intro m_c89_12
                induction m_c89_12 with
                | zero => intro v7 s13 hm_c89_12 fA14 hS_s13 hF_s13; exfalso; omega
                | succ m_c89_12 ih_c89_12 => 
                  intro v7 s13 hm_c89_12 fA14 hS_s13 hF_s13
                  refine j_iload_n hx 2 dX3_become_89 rfl ?_
                  refine j_aload_n hx 0 dX3_become_90 rfl ?_
                  refine g4_4 hx hG ha kf_RX3_28 dX3_become_91 ?_
                  refine j_alen hx hG (zr (k := 4) (t2 := 50) hG ha rfl) (by decide) (by decide) (zlen hG (zr (k := 4) (t2 := 50) hG ha rfl) (n := 21) rfl rfl) dX3_become_94 ?_
                  refine j_icmp_ge hx 125 dX3_become_95 rfl (by omega) ⟨by decide, by decide⟩ (fun h8 => ?_) (fun h8 => ?_)
                  · skip
                    refine j_aload_n hx 0 dX3_become_125 rfl ?_
                    refine j_iconst hx dX3_become_126 ?_
                    refine p4_7 hx hG ha kf_RX3_61 (by omega) dX3_become_127 ?_
                    obtain ⟨s17, e_s17⟩ : ∃ z, z = zU s13 a 7 0 := ⟨_, rfl⟩
                    rw [← e_s17]
                    have hS_s17 : zSK G s17 := by rw [e_s17]; exact zSK_F hS_s13 ha rfl rfl rfl (by omega)
                    refine j_aload_n hx 0 dX3_become_130 rfl ?_
                    refine j_aload_n hx 1 dX3_become_131 rfl ?_
                    have f9 := zf hS_s17 hb1 (k := 8) rfl
                    refine g4_8 hx hG hb1 kf_RX3_65 rfl dX3_become_132 ?_
                    refine p4_8 hx hG ha kf_RX3_65 (by omega) dX3_become_135 ?_
                    obtain ⟨s18, e_s18⟩ : ∃ z, z = zU s17 a 8 ((s17 b1 8)) := ⟨_, rfl⟩
                    rw [← e_s18]
                    have hS_s18 : zSK G s18 := by rw [e_s18]; exact zSK_F hS_s17 ha rfl rfl rfl (by omega)
                    refine j_aload_n hx 0 dX3_become_138 rfl ?_
                    refine j_aload_n hx 1 dX3_become_139 rfl ?_
                    have f10 := zf hS_s18 hb1 (k := 9) rfl
                    refine g4_9 hx hG hb1 kf_RX3_68 rfl dX3_become_140 ?_
                    refine p4_9 hx hG ha kf_RX3_68 dX3_become_143 ?_
                    obtain ⟨s19, e_s19⟩ : ∃ z, z = zU s18 a 9 ((s18 b1 9)) := ⟨_, rfl⟩
                    rw [← e_s19]
                    have hS_s19 : zSK G s19 := by rw [e_s19]; exact zSK_F hS_s18 ha rfl rfl rfl (by omega)
                    refine j_aload_n hx 0 dX3_become_146 rfl ?_
                    refine j_aload_n hx 1 dX3_become_147 rfl ?_
                    have f11 := zf hS_s19 hb1 (k := 10) rfl
                    refine g4_10 hx hG hb1 kf_RX3_71 rfl dX3_become_148 ?_
                    refine p4_10 hx hG ha kf_RX3_71 dX3_become_151 ?_
                    obtain ⟨s20, e_s20⟩ : ∃ z, z = zU s19 a 10 ((s19 b1 10)) := ⟨_, rfl⟩
                    rw [← e_s20]
                    have hS_s20 : zSK G s20 := by rw [e_s20]; exact zSK_F hS_s19 ha rfl rfl rfl (by omega)
                    exact j_vret hx hq rfl (by decide) (by decide) dX3_become_154 ⟨rfl, rfl, hS_s20, (zFr_u (zFr_u (zFr_u (zFr_u (zFr_t (zFr_t (zFr_t (zFr_t zFr_rf hF_s1 (by decide)) hF_s3 (by decide)) hF_s8 (by decide)) hF_s13 (by decide)) e_s17 ha (by decide)) e_s18 ha (by decide)) e_s19 ha (by decide)) e_s20 ha (by decide)), trivial⟩
                  · skip
                    refine j_iload_n hx 2 dX3_become_98 rfl ?_
                    refine j_aload_n hx 1 dX3_become_99 rfl ?_
                    refine g4_4 hx hG hb1 kf_RX3_28 dX3_become_100 ?_
                    refine j_alen hx hG (zr (k := 4) (t2 := 50) hG hb1 rfl) (by decide) (by decide) (zlen hG (zr (k := 4) (t2 := 50) hG hb1 rfl) (n := 21) rfl rfl) dX3_become_103 ?_
                    refine j_icmp_ge hx 125 dX3_become_104 rfl (by omega) ⟨by decide, by decide⟩ (fun h12 => absurd h12 (by omega)) (fun h12 => ?_)
                    refine j_aload_n hx 0 dX3_become_107 rfl ?_
                    refine g4_4 hx hG ha kf_RX3_28 dX3_become_108 ?_
                    refine j_iload_n hx 2 dX3_become_111 rfl ?_
                    refine j_aload_n hx 1 dX3_become_112 rfl ?_
                    refine g4_4 hx hG hb1 kf_RX3_28 dX3_become_113 ?_
                    refine j_iload_n hx 2 dX3_become_116 rfl ?_
                    have f13 := zaI (j := (v7).toNat) hS_s13 (zr (k := 4) (t2 := 50) hG hb1 rfl) rfl (zlen hG (zr (k := 4) (t2 := 50) hG hb1 rfl) (n := 21) rfl rfl) (show 0 ≤ v7 by omega) (by omega) rfl
                    refine j_iald hx hG (zr (k := 4) (t2 := 50) hG hb1 rfl) (by decide) rfl (zlen hG (zr (k := 4) (t2 := 50) hG hb1 rfl) (n := 21) rfl rfl) (by omega) (by omega) (j := (v7).toNat) rfl rfl dX3_become_117 ?_
                    refine j_iast hx hG (zr (k := 4) (t2 := 50) hG ha rfl) (by decide) rfl (zlen hG (zr (k := 4) (t2 := 50) hG ha rfl) (n := 21) rfl rfl) (by omega) (by omega) (j := (v7).toNat) rfl dX3_become_118 ?_
                    obtain ⟨s21, e_s21⟩ : ∃ z, z = zU s13 (gP G a 4) (v7).toNat ((s13 (gP G b1 4) (v7).toNat)) := ⟨_, rfl⟩
                    rw [← e_s21]
                    have hS_s21 : zSK G s21 := by rw [e_s21]; exact zSK_A hS_s13 (zr (k := 4) (t2 := 50) hG ha rfl) rfl rfl rfl (by omega)
                    refine j_iinc hx 2 [(2, .int (zI (v7 + 1))), (0, .ref a), (1, .ref b1)] dX3_become_119 rfl (by omega) (by decide) rfl ?_
                    refine j_goto hx 89 dX3_become_122 rfl ?_
                    exact j_sub [1, 2, 0] [(0, .ref a), (1, .ref b1), (2, .int (zI (v7 + 1)))] rfl (ih_c89_12 (v7 + 1) s21 (by omega) (by omega) hS_s21 (zFr_u (zFr_t zFr_rf hF_s13 (by decide)) e_s21 (zr (k := 4) (t2 := 50) hG ha rfl) (by decide)))
              exact j_sub [1, 2, 0] [(0, .ref a), (1, .ref b1), (2, .int (zI 0))] rfl (c89_12 (2147483648 * 4) 0 s8 (by omega) (by omega) hS_s8 zFr_rf)
            · skip
              refine j_iload_n hx 2 dX3_become_60 rfl ?_
              refine j_aload_n hx 1 dX3_become_61 rfl ?_
              refine g4_3 hx hG hb1 kf_RX3_24 dX3_become_62 ?_
              refine j_alen hx hG (zr (k := 3) (t2 := 49) hG hb1 rfl) (by decide) (by decide) (zlen hG (zr (k := 3) (t2 := 49) hG hb1 rfl) (n := 6) rfl rfl) dX3_become_65 ?_
              refine j_icmp_ge hx 87 dX3_become_66 rfl (by omega) ⟨by decide, by decide⟩ (fun h14 => absurd h14 (by omega)) (fun h14 => ?_)
              refine j_aload_n hx 0 dX3_become_69 rfl ?_
              refine g4_3 hx hG ha kf_RX3_24 dX3_become_70 ?_
              refine j_iload_n hx 2 dX3_become_73 rfl ?_
              refine j_aload_n hx 1 dX3_become_74 rfl ?_
              refine g4_3 hx hG hb1 kf_RX3_24 dX3_become_75 ?_
              refine j_iload_n hx 2 dX3_become_78 rfl ?_
              have f18 := zaI (j := (v5).toNat) hS_s8 (zr (k := 3) (t2 := 49) hG hb1 rfl) rfl (zlen hG (zr (k := 3) (t2 := 49) hG hb1 rfl) (n := 6) rfl rfl) (show 0 ≤ v5 by omega) (by omega) rfl
              refine j_aald hx hG hS_s8 (zr (k := 3) (t2 := 49) hG hb1 rfl) (by decide) (by decide) rfl (zlen hG (zr (k := 3) (t2 := 49) hG hb1 rfl) (n := 6) rfl rfl) (by omega) (by omega) dX3_become_79 (fun h15 => ?_) (fun h16 _ => absurd h16 (by omega))
              refine j_aastN hx hG (zr (k := 3) (t2 := 49) hG ha rfl) (by decide) rfl (zlen hG (zr (k := 3) (t2 := 49) hG ha rfl) (n := 6) rfl rfl) (by omega) (by omega) dX3_become_80 ?_
              obtain ⟨s22, e_s22⟩ : ∃ z, z = zU s8 (gP G a 3) (v5).toNat 0 := ⟨_, rfl⟩
              rw [← e_s22]
              have hS_s22 : zSK G s22 := by rw [e_s22]; exact zSK_0 hS_s8 (zr (k := 3) (t2 := 49) hG ha rfl) (fun _ => rfl) (fun _ => rfl)
              refine j_iinc hx 2 [(2, .int (zI (v5 + 1))), (0, .ref a), (1, .ref b1)] dX3_become_81 rfl (by omega) (by decide) rfl ?_
              refine j_goto hx 51 dX3_become_84 rfl ?_
              exact j_sub [1, 2, 0] [(0, .ref a), (1, .ref b1), (2, .int (zI (v5 + 1)))] rfl (ih_c51_7 (v5 + 1) s22 (by omega) (by omega) hS_s22 (zFr_u (zFr_t zFr_rf hF_s8 (by decide)) e_s22 (zr (k := 3) (t2 := 49) hG ha rfl) (by decide)))
        exact j_sub [1, 2, 0] [(0, .ref a), (1, .ref b1), (2, .int (zI 0))] rfl (c51_7 (2147483648 * 4) 0 s3 (by omega) (by omega) hS_s3 zFr_rf)
      · skip
        refine j_iload_n hx 2 dX3_become_22 rfl ?_
        refine j_aload_n hx 1 dX3_become_23 rfl ?_
        refine g4_2 hx hG hb1 kf_RX3_18 dX3_become_24 ?_
        refine j_alen hx hG (zr (k := 2) (t2 := 44) hG hb1 rfl) (by decide) (by decide) (zlen hG (zr (k := 2) (t2 := 44) hG hb1 rfl) (n := 3) rfl rfl) dX3_become_27 ?_
        refine j_icmp_ge hx 49 dX3_become_28 rfl (by omega) ⟨by decide, by decide⟩ (fun h19 => absurd h19 (by omega)) (fun h19 => ?_)
        refine j_aload_n hx 0 dX3_become_31 rfl ?_
        refine g4_2 hx hG ha kf_RX3_18 dX3_become_32 ?_
        refine j_iload_n hx 2 dX3_become_35 rfl ?_
        refine j_aload_n hx 1 dX3_become_36 rfl ?_
        refine g4_2 hx hG hb1 kf_RX3_18 dX3_become_37 ?_
        refine j_iload_n hx 2 dX3_become_40 rfl ?_
        have f20 := zaI (j := (v3).toNat) hS_s3 (zr (k := 2) (t2 := 44) hG hb1 rfl) rfl (zlen hG (zr (k := 2) (t2 := 44) hG hb1 rfl) (n := 3) rfl rfl) (show 0 ≤ v3 by omega) (by omega) rfl
        refine j_iald hx hG (zr (k := 2) (t2 := 44) hG hb1 rfl) (by decide) rfl (zlen hG (zr (k := 2) (t2 := 44) hG hb1 rfl) (n := 3) rfl rfl) (by omega) (by omega) (j := (v3).toNat) rfl rfl dX3_become_41 ?_
        refine j_iast hx hG (zr (k := 2) (t2 := 44) hG ha rfl) (by decide) rfl (zlen hG (zr (k := 2) (t2 := 44) hG ha rfl) (n := 3) rfl rfl) (by omega) (by omega) (j := (v3).toNat) rfl dX3_become_42 ?_
        obtain ⟨s23, e_s23⟩ : ∃ z, z = zU s3 (gP G a 2) (v3).toNat ((s3 (gP G b1 2) (v3).toNat)) := ⟨_, rfl⟩
        rw [← e_s23]
        have hS_s23 : zSK G s23 := by rw [e_s23]; exact zSK_A hS_s3 (zr (k := 2) (t2 := 44) hG ha rfl) rfl rfl rfl (by omega)
        refine j_iinc hx 2 [(2, .int (zI (v3 + 1))), (0, .ref a), (1, .ref b1)] dX3_become_43 rfl (by omega) (by decide) rfl ?_
        refine j_goto hx 13 dX3_become_46 rfl ?_
        exact j_sub [1, 2, 0] [(0, .ref a), (1, .ref b1), (2, .int (zI (v3 + 1)))] rfl (ih_c13_2 (v3 + 1) s23 (by omega) (by omega) hS_s23 (zFr_u (zFr_t zFr_rf hF_s3 (by decide)) e_s23 (zr (k := 2) (t2 := 44) hG ha rfl) (by decide)))
  exact j_sub [1, 2, 0] [(0, .ref a), (1, .ref b1), (2, .int (zI 0))] rfl (c13_2 (2147483648 * 4) 0 s1 (by omega) (by omega) hS_s1 zFr_rf)

theorem lk_RX2_31 : LkV RX2 31 RX3 yX3_become cX3_become 3 none 1 := ⟨km_RX2_31, ki_yX3_become, ks_RX3_yX3_become, kn_RX3, kc_yX3_become, rfl, by decide +kernel, by decide +kernel, by decide +kernel⟩
set_option maxHeartbeats 4000000 in
set_option maxRecDepth 20000 in
theorem c_X2_begin {E : zE} {l : Launch} (hst : l.stackTraces = false) (a : Nat) (b1 : Nat) : Con E l yX2_begin cX2_begin 2 none { frames := 4, cells := 0, slots := 0, locals := 86 } (fun G s vs => vs = [.ref a, .ref b1] ∧ zGK G ∧ zSK G s ∧ (gT G a = 3) ∧ (gT G b1 = 4)) (fun G s _ => pV (fun G2 s2 => G2 = G ∧ zSK G s2 ∧ zFr [1, 4, 7, 44, 49, 50] G s s2 ∧ True)) := by
  refine Con.mk hst (by decide) (fun G s vs h => by rw [h.1]; exact Nat.le_of_ble_eq_true rfl) ?_
  rintro X G s0 vs ⟨rfl, hG, hS0, ha, hb1⟩ rfl hx hq
  show JJ X E 2 G s0 0 0 [(0, .ref a), (1, .ref b1)] 0 []
  refine j_aload_n hx 0 dX2_begin_0 rfl ?_
  refine g3_0 hx hG ha kf_RX2_27 dX2_begin_1 ?_
  refine j_aload_n hx 1 dX2_begin_4 rfl ?_
  refine j_callV hx hG (c_X3_become hst (gP G a 0) b1) lk_RX2_31 (zr (k := 0) (t2 := 4) hG ha rfl) (by decide) rfl rfl rfl rfl [.ref b1] ⟨rfl, hG, hS0, (zr (k := 0) (t2 := 4) hG ha rfl), hb1⟩ rfl rfl ⟨by decide, by decide⟩ ⟨by decide, by decide⟩ (k2 := 0) (n2 := 0) rfl rfl (Nat.le_of_ble_eq_true rfl) dX2_begin_5 (kVM (fun s1 hS_s1 hF_s1 q2 => ?_))
  exact j_vret hx hq rfl (by decide) (by decide) dX2_begin_8 ⟨rfl, rfl, hS_s1, (zFr_t zFr_rf hF_s1 (by decide)), trivial⟩

set_option maxHeartbeats 4000000 in
set_option maxRecDepth 20000 in
theorem c_X3_cycle {E : zE} {l : Launch} (hst : l.stackTraces = false) (a : Nat) : Con E l yX3_cycle cX3_cycle 4 (some .int) { frames := 0, cells := 0, slots := 0, locals := 0 } (fun G s vs => vs = [.ref a] ∧ zGK G ∧ zSK G s ∧ (gT G a = 4)) (fun G s _ => pI (fun r G2 s2 => G2 = G ∧ s2 = s ∧ ((-2147483648) ≤ r ∧ r ≤ 2147483647))) := by
  refine Con.mk hst (by decide) (fun G s vs h => by rw [h.1]; exact Nat.le_of_ble_eq_true rfl) ?_
  rintro X G s0 vs ⟨rfl, hG, hS0, ha⟩ rfl hx hq
  show JJ X E 4 G s0 0 0 [(0, .ref a)] 0 []
  refine j_iconst hx dX3_cycle_0 ?_
  refine j_istore_n hx [(1, .int (zI 1)), (0, .ref a)] dX3_cycle_1 (by decide) rfl ?_
  refine j_iconst hx dX3_cycle_2 ?_
  refine j_istore_n hx [(2, .int (zI 0)), (1, .int (zI 1)), (0, .ref a)] dX3_cycle_3 (by decide) rfl ?_
  have c4_1 : ∀ (m_c4_1 : Nat) (v1 : Int) (v2 : Int), 2147483648 - v2 < m_c4_1 → (1 ≤ v1 ∧ v1 ≤ 1) → (0 ≤ v2 ∧ v2 ≤ 6) → JJ X E 4 G s0 0 0 [(0, .ref a), (1, .int (zI v1)), (2, .int (zI v2))] 4 [] := by
    intro m_c4_1
    induction m_c4_1 with
    | zero => intro v1 v2 hm_c4_1 fA2 fA3; exfalso; omega
    | succ m_c4_1 ih_c4_1 => 
      intro v1 v2 hm_c4_1 fA2 fA3
      refine j_iload_n hx 2 dX3_cycle_4 rfl ?_
      refine j_aload_n hx 0 dX3_cycle_5 rfl ?_
      refine g4_3 hx hG ha kf_RX3_24 dX3_cycle_6 ?_
      refine j_alen hx hG (zr (k := 3) (t2 := 49) hG ha rfl) (by decide) (by decide) (zlen hG (zr (k := 3) (t2 := 49) hG ha rfl) (n := 6) rfl rfl) dX3_cycle_9 ?_
      refine j_icmp_ge hx 40 dX3_cycle_10 rfl (by omega) ⟨by decide, by decide⟩ (fun h3 => ?_) (fun h3 => ?_)
      · skip
        refine j_iload_n hx 1 dX3_cycle_40 rfl ?_
        exact j_iret hx hq rfl (by decide) (by decide) dX3_cycle_41 ⟨v1, rfl, rfl, rfl, (by omega)⟩
      · skip
        refine j_aload_n hx 0 dX3_cycle_13 rfl ?_
        refine g4_3 hx hG ha kf_RX3_24 dX3_cycle_14 ?_
        refine j_iload_n hx 2 dX3_cycle_17 rfl ?_
        have f7 := zaI (j := (v2).toNat) hS0 (zr (k := 3) (t2 := 49) hG ha rfl) rfl (zlen hG (zr (k := 3) (t2 := 49) hG ha rfl) (n := 6) rfl rfl) (show 0 ≤ v2 by omega) (by omega) rfl
        refine j_aald hx hG hS0 (zr (k := 3) (t2 := 49) hG ha rfl) (by decide) (by decide) rfl (zlen hG (zr (k := 3) (t2 := 49) hG ha rfl) (n := 6) rfl rfl) (by omega) (by omega) dX3_cycle_18 (fun h4 => ?_) (fun h5 _ => absurd h5 (by omega))
        refine j_astore_nN hx [(3, .null), (0, .ref a), (1, .int (zI v1)), (2, .int (zI v2))] dX3_cycle_19 (by decide) rfl ?_
        refine j_aload_nN hx 0 dX3_cycle_20 rfl ?_
        refine j_ifnonnullN hx dX3_cycle_21 ?_
        refine j_iload_n hx 2 dX3_cycle_24 rfl ?_
        refine j_goto hx 33 dX3_cycle_25 rfl ?_
        refine j_istore_n hx [(1, .int (zI v1)), (3, .null), (0, .ref a), (2, .int (zI v2))] dX3_cycle_33 (by decide) rfl ?_
        refine j_iinc hx 3 [(2, .int (zI (v2 + 1))), (1, .int (zI v1)), (3, .null), (0, .ref a)] dX3_cycle_34 rfl (by omega) (by decide) rfl ?_
        refine j_goto hx 4 dX3_cycle_37 rfl ?_
        exact j_sub [3, 1, 0] [(0, .ref a), (1, .int (zI v1)), (2, .int (zI (v2 + 1)))] rfl (ih_c4_1 v1 (v2 + 1) (by omega) (by omega) (by omega))
  exact j_sub [2, 1, 0] [(0, .ref a), (1, .int (zI 1)), (2, .int (zI 0))] rfl (c4_1 (2147483648 * 4) 1 0 (by omega) (by omega) (by omega))

set_option maxHeartbeats 4000000 in
set_option maxRecDepth 20000 in
theorem c_fill_54m {E : zE} {l : Launch} (hst : l.stackTraces = false) (b0 : Nat) (x1 : Int) : Con E l yJ7_fill_53178 cJ7_fill_53178 4 none { frames := 0, cells := 0, slots := 0, locals := 0 } (fun G s vs => vs = [.ref b0, .int (zI x1)] ∧ zGK G ∧ zSK G s ∧ (gT G b0 = 54) ∧ ((-1) ≤ x1 ∧ x1 ≤ (-1))) (fun G s _ => pV (fun G2 s2 => G2 = G ∧ zSK G s2 ∧ zFr [54] G s s2 ∧ True)) := by
  refine Con.mk hst (by decide) (fun G s vs h => by rw [h.1]; exact Nat.le_of_ble_eq_true rfl) ?_
  rintro X G s0 vs ⟨rfl, hG, hS0, hb0, hx1⟩ rfl hx hq
  show JJ X E 4 G s0 0 0 [(0, .ref b0), (1, .int (zI x1))] 0 []
  refine j_iconst hx dJ7_fill_53178_0 ?_
  refine j_istore_n hx [(2, .int (zI 0)), (0, .ref b0), (1, .int (zI x1))] dJ7_fill_53178_1 (by decide) rfl ?_
  refine j_aload_n hx 1 dJ7_fill_53178_2 rfl ?_
  refine j_alen hx hG hb0 (by decide) (by decide) (zlen hG hb0 (n := 4096) rfl rfl) dJ7_fill_53178_3 ?_
  refine j_istore_n hx [(3, .int (zI 4096)), (2, .int (zI 0)), (0, .ref b0), (1, .int (zI x1))] dJ7_fill_53178_4 (by decide) rfl ?_
  have c5_1 : ∀ (m_c5_1 : Nat) (v1 : Int) (s2 : zS), 2147483648 - v1 < m_c5_1 → (0 ≤ v1 ∧ v1 ≤ 4096) → (zSK G s2) → (zFr [54] G s0 s2) → JJ X E 4 G s2 0 0 [(0, .ref b0), (1, .int (zI x1)), (2, .int (zI v1)), (3, .int (zI 4096))] 5 [] := by
    intro m_c5_1
    induction m_c5_1 with
    | zero => intro v1 s2 hm_c5_1 fA3 hS_s2 hF_s2; exfalso; omega
    | succ m_c5_1 ih_c5_1 => 
      intro v1 s2 hm_c5_1 fA3 hS_s2 hF_s2
      refine j_iload_n hx 2 dJ7_fill_53178_5 rfl ?_
      refine j_iload_n hx 3 dJ7_fill_53178_6 rfl ?_
      refine j_icmp_ge hx 20 dJ7_fill_53178_7 rfl (by omega) ⟨by decide, by decide⟩ (fun h2 => ?_) (fun h2 => ?_)
      · skip
        exact j_vret hx hq rfl (by decide) (by decide) dJ7_fill_53178_20 ⟨rfl, rfl, hS_s2, (zFr_t zFr_rf hF_s2 (by decide)), trivial⟩
      · skip
        refine j_aload_n hx 0 dJ7_fill_53178_10 rfl ?_
        refine j_iload_n hx 2 dJ7_fill_53178_11 rfl ?_
        refine j_iload_n hx 1 dJ7_fill_53178_12 rfl ?_
        refine j_iast hx hG hb0 (by decide) rfl (zlen hG hb0 (n := 4096) rfl rfl) (by omega) (by omega) (j := (v1).toNat) rfl dJ7_fill_53178_13 ?_
        obtain ⟨s6, e_s6⟩ : ∃ z, z = zU s2 b0 (v1).toNat x1 := ⟨_, rfl⟩
        rw [← e_s6]
        have hS_s6 : zSK G s6 := by rw [e_s6]; exact zSK_A hS_s2 hb0 rfl rfl rfl (by omega)
        refine j_iinc hx 2 [(2, .int (zI (v1 + 1))), (0, .ref b0), (1, .int (zI x1)), (3, .int (zI 4096))] dJ7_fill_53178_14 rfl (by omega) (by decide) rfl ?_
        refine j_goto hx 5 dJ7_fill_53178_17 rfl ?_
        exact j_sub [1, 2, 0, 3] [(0, .ref b0), (1, .int (zI x1)), (2, .int (zI (v1 + 1))), (3, .int (zI 4096))] rfl (ih_c5_1 (v1 + 1) s6 (by omega) (by omega) hS_s6 (zFr_u (zFr_t zFr_rf hF_s2 (by decide)) e_s6 hb0 (by decide)))
  exact j_sub [2, 3, 1, 0] [(0, .ref b0), (1, .int (zI x1)), (2, .int (zI 0)), (3, .int (zI 4096))] rfl (c5_1 (2147483648 * 4) 0 s0 (by omega) (by omega) hS0 zFr_rf)

set_option maxHeartbeats 4000000 in
set_option maxRecDepth 20000 in
theorem c_X0_leftOne {E : zE} {l : Launch} (hst : l.stackTraces = false) (a : Nat) : Con E l yX0_leftOne cX0_leftOne 1 (some .int) { frames := 1, cells := 0, slots := 0, locals := 22 } (fun G s vs => vs = [.ref a] ∧ zGK G ∧ zSK G s ∧ (gT G a = 1)) (fun G s _ => pI (fun r G2 s2 => G2 = G ∧ s2 = s ∧ ((-1) ≤ r ∧ r ≤ (-1)))) := by
  refine Con.mk hst (by decide) (fun G s vs h => by rw [h.1]; exact Nat.le_of_ble_eq_true rfl) ?_
  rintro X G s0 vs ⟨rfl, hG, hS0, ha⟩ rfl hx hq
  show JJ X E 1 G s0 0 0 [(0, .ref a)] 0 []
  refine j_aload_n hx 0 dX0_leftOne_0 rfl ?_
  refine j_callV hx hG (c_X0_remaining hst a) lk_RX0_68 ha (by decide) rfl rfl rfl rfl [] ⟨rfl, hG, hS0, ha⟩ rfl rfl ⟨by decide, by decide⟩ ⟨by decide, by decide⟩ (k2 := 0) (n2 := 0) rfl rfl (Nat.le_of_ble_eq_true rfl) dX0_leftOne_1 (kIP (fun v1 q2 => ?_))
  refine j_iconst hx dX0_leftOne_4 ?_
  refine j_icmp_ne hx 20 dX0_leftOne_5 rfl (by omega) ⟨by decide, by decide⟩ (fun h3 => ?_) (fun h3 => absurd h3 (by omega))
  refine j_iconst hx dX0_leftOne_20 ?_
  exact j_iret hx hq rfl (by decide) (by decide) dX0_leftOne_21 ⟨(-1), rfl, rfl, rfl, (by omega)⟩

theorem lk_RX2_35 : LkV RX2 35 RX3 yX3_cycle cX3_cycle 4 (some .int) 0 := ⟨km_RX2_35, ki_yX3_cycle, ks_RX3_yX3_cycle, kn_RX3, kc_yX3_cycle, rfl, by decide +kernel, by decide +kernel, by decide +kernel⟩
theorem lk_RX2_45 : LkS RX2 45 yJ7_fill_53178 cJ7_fill_53178 4 none 2 := ⟨km_RX2_45, kst_yJ7_fill_53178, kn_RJ7, kc_yJ7_fill_53178, by decide +kernel, by decide +kernel, by decide +kernel⟩
theorem lk_RX2_65 : LkV RX2 65 RX0 yX0_whose cX0_whose 1 (some .int) 0 := ⟨km_RX2_65, ki_yX0_whose, ks_RX0_yX0_whose, kn_RX0, kc_yX0_whose, rfl, by decide +kernel, by decide +kernel, by decide +kernel⟩
theorem lk_RX2_77 : LkV RX2 77 RX0 yX0_leftOne cX0_leftOne 1 (some .int) 0 := ⟨km_RX2_77, ki_yX0_leftOne, ks_RX0_yX0_leftOne, kn_RX0, kc_yX0_leftOne, rfl, by decide +kernel, by decide +kernel, by decide +kernel⟩
set_option maxHeartbeats 4000000 in
set_option maxRecDepth 20000 in
theorem c_X2_run {E : zE} {l : Launch} (hst : l.stackTraces = false) (a : Nat) : Con E l yX2_run cX2_run 4 none { frames := 2, cells := 0, slots := 0, locals := 42 } (fun G s vs => vs = [.ref a] ∧ zGK G ∧ zSK G s ∧ (gT G a = 3)) (fun G s _ => pV (fun G2 s2 => G2 = G ∧ zSK G s2 ∧ zFr [3, 54] G s s2 ∧ s2 a 4 = -1 ∧ s2 a 6 = 1)) := by
  refine Con.mk hst (by decide) (fun G s vs h => by rw [h.1]; exact Nat.le_of_ble_eq_true rfl) ?_
  rintro X G s0 vs ⟨rfl, hG, hS0, ha⟩ rfl hx hq
  show JJ X E 4 G s0 0 0 [(0, .ref a)] 0 []
  refine j_iconst hx dX2_run_0 ?_
  refine j_aload_n hx 0 dX2_run_1 rfl ?_
  refine g3_0 hx hG ha kf_RX2_27 dX2_run_2 ?_
  refine j_callV hx hG (c_X3_cycle hst (gP G a 0)) lk_RX2_35 (zr (k := 0) (t2 := 4) hG ha rfl) (by decide) rfl rfl rfl rfl [] ⟨rfl, hG, hS0, (zr (k := 0) (t2 := 4) hG ha rfl)⟩ rfl rfl ⟨by decide, by decide⟩ ⟨by decide, by decide⟩ (k2 := 0) (n2 := 0) rfl rfl (Nat.le_of_ble_eq_true rfl) dX2_run_5 (kIP (fun v1 q2 => ?_))
  refine j_mmax hx km_RX2_39 kst_max kn_RJ9 kc_Lib_Math_max_name ⟨by decide, by decide⟩ (by omega) ⟨by decide, Nat.le_of_ble_eq_true rfl⟩ ⟨by decide, by decide⟩ dX2_run_8 (fun v3 f4 f5 f6 => ?_)
  refine j_istore_n hx [(1, .int (zI v3)), (0, .ref a)] dX2_run_11 (by decide) rfl ?_
  refine j_aload_n hx 1 dX2_run_12 rfl ?_
  refine g3_2 hx hG ha kf_RX2_15 dX2_run_13 ?_
  refine j_iconst hx dX2_run_16 ?_
  refine j_callS hx (c_fill_54m hst (gP G a 2) (-1)) lk_RX2_45 [.ref (gP G a 2), .int (zI (-1))] ⟨rfl, hG, hS0, (zr (k := 2) (t2 := 54) hG ha rfl), (by omega)⟩ rfl rfl ⟨by decide, by decide⟩ ⟨by decide, by decide⟩ (k2 := 0) (n2 := 0) rfl rfl (Nat.le_of_ble_eq_true rfl) dX2_run_17 (kVM (fun s1 hS_s1 hF_s1 q8 => ?_))
  refine j_aload_n hx 1 dX2_run_20 rfl ?_
  refine j_iconst hx dX2_run_21 ?_
  refine p3_6 hx hG ha kf_RX2_51 dX2_run_22 ?_
  obtain ⟨s2, e_s2⟩ : ∃ z, z = zU s1 a 6 0 := ⟨_, rfl⟩
  rw [← e_s2]
  have hS_s2 : zSK G s2 := by rw [e_s2]; exact zSK_F hS_s1 ha rfl rfl rfl (by omega)
  refine j_aload_n hx 1 dX2_run_25 rfl ?_
  refine j_iconst hx dX2_run_26 ?_
  refine p3_7 hx hG ha kf_RX2_55 dX2_run_27 ?_
  obtain ⟨s3, e_s3⟩ : ∃ z, z = zU s2 a 7 0 := ⟨_, rfl⟩
  rw [← e_s3]
  have hS_s3 : zSK G s3 := by rw [e_s3]; exact zSK_F hS_s2 ha rfl rfl rfl (by omega)
  refine j_aload_n hx 1 dX2_run_30 rfl ?_
  refine j_iconst hx dX2_run_31 ?_
  refine p3_5 hx hG ha kf_RX2_58 dX2_run_32 ?_
  obtain ⟨s4, e_s4⟩ : ∃ z, z = zU s3 a 5 0 := ⟨_, rfl⟩
  rw [← e_s4]
  have hS_s4 : zSK G s4 := by rw [e_s4]; exact zSK_F hS_s3 ha rfl rfl rfl (by omega)
  refine j_iconst hx dX2_run_35 ?_
  refine j_istore_n hx [(2, .int (zI 0)), (1, .int (zI v3)), (0, .ref a)] dX2_run_36 (by decide) rfl ?_
  refine j_iload_n hx 0 dX2_run_37 rfl ?_
  refine j_sipush hx dX2_run_38 rfl ?_
  refine j_icmp_gt hx 126 dX2_run_41 rfl ⟨by decide, by decide⟩ ⟨by decide, by decide⟩ (fun h9 => absurd h9 (by omega)) (fun h9 => ?_)
  refine j_aload_n hx 2 dX2_run_44 rfl ?_
  refine g3_6 hx hG ha kf_RX2_51 (v := 0) (by rw [e_s4, zU_at (Or.inr (by decide)), e_s3, zU_at (Or.inr (by decide)), e_s2, zU_eq]) dX2_run_45 ?_
  refine j_if_ne hx 126 dX2_run_48 rfl ⟨by decide, by decide⟩ (fun h10 => absurd h10 (by omega)) (fun h10 => ?_)
  refine j_aload_n hx 2 dX2_run_51 rfl ?_
  refine j_iload_n hx 0 dX2_run_52 rfl ?_
  refine p3_5 hx hG ha kf_RX2_58 dX2_run_53 ?_
  obtain ⟨s5, e_s5⟩ : ∃ z, z = zU s4 a 5 0 := ⟨_, rfl⟩
  rw [← e_s5]
  have hS_s5 : zSK G s5 := by rw [e_s5]; exact zSK_F hS_s4 ha rfl rfl rfl (by omega)
  refine j_aload_n hx 2 dX2_run_56 rfl ?_
  refine g3_0 hx hG ha kf_RX2_27 dX2_run_57 ?_
  refine gN4_1 hx hG (zr (k := 0) (t2 := 4) hG ha rfl) kf_RX2_61 dX2_run_60 ?_
  refine j_callV hx hG (c_X0_whose hst (gP G (gP G a 0) 1)) lk_RX2_65 (zr (k := 1) (t2 := 1) hG (zr (k := 0) (t2 := 4) hG ha rfl) rfl) (by decide) rfl rfl rfl rfl [] ⟨rfl, hG, hS_s5, (zr (k := 1) (t2 := 1) hG (zr (k := 0) (t2 := 4) hG ha rfl) rfl)⟩ rfl rfl ⟨by decide, by decide⟩ ⟨by decide, by decide⟩ (k2 := 0) (n2 := 0) rfl rfl (Nat.le_of_ble_eq_true rfl) dX2_run_63 (kIP (fun v11 q12 => ?_))
  refine j_iconst hx dX2_run_66 ?_
  refine j_icmp_ne hx 78 dX2_run_67 rfl (by omega) ⟨by decide, by decide⟩ (fun h13 => absurd h13 (by omega)) (fun h13 => ?_)
  refine j_aload_n hx 2 dX2_run_70 rfl ?_
  refine j_iconst hx dX2_run_71 ?_
  refine p3_6 hx hG ha kf_RX2_51 dX2_run_72 ?_
  obtain ⟨s6, e_s6⟩ : ∃ z, z = zU s5 a 6 1 := ⟨_, rfl⟩
  rw [← e_s6]
  have hS_s6 : zSK G s6 := by rw [e_s6]; exact zSK_F hS_s5 ha rfl rfl rfl (by omega)
  refine j_goto hx 126 dX2_run_75 rfl ?_
  refine j_aload_n hx 2 dX2_run_126 rfl ?_
  refine j_aload_n hx 2 dX2_run_127 rfl ?_
  refine g3_6 hx hG ha kf_RX2_51 (v := 1) (by rw [e_s6, zU_eq]) dX2_run_128 ?_
  refine j_iconst hx dX2_run_131 ?_
  refine j_icmp_ne hx 148 dX2_run_132 rfl ⟨by decide, by decide⟩ ⟨by decide, by decide⟩ (fun h14 => absurd h14 (by omega)) (fun h14 => ?_)
  refine j_aload_n hx 2 dX2_run_135 rfl ?_
  refine g3_0 hx hG ha kf_RX2_27 dX2_run_136 ?_
  refine gN4_1 hx hG (zr (k := 0) (t2 := 4) hG ha rfl) kf_RX2_61 dX2_run_139 ?_
  refine j_callV hx hG (c_X0_leftOne hst (gP G (gP G a 0) 1)) lk_RX2_77 (zr (k := 1) (t2 := 1) hG (zr (k := 0) (t2 := 4) hG ha rfl) rfl) (by decide) rfl rfl rfl rfl [] ⟨rfl, hG, hS_s6, (zr (k := 1) (t2 := 1) hG (zr (k := 0) (t2 := 4) hG ha rfl) rfl)⟩ rfl rfl ⟨by decide, by decide⟩ ⟨by decide, by decide⟩ (k2 := 0) (n2 := 0) rfl rfl (Nat.le_of_ble_eq_true rfl) dX2_run_142 (kIP (fun v15 q16 => ?_))
  refine j_goto hx 149 dX2_run_145 rfl ?_
  refine p3_4 hx hG ha kf_RX2_80 dX2_run_149 ?_
  obtain ⟨s7, e_s7⟩ : ∃ z, z = zU s6 a 4 v15 := ⟨_, rfl⟩
  rw [← e_s7]
  have hS_s7 : zSK G s7 := by rw [e_s7]; exact zSK_F hS_s6 ha rfl rfl rfl (by omega)
  have g17 : s7 a 4 = v15 := (by rw [e_s7, zU_eq])
  have g18 : s7 a 6 = 1 := (by rw [e_s7, zU_at (Or.inr (by decide)), e_s6, zU_eq])
  exact j_vret hx hq rfl (by decide) (by decide) dX2_run_152 ⟨rfl, rfl, hS_s7, (zFr_u (zFr_u (zFr_u (zFr_u (zFr_u (zFr_u (zFr_t zFr_rf hF_s1 (by decide)) e_s2 ha (by decide)) e_s3 ha (by decide)) e_s4 ha (by decide)) e_s5 ha (by decide)) e_s6 ha (by decide)) e_s7 ha (by decide)), ⟨by omega, by omega⟩⟩

theorem lk_RX11_237 : LkV RX11 237 RX2 yX2_begin cX2_begin 2 none 1 := ⟨km_RX11_237, ki_yX2_begin, ks_RX2_yX2_begin, kn_RX2, kc_yX2_begin, rfl, by decide +kernel, by decide +kernel, by decide +kernel⟩
theorem lk_RX11_240 : LkV RX11 240 RX2 yX2_run cX2_run 4 none 0 := ⟨km_RX11_240, ki_yX2_run, ks_RX2_yX2_run, kn_RX2, kc_yX2_run, rfl, by decide +kernel, by decide +kernel, by decide +kernel⟩
set_option maxHeartbeats 4000000 in
set_option maxRecDepth 20000 in
theorem c_X11_ends {E : zE} {l : Launch} (hst : l.stackTraces = false) (a : Nat) (x1 : Int) : ConX E l yX11_ends cX11_ends 2 (some .int) { frames := 7, cells := 1, slots := 6, locals := 113 } (fun G s vs => vs = [.ref a, .int (zI x1)] ∧ zGK G ∧ zSK G s ∧ (gT G a = 12) ∧ ((-2147483648) ≤ x1 ∧ x1 ≤ 2147483647) ∧ (zS0 G s)) (fun G s _ => pI (fun r G2 s2 => G2 = G ∧ zSK G s2 ∧ zFr [1, 3, 4, 7, 44, 49, 50, 54] G s s2 ∧ ((-1) ≤ r ∧ r ≤ 1) ∧ ((x1 = 0 → r = -1) ∧ (x1 = 1 → r = 0) ∧ (x1 = 2 → r = 1) ∧ (x1 = 3 → r = 0)) ∧ (0 ≤ x1 ∧ x1 ≤ 3))) (fun G s _ Ex G2 s2 => G2 = G ∧ zSK G s2 ∧ zFr [1, 3, 4, 7, 12, 44, 49, 50, 54] G s s2 ∧ ((Ex = "java/lang/IllegalArgumentException" ∧ (¬ (0 ≤ x1 ∧ x1 ≤ 3))))) := by
  refine ConX.mk hst (by decide) (fun G s vs h => by rw [h.1]; exact Nat.le_of_ble_eq_true rfl) ?_
  rintro X G s0 vs ⟨rfl, hG, hS0, ha, hx1, hF0⟩ rfl hx hq
  show JJ X E 2 G s0 0 0 [(0, .ref a), (1, .int (zI x1))] 0 []
  refine j_aload_n hx 0 dX11_ends_0 rfl ?_
  refine j_iload_n hx 1 dX11_ends_1 rfl ?_
  refine j_iconst hx dX11_ends_2 ?_
  refine j_iconst hx dX11_ends_3 ?_
  refine j_callVX hx hq hG (c_X11_needRange hst a x1 0 3) lk_RX11_98 ha (by decide) rfl rfl rfl rfl [.int (zI x1), .int (zI 0), .int (zI 3)] ⟨rfl, hG, hS0, ha, (by omega), (by omega), (by omega), hF0⟩ rfl rfl ⟨by decide, by decide⟩ ⟨by decide, by decide⟩ (k2 := 1) (n2 := 6) rfl rfl (Nat.le_of_ble_eq_true rfl) ⟨by decide, by decide⟩ dX11_ends_4 (by rintro Ex9 G9 s9 ⟨rfl, hS9, hF9, e9, c9⟩; exact ⟨rfl, hS9, (zFr_t zFr_rf hF9 (by decide)), ⟨e9, by first | trivial | omega⟩⟩) (kVP (fun q2 => ?_))
  refine j_aload_n hx 0 dX11_ends_7 rfl ?_
  refine g12_7 hx hG ha kf_RX11_55 dX11_ends_8 ?_
  refine j_aload_n hx 0 dX11_ends_11 rfl ?_
  refine g12_6 hx hG ha kf_RX11_48 dX11_ends_12 ?_
  refine j_callV hx hG (c_X2_begin hst (gP G a 7) (gP G a 6)) lk_RX11_237 (zr (k := 7) (t2 := 3) hG ha rfl) (by decide) rfl rfl rfl rfl [.ref (gP G a 6)] ⟨rfl, hG, hS0, (zr (k := 7) (t2 := 3) hG ha rfl), (zr (k := 6) (t2 := 4) hG ha rfl)⟩ rfl rfl ⟨by decide, by decide⟩ ⟨by decide, by decide⟩ (k2 := 1) (n2 := 6) rfl rfl (Nat.le_of_ble_eq_true rfl) dX11_ends_15 (kVM (fun s1 hS_s1 hF_s1 q4 => ?_))
  refine j_aload_n hx 0 dX11_ends_18 rfl ?_
  refine g12_7 hx hG ha kf_RX11_55 dX11_ends_19 ?_
  refine j_callV hx hG (c_X2_run hst (gP G a 7)) lk_RX11_240 (zr (k := 7) (t2 := 3) hG ha rfl) (by decide) rfl rfl rfl rfl [] ⟨rfl, hG, hS_s1, (zr (k := 7) (t2 := 3) hG ha rfl)⟩ rfl rfl ⟨by decide, by decide⟩ ⟨by decide, by decide⟩ (k2 := 1) (n2 := 6) rfl rfl (Nat.le_of_ble_eq_true rfl) dX11_ends_22 (kVM (fun s2 hS_s2 hF_s2 q6 => ?_))
  refine j_iload_n hx 1 dX11_ends_25 rfl ?_
  refine j_if_ne hx 37 dX11_ends_26 rfl (by omega) (fun h7 => ?_) (fun h7 => ?_)
  · skip
    refine j_iload_n hx 1 dX11_ends_37 rfl ?_
    refine j_iconst hx dX11_ends_38 ?_
    refine j_icmp_ne hx 50 dX11_ends_39 rfl (by omega) ⟨by decide, by decide⟩ (fun h8 => ?_) (fun h8 => ?_)
    · skip
      refine j_iload_n hx 1 dX11_ends_50 rfl ?_
      refine j_iconst hx dX11_ends_51 ?_
      refine j_icmp_ne hx 65 dX11_ends_52 rfl (by omega) ⟨by decide, by decide⟩ (fun h9 => ?_) (fun h9 => ?_)
      · skip
        refine j_aload_n hx 0 dX11_ends_65 rfl ?_
        refine g12_7 hx hG ha kf_RX11_55 dX11_ends_66 ?_
        have f10 := zf hS_s2 (zr (k := 7) (t2 := 3) hG ha rfl) (k := 7) rfl
        refine gN3_7 hx hG (zr (k := 7) (t2 := 3) hG ha rfl) kf_RX11_252 rfl dX11_ends_69 ?_
        exact j_iret hx hq.r rfl (by decide) (by decide) dX11_ends_72 ⟨(s2 (gP G a 7) 7), rfl, rfl, hS_s2, (zFr_t (zFr_t zFr_rf hF_s1 (by decide)) hF_s2 (by decide)), ⟨(by omega), by omega, by omega⟩⟩
      · skip
        refine j_aload_n hx 0 dX11_ends_55 rfl ?_
        refine g12_7 hx hG ha kf_RX11_55 dX11_ends_56 ?_
        refine gN3_6 hx hG (zr (k := 7) (t2 := 3) hG ha rfl) kf_RX11_249 rfl dX11_ends_59 ?_
        refine j_goto hx 72 dX11_ends_62 rfl ?_
        exact j_iret hx hq.r rfl (by decide) (by decide) dX11_ends_72 ⟨(s2 (gP G a 7) 6), rfl, rfl, hS_s2, (zFr_t (zFr_t zFr_rf hF_s1 (by decide)) hF_s2 (by decide)), ⟨(by omega), by omega, by omega⟩⟩
    · skip
      refine j_aload_n hx 0 dX11_ends_42 rfl ?_
      refine g12_7 hx hG ha kf_RX11_55 dX11_ends_43 ?_
      have f11 := zf hS_s2 (zr (k := 7) (t2 := 3) hG ha rfl) (k := 5) rfl
      refine gN3_5 hx hG (zr (k := 7) (t2 := 3) hG ha rfl) kf_RX11_246 rfl dX11_ends_46 ?_
      exact j_iret hx hq.r rfl (by decide) (by decide) dX11_ends_49 ⟨(s2 (gP G a 7) 5), rfl, rfl, hS_s2, (zFr_t (zFr_t zFr_rf hF_s1 (by decide)) hF_s2 (by decide)), ⟨(by omega), by omega, by omega⟩⟩
  · skip
    refine j_aload_n hx 0 dX11_ends_29 rfl ?_
    refine g12_7 hx hG ha kf_RX11_55 dX11_ends_30 ?_
    refine gN3_4 hx hG (zr (k := 7) (t2 := 3) hG ha rfl) kf_RX11_243 rfl dX11_ends_33 ?_
    exact j_iret hx hq.r rfl (by decide) (by decide) dX11_ends_36 ⟨(s2 (gP G a 7) 4), rfl, rfl, hS_s2, (zFr_t (zFr_t zFr_rf hF_s1 (by decide)) hF_s2 (by decide)), ⟨(by omega), by omega, by omega⟩⟩

set_option maxHeartbeats 4000000 in
set_option maxRecDepth 20000 in
theorem c_X10_boardAt {E : zE} {l : Launch} (hst : l.stackTraces = false) (a : Nat) (x1 : Int) : Con E l yX10_boardAt cX10_boardAt 2 (some (.object "SnapHeaps$Board")) { frames := 0, cells := 0, slots := 0, locals := 0 } (fun G s vs => vs = [.ref a, .int (zI x1)] ∧ zGK G ∧ zSK G s ∧ (gT G a = 11) ∧ ((-2147483648) ≤ x1 ∧ x1 ≤ 2147483647)) (fun G s _ => pN (fun G2 s2 => G2 = G ∧ s2 = s ∧ True) (fun r G2 s2 => G2 = G ∧ s2 = s ∧ gT G r = 1)) := by
  refine Con.mk hst (by decide) (fun G s vs h => by rw [h.1]; exact Nat.le_of_ble_eq_true rfl) ?_
  rintro X G s0 vs ⟨rfl, hG, hS0, ha, hx1⟩ rfl hx hq
  show JJ X E 2 G s0 0 0 [(0, .ref a), (1, .int (zI x1))] 0 []
  refine j_iload_n hx 1 dX10_boardAt_0 rfl ?_
  refine j_if_lt hx 22 dX10_boardAt_1 rfl (by omega) (fun h1 => ?_) (fun h1 => ?_)
  · skip
    refine j_null hx dX10_boardAt_22 ?_
    exact j_aret hx hq rfl (by decide) (by decide) dX10_boardAt_23 (Or.inl rfl) (Or.inl ⟨rfl, rfl, rfl, trivial⟩)
  · skip
    refine j_iload_n hx 1 dX10_boardAt_4 rfl ?_
    refine j_aload_n hx 0 dX10_boardAt_5 rfl ?_
    refine g11_1 hx hG ha kf_RX10_13 dX10_boardAt_6 ?_
    refine j_alen hx hG (zr (k := 1) (t2 := 56) hG ha rfl) (by decide) (by decide) (zlen hG (zr (k := 1) (t2 := 56) hG ha rfl) (n := 13) rfl rfl) dX10_boardAt_9 ?_
    refine j_icmp_ge hx 22 dX10_boardAt_10 rfl (by omega) ⟨by decide, by decide⟩ (fun h2 => ?_) (fun h2 => ?_)
    · skip
      refine j_null hx dX10_boardAt_22 ?_
      exact j_aret hx hq rfl (by decide) (by decide) dX10_boardAt_23 (Or.inl rfl) (Or.inl ⟨rfl, rfl, rfl, trivial⟩)
    · skip
      refine j_aload_n hx 0 dX10_boardAt_13 rfl ?_
      refine g11_1 hx hG ha kf_RX10_13 dX10_boardAt_14 ?_
      refine j_iload_n hx 1 dX10_boardAt_17 rfl ?_
      refine j_aald hx hG hS0 (zr (k := 1) (t2 := 56) hG ha rfl) (by decide) (by decide) rfl (zlen hG (zr (k := 1) (t2 := 56) hG ha rfl) (n := 13) rfl rfl) (by omega) (by omega) dX10_boardAt_18 (fun h3 => ?_) (fun h4 h5 => ?_)
      · skip
        refine j_goto hx 23 dX10_boardAt_19 rfl ?_
        exact j_aret hx hq rfl (by decide) (by decide) dX10_boardAt_23 (Or.inl rfl) (Or.inl ⟨rfl, rfl, rfl, trivial⟩)
      · skip
        refine j_goto hx 23 dX10_boardAt_19 rfl ?_
        exact j_aret hx hq rfl (by decide) (by decide) dX10_boardAt_23 (Or.inr ⟨_, rfl⟩) (Or.inr ⟨_, rfl, rfl, rfl, h5⟩)
