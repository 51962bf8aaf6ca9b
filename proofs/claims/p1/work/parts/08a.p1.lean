
set_option maxHeartbeats 4000000 in
set_option maxRecDepth 20000 in
theorem c_X6_kindAt {E : zE} {l : Launch} (hst : l.stackTraces = false) (a : Nat) (x1 : Int) : Con E l yX6_kindAt cX6_kindAt 2 (some .int) { frames := 0, cells := 0, slots := 0, locals := 0 } (fun G s vs => vs = [.ref a, .int (zI x1)] ∧ zGK G ∧ zSK G s ∧ (gT G a = 7) ∧ ((-2147483648) ≤ x1 ∧ x1 ≤ 2147483647)) (fun G s _ => pI (fun r G2 s2 => G2 = G ∧ s2 = s ∧ ((-1) ≤ r ∧ r ≤ (-1)))) := by
  refine Con.mk hst (by decide) (fun G s vs h => by rw [h.1]; exact Nat.le_of_ble_eq_true rfl) ?_
  rintro X G s0 vs ⟨rfl, hG, hS0, ha, hx1⟩ rfl hx hq
  show JJ X E 2 G s0 0 0 [(0, .ref a), (1, .int (zI x1))] 0 []
  refine j_iload_n hx 1 dX6_kindAt_0 rfl ?_
  refine j_if_lt hx 32 dX6_kindAt_1 rfl (by omega) (fun h1 => ?_) (fun h1 => ?_)
  · skip
    refine j_iconst hx dX6_kindAt_32 ?_
    exact j_iret hx hq rfl (by decide) (by decide) dX6_kindAt_33 ⟨(-1), rfl, rfl, rfl, (by omega)⟩
  · skip
    refine j_iload_n hx 1 dX6_kindAt_4 rfl ?_
    refine j_aload_n hx 0 dX6_kindAt_5 rfl ?_
    have f2 := zf hS0 ha (k := 1) rfl
    refine g7_1 hx hG ha kf_RX6_15 rfl dX6_kindAt_6 ?_
    refine j_icmp_ge hx 32 dX6_kindAt_9 rfl (by omega) (by omega) (fun h3 => ?_) (fun h3 => absurd h3 (by omega))
    refine j_iconst hx dX6_kindAt_32 ?_
    exact j_iret hx hq rfl (by decide) (by decide) dX6_kindAt_33 ⟨(-1), rfl, rfl, rfl, (by omega)⟩

set_option maxHeartbeats 4000000 in
set_option maxRecDepth 20000 in
theorem c_X6_topKind {E : zE} {l : Launch} (hst : l.stackTraces = false) (a : Nat) : Con E l yX6_topKind cX6_topKind 1 (some .int) { frames := 0, cells := 0, slots := 0, locals := 0 } (fun G s vs => vs = [.ref a] ∧ zGK G ∧ zSK G s ∧ (gT G a = 7)) (fun G s _ => pI (fun r G2 s2 => G2 = G ∧ s2 = s ∧ ((-1) ≤ r ∧ r ≤ (-1)))) := by
  refine Con.mk hst (by decide) (fun G s vs h => by rw [h.1]; exact Nat.le_of_ble_eq_true rfl) ?_
  rintro X G s0 vs ⟨rfl, hG, hS0, ha⟩ rfl hx hq
  show JJ X E 1 G s0 0 0 [(0, .ref a)] 0 []
  refine j_aload_n hx 0 dX6_topKind_0 rfl ?_
  have f1 := zf hS0 ha (k := 1) rfl
  refine g7_1 hx hG ha kf_RX6_15 rfl dX6_topKind_1 ?_
  refine j_if_le hx 35 dX6_topKind_4 rfl (by omega) (fun h2 => ?_) (fun h2 => absurd h2 (by omega))
  refine j_iconst hx dX6_topKind_35 ?_
  exact j_iret hx hq rfl (by decide) (by decide) dX6_topKind_36 ⟨(-1), rfl, rfl, rfl, (by omega)⟩

set_option maxHeartbeats 4000000 in
set_option maxRecDepth 20000 in
theorem c_X6_become {E : zE} {l : Launch} (hst : l.stackTraces = false) (a : Nat) (b1 : Nat) : Con E l yX6_become cX6_become 3 none { frames := 0, cells := 0, slots := 0, locals := 0 } (fun G s vs => vs = [.ref a, .ref b1] ∧ zGK G ∧ zSK G s ∧ (gT G a = 7) ∧ (gT G b1 = 7)) (fun G s _ => pV (fun G2 s2 => G2 = G ∧ zSK G s2 ∧ zFr [7] G s s2 ∧ True)) := by
  refine Con.mk hst (by decide) (fun G s vs h => by rw [h.1]; exact Nat.le_of_ble_eq_true rfl) ?_
  rintro X G s0 vs ⟨rfl, hG, hS0, ha, hb1⟩ rfl hx hq
  show JJ X E 3 G s0 0 0 [(0, .ref a), (1, .ref b1)] 0 []
  refine j_aload_n hx 0 dX6_become_0 rfl ?_
  refine j_iconst hx dX6_become_1 ?_
  refine p7_1 hx hG ha kf_RX6_15 dX6_become_2 ?_
  obtain ⟨s1, e_s1⟩ : ∃ z, z = zU s0 a 1 0 := ⟨_, rfl⟩
  rw [← e_s1]
  have hS_s1 : zSK G s1 := by rw [e_s1]; exact zSK_F hS0 ha rfl rfl rfl (by omega)
  refine j_iconst hx dX6_become_5 ?_
  refine j_istore_n hx [(2, .int (zI 0)), (0, .ref a), (1, .ref b1)] dX6_become_6 (by decide) rfl ?_
  refine j_iload_n hx 0 dX6_become_7 rfl ?_
  refine j_aload_n hx 2 dX6_become_8 rfl ?_
  have f1 := zf hS_s1 hb1 (k := 1) rfl
  refine g7_1 hx hG hb1 kf_RX6_15 rfl dX6_become_9 ?_
  refine j_icmp_ge hx 40 dX6_become_12 rfl ⟨by decide, by decide⟩ (by omega) (fun h2 => ?_) (fun h2 => absurd h2 (by omega))
  exact j_vret hx hq rfl (by decide) (by decide) dX6_become_40 ⟨rfl, rfl, hS_s1, (zFr_u zFr_rf e_s1 ha (by decide)), trivial⟩

theorem lk_RX9_37 : LkV RX9 37 RX9 yX9_failIf cX9_failIf 4 none 3 := ⟨km_RX9_37, ki_yX9_failIf, ks_RX9_yX9_failIf, kn_RX9, kc_yX9_failIf, rfl, by decide +kernel, by decide +kernel, by decide +kernel⟩
set_option maxHeartbeats 4000000 in
set_option maxRecDepth 20000 in
theorem c_X9_hasRoom {E : zE} {l : Launch} (hst : l.stackTraces = false) (a : Nat) (x1 : Int) : Con E l yX9_hasRoom cX9_hasRoom 2 (some .boolean) { frames := 0, cells := 0, slots := 0, locals := 0 } (fun G s vs => vs = [.ref a, .int (zI x1)] ∧ zGK G ∧ zSK G s ∧ (gT G a = 10) ∧ (20 ≤ x1 ∧ x1 ≤ 20)) (fun G s _ => pI (fun r G2 s2 => G2 = G ∧ s2 = s ∧ (1 ≤ r ∧ r ≤ 1))) := by
  refine Con.mk hst (by decide) (fun G s vs h => by rw [h.1]; exact Nat.le_of_ble_eq_true rfl) ?_
  rintro X G s0 vs ⟨rfl, hG, hS0, ha, hx1⟩ rfl hx hq
  show JJ X E 2 G s0 0 0 [(0, .ref a), (1, .int (zI x1))] 0 []
  refine j_aload_n hx 0 dX9_hasRoom_0 rfl ?_
  have f1 := zf hS0 ha (k := 1) rfl
  refine g10_1 hx hG ha kf_RX9_19 rfl dX9_hasRoom_1 ?_
  refine j_iload_n hx 1 dX9_hasRoom_4 rfl ?_
  refine j_iadd hx (r := (s0 a 1) + x1) dX9_hasRoom_5 (by omega) ?_
  refine j_aload_n hx 0 dX9_hasRoom_6 rfl ?_
  refine g10_0 hx hG ha kf_RX9_11 dX9_hasRoom_7 ?_
  refine j_alen hx hG (zr (k := 0) (t2 := 45) hG ha rfl) (by decide) (by decide) (zlen hG (zr (k := 0) (t2 := 45) hG ha rfl) (n := 600) rfl rfl) dX9_hasRoom_10 ?_
  refine j_icmp_gt hx 18 dX9_hasRoom_11 rfl (by omega) ⟨by decide, by decide⟩ (fun h2 => absurd h2 (by omega)) (fun h2 => ?_)
  refine j_iconst hx dX9_hasRoom_14 ?_
  refine j_goto hx 19 dX9_hasRoom_15 rfl ?_
  exact j_zret hx hq rfl (by decide) (by decide) dX9_hasRoom_19 (by omega) ⟨1, rfl, rfl, rfl, (by omega)⟩

set_option maxHeartbeats 4000000 in
set_option maxRecDepth 20000 in
theorem c_X9_failIf {E : zE} {l : Launch} (hst : l.stackTraces = false) (a : Nat) (x1 : Int) (x2 : Int) (x3 : Int) : Con E l yX9_failIf cX9_failIf 4 none { frames := 0, cells := 0, slots := 0, locals := 0 } (fun G s vs => vs = [.ref a, .int (zI x1), .int (zI x2), .int (zI x3)] ∧ zGK G ∧ zSK G s ∧ (gT G a = 10) ∧ (0 ≤ x1 ∧ x1 ≤ 1) ∧ (4 ≤ x2 ∧ x2 ≤ 4) ∧ (0 ≤ x3 ∧ x3 ≤ 0)) (fun G s _ => pV (fun G2 s2 => G2 = G ∧ zSK G s2 ∧ zFr [10] G s s2 ∧ True)) := by
  refine Con.mk hst (by decide) (fun G s vs h => by rw [h.1]; exact Nat.le_of_ble_eq_true rfl) ?_
  rintro X G s0 vs ⟨rfl, hG, hS0, ha, hx1, hx2, hx3⟩ rfl hx hq
  show JJ X E 4 G s0 0 0 [(0, .ref a), (1, .int (zI x1)), (2, .int (zI x2)), (3, .int (zI x3))] 0 []
  refine j_iload_n hx 1 dX9_failIf_0 rfl ?_
  refine j_if_eq hx 21 dX9_failIf_1 rfl (by omega) (fun h1 => ?_) (fun h1 => ?_)
  · skip
    exact j_vret hx hq rfl (by decide) (by decide) dX9_failIf_21 ⟨rfl, rfl, hS0, zFr_rf, trivial⟩
  · skip
    refine j_aload_n hx 0 dX9_failIf_4 rfl ?_
    have f2 := zf hS0 ha (k := 4) rfl
    refine g10_4 hx hG ha kf_RX9_34 rfl dX9_failIf_5 ?_
    refine j_if_ne hx 21 dX9_failIf_8 rfl (by omega) (fun h3 => ?_) (fun h3 => ?_)
    · skip
      exact j_vret hx hq rfl (by decide) (by decide) dX9_failIf_21 ⟨rfl, rfl, hS0, zFr_rf, trivial⟩
    · skip
      refine j_aload_n hx 0 dX9_failIf_11 rfl ?_
      refine j_iload_n hx 2 dX9_failIf_12 rfl ?_
      refine p10_4 hx hG ha kf_RX9_34 dX9_failIf_13 ?_
      obtain ⟨s1, e_s1⟩ : ∃ z, z = zU s0 a 4 x2 := ⟨_, rfl⟩
      rw [← e_s1]
      have hS_s1 : zSK G s1 := by rw [e_s1]; exact zSK_F hS0 ha rfl rfl rfl (by omega)
      refine j_aload_n hx 0 dX9_failIf_16 rfl ?_
      refine j_iload_n hx 3 dX9_failIf_17 rfl ?_
      refine p10_5 hx hG ha kf_RX9_15 dX9_failIf_18 ?_
      obtain ⟨s2, e_s2⟩ : ∃ z, z = zU s1 a 5 x3 := ⟨_, rfl⟩
      rw [← e_s2]
      have hS_s2 : zSK G s2 := by rw [e_s2]; exact zSK_F hS_s1 ha rfl rfl rfl (by omega)
      exact j_vret hx hq rfl (by decide) (by decide) dX9_failIf_21 ⟨rfl, rfl, hS_s2, (zFr_u (zFr_u zFr_rf e_s1 ha (by decide)) e_s2 ha (by decide)), trivial⟩

set_option maxHeartbeats 4000000 in
set_option maxRecDepth 20000 in
theorem c_X9_fail {E : zE} {l : Launch} (hst : l.stackTraces = false) (a : Nat) (x1 : Int) : Con E l yX9_fail cX9_fail 2 none { frames := 1, cells := 0, slots := 0, locals := 23 } (fun G s vs => vs = [.ref a, .int (zI x1)] ∧ zGK G ∧ zSK G s ∧ (gT G a = 10) ∧ (4 ≤ x1 ∧ x1 ≤ 4)) (fun G s _ => pV (fun G2 s2 => G2 = G ∧ zSK G s2 ∧ zFr [10] G s s2 ∧ True)) := by
  refine Con.mk hst (by decide) (fun G s vs h => by rw [h.1]; exact Nat.le_of_ble_eq_true rfl) ?_
  rintro X G s0 vs ⟨rfl, hG, hS0, ha, hx1⟩ rfl hx hq
  show JJ X E 2 G s0 0 0 [(0, .ref a), (1, .int (zI x1))] 0 []
  refine j_aload_n hx 0 dX9_fail_0 rfl ?_
  refine j_iconst hx dX9_fail_1 ?_
  refine j_iload_n hx 1 dX9_fail_2 rfl ?_
  refine j_aload_n hx 0 dX9_fail_3 rfl ?_
  have f1 := zf hS0 ha (k := 3) rfl
  refine g10_3 hx hG ha kf_RX9_31 rfl dX9_fail_4 ?_
  refine j_callV hx hG (c_X9_failIf hst a 1 x1 ((s0 a 3))) lk_RX9_37 ha (by decide) rfl rfl rfl rfl [.int (zI 1), .int (zI x1), .int (zI ((s0 a 3)))] ⟨rfl, hG, hS0, ha, (by omega), (by omega), (by omega)⟩ rfl rfl ⟨by decide, by decide⟩ ⟨by decide, by decide⟩ (k2 := 0) (n2 := 0) rfl rfl (Nat.le_of_ble_eq_true rfl) dX9_fail_7 (kVM (fun s1 hS_s1 hF_s1 q3 => ?_))
  exact j_vret hx hq rfl (by decide) (by decide) dX9_fail_10 ⟨rfl, rfl, hS_s1, (zFr_t zFr_rf hF_s1 (by decide)), trivial⟩

set_option maxHeartbeats 4000000 in
set_option maxRecDepth 20000 in
theorem c_X9_close {E : zE} {l : Launch} (hst : l.stackTraces = false) (a : Nat) (x1 : Int) : Con E l yX9_close cX9_close 2 (some .int) { frames := 0, cells := 0, slots := 0, locals := 0 } (fun G s vs => vs = [.ref a, .int (zI x1)] ∧ zGK G ∧ zSK G s ∧ (gT G a = 10) ∧ (0 ≤ x1 ∧ x1 ≤ 0) ∧ ((s a 4 = 0 ∨ s a 4 = 4))) (fun G s _ => pI (fun r G2 s2 => G2 = G ∧ zSK G s2 ∧ zFr [10] G s s2 ∧ ((-6) ≤ r ∧ r ≤ 0) ∧ ((s a 4 = 0 → r = 0) ∧ (s a 4 = 4 → r = -6)))) := by
  refine Con.mk hst (by decide) (fun G s vs h => by rw [h.1]; exact Nat.le_of_ble_eq_true rfl) ?_
  rintro X G s0 vs ⟨rfl, hG, hS0, ha, hx1, e0⟩ rfl hx hq
  show JJ X E 2 G s0 0 0 [(0, .ref a), (1, .int (zI x1))] 0 []
  refine j_aload_n hx 0 dX9_close_0 rfl ?_
  refine j_iconst hx dX9_close_1 ?_
  refine p10_1 hx hG ha kf_RX9_19 dX9_close_2 ?_
  obtain ⟨s1, e_s1⟩ : ∃ z, z = zU s0 a 1 0 := ⟨_, rfl⟩
  rw [← e_s1]
  have hS_s1 : zSK G s1 := by rw [e_s1]; exact zSK_F hS0 ha rfl rfl rfl (by omega)
  refine j_aload_n hx 0 dX9_close_5 rfl ?_
  have f1 := zf hS0 ha (k := 4) rfl
  refine g10_4 hx hG ha kf_RX9_34 (v := (s0 a 4)) (by rw [e_s1, zU_at (Or.inr (by decide))]) dX9_close_6 ?_
  refine j_if_ne hx 16 dX9_close_9 rfl (by omega) (fun h2 => ?_) (fun h2 => ?_)
  · skip
    refine j_aload_n hx 0 dX9_close_16 rfl ?_
    refine g10_4 hx hG ha kf_RX9_34 (v := (s0 a 4)) (by rw [e_s1, zU_at (Or.inr (by decide))]) dX9_close_17 ?_
    refine j_bipush hx dX9_close_20 rfl ?_
    refine j_isub hx (r := (s0 a 4) - 10) dX9_close_22 (by omega) ?_
    exact j_iret hx hq rfl (by decide) (by decide) dX9_close_23 ⟨(s0 a 4) - 10, rfl, rfl, hS_s1, (zFr_u zFr_rf e_s1 ha (by decide)), ⟨(by omega), by omega⟩⟩
  · skip
    refine j_iload_n hx 1 dX9_close_12 rfl ?_
    refine j_goto hx 23 dX9_close_13 rfl ?_
    exact j_iret hx hq rfl (by decide) (by decide) dX9_close_23 ⟨x1, rfl, rfl, hS_s1, (zFr_u zFr_rf e_s1 ha (by decide)), ⟨(by omega), by omega⟩⟩

set_option maxHeartbeats 4000000 in
set_option maxRecDepth 20000 in
theorem c_X9_peek {E : zE} {l : Launch} (hst : l.stackTraces = false) (a : Nat) : Con E l yX9_peek cX9_peek 2 (some .int) { frames := 0, cells := 0, slots := 0, locals := 0 } (fun G s vs => vs = [.ref a] ∧ zGK G ∧ zSK G s ∧ (gT G a = 10)) (fun G s _ => pI (fun r G2 s2 => G2 = G ∧ s2 = s ∧ ((-1) ≤ r ∧ r ≤ (-1)))) := by
  refine Con.mk hst (by decide) (fun G s vs h => by rw [h.1]; exact Nat.le_of_ble_eq_true rfl) ?_
  rintro X G s0 vs ⟨rfl, hG, hS0, ha⟩ rfl hx hq
  show JJ X E 2 G s0 0 0 [(0, .ref a)] 0 []
  refine j_iconst hx dX9_peek_0 ?_
  refine j_istore_n hx [(1, .int (zI 0)), (0, .ref a)] dX9_peek_1 (by decide) rfl ?_
  refine j_iload_n hx 0 dX9_peek_2 rfl ?_
  refine j_sipush hx dX9_peek_3 rfl ?_
  refine j_icmp_ge hx 83 dX9_peek_6 rfl ⟨by decide, by decide⟩ ⟨by decide, by decide⟩ (fun h1 => absurd h1 (by omega)) (fun h1 => ?_)
  refine j_aload_n hx 1 dX9_peek_9 rfl ?_
  have f2 := zf hS0 ha (k := 3) rfl
  refine g10_3 hx hG ha kf_RX9_31 rfl dX9_peek_10 ?_
  refine j_if_lt hx 83 dX9_peek_13 rfl (by omega) (fun h3 => absurd h3 (by omega)) (fun h3 => ?_)
  refine j_aload_n hx 1 dX9_peek_16 rfl ?_
  refine g10_3 hx hG ha kf_RX9_31 rfl dX9_peek_17 ?_
  refine j_aload_n hx 1 dX9_peek_20 rfl ?_
  have f4 := zf hS0 ha (k := 2) rfl
  refine g10_2 hx hG ha kf_RX9_28 rfl dX9_peek_21 ?_
  refine j_icmp_ge hx 83 dX9_peek_24 rfl (by omega) (by omega) (fun h5 => ?_) (fun h5 => absurd h5 (by omega))
  refine j_iconst hx dX9_peek_83 ?_
  exact j_iret hx hq rfl (by decide) (by decide) dX9_peek_84 ⟨(-1), rfl, rfl, rfl, (by omega)⟩

set_option maxHeartbeats 4000000 in
set_option maxRecDepth 20000 in
theorem c_X9_open {E : zE} {l : Launch} (hst : l.stackTraces = false) (a : Nat) (x1 : Int) : Con E l yX9_open cX9_open 2 none { frames := 1, cells := 0, slots := 0, locals := 33 } (fun G s vs => vs = [.ref a, .int (zI x1)] ∧ zGK G ∧ zSK G s ∧ (gT G a = 10) ∧ (0 ≤ x1 ∧ x1 ≤ 0)) (fun G s _ => pV (fun G2 s2 => G2 = G ∧ zSK G s2 ∧ zFr [10] G s s2 ∧ s2 a 4 = 0 ∧ s2 a 5 = -1)) := by
  refine Con.mk hst (by decide) (fun G s vs h => by rw [h.1]; exact Nat.le_of_ble_eq_true rfl) ?_
  rintro X G s0 vs ⟨rfl, hG, hS0, ha, hx1⟩ rfl hx hq
  show JJ X E 2 G s0 0 0 [(0, .ref a), (1, .int (zI x1))] 0 []
  refine j_aload_n hx 0 dX9_open_0 rfl ?_
  refine j_iload_n hx 1 dX9_open_1 rfl ?_
  refine j_aload_n hx 0 dX9_open_2 rfl ?_
  refine g10_0 hx hG ha kf_RX9_11 dX9_open_3 ?_
  refine j_alen hx hG (zr (k := 0) (t2 := 45) hG ha rfl) (by decide) (by decide) (zlen hG (zr (k := 0) (t2 := 45) hG ha rfl) (n := 600) rfl rfl) dX9_open_6 ?_
  refine j_mmin hx km_RX9_22 kst_min kn_RJ9 kc_Lib_Math_min_name (by omega) ⟨by decide, by decide⟩ ⟨by decide, Nat.le_of_ble_eq_true rfl⟩ ⟨by decide, by decide⟩ dX9_open_7 (fun v1 f2 f3 f4 => ?_)
  refine p10_2 hx hG ha kf_RX9_28 dX9_open_10 ?_
  obtain ⟨s1, e_s1⟩ : ∃ z, z = zU s0 a 2 v1 := ⟨_, rfl⟩
  rw [← e_s1]
  have hS_s1 : zSK G s1 := by rw [e_s1]; exact zSK_F hS0 ha rfl rfl rfl (by omega)
  refine j_aload_n hx 0 dX9_open_13 rfl ?_
  refine j_iconst hx dX9_open_14 ?_
  refine p10_3 hx hG ha kf_RX9_31 dX9_open_15 ?_
  obtain ⟨s2, e_s2⟩ : ∃ z, z = zU s1 a 3 0 := ⟨_, rfl⟩
  rw [← e_s2]
  have hS_s2 : zSK G s2 := by rw [e_s2]; exact zSK_F hS_s1 ha rfl rfl rfl (by omega)
  refine j_aload_n hx 0 dX9_open_18 rfl ?_
  refine j_iconst hx dX9_open_19 ?_
  refine p10_4 hx hG ha kf_RX9_34 dX9_open_20 ?_
  obtain ⟨s3, e_s3⟩ : ∃ z, z = zU s2 a 4 0 := ⟨_, rfl⟩
  rw [← e_s3]
  have hS_s3 : zSK G s3 := by rw [e_s3]; exact zSK_F hS_s2 ha rfl rfl rfl (by omega)
  refine j_aload_n hx 0 dX9_open_23 rfl ?_
  refine j_iconst hx dX9_open_24 ?_
  refine p10_5 hx hG ha kf_RX9_15 dX9_open_25 ?_
  obtain ⟨s4, e_s4⟩ : ∃ z, z = zU s3 a 5 (-1) := ⟨_, rfl⟩
  rw [← e_s4]
  have hS_s4 : zSK G s4 := by rw [e_s4]; exact zSK_F hS_s3 ha rfl rfl rfl (by omega)
  have g5 : s4 a 4 = 0 := (by rw [e_s4, zU_at (Or.inr (by decide)), e_s3, zU_eq])
  have g6 : s4 a 5 = (-1) := (by rw [e_s4, zU_eq])
  exact j_vret hx hq rfl (by decide) (by decide) dX9_open_28 ⟨rfl, rfl, hS_s4, (zFr_u (zFr_u (zFr_u (zFr_u zFr_rf e_s1 ha (by decide)) e_s2 ha (by decide)) e_s3 ha (by decide)) e_s4 ha (by decide)), ⟨((by rw [e_s4, zU_at (Or.inr (by decide)), e_s3, zU_eq]) : s4 a 4 = 0).trans (by omega), ((by rw [e_s4, zU_eq]) : s4 a 5 = (-1)).trans (by omega)⟩⟩

set_option maxHeartbeats 4000000 in
set_option maxRecDepth 20000 in
theorem c_X9_become {E : zE} {l : Launch} (hst : l.stackTraces = false) (a : Nat) (b1 : Nat) : Con E l yX9_become cX9_become 3 none { frames := 0, cells := 0, slots := 0, locals := 0 } (fun G s vs => vs = [.ref a, .ref b1] ∧ zGK G ∧ zSK G s ∧ (gT G a = 10) ∧ (gT G b1 = 10)) (fun G s _ => pV (fun G2 s2 => G2 = G ∧ zSK G s2 ∧ zFr [10, 45] G s s2 ∧ True)) := by
  refine Con.mk hst (by decide) (fun G s vs h => by rw [h.1]; exact Nat.le_of_ble_eq_true rfl) ?_
  rintro X G s0 vs ⟨rfl, hG, hS0, ha, hb1⟩ rfl hx hq
  show JJ X E 3 G s0 0 0 [(0, .ref a), (1, .ref b1)] 0 []
  refine j_iconst hx dX9_become_0 ?_
  refine j_istore_n hx [(2, .int (zI 0)), (0, .ref a), (1, .ref b1)] dX9_become_1 (by decide) rfl ?_
  have c2_1 : ∀ (m_c2_1 : Nat) (v1 : Int) (s2 : zS), 2147483648 - v1 < m_c2_1 → (0 ≤ v1 ∧ v1 ≤ 600) → (zSK G s2) → (zFr [45] G s0 s2) → JJ X E 3 G s2 0 0 [(0, .ref a), (1, .ref b1), (2, .int (zI v1))] 2 [] := by
    intro m_c2_1
    induction m_c2_1 with
    | zero => intro v1 s2 hm_c2_1 f3 hS_s2 hF_s2; exfalso; omega
    | succ m_c2_1 ih_c2_1 => 
      intro v1 s2 hm_c2_1 f3 hS_s2 hF_s2
      refine j_iload_n hx 2 dX9_become_2 rfl ?_
      refine j_aload_n hx 0 dX9_become_3 rfl ?_
      refine g10_0 hx hG ha kf_RX9_11 dX9_become_4 ?_
      refine j_alen hx hG (zr (k := 0) (t2 := 45) hG ha rfl) (by decide) (by decide) (zlen hG (zr (k := 0) (t2 := 45) hG ha rfl) (n := 600) rfl rfl) dX9_become_7 ?_
      refine j_icmp_ge hx 38 dX9_become_8 rfl (by omega) ⟨by decide, by decide⟩ (fun h2 => ?_) (fun h2 => ?_)
      · skip
        refine j_aload_n hx 0 dX9_become_38 rfl ?_
        refine j_aload_n hx 1 dX9_become_39 rfl ?_
        have f3 := zf hS0 hb1 (k := 1) rfl
        refine g10_1 hx hG hb1 kf_RX9_19 (v := (s0 b1 1)) (by rw [(zFr_g hF_s2 hb1 (by decide))]) dX9_become_40 ?_
        refine p10_1 hx hG ha kf_RX9_19 dX9_become_43 ?_
        obtain ⟨s6, e_s6⟩ : ∃ z, z = zU s2 a 1 ((s0 b1 1)) := ⟨_, rfl⟩
        rw [← e_s6]
        have hS_s6 : zSK G s6 := by rw [e_s6]; exact zSK_F hS_s2 ha rfl rfl rfl (by omega)
        refine j_aload_n hx 0 dX9_become_46 rfl ?_
        refine j_aload_n hx 1 dX9_become_47 rfl ?_
        have f4 := zf hS_s6 hb1 (k := 5) rfl
        refine g10_5 hx hG hb1 kf_RX9_15 rfl dX9_become_48 ?_
        refine p10_5 hx hG ha kf_RX9_15 dX9_become_51 ?_
        obtain ⟨s7, e_s7⟩ : ∃ z, z = zU s6 a 5 ((s6 b1 5)) := ⟨_, rfl⟩
        rw [← e_s7]
        have hS_s7 : zSK G s7 := by rw [e_s7]; exact zSK_F hS_s6 ha rfl rfl rfl (by omega)
        exact j_vret hx hq rfl (by decide) (by decide) dX9_become_54 ⟨rfl, rfl, hS_s7, (zFr_u (zFr_u (zFr_t zFr_rf hF_s2 (by decide)) e_s6 ha (by decide)) e_s7 ha (by decide)), trivial⟩
      · skip
        refine j_iload_n hx 2 dX9_become_11 rfl ?_
        refine j_aload_n hx 1 dX9_become_12 rfl ?_
        refine g10_0 hx hG hb1 kf_RX9_11 dX9_become_13 ?_
        refine j_alen hx hG (zr (k := 0) (t2 := 45) hG hb1 rfl) (by decide) (by decide) (zlen hG (zr (k := 0) (t2 := 45) hG hb1 rfl) (n := 600) rfl rfl) dX9_become_16 ?_
        refine j_icmp_ge hx 38 dX9_become_17 rfl (by omega) ⟨by decide, by decide⟩ (fun h5 => absurd h5 (by omega)) (fun h5 => ?_)
        refine j_aload_n hx 0 dX9_become_20 rfl ?_
        refine g10_0 hx hG ha kf_RX9_11 dX9_become_21 ?_
        refine j_iload_n hx 2 dX9_become_24 rfl ?_
        refine j_aload_n hx 1 dX9_become_25 rfl ?_
        refine g10_0 hx hG hb1 kf_RX9_11 dX9_become_26 ?_
        refine j_iload_n hx 2 dX9_become_29 rfl ?_
        have f6 := zaI (j := (v1).toNat) hS_s2 (zr (k := 0) (t2 := 45) hG hb1 rfl) rfl (zlen hG (zr (k := 0) (t2 := 45) hG hb1 rfl) (n := 600) rfl rfl) (show 0 ≤ v1 by omega) (by omega) rfl
        refine j_bald hx hG (zr (k := 0) (t2 := 45) hG hb1 rfl) (by decide) rfl (zlen hG (zr (k := 0) (t2 := 45) hG hb1 rfl) (n := 600) rfl rfl) (by omega) (by omega) (j := (v1).toNat) rfl rfl dX9_become_30 ?_
        refine j_bast hx hG (zr (k := 0) (t2 := 45) hG ha rfl) (by decide) rfl (zlen hG (zr (k := 0) (t2 := 45) hG ha rfl) (n := 600) rfl rfl) (by omega) (by omega) (j := (v1).toNat) rfl (znar_b (by omega)) dX9_become_31 ?_
        obtain ⟨s8, e_s8⟩ : ∃ z, z = zU s2 (gP G a 0) (v1).toNat ((s2 (gP G b1 0) (v1).toNat)) := ⟨_, rfl⟩
        rw [← e_s8]
        have hS_s8 : zSK G s8 := by rw [e_s8]; exact zSK_A hS_s2 (zr (k := 0) (t2 := 45) hG ha rfl) rfl rfl rfl (by omega)
        refine j_iinc hx 2 [(2, .int (zI (v1 + 1))), (0, .ref a), (1, .ref b1)] dX9_become_32 rfl (by omega) (by decide) rfl ?_
        refine j_goto hx 2 dX9_become_35 rfl ?_
        exact j_sub [1, 2, 0] [(0, .ref a), (1, .ref b1), (2, .int (zI (v1 + 1)))] rfl (ih_c2_1 (v1 + 1) s8 (by omega) (by omega) hS_s8 (zFr_u (zFr_t zFr_rf hF_s2 (by decide)) e_s8 (zr (k := 0) (t2 := 45) hG ha rfl) (by decide)))
  exact j_sub [1, 2, 0] [(0, .ref a), (1, .ref b1), (2, .int (zI 0))] rfl (c2_1 (2147483648 * 4) 0 s0 (by omega) (by omega) hS0 zFr_rf)

set_option maxHeartbeats 4000000 in
set_option maxRecDepth 20000 in
theorem c_X9_addFour {E : zE} {l : Launch} (hst : l.stackTraces = false) (a : Nat) (x1 : Int) : Con E l yX9_addFour cX9_addFour 3 none { frames := 0, cells := 0, slots := 0, locals := 0 } (fun G s vs => vs = [.ref a, .int (zI x1)] ∧ zGK G ∧ zSK G s ∧ (gT G a = 10) ∧ ((-2147483648) ≤ x1 ∧ x1 ≤ 2147483647) ∧ (s a 1 ≤ 16)) (fun G s _ => pV (fun G2 s2 => G2 = G ∧ zSK G s2 ∧ zFr [10, 45] G s s2 ∧ s2 a 1 = s a 1 + 4)) := by
  refine Con.mk hst (by decide) (fun G s vs h => by rw [h.1]; exact Nat.le_of_ble_eq_true rfl) ?_
  rintro X G s0 vs ⟨rfl, hG, hS0, ha, hx1, e0⟩ rfl hx hq
  show JJ X E 3 G s0 0 0 [(0, .ref a), (1, .int (zI x1))] 0 []
  refine j_bipush hx dX9_addFour_0 rfl ?_
  refine j_istore_n hx [(2, .int (zI 24)), (0, .ref a), (1, .int (zI x1))] dX9_addFour_2 (by decide) rfl ?_
  have c3_1 : ∀ (m_c3_1 : Nat) (v1 : Int) (s2 : zS), v1 + 2147483648 < m_c3_1 → ((-8) ≤ v1 ∧ v1 ≤ 24) → (zSK G s2) → (zFr [10, 45] G s0 s2) → (8 * (s2 a 1 - s0 a 1) = 24 - v1) → JJ X E 3 G s2 0 0 [(0, .ref a), (1, .int (zI x1)), (2, .int (zI v1))] 3 [] := by
    intro m_c3_1
    induction m_c3_1 with
    | zero => intro v1 s2 hm_c3_1 f3 hS_s2 hF_s2 f6; exfalso; omega
    | succ m_c3_1 ih_c3_1 => 
      intro v1 s2 hm_c3_1 f3 hS_s2 hF_s2 f6
      refine j_iload_n hx 2 dX9_addFour_3 rfl ?_
      refine j_if_lt hx 55 dX9_addFour_4 rfl (by omega) (fun h2 => ?_) (fun h2 => ?_)
      · skip
        exact j_vret hx hq rfl (by decide) (by decide) dX9_addFour_55 ⟨rfl, rfl, hS_s2, (zFr_t zFr_rf hF_s2 (by decide)), by omega⟩
      · skip
        refine j_aload_n hx 0 dX9_addFour_7 rfl ?_
        have f3 := zf hS_s2 ha (k := 1) rfl
        refine g10_1 hx hG ha kf_RX9_19 rfl dX9_addFour_8 ?_
        refine j_if_lt hx 49 dX9_addFour_11 rfl (by omega) (fun h4 => absurd h4 (by omega)) (fun h4 => ?_)
        refine j_aload_n hx 0 dX9_addFour_14 rfl ?_
        refine g10_1 hx hG ha kf_RX9_19 rfl dX9_addFour_15 ?_
        refine j_aload_n hx 0 dX9_addFour_18 rfl ?_
        refine g10_0 hx hG ha kf_RX9_11 dX9_addFour_19 ?_
        refine j_alen hx hG (zr (k := 0) (t2 := 45) hG ha rfl) (by decide) (by decide) (zlen hG (zr (k := 0) (t2 := 45) hG ha rfl) (n := 600) rfl rfl) dX9_addFour_22 ?_
        refine j_icmp_ge hx 49 dX9_addFour_23 rfl (by omega) ⟨by decide, by decide⟩ (fun h5 => absurd h5 (by omega)) (fun h5 => ?_)
        refine j_aload_n hx 0 dX9_addFour_26 rfl ?_
        refine g10_0 hx hG ha kf_RX9_11 dX9_addFour_27 ?_
        refine j_aload_n hx 0 dX9_addFour_30 rfl ?_
        refine g10_1 hx hG ha kf_RX9_19 rfl dX9_addFour_31 ?_
        refine j_iload_n hx 1 dX9_addFour_34 rfl ?_
        refine j_iload_n hx 2 dX9_addFour_35 rfl ?_
        refine j_iushr hx dX9_addFour_36 (fun v6 f7 f8 => ?_)
        refine j_i2b hx dX9_addFour_37 (fun v9 f10 f11 => ?_)
        refine j_bast hx hG (zr (k := 0) (t2 := 45) hG ha rfl) (by decide) rfl (zlen hG (zr (k := 0) (t2 := 45) hG ha rfl) (n := 600) rfl rfl) (by omega) (by omega) (j := ((s2 a 1)).toNat) rfl (znar_b (by omega)) dX9_addFour_38 ?_
        obtain ⟨s7, e_s7⟩ : ∃ z, z = zU s2 (gP G a 0) ((s2 a 1)).toNat v9 := ⟨_, rfl⟩
        rw [← e_s7]
        have hS_s7 : zSK G s7 := by rw [e_s7]; exact zSK_A hS_s2 (zr (k := 0) (t2 := 45) hG ha rfl) rfl rfl rfl (by omega)
        refine j_aload_n hx 0 dX9_addFour_39 rfl ?_
        refine j_dup hx dX9_addFour_40 rfl ?_
        refine g10_1 hx hG ha kf_RX9_19 (v := (s2 a 1)) (by rw [e_s7, zU_at (Or.inl (zne (zr (k := 0) (t2 := 45) hG ha rfl) ha (by decide)))]) dX9_addFour_41 ?_
        refine j_iconst hx dX9_addFour_44 ?_
        refine j_iadd hx (r := (s2 a 1) + 1) dX9_addFour_45 (by omega) ?_
        refine p10_1 hx hG ha kf_RX9_19 dX9_addFour_46 ?_
        obtain ⟨s8, e_s8⟩ : ∃ z, z = zU s7 a 1 ((s2 a 1) + 1) := ⟨_, rfl⟩
        rw [← e_s8]
        have hS_s8 : zSK G s8 := by rw [e_s8]; exact zSK_F hS_s7 ha rfl rfl rfl (by omega)
        refine j_iinc hx 2 [(2, .int (zI (v1 - 8))), (0, .ref a), (1, .int (zI x1))] dX9_addFour_49 rfl (by omega) (by decide) rfl ?_
        refine j_goto hx 3 dX9_addFour_52 rfl ?_
        have g12 : s8 a 1 = (s2 a 1) + 1 := (by rw [e_s8, zU_eq])
        exact j_sub [1, 2, 0] [(0, .ref a), (1, .int (zI x1)), (2, .int (zI (v1 - 8)))] rfl (ih_c3_1 (v1 - 8) s8 (by omega) (by omega) hS_s8 (zFr_u (zFr_u (zFr_t zFr_rf hF_s2 (by decide)) e_s7 (zr (k := 0) (t2 := 45) hG ha rfl) (by decide)) e_s8 ha (by decide)) (by omega))
  exact j_sub [1, 2, 0] [(0, .ref a), (1, .int (zI x1)), (2, .int (zI 24))] rfl (c3_1 (2147483648 * 4) 24 s0 (by omega) (by omega) hS0 zFr_rf (by omega))

theorem lk_RX0_40 : LkV RX0 40 RX0 yX0_heapOf cX0_heapOf 2 (some (.object "SnapHeaps$Pile")) 1 := ⟨km_RX0_40, ki_yX0_heapOf, ks_RX0_yX0_heapOf, kn_RX0, kc_yX0_heapOf, rfl, by decide +kernel, by decide +kernel, by decide +kernel⟩
theorem lk_RX0_36 : LkV RX0 36 RX0 yX0_rowOf cX0_rowOf 2 (some (.object "SnapHeaps$Pile")) 1 := ⟨km_RX0_36, ki_yX0_rowOf, ks_RX0_yX0_rowOf, kn_RX0, kc_yX0_rowOf, rfl, by decide +kernel, by decide +kernel, by decide +kernel⟩
theorem lk_RX0_47 : LkV RX0 47 RX0 yX0_pileOf cX0_pileOf 2 (some (.object "SnapHeaps$Pile")) 1 := ⟨km_RX0_47, ki_yX0_pileOf, ks_RX0_yX0_pileOf, kn_RX0, kc_yX0_pileOf, rfl, by decide +kernel, by decide +kernel, by decide +kernel⟩
theorem lk_RX0_56 : LkV RX0 56 RX6 yX6_become cX6_become 3 none 1 := ⟨km_RX0_56, ki_yX6_become, ks_RX6_yX6_become, kn_RX6, kc_yX6_become, rfl, by decide +kernel, by decide +kernel, by decide +kernel⟩
theorem lk_RX0_68 : LkV RX0 68 RX0 yX0_remaining cX0_remaining 3 (some .int) 0 := ⟨km_RX0_68, ki_yX0_remaining, ks_RX0_yX0_remaining, kn_RX0, kc_yX0_remaining, rfl, by decide +kernel, by decide +kernel, by decide +kernel⟩
theorem lk_RX0_75 : LkV RX0 75 RX6 yX6_topKind cX6_topKind 1 (some .int) 0 := ⟨km_RX0_75, ki_yX6_topKind, ks_RX6_yX6_topKind, kn_RX6, kc_yX6_topKind, rfl, by decide +kernel, by decide +kernel, by decide +kernel⟩
theorem lk_RX0_72 : LkV RX0 72 RX0 yX0_likeTopsIf cX0_likeTopsIf 6 (some .int) 2 := ⟨km_RX0_72, ki_yX0_likeTopsIf, ks_RX0_yX0_likeTopsIf, kn_RX0, kc_yX0_likeTopsIf, rfl, by decide +kernel, by decide +kernel, by decide +kernel⟩
theorem lk_RX0_92 : LkV RX0 92 RX0 yX0_whose cX0_whose 1 (some .int) 0 := ⟨km_RX0_92, ki_yX0_whose, ks_RX0_yX0_whose, kn_RX0, kc_yX0_whose, rfl, by decide +kernel, by decide +kernel, by decide +kernel⟩
set_option maxHeartbeats 4000000 in
set_option maxRecDepth 20000 in
theorem c_X0_rowOf {E : zE} {l : Launch} (hst : l.stackTraces = false) (a : Nat) (x1 : Int) : Con E l yX0_rowOf cX0_rowOf 2 (some (.object "SnapHeaps$Pile")) { frames := 0, cells := 0, slots := 0, locals := 0 } (fun G s vs => vs = [.ref a, .int (zI x1)] ∧ zGK G ∧ zSK G s ∧ (gT G a = 1) ∧ ((-2147483648) ≤ x1 ∧ x1 ≤ 2147483647)) (fun G s _ => pR (fun r G2 s2 => G2 = G ∧ s2 = s ∧ gT G r = 7)) := by
  refine Con.mk hst (by decide) (fun G s vs h => by rw [h.1]; exact Nat.le_of_ble_eq_true rfl) ?_
  rintro X G s0 vs ⟨rfl, hG, hS0, ha, hx1⟩ rfl hx hq
  show JJ X E 2 G s0 0 0 [(0, .ref a), (1, .int (zI x1))] 0 []
  refine j_iload_n hx 1 dX0_rowOf_0 rfl ?_
  refine j_if_gt hx 9 dX0_rowOf_1 rfl (by omega) (fun h1 => ?_) (fun h1 => ?_)
  · skip
    refine j_iload_n hx 1 dX0_rowOf_9 rfl ?_
    refine j_iconst hx dX0_rowOf_10 ?_
    refine j_icmp_ne hx 21 dX0_rowOf_11 rfl (by omega) ⟨by decide, by decide⟩ (fun h2 => ?_) (fun h2 => ?_)
    · skip
      refine j_aload_n hx 0 dX0_rowOf_21 rfl ?_
      refine g1_2 hx hG ha kf_RX0_21 dX0_rowOf_22 ?_
      exact j_aret hx hq rfl (by decide) (by decide) dX0_rowOf_25 (Or.inr ⟨_, rfl⟩) ⟨_, rfl, rfl, rfl, (zr (k := 2) (t2 := 7) hG ha rfl)⟩
    · skip
      refine j_aload_n hx 0 dX0_rowOf_14 rfl ?_
      refine g1_1 hx hG ha kf_RX0_18 dX0_rowOf_15 ?_
      refine j_goto hx 25 dX0_rowOf_18 rfl ?_
      exact j_aret hx hq rfl (by decide) (by decide) dX0_rowOf_25 (Or.inr ⟨_, rfl⟩) ⟨_, rfl, rfl, rfl, (zr (k := 1) (t2 := 7) hG ha rfl)⟩
  · skip
    refine j_aload_n hx 0 dX0_rowOf_4 rfl ?_
    refine g1_0 hx hG ha kf_RX0_12 dX0_rowOf_5 ?_
    exact j_aret hx hq rfl (by decide) (by decide) dX0_rowOf_8 (Or.inr ⟨_, rfl⟩) ⟨_, rfl, rfl, rfl, (zr (k := 0) (t2 := 7) hG ha rfl)⟩

set_option maxHeartbeats 4000000 in
set_option maxRecDepth 20000 in
theorem c_X0_heapOf {E : zE} {l : Launch} (hst : l.stackTraces = false) (a : Nat) (x1 : Int) : Con E l yX0_heapOf cX0_heapOf 2 (some (.object "SnapHeaps$Pile")) { frames := 0, cells := 0, slots := 0, locals := 0 } (fun G s vs => vs = [.ref a, .int (zI x1)] ∧ zGK G ∧ zSK G s ∧ (gT G a = 1) ∧ ((-2147483648) ≤ x1 ∧ x1 ≤ 2147483647)) (fun G s _ => pR (fun r G2 s2 => G2 = G ∧ s2 = s ∧ gT G r = 7)) := by
  refine Con.mk hst (by decide) (fun G s vs h => by rw [h.1]; exact Nat.le_of_ble_eq_true rfl) ?_
  rintro X G s0 vs ⟨rfl, hG, hS0, ha, hx1⟩ rfl hx hq
  show JJ X E 2 G s0 0 0 [(0, .ref a), (1, .int (zI x1))] 0 []
  refine j_iload_n hx 1 dX0_heapOf_0 rfl ?_
  refine j_if_gt hx 9 dX0_heapOf_1 rfl (by omega) (fun h1 => ?_) (fun h1 => ?_)
  · skip
    refine j_iload_n hx 1 dX0_heapOf_9 rfl ?_
    refine j_iconst hx dX0_heapOf_10 ?_
    refine j_icmp_ne hx 21 dX0_heapOf_11 rfl (by omega) ⟨by decide, by decide⟩ (fun h2 => ?_) (fun h2 => ?_)
    · skip
      refine j_aload_n hx 0 dX0_heapOf_21 rfl ?_
      refine g1_5 hx hG ha kf_RX0_30 dX0_heapOf_22 ?_
      exact j_aret hx hq rfl (by decide) (by decide) dX0_heapOf_25 (Or.inr ⟨_, rfl⟩) ⟨_, rfl, rfl, rfl, (zr (k := 5) (t2 := 7) hG ha rfl)⟩
    · skip
      refine j_aload_n hx 0 dX0_heapOf_14 rfl ?_
      refine g1_4 hx hG ha kf_RX0_27 dX0_heapOf_15 ?_
      refine j_goto hx 25 dX0_heapOf_18 rfl ?_
      exact j_aret hx hq rfl (by decide) (by decide) dX0_heapOf_25 (Or.inr ⟨_, rfl⟩) ⟨_, rfl, rfl, rfl, (zr (k := 4) (t2 := 7) hG ha rfl)⟩
  · skip
    refine j_aload_n hx 0 dX0_heapOf_4 rfl ?_
    refine g1_3 hx hG ha kf_RX0_24 dX0_heapOf_5 ?_
    exact j_aret hx hq rfl (by decide) (by decide) dX0_heapOf_8 (Or.inr ⟨_, rfl⟩) ⟨_, rfl, rfl, rfl, (zr (k := 3) (t2 := 7) hG ha rfl)⟩

set_option maxHeartbeats 4000000 in
set_option maxRecDepth 20000 in
theorem c_X0_pileOf {E : zE} {l : Launch} (hst : l.stackTraces = false) (a : Nat) (x1 : Int) : Con E l yX0_pileOf cX0_pileOf 2 (some (.object "SnapHeaps$Pile")) { frames := 1, cells := 0, slots := 0, locals := 21 } (fun G s vs => vs = [.ref a, .int (zI x1)] ∧ zGK G ∧ zSK G s ∧ (gT G a = 1) ∧ ((-2147483648) ≤ x1 ∧ x1 ≤ 2147483647)) (fun G s _ => pR (fun r G2 s2 => G2 = G ∧ s2 = s ∧ gT G r = 7)) := by
  refine Con.mk hst (by decide) (fun G s vs h => by rw [h.1]; exact Nat.le_of_ble_eq_true rfl) ?_
  rintro X G s0 vs ⟨rfl, hG, hS0, ha, hx1⟩ rfl hx hq
  show JJ X E 2 G s0 0 0 [(0, .ref a), (1, .int (zI x1))] 0 []
  refine j_iload_n hx 1 dX0_pileOf_0 rfl ?_
  refine j_bipush hx dX0_pileOf_1 rfl ?_
  refine j_icmp_lt hx 11 dX0_pileOf_3 rfl (by omega) ⟨by decide, by decide⟩ (fun h1 => ?_) (fun h1 => ?_)
  · skip
    refine j_iload_n hx 1 dX0_pileOf_11 rfl ?_
    refine j_iconst hx dX0_pileOf_12 ?_
    refine j_iand hx dX0_pileOf_13 (by omega) ⟨by decide, by decide⟩ (fun v2 f3 f4 f5 f6 _ => ?_)
    refine j_if_ne hx 27 dX0_pileOf_14 rfl (by omega) (fun h8 => ?_) (fun h8 => ?_)
    · skip
      refine j_aload_n hx 0 dX0_pileOf_27 rfl ?_
      refine j_iload_n hx 1 dX0_pileOf_28 rfl ?_
      refine j_iconst hx dX0_pileOf_29 ?_
      refine j_ishr hx 1 2 dX0_pileOf_30 (by omega) rfl (by decide) (by decide) (fun v9 f10 f11 f12 f13 => ?_)
      refine j_callV hx hG (c_X0_heapOf hst a v9) lk_RX0_40 ha (by decide) rfl rfl rfl rfl [.int (zI v9)] ⟨rfl, hG, hS0, ha, (by omega)⟩ rfl rfl ⟨by decide, by decide⟩ ⟨by decide, by decide⟩ (k2 := 0) (n2 := 0) rfl rfl (Nat.le_of_ble_eq_true rfl) dX0_pileOf_31 (kRP (fun r14 q15 => ?_))
      exact j_aret hx hq rfl (by decide) (by decide) dX0_pileOf_34 (Or.inr ⟨_, rfl⟩) ⟨_, rfl, rfl, rfl, q15⟩
    · skip
      refine j_aload_n hx 0 dX0_pileOf_17 rfl ?_
      refine j_iload_n hx 1 dX0_pileOf_18 rfl ?_
      refine j_iconst hx dX0_pileOf_19 ?_
      refine j_ishr hx 1 2 dX0_pileOf_20 (by omega) rfl (by decide) (by decide) (fun v16 f17 f18 f19 f20 => ?_)
      refine j_callV hx hG (c_X0_rowOf hst a v16) lk_RX0_36 ha (by decide) rfl rfl rfl rfl [.int (zI v16)] ⟨rfl, hG, hS0, ha, (by omega)⟩ rfl rfl ⟨by decide, by decide⟩ ⟨by decide, by decide⟩ (k2 := 0) (n2 := 0) rfl rfl (Nat.le_of_ble_eq_true rfl) dX0_pileOf_21 (kRP (fun r21 q22 => ?_))
      refine j_goto hx 34 dX0_pileOf_24 rfl ?_
      exact j_aret hx hq rfl (by decide) (by decide) dX0_pileOf_34 (Or.inr ⟨_, rfl⟩) ⟨_, rfl, rfl, rfl, q22⟩
  · skip
    refine j_aload_n hx 0 dX0_pileOf_6 rfl ?_
    refine g1_6 hx hG ha kf_RX0_33 dX0_pileOf_7 ?_
    exact j_aret hx hq rfl (by decide) (by decide) dX0_pileOf_10 (Or.inr ⟨_, rfl⟩) ⟨_, rfl, rfl, rfl, (zr (k := 6) (t2 := 7) hG ha rfl)⟩

set_option maxHeartbeats 4000000 in
set_option maxRecDepth 20000 in
theorem c_X0_clear {E : zE} {l : Launch} (hst : l.stackTraces = false) (a : Nat) : Con E l yX0_clear cX0_clear 2 none { frames := 2, cells := 0, slots := 0, locals := 42 } (fun G s vs => vs = [.ref a] ∧ zGK G ∧ zSK G s ∧ (gT G a = 1)) (fun G s _ => pV (fun G2 s2 => G2 = G ∧ zSK G s2 ∧ zFr [1, 7] G s s2 ∧ True)) := by
  refine Con.mk hst (by decide) (fun G s vs h => by rw [h.1]; exact Nat.le_of_ble_eq_true rfl) ?_
  rintro X G s0 vs ⟨rfl, hG, hS0, ha⟩ rfl hx hq
  show JJ X E 2 G s0 0 0 [(0, .ref a)] 0 []
  refine j_iconst hx dX0_clear_0 ?_
  refine j_istore_n hx [(1, .int (zI 0)), (0, .ref a)] dX0_clear_1 (by decide) rfl ?_
  have c2_1 : ∀ (m_c2_1 : Nat) (v1 : Int) (s2 : zS), 2147483648 - v1 < m_c2_1 → (0 ≤ v1 ∧ v1 ≤ 7) → (zSK G s2) → (zFr [7] G s0 s2) → JJ X E 2 G s2 0 0 [(0, .ref a), (1, .int (zI v1))] 2 [] := by
    intro m_c2_1
    induction m_c2_1 with
    | zero => intro v1 s2 hm_c2_1 f3 hS_s2 hF_s2; exfalso; omega
    | succ m_c2_1 ih_c2_1 => 
      intro v1 s2 hm_c2_1 f3 hS_s2 hF_s2
      refine j_iload_n hx 1 dX0_clear_2 rfl ?_
      refine j_bipush hx dX0_clear_3 rfl ?_
      refine j_icmp_ge hx 23 dX0_clear_5 rfl (by omega) ⟨by decide, by decide⟩ (fun h2 => ?_) (fun h2 => ?_)
      · skip
        refine j_aload_n hx 0 dX0_clear_23 rfl ?_
        refine j_iconst hx dX0_clear_24 ?_
        refine p1_7 hx hG ha kf_RX0_50 dX0_clear_25 ?_
        obtain ⟨s6, e_s6⟩ : ∃ z, z = zU s2 a 7 0 := ⟨_, rfl⟩
        rw [← e_s6]
        have hS_s6 : zSK G s6 := by rw [e_s6]; exact zSK_F hS_s2 ha rfl rfl rfl (by omega)
        refine j_aload_n hx 0 dX0_clear_28 rfl ?_
        refine j_iconst hx dX0_clear_29 ?_
        refine p1_8 hx hG ha kf_RX0_53 dX0_clear_30 ?_
        obtain ⟨s7, e_s7⟩ : ∃ z, z = zU s6 a 8 0 := ⟨_, rfl⟩
        rw [← e_s7]
        have hS_s7 : zSK G s7 := by rw [e_s7]; exact zSK_F hS_s6 ha rfl rfl rfl (by omega)
        exact j_vret hx hq rfl (by decide) (by decide) dX0_clear_33 ⟨rfl, rfl, hS_s7, (zFr_u (zFr_u (zFr_t zFr_rf hF_s2 (by decide)) e_s6 ha (by decide)) e_s7 ha (by decide)), trivial⟩
      · skip
        refine j_aload_n hx 0 dX0_clear_8 rfl ?_
        refine j_iload_n hx 1 dX0_clear_9 rfl ?_
        refine j_callV hx hG (c_X0_pileOf hst a v1) lk_RX0_47 ha (by decide) rfl rfl rfl rfl [.int (zI v1)] ⟨rfl, hG, hS_s2, ha, (by omega)⟩ rfl rfl ⟨by decide, by decide⟩ ⟨by decide, by decide⟩ (k2 := 0) (n2 := 0) rfl rfl (Nat.le_of_ble_eq_true rfl) dX0_clear_10 (kRP (fun r3 q4 => ?_))
        refine j_iconst hx dX0_clear_13 ?_
        refine pN7_1 hx hG q4 kf_RX0_43 dX0_clear_14 ?_
        obtain ⟨s8, e_s8⟩ : ∃ z, z = zU s2 r3 1 0 := ⟨_, rfl⟩
        rw [← e_s8]
        have hS_s8 : zSK G s8 := by rw [e_s8]; exact zSK_F hS_s2 q4 rfl rfl rfl (by omega)
        refine j_iinc hx 1 [(1, .int (zI (v1 + 1))), (0, .ref a)] dX0_clear_17 rfl (by omega) (by decide) rfl ?_
        refine j_goto hx 2 dX0_clear_20 rfl ?_
        exact j_sub [1, 0] [(0, .ref a), (1, .int (zI (v1 + 1)))] rfl (ih_c2_1 (v1 + 1) s8 (by omega) (by omega) hS_s8 (zFr_u (zFr_t zFr_rf hF_s2 (by decide)) e_s8 q4 (by decide)))
  exact j_sub [1, 0] [(0, .ref a), (1, .int (zI 0))] rfl (c2_1 (2147483648 * 4) 0 s0 (by omega) (by omega) hS0 zFr_rf)

set_option maxHeartbeats 4000000 in
set_option maxRecDepth 20000 in
theorem c_X0_become {E : zE} {l : Launch} (hst : l.stackTraces = false) (a : Nat) (b1 : Nat) : Con E l yX0_become cX0_become 3 none { frames := 2, cells := 0, slots := 0, locals := 42 } (fun G s vs => vs = [.ref a, .ref b1] ∧ zGK G ∧ zSK G s ∧ (gT G a = 1) ∧ (gT G b1 = 1)) (fun G s _ => pV (fun G2 s2 => G2 = G ∧ zSK G s2 ∧ zFr [1, 7] G s s2 ∧ True)) := by
  refine Con.mk hst (by decide) (fun G s vs h => by rw [h.1]; exact Nat.le_of_ble_eq_true rfl) ?_
  rintro X G s0 vs ⟨rfl, hG, hS0, ha, hb1⟩ rfl hx hq
  show JJ X E 3 G s0 0 0 [(0, .ref a), (1, .ref b1)] 0 []
  refine j_iconst hx dX0_become_0 ?_
  refine j_istore_n hx [(2, .int (zI 0)), (0, .ref a), (1, .ref b1)] dX0_become_1 (by decide) rfl ?_
  have c2_1 : ∀ (m_c2_1 : Nat) (v1 : Int) (s2 : zS), 2147483648 - v1 < m_c2_1 → (0 ≤ v1 ∧ v1 ≤ 7) → (zSK G s2) → (zFr [7] G s0 s2) → JJ X E 3 G s2 0 0 [(0, .ref a), (1, .ref b1), (2, .int (zI v1))] 2 [] := by
    intro m_c2_1
    induction m_c2_1 with
    | zero => intro v1 s2 hm_c2_1 f3 hS_s2 hF_s2; exfalso; omega
    | succ m_c2_1 ih_c2_1 => 
      intro v1 s2 hm_c2_1 f3 hS_s2 hF_s2
      refine j_iload_n hx 2 dX0_become_2 rfl ?_
      refine j_bipush hx dX0_become_3 rfl ?_
      refine j_icmp_ge hx 27 dX0_become_5 rfl (by omega) ⟨by decide, by decide⟩ (fun h2 => ?_) (fun h2 => ?_)
      · skip
        refine j_aload_n hx 0 dX0_become_27 rfl ?_
        refine j_aload_n hx 1 dX0_become_28 rfl ?_
        have f3 := zf hS0 hb1 (k := 7) rfl
        refine g1_7 hx hG hb1 kf_RX0_50 (v := (s0 b1 7)) (by rw [(zFr_g hF_s2 hb1 (by decide))]) dX0_become_29 ?_
        refine p1_7 hx hG ha kf_RX0_50 dX0_become_32 ?_
        obtain ⟨s6, e_s6⟩ : ∃ z, z = zU s2 a 7 ((s0 b1 7)) := ⟨_, rfl⟩
        rw [← e_s6]
        have hS_s6 : zSK G s6 := by rw [e_s6]; exact zSK_F hS_s2 ha rfl rfl rfl (by omega)
        refine j_aload_n hx 0 dX0_become_35 rfl ?_
        refine j_aload_n hx 1 dX0_become_36 rfl ?_
        have f4 := zf hS_s6 hb1 (k := 8) rfl
        refine g1_8 hx hG hb1 kf_RX0_53 rfl dX0_become_37 ?_
        refine p1_8 hx hG ha kf_RX0_53 dX0_become_40 ?_
        obtain ⟨s7, e_s7⟩ : ∃ z, z = zU s6 a 8 ((s6 b1 8)) := ⟨_, rfl⟩
        rw [← e_s7]
        have hS_s7 : zSK G s7 := by rw [e_s7]; exact zSK_F hS_s6 ha rfl rfl rfl (by omega)
        exact j_vret hx hq rfl (by decide) (by decide) dX0_become_43 ⟨rfl, rfl, hS_s7, (zFr_u (zFr_u (zFr_t zFr_rf hF_s2 (by decide)) e_s6 ha (by decide)) e_s7 ha (by decide)), trivial⟩
      · skip
        refine j_aload_n hx 0 dX0_become_8 rfl ?_
        refine j_iload_n hx 2 dX0_become_9 rfl ?_
        refine j_callV hx hG (c_X0_pileOf hst a v1) lk_RX0_47 ha (by decide) rfl rfl rfl rfl [.int (zI v1)] ⟨rfl, hG, hS_s2, ha, (by omega)⟩ rfl rfl ⟨by decide, by decide⟩ ⟨by decide, by decide⟩ (k2 := 0) (n2 := 0) rfl rfl (Nat.le_of_ble_eq_true rfl) dX0_become_10 (kRP (fun r5 q6 => ?_))
        refine j_aload_n hx 1 dX0_become_13 rfl ?_
        refine j_iload_n hx 2 dX0_become_14 rfl ?_
        refine j_callV hx hG (c_X0_pileOf hst b1 v1) lk_RX0_47 hb1 (by decide) rfl rfl rfl rfl [.int (zI v1)] ⟨rfl, hG, hS_s2, hb1, (by omega)⟩ rfl rfl ⟨by decide, by decide⟩ ⟨by decide, by decide⟩ (k2 := 0) (n2 := 0) rfl rfl (Nat.le_of_ble_eq_true rfl) dX0_become_15 (kRP (fun r7 q8 => ?_))
        refine j_callV hx hG (c_X6_become hst r5 r7) lk_RX0_56 q6 (by decide) rfl rfl rfl rfl [.ref r7] ⟨rfl, hG, hS_s2, q6, q8⟩ rfl rfl ⟨by decide, by decide⟩ ⟨by decide, by decide⟩ (k2 := 0) (n2 := 0) rfl rfl (Nat.le_of_ble_eq_true rfl) dX0_become_18 (kVM (fun s8 hS_s8 hF_s8 q10 => ?_))
        refine j_iinc hx 2 [(2, .int (zI (v1 + 1))), (0, .ref a), (1, .ref b1)] dX0_become_21 rfl (by omega) (by decide) rfl ?_
        refine j_goto hx 2 dX0_become_24 rfl ?_
        exact j_sub [1, 2, 0] [(0, .ref a), (1, .ref b1), (2, .int (zI (v1 + 1)))] rfl (ih_c2_1 (v1 + 1) s8 (by omega) (by omega) hS_s8 (zFr_t (zFr_t zFr_rf hF_s2 (by decide)) hF_s8 (by decide)))
  exact j_sub [1, 2, 0] [(0, .ref a), (1, .ref b1), (2, .int (zI 0))] rfl (c2_1 (2147483648 * 4) 0 s0 (by omega) (by omega) hS0 zFr_rf)

set_option maxHeartbeats 4000000 in
set_option maxRecDepth 20000 in
theorem c_X0_allCards {E : zE} {l : Launch} (hst : l.stackTraces = false) (a : Nat) : Con E l yX0_allCards cX0_allCards 3 (some .int) { frames := 2, cells := 0, slots := 0, locals := 42 } (fun G s vs => vs = [.ref a] ∧ zGK G ∧ zSK G s ∧ (gT G a = 1)) (fun G s _ => pI (fun r G2 s2 => G2 = G ∧ s2 = s ∧ (0 ≤ r ∧ r ≤ 0))) := by
  refine Con.mk hst (by decide) (fun G s vs h => by rw [h.1]; exact Nat.le_of_ble_eq_true rfl) ?_
  rintro X G s0 vs ⟨rfl, hG, hS0, ha⟩ rfl hx hq
  show JJ X E 3 G s0 0 0 [(0, .ref a)] 0 []
  refine j_iconst hx dX0_allCards_0 ?_
  refine j_istore_n hx [(1, .int (zI 0)), (0, .ref a)] dX0_allCards_1 (by decide) rfl ?_
  refine j_iconst hx dX0_allCards_2 ?_
  refine j_istore_n hx [(2, .int (zI 0)), (1, .int (zI 0)), (0, .ref a)] dX0_allCards_3 (by decide) rfl ?_
  have c4_1 : ∀ (m_c4_1 : Nat) (v1 : Int) (v2 : Int), 2147483648 - v2 < m_c4_1 → (0 ≤ v1 ∧ v1 ≤ 0) → (0 ≤ v2 ∧ v2 ≤ 7) → JJ X E 3 G s0 0 0 [(0, .ref a), (1, .int (zI v1)), (2, .int (zI v2))] 4 [] := by
    intro m_c4_1
    induction m_c4_1 with
    | zero => intro v1 v2 hm_c4_1 f2 f3; exfalso; omega
    | succ m_c4_1 ih_c4_1 => 
      intro v1 v2 hm_c4_1 f2 f3
      refine j_iload_n hx 2 dX0_allCards_4 rfl ?_
      refine j_bipush hx dX0_allCards_5 rfl ?_
      refine j_icmp_ge hx 27 dX0_allCards_7 rfl (by omega) ⟨by decide, by decide⟩ (fun h3 => ?_) (fun h3 => ?_)
      · skip
        refine j_iload_n hx 1 dX0_allCards_27 rfl ?_
        exact j_iret hx hq rfl (by decide) (by decide) dX0_allCards_28 ⟨v1, rfl, rfl, rfl, (by omega)⟩
      · skip
        refine j_iload_n hx 1 dX0_allCards_10 rfl ?_
        refine j_aload_n hx 0 dX0_allCards_11 rfl ?_
        refine j_iload_n hx 2 dX0_allCards_12 rfl ?_
        refine j_callV hx hG (c_X0_pileOf hst a v2) lk_RX0_47 ha (by decide) rfl rfl rfl rfl [.int (zI v2)] ⟨rfl, hG, hS0, ha, (by omega)⟩ rfl rfl ⟨by decide, by decide⟩ ⟨by decide, by decide⟩ (k2 := 0) (n2 := 0) rfl rfl (Nat.le_of_ble_eq_true rfl) dX0_allCards_13 (kRP (fun r4 q5 => ?_))
        have f6 := zf hS0 q5 (k := 1) rfl
        refine gN7_1 hx hG q5 kf_RX0_43 rfl dX0_allCards_16 ?_
        refine j_iadd hx (r := v1 + (s0 r4 1)) dX0_allCards_19 (by omega) ?_
        refine j_istore_n hx [(1, .int (zI (v1 + (s0 r4 1)))), (0, .ref a), (2, .int (zI v2))] dX0_allCards_20 (by decide) rfl ?_
        refine j_iinc hx 2 [(2, .int (zI (v2 + 1))), (1, .int (zI (v1 + (s0 r4 1)))), (0, .ref a)] dX0_allCards_21 rfl (by omega) (by decide) rfl ?_
        refine j_goto hx 4 dX0_allCards_24 rfl ?_
        exact j_sub [2, 1, 0] [(0, .ref a), (1, .int (zI (v1 + (s0 r4 1)))), (2, .int (zI (v2 + 1)))] rfl (ih_c4_1 (v1 + (s0 r4 1)) (v2 + 1) (by omega) (by omega) (by omega))
  exact j_sub [2, 1, 0] [(0, .ref a), (1, .int (zI 0)), (2, .int (zI 0))] rfl (c4_1 (2147483648 * 4) 0 0 (by omega) (by omega) (by omega))

set_option maxHeartbeats 4000000 in
set_option maxRecDepth 20000 in
theorem c_X0_remaining {E : zE} {l : Launch} (hst : l.stackTraces = false) (a : Nat) : Con E l yX0_remaining cX0_remaining 3 (some .int) { frames := 0, cells := 0, slots := 0, locals := 0 } (fun G s vs => vs = [.ref a] ∧ zGK G ∧ zSK G s ∧ (gT G a = 1)) (fun G s _ => pI (fun r G2 s2 => G2 = G ∧ s2 = s ∧ (0 ≤ r ∧ r ≤ 0))) := by
  refine Con.mk hst (by decide) (fun G s vs h => by rw [h.1]; exact Nat.le_of_ble_eq_true rfl) ?_
  rintro X G s0 vs ⟨rfl, hG, hS0, ha⟩ rfl hx hq
  show JJ X E 3 G s0 0 0 [(0, .ref a)] 0 []
  refine j_iconst hx dX0_remaining_0 ?_
  refine j_istore_n hx [(1, .int (zI 0)), (0, .ref a)] dX0_remaining_1 (by decide) rfl ?_
  refine j_iconst hx dX0_remaining_2 ?_
  refine j_istore_n hx [(2, .int (zI 0)), (1, .int (zI 0)), (0, .ref a)] dX0_remaining_3 (by decide) rfl ?_
  refine j_iload_n hx 0 dX0_remaining_4 rfl ?_
  refine j_aload_n hx 2 dX0_remaining_5 rfl ?_
  have f1 := zf hS0 ha (k := 7) rfl
  refine g1_7 hx hG ha kf_RX0_50 rfl dX0_remaining_6 ?_
  refine j_icmp_ge hx 34 dX0_remaining_9 rfl ⟨by decide, by decide⟩ (by omega) (fun h2 => ?_) (fun h2 => absurd h2 (by omega))
  refine j_iload_n hx 1 dX0_remaining_34 rfl ?_
  exact j_iret hx hq rfl (by decide) (by decide) dX0_remaining_35 ⟨0, rfl, rfl, rfl, (by omega)⟩

set_option maxHeartbeats 4000000 in
set_option maxRecDepth 20000 in
theorem c_X0_whose {E : zE} {l : Launch} (hst : l.stackTraces = false) (a : Nat) : Con E l yX0_whose cX0_whose 1 (some .int) { frames := 1, cells := 0, slots := 0, locals := 22 } (fun G s vs => vs = [.ref a] ∧ zGK G ∧ zSK G s ∧ (gT G a = 1)) (fun G s _ => pI (fun r G2 s2 => G2 = G ∧ s2 = s ∧ ((-1) ≤ r ∧ r ≤ (-1)))) := by
  refine Con.mk hst (by decide) (fun G s vs h => by rw [h.1]; exact Nat.le_of_ble_eq_true rfl) ?_
  rintro X G s0 vs ⟨rfl, hG, hS0, ha⟩ rfl hx hq
  show JJ X E 1 G s0 0 0 [(0, .ref a)] 0 []
  refine j_aload_n hx 0 dX0_whose_0 rfl ?_
  refine j_callV hx hG (c_X0_remaining hst a) lk_RX0_68 ha (by decide) rfl rfl rfl rfl [] ⟨rfl, hG, hS0, ha⟩ rfl rfl ⟨by decide, by decide⟩ ⟨by decide, by decide⟩ (k2 := 0) (n2 := 0) rfl rfl (Nat.le_of_ble_eq_true rfl) dX0_whose_1 (kIP (fun v1 q2 => ?_))
  refine j_iconst hx dX0_whose_4 ?_
  refine j_icmp_gt hx 12 dX0_whose_5 rfl (by omega) ⟨by decide, by decide⟩ (fun h3 => absurd h3 (by omega)) (fun h3 => ?_)
  refine j_iconst hx dX0_whose_8 ?_
  refine j_goto hx 24 dX0_whose_9 rfl ?_
  exact j_iret hx hq rfl (by decide) (by decide) dX0_whose_24 ⟨(-1), rfl, rfl, rfl, (by omega)⟩

set_option maxHeartbeats 4000000 in
set_option maxRecDepth 20000 in
theorem c_X0_leftOne {E : zE} {l : Launch} (hst : l.stackTraces = false) (a : Nat) : Con E l yX0_leftOne cX0_leftOne 1 (some .int) { frames := 1, cells := 0, slots := 0, locals := 22 } (fun G s vs => vs = [.ref a] ∧ zGK G ∧ zSK G s ∧ (gT G a = 1)) (fun G s _ => pI (fun r G2 s2 => G2 = G ∧ s2 = s ∧ ((-1) ≤ r ∧ r ≤ (-1)))) := by
  refine Con.mk hst (by decide) (fun G s vs h => by rw [h.1]; exact Nat.le_of_ble_eq_true rfl) ?_
  rintro X G s0 vs ⟨rfl, hG, hS0, ha⟩ rfl hx hq
  show JJ X E 1 G s0 0 0 [(0, .ref a)] 0 []
  refine j_aload_n hx 0 dX0_leftOne_0 rfl ?_
  refine j_callV hx hG (c_X0_remaining hst a) lk_RX0_68 ha (by decide) rfl rfl rfl rfl [] ⟨rfl, hG, hS0, ha⟩ rfl rfl ⟨by decide, by decide⟩ ⟨by decide, by decide⟩ (k2 := 0) (n2 := 0) rfl rfl (Nat.le_of_ble_eq_true rfl) dX0_leftOne_1 (kIP (fun v1 q2 => ?_))
  refine j_iconst hx dX0_leftOne_4 ?_
  refine j_icmp_ne hx 20 dX0_leftOne_5 rfl (by omega) ⟨by decide, by decide⟩ (fun h3 => ?_) (fun h3 => absurd h3 (by omega))
  refine j_iconst hx dX0_leftOne_20 ?_
  exact j_iret hx hq rfl (by decide) (by decide) dX0_leftOne_21 ⟨(-1), rfl, rfl, rfl, (by omega)⟩

set_option maxHeartbeats 4000000 in
set_option maxRecDepth 20000 in
theorem c_X0_likeTopsIf {E : zE} {l : Launch} (hst : l.stackTraces = false) (a : Nat) (x1 : Int) (x2 : Int) : Con E l yX0_likeTopsIf cX0_likeTopsIf 6 (some .int) { frames := 1, cells := 0, slots := 0, locals := 20 } (fun G s vs => vs = [.ref a, .int (zI x1), .int (zI x2)] ∧ zGK G ∧ zSK G s ∧ (gT G a = 1) ∧ ((-1) ≤ x1 ∧ x1 ≤ (-1)) ∧ ((-1) ≤ x2 ∧ x2 ≤ (-1))) (fun G s _ => pI (fun r G2 s2 => G2 = G ∧ s2 = s ∧ ((-1) ≤ r ∧ r ≤ (-1)))) := by
  refine Con.mk hst (by decide) (fun G s vs h => by rw [h.1]; exact Nat.le_of_ble_eq_true rfl) ?_
  rintro X G s0 vs ⟨rfl, hG, hS0, ha, hx1, hx2⟩ rfl hx hq
  show JJ X E 6 G s0 0 0 [(0, .ref a), (1, .int (zI x1)), (2, .int (zI x2))] 0 []
  refine j_iload_n hx 1 dX0_likeTopsIf_0 rfl ?_
  refine j_if_ne hx 8 dX0_likeTopsIf_1 rfl (by omega) (fun h1 => ?_) (fun h1 => absurd h1 (by omega))
  refine j_aload_n hx 0 dX0_likeTopsIf_8 rfl ?_
  refine g1_3 hx hG ha kf_RX0_24 dX0_likeTopsIf_9 ?_
  refine j_callV hx hG (c_X6_topKind hst (gP G a 3)) lk_RX0_75 (zr (k := 3) (t2 := 7) hG ha rfl) (by decide) rfl rfl rfl rfl [] ⟨rfl, hG, hS0, (zr (k := 3) (t2 := 7) hG ha rfl)⟩ rfl rfl ⟨by decide, by decide⟩ ⟨by decide, by decide⟩ (k2 := 0) (n2 := 0) rfl rfl (Nat.le_of_ble_eq_true rfl) dX0_likeTopsIf_12 (kIP (fun v2 q3 => ?_))
  refine j_istore_n hx [(3, .int (zI v2)), (0, .ref a), (1, .int (zI x1)), (2, .int (zI x2))] dX0_likeTopsIf_15 (by decide) rfl ?_
  refine j_iload_n hx 2 dX0_likeTopsIf_16 rfl ?_
  refine j_iconst hx dX0_likeTopsIf_17 ?_
  refine j_icmp_ne hx 25 dX0_likeTopsIf_18 rfl (by omega) ⟨by decide, by decide⟩ (fun h4 => ?_) (fun h4 => absurd h4 (by omega))
  refine j_aload_n hx 1 dX0_likeTopsIf_25 rfl ?_
  refine g1_4 hx hG ha kf_RX0_27 dX0_likeTopsIf_26 ?_
  refine j_callV hx hG (c_X6_topKind hst (gP G a 4)) lk_RX0_75 (zr (k := 4) (t2 := 7) hG ha rfl) (by decide) rfl rfl rfl rfl [] ⟨rfl, hG, hS0, (zr (k := 4) (t2 := 7) hG ha rfl)⟩ rfl rfl ⟨by decide, by decide⟩ ⟨by decide, by decide⟩ (k2 := 0) (n2 := 0) rfl rfl (Nat.le_of_ble_eq_true rfl) dX0_likeTopsIf_29 (kIP (fun v5 q6 => ?_))
  refine j_istore hx [(4, .int (zI v5)), (3, .int (zI v2)), (0, .ref a), (1, .int (zI x1)), (2, .int (zI x2))] dX0_likeTopsIf_32 (by decide) rfl ?_
  refine j_iload_n hx 3 dX0_likeTopsIf_34 rfl ?_
  refine j_iconst hx dX0_likeTopsIf_35 ?_
  refine j_icmp_ne hx 43 dX0_likeTopsIf_36 rfl (by omega) ⟨by decide, by decide⟩ (fun h7 => ?_) (fun h7 => absurd h7 (by omega))
  refine j_aload_n hx 2 dX0_likeTopsIf_43 rfl ?_
  refine g1_5 hx hG ha kf_RX0_30 dX0_likeTopsIf_44 ?_
  refine j_callV hx hG (c_X6_topKind hst (gP G a 5)) lk_RX0_75 (zr (k := 5) (t2 := 7) hG ha rfl) (by decide) rfl rfl rfl rfl [] ⟨rfl, hG, hS0, (zr (k := 5) (t2 := 7) hG ha rfl)⟩ rfl rfl ⟨by decide, by decide⟩ ⟨by decide, by decide⟩ (k2 := 0) (n2 := 0) rfl rfl (Nat.le_of_ble_eq_true rfl) dX0_likeTopsIf_47 (kIP (fun v8 q9 => ?_))
  refine j_istore hx [(5, .int (zI v8)), (4, .int (zI v5)), (3, .int (zI v2)), (0, .ref a), (1, .int (zI x1)), (2, .int (zI x2))] dX0_likeTopsIf_50 (by decide) rfl ?_
  refine j_iload_n hx 2 dX0_likeTopsIf_52 rfl ?_
  refine j_iconst hx dX0_likeTopsIf_53 ?_
  refine j_icmp_eq hx 65 dX0_likeTopsIf_54 rfl (by omega) ⟨by decide, by decide⟩ (fun h10 => ?_) (fun h10 => absurd h10 (by omega))
  refine j_iload_n hx 2 dX0_likeTopsIf_65 rfl ?_
  refine j_iconst hx dX0_likeTopsIf_66 ?_
  refine j_icmp_eq hx 78 dX0_likeTopsIf_67 rfl (by omega) ⟨by decide, by decide⟩ (fun h11 => ?_) (fun h11 => absurd h11 (by omega))
  refine j_iload hx 1 dX0_likeTopsIf_78 rfl ?_
  refine j_iconst hx dX0_likeTopsIf_80 ?_
  refine j_icmp_eq hx 96 dX0_likeTopsIf_81 rfl (by omega) ⟨by decide, by decide⟩ (fun h12 => ?_) (fun h12 => absurd h12 (by omega))
  refine j_iconst hx dX0_likeTopsIf_96 ?_
  exact j_iret hx hq rfl (by decide) (by decide) dX0_likeTopsIf_97 ⟨(-1), rfl, rfl, rfl, (by omega)⟩

set_option maxHeartbeats 4000000 in
set_option maxRecDepth 20000 in
theorem c_X0_likeTops {E : zE} {l : Launch} (hst : l.stackTraces = false) (a : Nat) : Con E l yX0_likeTops cX0_likeTops 1 (some .int) { frames := 2, cells := 0, slots := 0, locals := 45 } (fun G s vs => vs = [.ref a] ∧ zGK G ∧ zSK G s ∧ (gT G a = 1)) (fun G s _ => pI (fun r G2 s2 => G2 = G ∧ s2 = s ∧ ((-1) ≤ r ∧ r ≤ (-1)))) := by
  refine Con.mk hst (by decide) (fun G s vs h => by rw [h.1]; exact Nat.le_of_ble_eq_true rfl) ?_
  rintro X G s0 vs ⟨rfl, hG, hS0, ha⟩ rfl hx hq
  show JJ X E 1 G s0 0 0 [(0, .ref a)] 0 []
  refine j_aload_n hx 0 dX0_likeTops_0 rfl ?_
  refine j_iconst hx dX0_likeTops_1 ?_
  refine j_iconst hx dX0_likeTops_2 ?_
  refine j_callV hx hG (c_X0_likeTopsIf hst a (-1) (-1)) lk_RX0_72 ha (by decide) rfl rfl rfl rfl [.int (zI (-1)), .int (zI (-1))] ⟨rfl, hG, hS0, ha, (by omega), (by omega)⟩ rfl rfl ⟨by decide, by decide⟩ ⟨by decide, by decide⟩ (k2 := 0) (n2 := 0) rfl rfl (Nat.le_of_ble_eq_true rfl) dX0_likeTops_3 (kIP (fun v1 q2 => ?_))
  exact j_iret hx hq rfl (by decide) (by decide) dX0_likeTops_6 ⟨v1, rfl, rfl, rfl, (by omega)⟩

set_option maxHeartbeats 4000000 in
set_option maxRecDepth 20000 in
theorem c_X0_step {E : zE} {l : Launch} (hst : l.stackTraces = false) (a : Nat) : Con E l yX0_step cX0_step 2 (some .boolean) { frames := 2, cells := 0, slots := 0, locals := 42 } (fun G s vs => vs = [.ref a] ∧ zGK G ∧ zSK G s ∧ (gT G a = 1)) (fun G s _ => pI (fun r G2 s2 => G2 = G ∧ s2 = s ∧ (0 ≤ r ∧ r ≤ 0))) := by
  refine Con.mk hst (by decide) (fun G s vs h => by rw [h.1]; exact Nat.le_of_ble_eq_true rfl) ?_
  rintro X G s0 vs ⟨rfl, hG, hS0, ha⟩ rfl hx hq
  show JJ X E 2 G s0 0 0 [(0, .ref a)] 0 []
  refine j_aload_n hx 0 dX0_step_0 rfl ?_
  refine j_callV hx hG (c_X0_whose hst a) lk_RX0_92 ha (by decide) rfl rfl rfl rfl [] ⟨rfl, hG, hS0, ha⟩ rfl rfl ⟨by decide, by decide⟩ ⟨by decide, by decide⟩ (k2 := 0) (n2 := 0) rfl rfl (Nat.le_of_ble_eq_true rfl) dX0_step_1 (kIP (fun v1 q2 => ?_))
  refine j_istore_n hx [(1, .int (zI v1)), (0, .ref a)] dX0_step_4 (by decide) rfl ?_
  refine j_iload_n hx 0 dX0_step_5 rfl ?_
  refine j_iconst hx dX0_step_6 ?_
  refine j_icmp_ne hx 12 dX0_step_7 rfl (by omega) ⟨by decide, by decide⟩ (fun h3 => absurd h3 (by omega)) (fun h3 => ?_)
  refine j_iconst hx dX0_step_10 ?_
  exact j_zret hx hq rfl (by decide) (by decide) dX0_step_11 (by omega) ⟨0, rfl, rfl, rfl, (by omega)⟩

set_option maxHeartbeats 4000000 in
set_option maxRecDepth 20000 in
theorem c_X0_mix {E : zE} {l : Launch} (hst : l.stackTraces = false) (a : Nat) (x1 : Int) : Con E l yX0_mix cX0_mix 6 none { frames := 0, cells := 0, slots := 0, locals := 0 } (fun G s vs => vs = [.ref a, .int (zI x1)] ∧ zGK G ∧ zSK G s ∧ (gT G a = 1) ∧ ((-2147483648) ≤ x1 ∧ x1 ≤ 2147483647)) (fun G s _ => pV (fun G2 s2 => G2 = G ∧ s2 = s ∧ True)) := by
  refine Con.mk hst (by decide) (fun G s vs h => by rw [h.1]; exact Nat.le_of_ble_eq_true rfl) ?_
  rintro X G s0 vs ⟨rfl, hG, hS0, ha, hx1⟩ rfl hx hq
  show JJ X E 6 G s0 0 0 [(0, .ref a), (1, .int (zI x1))] 0 []
  refine j_iload_n hx 1 dX0_mix_0 rfl ?_
  refine j_istore_n hx [(2, .int (zI x1)), (0, .ref a), (1, .int (zI x1))] dX0_mix_1 (by decide) rfl ?_
  refine j_iconst hx dX0_mix_2 ?_
  refine j_istore_n hx [(3, .int (zI 0)), (2, .int (zI x1)), (0, .ref a), (1, .int (zI x1))] dX0_mix_3 (by decide) rfl ?_
  refine j_iload_n hx 0 dX0_mix_4 rfl ?_
  refine j_aload_n hx 2 dX0_mix_5 rfl ?_
  have f1 := zf hS0 ha (k := 7) rfl
  refine g1_7 hx hG ha kf_RX0_50 rfl dX0_mix_6 ?_
  refine j_icmp_ge hx 75 dX0_mix_9 rfl ⟨by decide, by decide⟩ (by omega) (fun h2 => ?_) (fun h2 => absurd h2 (by omega))
  exact j_vret hx hq rfl (by decide) (by decide) dX0_mix_75 ⟨rfl, rfl, rfl, trivial⟩

set_option maxHeartbeats 4000000 in
set_option maxRecDepth 20000 in
theorem c_X0_pack {E : zE} {l : Launch} (hst : l.stackTraces = false) (a : Nat) (b1 : Nat) (x2 : Int) : Con E l yX0_pack cX0_pack 12 none { frames := 2, cells := 0, slots := 0, locals := 42 } (fun G s vs => vs = [.ref a, .ref b1, .int (zI x2)] ∧ zGK G ∧ zSK G s ∧ (gT G a = 1) ∧ (gT G b1 = 53) ∧ (0 ≤ x2 ∧ x2 ≤ 0)) (fun G s _ => pV (fun G2 s2 => G2 = G ∧ zSK G s2 ∧ zFr [53] G s s2 ∧ True)) := by
  refine Con.mk hst (by decide) (fun G s vs h => by rw [h.1]; exact Nat.le_of_ble_eq_true rfl) ?_
  rintro X G s0 vs ⟨rfl, hG, hS0, ha, hb1, hx2⟩ rfl hx hq
  show JJ X E 12 G s0 0 0 [(0, .ref a), (1, .ref b1), (2, .int (zI x2))] 0 []
  refine j_iload_n hx 2 dX0_pack_0 rfl ?_
  refine j_if_lt hx 13 dX0_pack_1 rfl (by omega) (fun h1 => absurd h1 (by omega)) (fun h1 => ?_)
  refine j_iload_n hx 2 dX0_pack_4 rfl ?_
  refine j_aload_n hx 1 dX0_pack_5 rfl ?_
  have f2 := znb hG b1
  refine j_alen hx hG hb1 (by decide) (by decide) rfl dX0_pack_6 ?_
  refine j_bipush hx dX0_pack_7 rfl ?_
  refine j_isub hx (r := (gN G b1 : Int) - 7) dX0_pack_9 (by omega) ?_
  refine j_icmp_le hx 14 dX0_pack_10 rfl (by omega) (by omega) (fun h3 => ?_) (fun h3 => ?_)
  · skip
    refine j_iconst hx dX0_pack_14 ?_
    refine j_istore_n hx [(3, .int (zI 0)), (0, .ref a), (1, .ref b1), (2, .int (zI x2))] dX0_pack_15 (by decide) rfl ?_
    have c16_1 : ∀ (m_c16_1 : Nat) (v4 : Int) (s2 : zS), 2147483648 - v4 < m_c16_1 → (0 ≤ v4 ∧ v4 ≤ 7) → (zSK G s2) → (zFr [53] G s0 s2) → JJ X E 12 G s2 0 0 [(0, .ref a), (1, .ref b1), (2, .int (zI x2)), (3, .int (zI v4))] 16 [] := by
      intro m_c16_1
      induction m_c16_1 with
      | zero => intro v4 s2 hm_c16_1 f3 hS_s2 hF_s2; exfalso; omega
      | succ m_c16_1 ih_c16_1 => 
        intro v4 s2 hm_c16_1 f3 hS_s2 hF_s2
        refine j_iload_n hx 3 dX0_pack_16 rfl ?_
        refine j_bipush hx dX0_pack_17 rfl ?_
        refine j_icmp_ge hx 34 dX0_pack_19 rfl (by omega) ⟨by decide, by decide⟩ (fun h5 => ?_) (fun h5 => ?_)
        · skip
          refine j_aload_n hx 0 dX0_pack_34 rfl ?_
          refine j_callV hx hG (c_X0_whose hst a) lk_RX0_92 ha (by decide) rfl rfl rfl rfl [] ⟨rfl, hG, hS_s2, ha⟩ rfl rfl ⟨by decide, by decide⟩ ⟨by decide, by decide⟩ (k2 := 0) (n2 := 0) rfl rfl (Nat.le_of_ble_eq_true rfl) dX0_pack_35 (kIP (fun v6 q7 => ?_))
          refine j_iconst hx dX0_pack_38 ?_
          refine j_iadd hx (r := v6 + 1) dX0_pack_39 rfl ?_
          refine j_i2l hx dX0_pack_40 (by omega) ?_
          refine j_bipush hx dX0_pack_41 rfl ?_
          refine j_lshl hx dX0_pack_43 (fun w8 f9 f10 => ?_)
          refine j_lstore_n hx [(3, .long (zL w8)), (0, .ref a), (1, .ref b1), (2, .int (zI x2))] dX0_pack_44 (by decide) rfl ?_
          refine j_lconst hx dX0_pack_45 ?_
          show JJ X E 12 G s2 0 0 [(3, .long (zL w8)), (0, .ref a), (1, .ref b1), (2, .int (zI x2))] 46 [.long (zL 0)]
          refine j_lstore hx [(5, .long (zL 0)), (3, .long (zL w8)), (0, .ref a), (1, .ref b1), (2, .int (zI x2))] dX0_pack_46 (by decide) rfl ?_
          refine j_iconst hx dX0_pack_48 ?_
          refine j_istore hx [(7, .int (zI 0)), (5, .long (zL 0)), (3, .long (zL w8)), (0, .ref a), (1, .ref b1), (2, .int (zI x2))] dX0_pack_49 (by decide) rfl ?_
          refine j_iconst hx dX0_pack_51 ?_
          refine j_istore hx [(8, .int (zI 0)), (7, .int (zI 0)), (5, .long (zL 0)), (3, .long (zL w8)), (0, .ref a), (1, .ref b1), (2, .int (zI x2))] dX0_pack_52 (by decide) rfl ?_
          refine j_iconst hx dX0_pack_54 ?_
          refine j_istore hx [(9, .int (zI 0)), (8, .int (zI 0)), (7, .int (zI 0)), (5, .long (zL 0)), (3, .long (zL w8)), (0, .ref a), (1, .ref b1), (2, .int (zI x2))] dX0_pack_55 (by decide) rfl ?_
          have c57_6 : ∀ (m_c57_6 : Nat) (w11 : Int) (v12 : Int), 2147483648 - v12 < m_c57_6 → ((-9223372036854775808) ≤ w11 ∧ w11 ≤ 9223372036854775807) → (0 ≤ v12 ∧ v12 ≤ 7) → JJ X E 12 G s2 0 0 [(0, .ref a), (1, .ref b1), (2, .int (zI x2)), (3, .long (zL w11)), (9, .int (zI v12))] 57 [] := by
            intro m_c57_6
            induction m_c57_6 with
            | zero => intro w11 v12 hm_c57_6 f7 f8; exfalso; omega
            | succ m_c57_6 ih_c57_6 => 
              intro w11 v12 hm_c57_6 f7 f8
              refine j_iload hx 4 dX0_pack_57 rfl ?_
              refine j_bipush hx dX0_pack_59 rfl ?_
              refine j_icmp_ge hx 175 dX0_pack_61 rfl (by omega) ⟨by decide, by decide⟩ (fun h13 => ?_) (fun h13 => ?_)
              · skip
                refine j_aload_n hx 1 dX0_pack_175 rfl ?_
                refine j_iload_n hx 2 dX0_pack_176 rfl ?_
                refine j_iconst hx dX0_pack_177 ?_
                refine j_iadd hx (r := x2 + 5) dX0_pack_178 rfl ?_
                refine j_lload_n hx 3 dX0_pack_179 rfl ?_
                refine j_last hx hG hb1 (by decide) rfl rfl (by omega) (by omega) (j := (x2 + 5).toNat) rfl dX0_pack_180 ?_
                obtain ⟨s9, e_s9⟩ : ∃ z, z = zU s2 b1 (x2 + 5).toNat w11 := ⟨_, rfl⟩
                rw [← e_s9]
                have hS_s9 : zSK G s9 := by rw [e_s9]; exact zSK_A hS_s2 hb1 rfl rfl rfl (by omega)
                exact j_vret hx hq rfl (by decide) (by decide) dX0_pack_181 ⟨rfl, rfl, hS_s9, (zFr_u (zFr_t zFr_rf hF_s2 (by decide)) e_s9 hb1 (by decide)), trivial⟩
              · skip
                refine j_aload_n hx 0 dX0_pack_64 rfl ?_
                refine j_iload hx 4 dX0_pack_65 rfl ?_
                refine j_callV hx hG (c_X0_pileOf hst a v12) lk_RX0_47 ha (by decide) rfl rfl rfl rfl [.int (zI v12)] ⟨rfl, hG, hS_s2, ha, (by omega)⟩ rfl rfl ⟨by decide, by decide⟩ ⟨by decide, by decide⟩ (k2 := 0) (n2 := 0) rfl rfl (Nat.le_of_ble_eq_true rfl) dX0_pack_67 (kRP (fun r14 q15 => ?_))
                refine j_astore hx [(10, .ref r14), (0, .ref a), (1, .ref b1), (2, .int (zI x2)), (3, .long (zL w11)), (9, .int (zI v12))] dX0_pack_70 (by decide) rfl ?_
                refine j_lload_n hx 4 dX0_pack_72 rfl ?_
                refine j_aload hx 0 dX0_pack_73 rfl ?_
                have f16 := zf hS0 q15 (k := 1) rfl
                refine gN7_1 hx hG q15 kf_RX0_43 (v := (s0 r14 1)) (by rw [(zFr_g hF_s2 q15 (by decide))]) dX0_pack_75 ?_
                refine j_i2l hx dX0_pack_78 (by omega) ?_
                refine j_bipush hx dX0_pack_79 rfl ?_
                refine j_iload hx 5 dX0_pack_81 rfl ?_
                refine j_imul hx (r := 6 * v12) dX0_pack_83 rfl ?_
                refine j_lshl hx dX0_pack_84 (fun w17 f18 f19 => ?_)
                refine j_lor hx dX0_pack_85 (fun w20 f21 f22 => ?_)
                refine j_lstore_n hx [(3, .long (zL w20)), (10, .ref r14), (0, .ref a), (1, .ref b1), (2, .int (zI x2)), (9, .int (zI v12))] dX0_pack_86 (by decide) rfl ?_
                refine j_iconst hx dX0_pack_87 ?_
                refine j_istore hx [(11, .int (zI 0)), (3, .long (zL w20)), (10, .ref r14), (0, .ref a), (1, .ref b1), (2, .int (zI x2)), (9, .int (zI v12))] dX0_pack_88 (by decide) rfl ?_
                refine j_iload hx 0 dX0_pack_90 rfl ?_
                refine j_aload hx 2 dX0_pack_92 rfl ?_
                refine gN7_1 hx hG q15 kf_RX0_43 (v := (s0 r14 1)) (by rw [(zFr_g hF_s2 q15 (by decide))]) dX0_pack_94 ?_
                refine j_icmp_ge hx 169 dX0_pack_97 rfl ⟨by decide, by decide⟩ (by omega) (fun h23 => ?_) (fun h23 => absurd h23 (by omega))
                refine j_iinc hx 6 [(9, .int (zI (v12 + 1))), (11, .int (zI 0)), (3, .long (zL w20)), (10, .ref r14), (0, .ref a), (1, .ref b1), (2, .int (zI x2))] dX0_pack_169 rfl (by omega) (by decide) rfl ?_
                refine j_goto hx 57 dX0_pack_172 rfl ?_
                exact j_sub [4, 5, 6, 2, 0] [(0, .ref a), (1, .ref b1), (2, .int (zI x2)), (3, .long (zL w20)), (9, .int (zI (v12 + 1)))] rfl (ih_c57_6 w20 (v12 + 1) (by omega) (by omega) (by omega))
          exact j_sub [5, 6, 7, 4, 0] [(0, .ref a), (1, .ref b1), (2, .int (zI x2)), (3, .long (zL w8)), (9, .int (zI 0))] rfl (c57_6 (2147483648 * 4) w8 0 (by omega) (by omega) (by omega))
        · skip
          refine j_aload_n hx 1 dX0_pack_22 rfl ?_
          refine j_iload_n hx 2 dX0_pack_23 rfl ?_
          refine j_iload_n hx 3 dX0_pack_24 rfl ?_
          refine j_iadd hx (r := x2 + v4) dX0_pack_25 rfl ?_
          refine j_lconst hx dX0_pack_26 ?_
          show JJ X E 12 G s2 0 0 [(0, .ref a), (1, .ref b1), (2, .int (zI x2)), (3, .int (zI v4))] 27 [.long (zL 0), .int (zI (x2 + v4)), .ref b1]
          refine j_last hx hG hb1 (by decide) rfl rfl (by omega) (by omega) (j := (x2 + v4).toNat) rfl dX0_pack_27 ?_
          obtain ⟨s10, e_s10⟩ : ∃ z, z = zU s2 b1 (x2 + v4).toNat 0 := ⟨_, rfl⟩
          rw [← e_s10]
          have hS_s10 : zSK G s10 := by rw [e_s10]; exact zSK_A hS_s2 hb1 rfl rfl rfl (by omega)
          refine j_iinc hx 3 [(3, .int (zI (v4 + 1))), (0, .ref a), (1, .ref b1), (2, .int (zI x2))] dX0_pack_28 rfl (by omega) (by decide) rfl ?_
          refine j_goto hx 16 dX0_pack_31 rfl ?_
          exact j_sub [1, 2, 3, 0] [(0, .ref a), (1, .ref b1), (2, .int (zI x2)), (3, .int (zI (v4 + 1)))] rfl (ih_c16_1 (v4 + 1) s10 (by omega) (by omega) hS_s10 (zFr_u (zFr_t zFr_rf hF_s2 (by decide)) e_s10 hb1 (by decide)))
    exact j_sub [1, 2, 3, 0] [(0, .ref a), (1, .ref b1), (2, .int (zI x2)), (3, .int (zI 0))] rfl (c16_1 (2147483648 * 4) 0 s0 (by omega) (by omega) hS0 zFr_rf)
  · skip
    exact j_vret hx hq rfl (by decide) (by decide) dX0_pack_13 ⟨rfl, rfl, hS0, zFr_rf, trivial⟩

theorem lk_RX1_38 : LkV RX1 38 RX9 yX9_peek cX9_peek 2 (some .int) 0 := ⟨km_RX1_38, ki_yX9_peek, ks_RX9_yX9_peek, kn_RX9, kc_yX9_peek, rfl, by decide +kernel, by decide +kernel, by decide +kernel⟩
set_option maxHeartbeats 4000000 in
set_option maxRecDepth 20000 in
theorem c_X1_turnAt {E : zE} {l : Launch} (hst : l.stackTraces = false) (a : Nat) (x1 : Int) : Con E l yX1_turnAt cX1_turnAt 2 (some .int) { frames := 0, cells := 0, slots := 0, locals := 0 } (fun G s vs => vs = [.ref a, .int (zI x1)] ∧ zGK G ∧ zSK G s ∧ (gT G a = 2) ∧ ((-2147483648) ≤ x1 ∧ x1 ≤ 2147483647)) (fun G s _ => pI (fun r G2 s2 => G2 = G ∧ s2 = s ∧ ((-1) ≤ r ∧ r ≤ (-1)))) := by
  refine Con.mk hst (by decide) (fun G s vs h => by rw [h.1]; exact Nat.le_of_ble_eq_true rfl) ?_
  rintro X G s0 vs ⟨rfl, hG, hS0, ha, hx1⟩ rfl hx hq
  show JJ X E 2 G s0 0 0 [(0, .ref a), (1, .int (zI x1))] 0 []
  refine j_iload_n hx 1 dX1_turnAt_0 rfl ?_
  refine j_if_lt hx 30 dX1_turnAt_1 rfl (by omega) (fun h1 => ?_) (fun h1 => ?_)
  · skip
    refine j_iconst hx dX1_turnAt_30 ?_
    exact j_iret hx hq rfl (by decide) (by decide) dX1_turnAt_31 ⟨(-1), rfl, rfl, rfl, (by omega)⟩
  · skip
    refine j_iload_n hx 1 dX1_turnAt_4 rfl ?_
    refine j_aload_n hx 0 dX1_turnAt_5 rfl ?_
    have f2 := zf hS0 ha (k := 2) rfl
    refine g2_2 hx hG ha kf_RX1_18 rfl dX1_turnAt_6 ?_
    refine j_icmp_ge hx 30 dX1_turnAt_9 rfl (by omega) (by omega) (fun h3 => ?_) (fun h3 => absurd h3 (by omega))
    refine j_iconst hx dX1_turnAt_30 ?_
    exact j_iret hx hq rfl (by decide) (by decide) dX1_turnAt_31 ⟨(-1), rfl, rfl, rfl, (by omega)⟩

set_option maxHeartbeats 4000000 in
set_option maxRecDepth 20000 in
theorem c_X1_playerAt {E : zE} {l : Launch} (hst : l.stackTraces = false) (a : Nat) (x1 : Int) : Con E l yX1_playerAt cX1_playerAt 2 (some .int) { frames := 0, cells := 0, slots := 0, locals := 0 } (fun G s vs => vs = [.ref a, .int (zI x1)] ∧ zGK G ∧ zSK G s ∧ (gT G a = 2) ∧ ((-2147483648) ≤ x1 ∧ x1 ≤ 2147483647)) (fun G s _ => pI (fun r G2 s2 => G2 = G ∧ s2 = s ∧ ((-1) ≤ r ∧ r ≤ (-1)))) := by
  refine Con.mk hst (by decide) (fun G s vs h => by rw [h.1]; exact Nat.le_of_ble_eq_true rfl) ?_
  rintro X G s0 vs ⟨rfl, hG, hS0, ha, hx1⟩ rfl hx hq
  show JJ X E 2 G s0 0 0 [(0, .ref a), (1, .int (zI x1))] 0 []
  refine j_iload_n hx 1 dX1_playerAt_0 rfl ?_
  refine j_if_lt hx 30 dX1_playerAt_1 rfl (by omega) (fun h1 => ?_) (fun h1 => ?_)
  · skip
    refine j_iconst hx dX1_playerAt_30 ?_
    exact j_iret hx hq rfl (by decide) (by decide) dX1_playerAt_31 ⟨(-1), rfl, rfl, rfl, (by omega)⟩
  · skip
    refine j_iload_n hx 1 dX1_playerAt_4 rfl ?_
    refine j_aload_n hx 0 dX1_playerAt_5 rfl ?_
    have f2 := zf hS0 ha (k := 2) rfl
    refine g2_2 hx hG ha kf_RX1_18 rfl dX1_playerAt_6 ?_
    refine j_icmp_ge hx 30 dX1_playerAt_9 rfl (by omega) (by omega) (fun h3 => ?_) (fun h3 => absurd h3 (by omega))
    refine j_iconst hx dX1_playerAt_30 ?_
    exact j_iret hx hq rfl (by decide) (by decide) dX1_playerAt_31 ⟨(-1), rfl, rfl, rfl, (by omega)⟩

set_option maxHeartbeats 4000000 in
set_option maxRecDepth 20000 in
theorem c_X1_become {E : zE} {l : Launch} (hst : l.stackTraces = false) (a : Nat) (b1 : Nat) : Con E l yX1_become cX1_become 3 none { frames := 0, cells := 0, slots := 0, locals := 0 } (fun G s vs => vs = [.ref a, .ref b1] ∧ zGK G ∧ zSK G s ∧ (gT G a = 2) ∧ (gT G b1 = 2)) (fun G s _ => pV (fun G2 s2 => G2 = G ∧ zSK G s2 ∧ zFr [2] G s s2 ∧ True)) := by
  refine Con.mk hst (by decide) (fun G s vs h => by rw [h.1]; exact Nat.le_of_ble_eq_true rfl) ?_
  rintro X G s0 vs ⟨rfl, hG, hS0, ha, hb1⟩ rfl hx hq
  show JJ X E 3 G s0 0 0 [(0, .ref a), (1, .ref b1)] 0 []
  refine j_aload_n hx 0 dX1_become_0 rfl ?_
  refine j_iconst hx dX1_become_1 ?_
  refine p2_2 hx hG ha kf_RX1_18 dX1_become_2 ?_
  obtain ⟨s1, e_s1⟩ : ∃ z, z = zU s0 a 2 0 := ⟨_, rfl⟩
  rw [← e_s1]
  have hS_s1 : zSK G s1 := by rw [e_s1]; exact zSK_F hS0 ha rfl rfl rfl (by omega)
  refine j_iconst hx dX1_become_5 ?_
  refine j_istore_n hx [(2, .int (zI 0)), (0, .ref a), (1, .ref b1)] dX1_become_6 (by decide) rfl ?_
  refine j_iload_n hx 0 dX1_become_7 rfl ?_
  refine j_aload_n hx 2 dX1_become_8 rfl ?_
  have f1 := zf hS_s1 hb1 (k := 2) rfl
  refine g2_2 hx hG hb1 kf_RX1_18 rfl dX1_become_9 ?_
  refine j_icmp_ge hx 35 dX1_become_12 rfl ⟨by decide, by decide⟩ (by omega) (fun h2 => ?_) (fun h2 => absurd h2 (by omega))
  exact j_vret hx hq rfl (by decide) (by decide) dX1_become_35 ⟨rfl, rfl, hS_s1, (zFr_u zFr_rf e_s1 ha (by decide)), trivial⟩

set_option maxHeartbeats 4000000 in
set_option maxRecDepth 20000 in
theorem c_X1_read {E : zE} {l : Launch} (hst : l.stackTraces = false) (a : Nat) (b1 : Nat) (x2 : Int) : Con E l yX1_read cX1_read 7 none { frames := 1, cells := 0, slots := 0, locals := 21 } (fun G s vs => vs = [.ref a, .ref b1, .int (zI x2)] ∧ zGK G ∧ zSK G s ∧ (gT G a = 2) ∧ (gT G b1 = 10) ∧ (0 ≤ x2 ∧ x2 ≤ 0)) (fun G s _ => pV (fun G2 s2 => G2 = G ∧ zSK G s2 ∧ zFr [2] G s s2 ∧ True)) := by
  refine Con.mk hst (by decide) (fun G s vs h => by rw [h.1]; exact Nat.le_of_ble_eq_true rfl) ?_
  rintro X G s0 vs ⟨rfl, hG, hS0, ha, hb1, hx2⟩ rfl hx hq
  show JJ X E 7 G s0 0 0 [(0, .ref a), (1, .ref b1), (2, .int (zI x2))] 0 []
  refine j_aload_n hx 0 dX1_read_0 rfl ?_
  refine j_iconst hx dX1_read_1 ?_
  refine p2_2 hx hG ha kf_RX1_18 dX1_read_2 ?_
  obtain ⟨s1, e_s1⟩ : ∃ z, z = zU s0 a 2 0 := ⟨_, rfl⟩
  rw [← e_s1]
  have hS_s1 : zSK G s1 := by rw [e_s1]; exact zSK_F hS0 ha rfl rfl rfl (by omega)
  refine j_iconst hx dX1_read_5 ?_
  refine j_istore_n hx [(3, .int (zI 0)), (0, .ref a), (1, .ref b1), (2, .int (zI x2))] dX1_read_6 (by decide) rfl ?_
  refine j_iload_n hx 0 dX1_read_7 rfl ?_
  refine j_bipush hx dX1_read_8 rfl ?_
  refine j_icmp_gt hx 92 dX1_read_10 rfl ⟨by decide, by decide⟩ ⟨by decide, by decide⟩ (fun h1 => absurd h1 (by omega)) (fun h1 => ?_)
  refine j_aload_n hx 2 dX1_read_13 rfl ?_
  have f2 := zf hS0 hb1 (k := 4) rfl
  refine gN10_4 hx hG hb1 kf_RX1_33 (v := (s0 b1 4)) (by rw [e_s1, zU_at (Or.inl (zne ha hb1 (by decide)))]) dX1_read_14 ?_
  refine j_if_ne hx 92 dX1_read_17 rfl (by omega) (fun h3 => ?_) (fun h3 => ?_)
  · skip
    exact j_vret hx hq rfl (by decide) (by decide) dX1_read_92 ⟨rfl, rfl, hS_s1, (zFr_u zFr_rf e_s1 ha (by decide)), trivial⟩
  · skip
    refine j_aload_n hx 2 dX1_read_20 rfl ?_
    refine j_callV hx hG (c_X9_peek hst b1) lk_RX1_38 hb1 (by decide) rfl rfl rfl rfl [] ⟨rfl, hG, hS_s1, hb1⟩ rfl rfl ⟨by decide, by decide⟩ ⟨by decide, by decide⟩ (k2 := 0) (n2 := 0) rfl rfl (Nat.le_of_ble_eq_true rfl) dX1_read_21 (kIP (fun v4 q5 => ?_))
    refine j_iconst hx dX1_read_24 ?_
    refine j_icmp_eq hx 92 dX1_read_25 rfl (by omega) ⟨by decide, by decide⟩ (fun h6 => ?_) (fun h6 => absurd h6 (by omega))
    exact j_vret hx hq rfl (by decide) (by decide) dX1_read_92 ⟨rfl, rfl, hS_s1, (zFr_u zFr_rf e_s1 ha (by decide)), trivial⟩

theorem lk_RX8_151 : LkV RX8 151 RX8 yX8_payoff cX8_payoff 6 (some .int) 3 := ⟨km_RX8_151, ki_yX8_payoff, ks_RX8_yX8_payoff, kn_RX8, kc_yX8_payoff, rfl, by decide +kernel, by decide +kernel, by decide +kernel⟩
set_option maxHeartbeats 4000000 in
set_option maxRecDepth 20000 in
theorem c_X8_payoff {E : zE} {l : Launch} (hst : l.stackTraces = false) (a : Nat) (x1 : Int) (x2 : Int) (x3 : Int) : Con E l yX8_payoff cX8_payoff 6 (some .int) { frames := 0, cells := 0, slots := 0, locals := 0 } (fun G s vs => vs = [.ref a, .int (zI x1), .int (zI x2), .int (zI x3)] ∧ zGK G ∧ zSK G s ∧ (gT G a = 9) ∧ (0 ≤ x1 ∧ x1 ≤ 0) ∧ (0 ≤ x2 ∧ x2 ≤ 0) ∧ (0 ≤ x3 ∧ x3 ≤ 99)) (fun G s _ => pI (fun r G2 s2 => G2 = G ∧ s2 = s ∧ (0 ≤ r ∧ r ≤ 0))) := by
  refine Con.mk hst (by decide) (fun G s vs h => by rw [h.1]; exact Nat.le_of_ble_eq_true rfl) ?_
  rintro X G s0 vs ⟨rfl, hG, hS0, ha, hx1, hx2, hx3⟩ rfl hx hq
  show JJ X E 6 G s0 0 0 [(0, .ref a), (1, .int (zI x1)), (2, .int (zI x2)), (3, .int (zI x3))] 0 []
  refine j_iconst hx dX8_payoff_0 ?_
  refine j_istore hx [(4, .int (zI 0)), (0, .ref a), (1, .int (zI x1)), (2, .int (zI x2)), (3, .int (zI x3))] dX8_payoff_1 (by decide) rfl ?_
  refine j_iconst hx dX8_payoff_3 ?_
  refine j_istore hx [(5, .int (zI 0)), (4, .int (zI 0)), (0, .ref a), (1, .int (zI x1)), (2, .int (zI x2)), (3, .int (zI x3))] dX8_payoff_4 (by decide) rfl ?_
  refine j_iload hx 0 dX8_payoff_6 rfl ?_
  refine j_aload_n hx 2 dX8_payoff_8 rfl ?_
  have f1 := zf hS0 ha (k := 5) rfl
  refine g9_5 hx hG ha kf_RX8_40 rfl dX8_payoff_9 ?_
  refine j_icmp_ge hx 110 dX8_payoff_12 rfl ⟨by decide, by decide⟩ (by omega) (fun h2 => ?_) (fun h2 => absurd h2 (by omega))
  refine j_iload hx 1 dX8_payoff_110 rfl ?_
  exact j_iret hx hq rfl (by decide) (by decide) dX8_payoff_112 ⟨0, rfl, rfl, rfl, (by omega)⟩

set_option maxHeartbeats 4000000 in
set_option maxRecDepth 20000 in
theorem c_X8_isBest {E : zE} {l : Launch} (hst : l.stackTraces = false) (a : Nat) (x1 : Int) (x2 : Int) (x3 : Int) : Con E l yX8_isBest cX8_isBest 6 (some .boolean) { frames := 1, cells := 0, slots := 0, locals := 25 } (fun G s vs => vs = [.ref a, .int (zI x1), .int (zI x2), .int (zI x3)] ∧ zGK G ∧ zSK G s ∧ (gT G a = 9) ∧ (0 ≤ x1 ∧ x1 ≤ 0) ∧ (0 ≤ x2 ∧ x2 ≤ 0) ∧ (0 ≤ x3 ∧ x3 ≤ 99)) (fun G s _ => pI (fun r G2 s2 => G2 = G ∧ s2 = s ∧ (1 ≤ r ∧ r ≤ 1))) := by
  refine Con.mk hst (by decide) (fun G s vs h => by rw [h.1]; exact Nat.le_of_ble_eq_true rfl) ?_
  rintro X G s0 vs ⟨rfl, hG, hS0, ha, hx1, hx2, hx3⟩ rfl hx hq
  show JJ X E 6 G s0 0 0 [(0, .ref a), (1, .int (zI x1)), (2, .int (zI x2)), (3, .int (zI x3))] 0 []
  refine j_aload_n hx 0 dX8_isBest_0 rfl ?_
  refine j_iload_n hx 1 dX8_isBest_1 rfl ?_
  refine j_iload_n hx 2 dX8_isBest_2 rfl ?_
  refine j_iload_n hx 3 dX8_isBest_3 rfl ?_
  refine j_callV hx hG (c_X8_payoff hst a x1 x2 x3) lk_RX8_151 ha (by decide) rfl rfl rfl rfl [.int (zI x1), .int (zI x2), .int (zI x3)] ⟨rfl, hG, hS0, ha, (by omega), (by omega), (by omega)⟩ rfl rfl ⟨by decide, by decide⟩ ⟨by decide, by decide⟩ (k2 := 0) (n2 := 0) rfl rfl (Nat.le_of_ble_eq_true rfl) dX8_isBest_4 (kIP (fun v1 q2 => ?_))
  refine j_istore hx [(4, .int (zI v1)), (0, .ref a), (1, .int (zI x1)), (2, .int (zI x2)), (3, .int (zI x3))] dX8_isBest_7 (by decide) rfl ?_
  refine j_iconst hx dX8_isBest_9 ?_
  refine j_istore hx [(5, .int (zI 0)), (4, .int (zI v1)), (0, .ref a), (1, .int (zI x1)), (2, .int (zI x2)), (3, .int (zI x3))] dX8_isBest_10 (by decide) rfl ?_
  have c12_1 : ∀ (m_c12_1 : Nat) (v3 : Int), 2147483648 - v3 < m_c12_1 → (0 ≤ v3 ∧ v3 ≤ 1) → JJ X E 6 G s0 0 0 [(0, .ref a), (2, .int (zI x2)), (3, .int (zI x3)), (4, .int (zI v1)), (5, .int (zI v3))] 12 [] := by
    intro m_c12_1
    induction m_c12_1 with
    | zero => intro v3 hm_c12_1 f2; exfalso; omega
    | succ m_c12_1 ih_c12_1 => 
      intro v3 hm_c12_1 f2
      refine j_iload hx 4 dX8_isBest_12 rfl ?_
      refine j_aload_n hx 0 dX8_isBest_14 rfl ?_
      have f4 := zf hS0 ha (k := 5) rfl
      refine g9_5 hx hG ha kf_RX8_40 rfl dX8_isBest_15 ?_
      refine j_icmp_gt hx 42 dX8_isBest_18 rfl (by omega) (by omega) (fun h5 => ?_) (fun h5 => ?_)
      · skip
        refine j_iconst hx dX8_isBest_42 ?_
        exact j_zret hx hq rfl (by decide) (by decide) dX8_isBest_43 (by omega) ⟨1, rfl, rfl, rfl, (by omega)⟩
      · skip
        refine j_aload_n hx 0 dX8_isBest_21 rfl ?_
        refine j_iload hx 4 dX8_isBest_22 rfl ?_
        refine j_iload_n hx 1 dX8_isBest_24 rfl ?_
        refine j_iload_n hx 2 dX8_isBest_25 rfl ?_
        refine j_callV hx hG (c_X8_payoff hst a v3 x2 x3) lk_RX8_151 ha (by decide) rfl rfl rfl rfl [.int (zI v3), .int (zI x2), .int (zI x3)] ⟨rfl, hG, hS0, ha, (by omega), (by omega), (by omega)⟩ rfl rfl ⟨by decide, by decide⟩ ⟨by decide, by decide⟩ (k2 := 0) (n2 := 0) rfl rfl (Nat.le_of_ble_eq_true rfl) dX8_isBest_26 (kIP (fun v6 q7 => ?_))
        refine j_iload hx 3 dX8_isBest_29 rfl ?_
        refine j_icmp_le hx 36 dX8_isBest_31 rfl (by omega) (by omega) (fun h8 => ?_) (fun h8 => absurd h8 (by omega))
        refine j_iinc hx 4 [(5, .int (zI (v3 + 1))), (0, .ref a), (2, .int (zI x2)), (3, .int (zI x3)), (4, .int (zI v1))] dX8_isBest_36 rfl (by omega) (by decide) rfl ?_
        refine j_goto hx 12 dX8_isBest_39 rfl ?_
        exact j_sub [1, 2, 3, 4, 0] [(0, .ref a), (2, .int (zI x2)), (3, .int (zI x3)), (4, .int (zI v1)), (5, .int (zI (v3 + 1)))] rfl (ih_c12_1 (v3 + 1) (by omega) (by omega))
  exact j_sub [2, 4, 5, 1, 0] [(0, .ref a), (2, .int (zI x2)), (3, .int (zI x3)), (4, .int (zI v1)), (5, .int (zI 0))] rfl (c12_1 (2147483648 * 4) 0 (by omega) (by omega))
