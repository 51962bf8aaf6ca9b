set_option maxHeartbeats 4000000 in
set_option maxRecDepth 20000 in
theorem c_X12_heap {E : zE} {l : Launch} (hst : l.stackTraces = false) (a : Nat) (x1 : Int) (x2 : Int) : Con E l yX12_heap cX12_heap 3 (some .int) { frames := 2, cells := 0, slots := 0, locals := 45 } (fun G s vs => vs = [.ref a, .int (zI x1), .int (zI x2)] ∧ zGK G ∧ zSK G s ∧ (gT G a = 13) ∧ ((-2147483648) ≤ x1 ∧ x1 ≤ 2147483647) ∧ ((-2147483648) ≤ x2 ∧ x2 ≤ 2147483647) ∧ (zS0 G s)) (fun G s _ => pI (fun r G2 s2 => G2 = G ∧ zSK G s2 ∧ zFr [13, 71] G s s2 ∧ ((-2147483648) ≤ r ∧ r ≤ 2147483647))) := by
  refine Con.mk hst (by decide) (fun G s vs h => by rw [h.1]; exact Nat.le_of_ble_eq_true rfl) ?_
  rintro X G s0 vs ⟨rfl, hG, hS0, ha, hx1, hx2, hF0⟩ rfl hx hq
  show JJ X E 3 G s0 0 0 [(0, .ref a), (1, .int (zI x1)), (2, .int (zI x2))] 0 []
  refine j_aload_n hx 0 dX12_heap_0 rfl ?_
  refine j_iconst hx dX12_heap_1 ?_
  refine p13_0 hx hG ha kf_RX12_3 dX12_heap_2 ?_
  obtain ⟨s1, e_s1⟩ : ∃ z, z = zU s0 a 0 0 := ⟨_, rfl⟩
  rw [← e_s1]
  have hS_s1 : zSK G s1 := by rw [e_s1]; exact zSK_F hS0 ha rfl rfl rfl (by omega)
  refine j_aload_n hx 0 dX12_heap_5 rfl ?_
  refine j_iload_n hx 1 dX12_heap_6 rfl ?_
  refine j_iconst hx dX12_heap_7 ?_
  refine j_callV hx hG (c_X12_isPlayer hst a x1 1) lk_RX12_339 ha (by decide) rfl rfl rfl rfl [.int (zI x1), .int (zI 1)] ⟨rfl, hG, hS_s1, ha, (by omega), (by omega)⟩ rfl rfl ⟨by decide, by decide⟩ ⟨by decide, by decide⟩ (k2 := 0) (n2 := 0) rfl rfl (Nat.le_of_ble_eq_true rfl) dX12_heap_8 (kIM (fun v1 s2 hS_s2 hF_s2 q2 => ?_))
  refine j_if_ne hx 16 dX12_heap_11 rfl (by omega) (fun h3 => ?_) (fun h3 => ?_)
  · skip
    refine j_iload_n hx 2 dX12_heap_16 rfl ?_
    refine j_iconst hx dX12_heap_17 ?_
    refine j_aload_n hx 0 dX12_heap_18 rfl ?_
    refine g13_27 hx hG ha kf_RX12_56 dX12_heap_19 ?_
    refine j_sipush hx dX12_heap_22 rfl ?_
    refine j_iload_n hx 1 dX12_heap_25 rfl ?_
    refine j_iadd hx (r := x1 + 483) dX12_heap_26 (by omega) ?_
    refine j_norm (fun v4 f5 f6 f7 => ?_)
    have f8 := zaI (j := (v4).toNat) hS0 (zr (k := 27) (t2 := 84) hG ha rfl) rfl (zlen hG (zr (k := 27) (t2 := 84) hG ha rfl) (n := 515) rfl rfl) (show 0 ≤ v4 by omega) (by omega) rfl
    refine j_iald hx hG (zr (k := 27) (t2 := 84) hG ha rfl) (by decide) rfl (zlen hG (zr (k := 27) (t2 := 84) hG ha rfl) (n := 515) rfl rfl) (by omega) (by omega) (j := (v4).toNat) rfl (v := (s0 (gP G a 27) (v4).toNat)) (by rw [(zFr_g hF_s2 (zr (k := 27) (t2 := 84) hG ha rfl) (by decide)), e_s1, zU_at (Or.inl (zne ha (zr (k := 27) (t2 := 84) hG ha rfl) (by decide)))]) dX12_heap_27 ?_
    refine j_iconst hx dX12_heap_28 ?_
    refine j_isub hx (r := (s0 (gP G a 27) (v4).toNat) - 1) dX12_heap_29 (by omega) ?_
    refine j_norm (fun v9 f10 f11 f12 => ?_)
    refine j_callS hx (c_X12_within hst x2 0 v9) lk_RX12_314 [.int (zI x2), .int (zI 0), .int (zI v9)] ⟨rfl, hG, hS_s2, (by omega), (by omega), (by omega)⟩ rfl rfl ⟨by decide, by decide⟩ ⟨by decide, by decide⟩ (k2 := 0) (n2 := 0) rfl rfl (Nat.le_of_ble_eq_true rfl) dX12_heap_30 (kIP (fun v13 q14 => ?_))
    refine j_if_eq hx 59 dX12_heap_33 rfl (by omega) (fun h15 => ?_) (fun h15 => ?_)
    · skip
      refine j_iconst hx dX12_heap_59 ?_
      exact j_iret hx hq rfl (by decide) (by decide) dX12_heap_60 ⟨(-1), rfl, rfl, hS_s2, (zFr_t (zFr_u zFr_rf e_s1 ha (by decide)) hF_s2 (by decide)), (by omega)⟩
    · skip
      refine j_aload_n hx 0 dX12_heap_36 rfl ?_
      refine g13_19 hx hG ha kf_RX12_50 dX12_heap_37 ?_
      refine j_aload_n hx 0 dX12_heap_40 rfl ?_
      refine g13_27 hx hG ha kf_RX12_56 dX12_heap_41 ?_
      refine j_sipush hx dX12_heap_44 rfl ?_
      refine j_bipush hx dX12_heap_47 rfl ?_
      refine j_iload_n hx 1 dX12_heap_49 rfl ?_
      refine j_imul hx (r := 60 * x1) dX12_heap_50 rfl ?_
      refine j_norm (fun v16 f17 f18 f19 => ?_)
      refine j_iadd hx (r := v16 + 180) dX12_heap_51 (by omega) ?_
      refine j_norm (fun v20 f21 f22 f23 => ?_)
      refine j_iload_n hx 2 dX12_heap_52 rfl ?_
      refine j_iadd hx (r := v20 + x2) dX12_heap_53 rfl ?_
      refine j_norm (fun v24 f25 f26 f27 => ?_)
      have f28 := zaI (j := (v24).toNat) hS0 (zr (k := 27) (t2 := 84) hG ha rfl) rfl (zlen hG (zr (k := 27) (t2 := 84) hG ha rfl) (n := 515) rfl rfl) (show 0 ≤ v24 by omega) (by omega) rfl
      refine j_iald hx hG (zr (k := 27) (t2 := 84) hG ha rfl) (by decide) rfl (zlen hG (zr (k := 27) (t2 := 84) hG ha rfl) (n := 515) rfl rfl) (by omega) (by omega) (j := (v24).toNat) rfl (v := (s0 (gP G a 27) (v24).toNat)) (by rw [(zFr_g hF_s2 (zr (k := 27) (t2 := 84) hG ha rfl) (by decide)), e_s1, zU_at (Or.inl (zne ha (zr (k := 27) (t2 := 84) hG ha rfl) (by decide)))]) dX12_heap_54 ?_
      have f29 := z0a (j := ((s0 (gP G a 27) (v24).toNat)).toNat) hF0 (zr (k := 19) (t2 := 82) hG ha rfl) rfl (zlen hG (zr (k := 19) (t2 := 82) hG ha rfl) (n := 60) rfl rfl) (show 0 ≤ (s0 (gP G a 27) (v24).toNat) by omega) (by omega) rfl
      refine j_iald hx hG (zr (k := 19) (t2 := 82) hG ha rfl) (by decide) rfl (zlen hG (zr (k := 19) (t2 := 82) hG ha rfl) (n := 60) rfl rfl) (by omega) (by omega) (j := ((s0 (gP G a 27) (v24).toNat)).toNat) rfl (v := (s0 (gP G a 19) ((s0 (gP G a 27) (v24).toNat)).toNat)) (by rw [(zFr_g hF_s2 (zr (k := 19) (t2 := 82) hG ha rfl) (by decide)), e_s1, zU_at (Or.inl (zne ha (zr (k := 19) (t2 := 82) hG ha rfl) (by decide)))]) dX12_heap_55 ?_
      refine j_goto hx 60 dX12_heap_56 rfl ?_
      exact j_iret hx hq rfl (by decide) (by decide) dX12_heap_60 ⟨(s0 (gP G a 19) ((s0 (gP G a 27) (v24).toNat)).toNat), rfl, rfl, hS_s2, (zFr_t (zFr_u zFr_rf e_s1 ha (by decide)) hF_s2 (by decide)), (by omega)⟩
  · skip
    refine j_iconst hx dX12_heap_14 ?_
    exact j_iret hx hq rfl (by decide) (by decide) dX12_heap_15 ⟨0, rfl, rfl, hS_s2, (zFr_t (zFr_u zFr_rf e_s1 ha (by decide)) hF_s2 (by decide)), (by omega)⟩

set_option maxHeartbeats 4000000 in
set_option maxRecDepth 20000 in
theorem c_X12_pool {E : zE} {l : Launch} (hst : l.stackTraces = false) (a : Nat) (x1 : Int) : Con E l yX12_pool cX12_pool 2 (some .int) { frames := 1, cells := 0, slots := 0, locals := 22 } (fun G s vs => vs = [.ref a, .int (zI x1)] ∧ zGK G ∧ zSK G s ∧ (gT G a = 13) ∧ ((-2147483648) ≤ x1 ∧ x1 ≤ 2147483647) ∧ (zS0 G s)) (fun G s _ => pI (fun r G2 s2 => G2 = G ∧ zSK G s2 ∧ zFr [13] G s s2 ∧ ((-2147483648) ≤ r ∧ r ≤ 2147483647))) := by
  refine Con.mk hst (by decide) (fun G s vs h => by rw [h.1]; exact Nat.le_of_ble_eq_true rfl) ?_
  rintro X G s0 vs ⟨rfl, hG, hS0, ha, hx1, hF0⟩ rfl hx hq
  show JJ X E 2 G s0 0 0 [(0, .ref a), (1, .int (zI x1))] 0 []
  refine j_aload_n hx 0 dX12_pool_0 rfl ?_
  refine j_iconst hx dX12_pool_1 ?_
  refine p13_0 hx hG ha kf_RX12_3 dX12_pool_2 ?_
  obtain ⟨s1, e_s1⟩ : ∃ z, z = zU s0 a 0 0 := ⟨_, rfl⟩
  rw [← e_s1]
  have hS_s1 : zSK G s1 := by rw [e_s1]; exact zSK_F hS0 ha rfl rfl rfl (by omega)
  refine j_iload_n hx 1 dX12_pool_5 rfl ?_
  refine j_iconst hx dX12_pool_6 ?_
  refine j_aload_n hx 0 dX12_pool_7 rfl ?_
  refine g13_27 hx hG ha kf_RX12_56 dX12_pool_8 ?_
  refine j_sipush hx dX12_pool_11 rfl ?_
  have f1 := z0a (j := 486) hF0 (zr (k := 27) (t2 := 84) hG ha rfl) rfl (zlen hG (zr (k := 27) (t2 := 84) hG ha rfl) (n := 515) rfl rfl) (show 0 ≤ 486 by omega) (by omega) rfl
  refine j_iald hx hG (zr (k := 27) (t2 := 84) hG ha rfl) (by decide) rfl (zlen hG (zr (k := 27) (t2 := 84) hG ha rfl) (n := 515) rfl rfl) (by omega) (by omega) (j := 486) rfl (v := (s0 (gP G a 27) 486)) (by rw [e_s1, zU_at (Or.inl (zne ha (zr (k := 27) (t2 := 84) hG ha rfl) (by decide)))]) dX12_pool_14 ?_
  refine j_iconst hx dX12_pool_15 ?_
  refine j_isub hx (r := (s0 (gP G a 27) 486) - 1) dX12_pool_16 (by omega) ?_
  refine j_callS hx (c_X12_within hst x1 0 ((s0 (gP G a 27) 486) - 1)) lk_RX12_314 [.int (zI x1), .int (zI 0), .int (zI ((s0 (gP G a 27) 486) - 1))] ⟨rfl, hG, hS_s1, (by omega), (by omega), (by omega)⟩ rfl rfl ⟨by decide, by decide⟩ ⟨by decide, by decide⟩ (k2 := 0) (n2 := 0) rfl rfl (Nat.le_of_ble_eq_true rfl) dX12_pool_17 (kIP (fun v2 q3 => ?_))
  refine j_if_eq hx 41 dX12_pool_20 rfl (by omega) (fun h4 => ?_) (fun h4 => ?_)
  · skip
    refine j_iconst hx dX12_pool_41 ?_
    exact j_iret hx hq rfl (by decide) (by decide) dX12_pool_42 ⟨(-1), rfl, rfl, hS_s1, (zFr_u zFr_rf e_s1 ha (by decide)), (by omega)⟩
  · skip
    refine j_aload_n hx 0 dX12_pool_23 rfl ?_
    refine g13_19 hx hG ha kf_RX12_50 dX12_pool_24 ?_
    refine j_aload_n hx 0 dX12_pool_27 rfl ?_
    refine g13_27 hx hG ha kf_RX12_56 dX12_pool_28 ?_
    refine j_sipush hx dX12_pool_31 rfl ?_
    refine j_iload_n hx 1 dX12_pool_34 rfl ?_
    refine j_iadd hx (r := x1 + 360) dX12_pool_35 (by omega) ?_
    refine j_norm (fun v5 f6 f7 f8 => ?_)
    have f9 := zaI (j := (v5).toNat) hS0 (zr (k := 27) (t2 := 84) hG ha rfl) rfl (zlen hG (zr (k := 27) (t2 := 84) hG ha rfl) (n := 515) rfl rfl) (show 0 ≤ v5 by omega) (by omega) rfl
    refine j_iald hx hG (zr (k := 27) (t2 := 84) hG ha rfl) (by decide) rfl (zlen hG (zr (k := 27) (t2 := 84) hG ha rfl) (n := 515) rfl rfl) (by omega) (by omega) (j := (v5).toNat) rfl (v := (s0 (gP G a 27) (v5).toNat)) (by rw [e_s1, zU_at (Or.inl (zne ha (zr (k := 27) (t2 := 84) hG ha rfl) (by decide)))]) dX12_pool_36 ?_
    have f10 := z0a (j := ((s0 (gP G a 27) (v5).toNat)).toNat) hF0 (zr (k := 19) (t2 := 82) hG ha rfl) rfl (zlen hG (zr (k := 19) (t2 := 82) hG ha rfl) (n := 60) rfl rfl) (show 0 ≤ (s0 (gP G a 27) (v5).toNat) by omega) (by omega) rfl
    refine j_iald hx hG (zr (k := 19) (t2 := 82) hG ha rfl) (by decide) rfl (zlen hG (zr (k := 19) (t2 := 82) hG ha rfl) (n := 60) rfl rfl) (by omega) (by omega) (j := ((s0 (gP G a 27) (v5).toNat)).toNat) rfl (v := (s0 (gP G a 19) ((s0 (gP G a 27) (v5).toNat)).toNat)) (by rw [e_s1, zU_at (Or.inl (zne ha (zr (k := 19) (t2 := 82) hG ha rfl) (by decide)))]) dX12_pool_37 ?_
    refine j_goto hx 42 dX12_pool_38 rfl ?_
    exact j_iret hx hq rfl (by decide) (by decide) dX12_pool_42 ⟨(s0 (gP G a 19) ((s0 (gP G a 27) (v5).toNat)).toNat), rfl, rfl, hS_s1, (zFr_u zFr_rf e_s1 ha (by decide)), (by omega)⟩

set_option maxHeartbeats 4000000 in
set_option maxRecDepth 20000 in
theorem c_X12_lain {E : zE} {l : Launch} (hst : l.stackTraces = false) (a : Nat) (x1 : Int) (x2 : Int) : Con E l yX12_lain cX12_lain 3 (some .int) { frames := 2, cells := 0, slots := 0, locals := 45 } (fun G s vs => vs = [.ref a, .int (zI x1), .int (zI x2)] ∧ zGK G ∧ zSK G s ∧ (gT G a = 13) ∧ ((-2147483648) ≤ x1 ∧ x1 ≤ 2147483647) ∧ ((-2147483648) ≤ x2 ∧ x2 ≤ 2147483647) ∧ (zS0 G s)) (fun G s _ => pI (fun r G2 s2 => G2 = G ∧ zSK G s2 ∧ zFr [13, 71] G s s2 ∧ ((-2147483648) ≤ r ∧ r ≤ 2147483647))) := by
  refine Con.mk hst (by decide) (fun G s vs h => by rw [h.1]; exact Nat.le_of_ble_eq_true rfl) ?_
  rintro X G s0 vs ⟨rfl, hG, hS0, ha, hx1, hx2, hF0⟩ rfl hx hq
  show JJ X E 3 G s0 0 0 [(0, .ref a), (1, .int (zI x1)), (2, .int (zI x2))] 0 []
  refine j_aload_n hx 0 dX12_lain_0 rfl ?_
  refine j_iconst hx dX12_lain_1 ?_
  refine p13_0 hx hG ha kf_RX12_3 dX12_lain_2 ?_
  obtain ⟨s1, e_s1⟩ : ∃ z, z = zU s0 a 0 0 := ⟨_, rfl⟩
  rw [← e_s1]
  have hS_s1 : zSK G s1 := by rw [e_s1]; exact zSK_F hS0 ha rfl rfl rfl (by omega)
  refine j_aload_n hx 0 dX12_lain_5 rfl ?_
  refine j_iload_n hx 1 dX12_lain_6 rfl ?_
  refine j_iconst hx dX12_lain_7 ?_
  refine j_callV hx hG (c_X12_isPlayer hst a x1 1) lk_RX12_339 ha (by decide) rfl rfl rfl rfl [.int (zI x1), .int (zI 1)] ⟨rfl, hG, hS_s1, ha, (by omega), (by omega)⟩ rfl rfl ⟨by decide, by decide⟩ ⟨by decide, by decide⟩ (k2 := 0) (n2 := 0) rfl rfl (Nat.le_of_ble_eq_true rfl) dX12_lain_8 (kIM (fun v1 s2 hS_s2 hF_s2 q2 => ?_))
  refine j_if_ne hx 16 dX12_lain_11 rfl (by omega) (fun h3 => ?_) (fun h3 => ?_)
  · skip
    refine j_iload_n hx 2 dX12_lain_16 rfl ?_
    refine j_iconst hx dX12_lain_17 ?_
    refine j_aload_n hx 0 dX12_lain_18 rfl ?_
    refine g13_27 hx hG ha kf_RX12_56 dX12_lain_19 ?_
    refine j_sipush hx dX12_lain_22 rfl ?_
    refine j_iload_n hx 1 dX12_lain_25 rfl ?_
    refine j_iadd hx (r := x1 + 480) dX12_lain_26 (by omega) ?_
    refine j_norm (fun v4 f5 f6 f7 => ?_)
    have f8 := zaI (j := (v4).toNat) hS0 (zr (k := 27) (t2 := 84) hG ha rfl) rfl (zlen hG (zr (k := 27) (t2 := 84) hG ha rfl) (n := 515) rfl rfl) (show 0 ≤ v4 by omega) (by omega) rfl
    refine j_iald hx hG (zr (k := 27) (t2 := 84) hG ha rfl) (by decide) rfl (zlen hG (zr (k := 27) (t2 := 84) hG ha rfl) (n := 515) rfl rfl) (by omega) (by omega) (j := (v4).toNat) rfl (v := (s0 (gP G a 27) (v4).toNat)) (by rw [(zFr_g hF_s2 (zr (k := 27) (t2 := 84) hG ha rfl) (by decide)), e_s1, zU_at (Or.inl (zne ha (zr (k := 27) (t2 := 84) hG ha rfl) (by decide)))]) dX12_lain_27 ?_
    refine j_iconst hx dX12_lain_28 ?_
    refine j_isub hx (r := (s0 (gP G a 27) (v4).toNat) - 1) dX12_lain_29 (by omega) ?_
    refine j_norm (fun v9 f10 f11 f12 => ?_)
    refine j_callS hx (c_X12_within hst x2 0 v9) lk_RX12_314 [.int (zI x2), .int (zI 0), .int (zI v9)] ⟨rfl, hG, hS_s2, (by omega), (by omega), (by omega)⟩ rfl rfl ⟨by decide, by decide⟩ ⟨by decide, by decide⟩ (k2 := 0) (n2 := 0) rfl rfl (Nat.le_of_ble_eq_true rfl) dX12_lain_30 (kIP (fun v13 q14 => ?_))
    refine j_if_eq hx 61 dX12_lain_33 rfl (by omega) (fun h15 => ?_) (fun h15 => ?_)
    · skip
      refine j_iconst hx dX12_lain_61 ?_
      exact j_iret hx hq rfl (by decide) (by decide) dX12_lain_62 ⟨(-1), rfl, rfl, hS_s2, (zFr_t (zFr_u zFr_rf e_s1 ha (by decide)) hF_s2 (by decide)), (by omega)⟩
    · skip
      refine j_aload_n hx 0 dX12_lain_36 rfl ?_
      refine g13_27 hx hG ha kf_RX12_56 dX12_lain_37 ?_
      refine j_sipush hx dX12_lain_40 rfl ?_
      refine j_aload_n hx 0 dX12_lain_43 rfl ?_
      refine g13_27 hx hG ha kf_RX12_56 dX12_lain_44 ?_
      refine j_iconst hx dX12_lain_47 ?_
      refine j_bipush hx dX12_lain_48 rfl ?_
      refine j_iload_n hx 1 dX12_lain_50 rfl ?_
      refine j_imul hx (r := 60 * x1) dX12_lain_51 rfl ?_
      refine j_norm (fun v16 f17 f18 f19 => ?_)
      refine j_iadd hx (r := v16) dX12_lain_52 (by omega) ?_
      refine j_iload_n hx 2 dX12_lain_53 rfl ?_
      refine j_iadd hx (r := v16 + x2) dX12_lain_54 rfl ?_
      refine j_norm (fun v20 f21 f22 f23 => ?_)
      have f24 := zaI (j := (v20).toNat) hS0 (zr (k := 27) (t2 := 84) hG ha rfl) rfl (zlen hG (zr (k := 27) (t2 := 84) hG ha rfl) (n := 515) rfl rfl) (show 0 ≤ v20 by omega) (by omega) rfl
      refine j_iald hx hG (zr (k := 27) (t2 := 84) hG ha rfl) (by decide) rfl (zlen hG (zr (k := 27) (t2 := 84) hG ha rfl) (n := 515) rfl rfl) (by omega) (by omega) (j := (v20).toNat) rfl (v := (s0 (gP G a 27) (v20).toNat)) (by rw [(zFr_g hF_s2 (zr (k := 27) (t2 := 84) hG ha rfl) (by decide)), e_s1, zU_at (Or.inl (zne ha (zr (k := 27) (t2 := 84) hG ha rfl) (by decide)))]) dX12_lain_55 ?_
      refine j_iadd hx (r := (s0 (gP G a 27) (v20).toNat) + 420) dX12_lain_56 (by omega) ?_
      refine j_norm (fun v25 f26 f27 f28 => ?_)
      have f29 := zaI (j := (v25).toNat) hS0 (zr (k := 27) (t2 := 84) hG ha rfl) rfl (zlen hG (zr (k := 27) (t2 := 84) hG ha rfl) (n := 515) rfl rfl) (show 0 ≤ v25 by omega) (by omega) rfl
      refine j_iald hx hG (zr (k := 27) (t2 := 84) hG ha rfl) (by decide) rfl (zlen hG (zr (k := 27) (t2 := 84) hG ha rfl) (n := 515) rfl rfl) (by omega) (by omega) (j := (v25).toNat) rfl (v := (s0 (gP G a 27) (v25).toNat)) (by rw [(zFr_g hF_s2 (zr (k := 27) (t2 := 84) hG ha rfl) (by decide)), e_s1, zU_at (Or.inl (zne ha (zr (k := 27) (t2 := 84) hG ha rfl) (by decide)))]) dX12_lain_57 ?_
      refine j_goto hx 62 dX12_lain_58 rfl ?_
      exact j_iret hx hq rfl (by decide) (by decide) dX12_lain_62 ⟨(s0 (gP G a 27) (v25).toNat), rfl, rfl, hS_s2, (zFr_t (zFr_u zFr_rf e_s1 ha (by decide)) hF_s2 (by decide)), (by omega)⟩
  · skip
    refine j_iconst hx dX12_lain_14 ?_
    exact j_iret hx hq rfl (by decide) (by decide) dX12_lain_15 ⟨0, rfl, rfl, hS_s2, (zFr_t (zFr_u zFr_rf e_s1 ha (by decide)) hF_s2 (by decide)), (by omega)⟩

set_option maxHeartbeats 4000000 in
set_option maxRecDepth 20000 in
theorem c_X12_alikes {E : zE} {l : Launch} (hst : l.stackTraces = false) (a : Nat) : Con E l yX12_alikes cX12_alikes 3 (some .int) { frames := 0, cells := 0, slots := 0, locals := 0 } (fun G s vs => vs = [.ref a] ∧ zGK G ∧ zSK G s ∧ (gT G a = 13)) (fun G s _ => pI (fun r G2 s2 => G2 = G ∧ s2 = s ∧ ((-2147483648) ≤ r ∧ r ≤ 2147483647))) := by
  refine Con.mk hst (by decide) (fun G s vs h => by rw [h.1]; exact Nat.le_of_ble_eq_true rfl) ?_
  rintro X G s0 vs ⟨rfl, hG, hS0, ha⟩ rfl hx hq
  show JJ X E 3 G s0 0 0 [(0, .ref a)] 0 []
  refine j_iconst hx dX12_alikes_0 ?_
  refine j_istore_n hx [(1, .int (zI 0)), (0, .ref a)] dX12_alikes_1 (by decide) rfl ?_
  refine j_iload_n hx 0 dX12_alikes_2 rfl ?_
  refine j_aload_n hx 1 dX12_alikes_3 rfl ?_
  have f1 := zf hS0 ha (k := 24) rfl
  refine g13_24 hx hG ha kf_RX12_189 rfl dX12_alikes_4 ?_
  refine j_icmp_ge hx 63 dX12_alikes_7 rfl ⟨by decide, by decide⟩ (by omega) (fun h2 => ?_) (fun h2 => absurd h2 (by omega))
  refine j_iconst hx dX12_alikes_63 ?_
  exact j_iret hx hq rfl (by decide) (by decide) dX12_alikes_64 ⟨(-1), rfl, rfl, rfl, (by omega)⟩

theorem lk_RX12_343 : LkV RX12 343 RX12 yX12_alikes cX12_alikes 3 (some .int) 0 := ⟨km_RX12_343, ki_yX12_alikes, ks_RX12_yX12_alikes, kn_RX12, kc_yX12_alikes, rfl, by decide +kernel, by decide +kernel, by decide +kernel⟩
set_option maxHeartbeats 4000000 in
set_option maxRecDepth 20000 in
theorem c_X12_alike {E : zE} {l : Launch} (hst : l.stackTraces = false) (a : Nat) : Con E l yX12_alike cX12_alike 1 (some .int) { frames := 1, cells := 0, slots := 0, locals := 22 } (fun G s vs => vs = [.ref a] ∧ zGK G ∧ zSK G s ∧ (gT G a = 13) ∧ (zS0 G s)) (fun G s _ => pI (fun r G2 s2 => G2 = G ∧ zSK G s2 ∧ zFr [13] G s s2 ∧ ((-2147483648) ≤ r ∧ r ≤ 2147483647))) := by
  refine Con.mk hst (by decide) (fun G s vs h => by rw [h.1]; exact Nat.le_of_ble_eq_true rfl) ?_
  rintro X G s0 vs ⟨rfl, hG, hS0, ha, hF0⟩ rfl hx hq
  show JJ X E 1 G s0 0 0 [(0, .ref a)] 0 []
  refine j_aload_n hx 0 dX12_alike_0 rfl ?_
  refine j_iconst hx dX12_alike_1 ?_
  refine p13_0 hx hG ha kf_RX12_3 dX12_alike_2 ?_
  obtain ⟨s1, e_s1⟩ : ∃ z, z = zU s0 a 0 0 := ⟨_, rfl⟩
  rw [← e_s1]
  have hS_s1 : zSK G s1 := by rw [e_s1]; exact zSK_F hS0 ha rfl rfl rfl (by omega)
  refine j_aload_n hx 0 dX12_alike_5 rfl ?_
  refine j_callV hx hG (c_X12_alikes hst a) lk_RX12_343 ha (by decide) rfl rfl rfl rfl [] ⟨rfl, hG, hS_s1, ha⟩ rfl rfl ⟨by decide, by decide⟩ ⟨by decide, by decide⟩ (k2 := 0) (n2 := 0) rfl rfl (Nat.le_of_ble_eq_true rfl) dX12_alike_6 (kIP (fun v1 q2 => ?_))
  exact j_iret hx hq rfl (by decide) (by decide) dX12_alike_9 ⟨v1, rfl, rfl, hS_s1, (zFr_u zFr_rf e_s1 ha (by decide)), (by omega)⟩

set_option maxHeartbeats 4000000 in
set_option maxRecDepth 20000 in
theorem c_X12_isMine {E : zE} {l : Launch} (hst : l.stackTraces = false) (a : Nat) (x1 : Int) : Con E l yX12_isMine cX12_isMine 3 (some .boolean) { frames := 0, cells := 0, slots := 0, locals := 0 } (fun G s vs => vs = [.ref a, .int (zI x1)] ∧ zGK G ∧ zSK G s ∧ (gT G a = 13) ∧ ((-2147483648) ≤ x1 ∧ x1 ≤ 2147483647)) (fun G s _ => pI (fun r G2 s2 => G2 = G ∧ s2 = s ∧ (0 ≤ r ∧ r ≤ 1))) := by
  refine Con.mk hst (by decide) (fun G s vs h => by rw [h.1]; exact Nat.le_of_ble_eq_true rfl) ?_
  rintro X G s0 vs ⟨rfl, hG, hS0, ha, hx1⟩ rfl hx hq
  show JJ X E 3 G s0 0 0 [(0, .ref a), (1, .int (zI x1))] 0 []
  refine j_iconst hx dX12_isMine_0 ?_
  refine j_istore_n hx [(2, .int (zI 0)), (0, .ref a), (1, .int (zI x1))] dX12_isMine_1 (by decide) rfl ?_
  refine j_iload_n hx 0 dX12_isMine_2 rfl ?_
  refine j_aload_n hx 1 dX12_isMine_3 rfl ?_
  have f1 := zf hS0 ha (k := 24) rfl
  refine g13_24 hx hG ha kf_RX12_189 rfl dX12_isMine_4 ?_
  refine j_icmp_ge hx 45 dX12_isMine_7 rfl ⟨by decide, by decide⟩ (by omega) (fun h2 => ?_) (fun h2 => absurd h2 (by omega))
  refine j_iconst hx dX12_isMine_45 ?_
  exact j_zret hx hq rfl (by decide) (by decide) dX12_isMine_46 (by omega) ⟨0, rfl, rfl, rfl, (by omega)⟩

set_option maxHeartbeats 4000000 in
set_option maxRecDepth 20000 in
theorem c_X12_top {E : zE} {l : Launch} (hst : l.stackTraces = false) (a : Nat) (x1 : Int) : Con E l yX12_top cX12_top 2 (some .int) { frames := 0, cells := 0, slots := 0, locals := 0 } (fun G s vs => vs = [.ref a, .int (zI x1)] ∧ zGK G ∧ zSK G s ∧ (gT G a = 13) ∧ ((-2147483648) ≤ x1 ∧ x1 ≤ 2147483647)) (fun G s _ => pI (fun r G2 s2 => G2 = G ∧ s2 = s ∧ ((-2147483648) ≤ r ∧ r ≤ 2147483647))) := by
  refine Con.mk hst (by decide) (fun G s vs h => by rw [h.1]; exact Nat.le_of_ble_eq_true rfl) ?_
  rintro X G s0 vs ⟨rfl, hG, hS0, ha, hx1⟩ rfl hx hq
  show JJ X E 2 G s0 0 0 [(0, .ref a), (1, .int (zI x1))] 0 []
  refine j_aload_n hx 0 dX12_top_0 rfl ?_
  refine g13_27 hx hG ha kf_RX12_56 dX12_top_1 ?_
  refine j_sipush hx dX12_top_4 rfl ?_
  refine j_iload_n hx 1 dX12_top_7 rfl ?_
  refine j_iadd hx (r := x1 + 483) dX12_top_8 (by omega) ?_
  refine j_norm (fun v1 f2 f3 f4 => ?_)
  have f5 := zaI (j := (v1).toNat) hS0 (zr (k := 27) (t2 := 84) hG ha rfl) rfl (zlen hG (zr (k := 27) (t2 := 84) hG ha rfl) (n := 515) rfl rfl) (show 0 ≤ v1 by omega) (by omega) rfl
  refine j_iald hx hG (zr (k := 27) (t2 := 84) hG ha rfl) (by decide) rfl (zlen hG (zr (k := 27) (t2 := 84) hG ha rfl) (n := 515) rfl rfl) (by omega) (by omega) (j := (v1).toNat) rfl rfl dX12_top_9 ?_
  refine j_if_ne hx 17 dX12_top_10 rfl (by omega) (fun h6 => ?_) (fun h6 => ?_)
  · skip
    refine j_aload_n hx 0 dX12_top_17 rfl ?_
    refine g13_19 hx hG ha kf_RX12_50 dX12_top_18 ?_
    refine j_aload_n hx 0 dX12_top_21 rfl ?_
    refine g13_27 hx hG ha kf_RX12_56 dX12_top_22 ?_
    refine j_sipush hx dX12_top_25 rfl ?_
    refine j_bipush hx dX12_top_28 rfl ?_
    refine j_iload_n hx 1 dX12_top_30 rfl ?_
    refine j_imul hx (r := 60 * x1) dX12_top_31 rfl ?_
    refine j_norm (fun v7 f8 f9 f10 => ?_)
    refine j_iadd hx (r := v7 + 180) dX12_top_32 (by omega) ?_
    refine j_norm (fun v11 f12 f13 f14 => ?_)
    refine j_aload_n hx 0 dX12_top_33 rfl ?_
    refine g13_27 hx hG ha kf_RX12_56 dX12_top_34 ?_
    refine j_sipush hx dX12_top_37 rfl ?_
    refine j_iload_n hx 1 dX12_top_40 rfl ?_
    refine j_iadd hx (r := x1 + 483) dX12_top_41 (by omega) ?_
    refine j_norm (fun v15 f16 f17 f18 => ?_)
    have f19 := zaI (j := (v15).toNat) hS0 (zr (k := 27) (t2 := 84) hG ha rfl) rfl (zlen hG (zr (k := 27) (t2 := 84) hG ha rfl) (n := 515) rfl rfl) (show 0 ≤ v15 by omega) (by omega) rfl
    refine j_iald hx hG (zr (k := 27) (t2 := 84) hG ha rfl) (by decide) rfl (zlen hG (zr (k := 27) (t2 := 84) hG ha rfl) (n := 515) rfl rfl) (by omega) (by omega) (j := (v15).toNat) rfl rfl dX12_top_42 ?_
    refine j_iadd hx (r := v11 + (s0 (gP G a 27) (v15).toNat)) dX12_top_43 (by omega) ?_
    refine j_norm (fun v20 f21 f22 f23 => ?_)
    refine j_iconst hx dX12_top_44 ?_
    refine j_isub hx (r := v20 - 1) dX12_top_45 rfl ?_
    refine j_norm (fun v24 f25 f26 f27 => ?_)
    have f28 := zaI (j := (v24).toNat) hS0 (zr (k := 27) (t2 := 84) hG ha rfl) rfl (zlen hG (zr (k := 27) (t2 := 84) hG ha rfl) (n := 515) rfl rfl) (show 0 ≤ v24 by omega) (by omega) rfl
    refine j_iald hx hG (zr (k := 27) (t2 := 84) hG ha rfl) (by decide) rfl (zlen hG (zr (k := 27) (t2 := 84) hG ha rfl) (n := 515) rfl rfl) (by omega) (by omega) (j := (v24).toNat) rfl rfl dX12_top_46 ?_
    have f29 := zaI (j := ((s0 (gP G a 27) (v24).toNat)).toNat) hS0 (zr (k := 19) (t2 := 82) hG ha rfl) rfl (zlen hG (zr (k := 19) (t2 := 82) hG ha rfl) (n := 60) rfl rfl) (show 0 ≤ (s0 (gP G a 27) (v24).toNat) by omega) (by omega) rfl
    refine j_iald hx hG (zr (k := 19) (t2 := 82) hG ha rfl) (by decide) rfl (zlen hG (zr (k := 19) (t2 := 82) hG ha rfl) (n := 60) rfl rfl) (by omega) (by omega) (j := ((s0 (gP G a 27) (v24).toNat)).toNat) rfl rfl dX12_top_47 ?_
    exact j_iret hx hq rfl (by decide) (by decide) dX12_top_48 ⟨(s0 (gP G a 19) ((s0 (gP G a 27) (v24).toNat)).toNat), rfl, rfl, rfl, (by omega)⟩
  · skip
    refine j_iconst hx dX12_top_13 ?_
    refine j_goto hx 48 dX12_top_14 rfl ?_
    exact j_iret hx hq rfl (by decide) (by decide) dX12_top_48 ⟨(-1), rfl, rfl, rfl, (by omega)⟩

set_option maxHeartbeats 4000000 in
set_option maxRecDepth 20000 in
theorem c_X12_remembers {E : zE} {l : Launch} (hst : l.stackTraces = false) (a : Nat) (x1 : Int) (x2 : Int) : Con E l yX12_remembers cX12_remembers 3 (some .boolean) { frames := 0, cells := 0, slots := 0, locals := 0 } (fun G s vs => vs = [.ref a, .int (zI x1), .int (zI x2)] ∧ zGK G ∧ zSK G s ∧ (gT G a = 13) ∧ ((-2147483648) ≤ x1 ∧ x1 ≤ 2147483647) ∧ ((-2147483648) ≤ x2 ∧ x2 ≤ 2147483647)) (fun G s _ => pI (fun r G2 s2 => G2 = G ∧ s2 = s ∧ (0 ≤ r ∧ r ≤ 1))) := by
  refine Con.mk hst (by decide) (fun G s vs h => by rw [h.1]; exact Nat.le_of_ble_eq_true rfl) ?_
  rintro X G s0 vs ⟨rfl, hG, hS0, ha, hx1, hx2⟩ rfl hx hq
  show JJ X E 3 G s0 0 0 [(0, .ref a), (1, .int (zI x1)), (2, .int (zI x2))] 0 []
  refine j_aload_n hx 0 dX12_remembers_0 rfl ?_
  refine g13_27 hx hG ha kf_RX12_56 dX12_remembers_1 ?_
  refine j_sipush hx dX12_remembers_4 rfl ?_
  refine j_iload_n hx 2 dX12_remembers_7 rfl ?_
  refine j_iadd hx (r := x2 + 480) dX12_remembers_8 (by omega) ?_
  refine j_norm (fun v1 f2 f3 f4 => ?_)
  have f5 := zaI (j := (v1).toNat) hS0 (zr (k := 27) (t2 := 84) hG ha rfl) rfl (zlen hG (zr (k := 27) (t2 := 84) hG ha rfl) (n := 515) rfl rfl) (show 0 ≤ v1 by omega) (by omega) rfl
  refine j_iald hx hG (zr (k := 27) (t2 := 84) hG ha rfl) (by decide) rfl (zlen hG (zr (k := 27) (t2 := 84) hG ha rfl) (n := 515) rfl rfl) (by omega) (by omega) (j := (v1).toNat) rfl rfl dX12_remembers_9 ?_
  refine j_if_le hx 54 dX12_remembers_10 rfl (by omega) (fun h6 => ?_) (fun h6 => ?_)
  · skip
    refine j_iconst hx dX12_remembers_54 ?_
    exact j_zret hx hq rfl (by decide) (by decide) dX12_remembers_55 (by omega) ⟨0, rfl, rfl, rfl, (by omega)⟩
  · skip
    refine j_aload_n hx 0 dX12_remembers_13 rfl ?_
    refine g13_17 hx hG ha kf_RX12_44 dX12_remembers_14 ?_
    refine j_iconst hx dX12_remembers_17 ?_
    refine j_iload_n hx 1 dX12_remembers_18 rfl ?_
    refine j_imul hx (r := 4 * x1) dX12_remembers_19 rfl ?_
    refine j_norm (fun v7 f8 f9 f10 => ?_)
    refine j_iconst hx dX12_remembers_20 ?_
    refine j_iadd hx (r := v7 + 1) dX12_remembers_21 rfl ?_
    refine j_norm (fun v11 f12 f13 f14 => ?_)
    have f15 := zaI (j := (v11).toNat) hS0 (zr (k := 17) (t2 := 80) hG ha rfl) rfl (zlen hG (zr (k := 17) (t2 := 80) hG ha rfl) (n := 12) rfl rfl) (show 0 ≤ v11 by omega) (by omega) rfl
    refine j_iald hx hG (zr (k := 17) (t2 := 80) hG ha rfl) (by decide) rfl (zlen hG (zr (k := 17) (t2 := 80) hG ha rfl) (n := 12) rfl rfl) (by omega) (by omega) (j := (v11).toNat) rfl rfl dX12_remembers_22 ?_
    refine j_if_le hx 54 dX12_remembers_23 rfl (by omega) (fun h16 => ?_) (fun h16 => ?_)
    · skip
      refine j_iconst hx dX12_remembers_54 ?_
      exact j_zret hx hq rfl (by decide) (by decide) dX12_remembers_55 (by omega) ⟨0, rfl, rfl, rfl, (by omega)⟩
    · skip
      refine j_aload_n hx 0 dX12_remembers_26 rfl ?_
      refine g13_27 hx hG ha kf_RX12_56 dX12_remembers_27 ?_
      refine j_sipush hx dX12_remembers_30 rfl ?_
      refine j_aload_n hx 0 dX12_remembers_33 rfl ?_
      refine g13_27 hx hG ha kf_RX12_56 dX12_remembers_34 ?_
      refine j_iconst hx dX12_remembers_37 ?_
      refine j_bipush hx dX12_remembers_38 rfl ?_
      refine j_iload_n hx 2 dX12_remembers_40 rfl ?_
      refine j_imul hx (r := 60 * x2) dX12_remembers_41 rfl ?_
      refine j_norm (fun v17 f18 f19 f20 => ?_)
      refine j_iadd hx (r := v17) dX12_remembers_42 (by omega) ?_
      have f21 := zaI (j := (v17).toNat) hS0 (zr (k := 27) (t2 := 84) hG ha rfl) rfl (zlen hG (zr (k := 27) (t2 := 84) hG ha rfl) (n := 515) rfl rfl) (show 0 ≤ v17 by omega) (by omega) rfl
      refine j_iald hx hG (zr (k := 27) (t2 := 84) hG ha rfl) (by decide) rfl (zlen hG (zr (k := 27) (t2 := 84) hG ha rfl) (n := 515) rfl rfl) (by omega) (by omega) (j := (v17).toNat) rfl rfl dX12_remembers_43 ?_
      refine j_iadd hx (r := (s0 (gP G a 27) (v17).toNat) + 420) dX12_remembers_44 (by omega) ?_
      refine j_norm (fun v22 f23 f24 f25 => ?_)
      have f26 := zaI (j := (v22).toNat) hS0 (zr (k := 27) (t2 := 84) hG ha rfl) rfl (zlen hG (zr (k := 27) (t2 := 84) hG ha rfl) (n := 515) rfl rfl) (show 0 ≤ v22 by omega) (by omega) rfl
      refine j_iald hx hG (zr (k := 27) (t2 := 84) hG ha rfl) (by decide) rfl (zlen hG (zr (k := 27) (t2 := 84) hG ha rfl) (n := 515) rfl rfl) (by omega) (by omega) (j := (v22).toNat) rfl rfl dX12_remembers_45 ?_
      refine j_iconst hx dX12_remembers_46 ?_
      refine j_icmp_ne hx 54 dX12_remembers_47 rfl (by omega) ⟨by decide, by decide⟩ (fun h27 => ?_) (fun h27 => ?_)
      · skip
        refine j_iconst hx dX12_remembers_54 ?_
        exact j_zret hx hq rfl (by decide) (by decide) dX12_remembers_55 (by omega) ⟨0, rfl, rfl, rfl, (by omega)⟩
      · skip
        refine j_iconst hx dX12_remembers_50 ?_
        refine j_goto hx 55 dX12_remembers_51 rfl ?_
        exact j_zret hx hq rfl (by decide) (by decide) dX12_remembers_55 (by omega) ⟨1, rfl, rfl, rfl, (by omega)⟩

set_option maxHeartbeats 4000000 in
set_option maxRecDepth 20000 in
theorem c_X12_wouldBe {E : zE} {l : Launch} (hst : l.stackTraces = false) (a : Nat) (x1 : Int) (x2 : Int) : Con E l yX12_wouldBe cX12_wouldBe 7 (some .boolean) { frames := 0, cells := 0, slots := 0, locals := 0 } (fun G s vs => vs = [.ref a, .int (zI x1), .int (zI x2)] ∧ zGK G ∧ zSK G s ∧ (gT G a = 13) ∧ ((-2147483648) ≤ x1 ∧ x1 ≤ 2147483647) ∧ ((-2147483648) ≤ x2 ∧ x2 ≤ 2147483647)) (fun G s _ => pI (fun r G2 s2 => G2 = G ∧ s2 = s ∧ (0 ≤ r ∧ r ≤ 1))) := by
  refine Con.mk hst (by decide) (fun G s vs h => by rw [h.1]; exact Nat.le_of_ble_eq_true rfl) ?_
  rintro X G s0 vs ⟨rfl, hG, hS0, ha, hx1, hx2⟩ rfl hx hq
  show JJ X E 7 G s0 0 0 [(0, .ref a), (1, .int (zI x1)), (2, .int (zI x2))] 0 []
  refine j_iconst hx dX12_wouldBe_0 ?_
  refine j_istore_n hx [(3, .int (zI 0)), (0, .ref a), (1, .int (zI x1)), (2, .int (zI x2))] dX12_wouldBe_1 (by decide) rfl ?_
  refine j_iload_n hx 0 dX12_wouldBe_2 rfl ?_
  refine j_aload_n hx 1 dX12_wouldBe_3 rfl ?_
  have f1 := zf hS0 ha (k := 24) rfl
  refine g13_24 hx hG ha kf_RX12_189 rfl dX12_wouldBe_4 ?_
  refine j_icmp_ge hx 85 dX12_wouldBe_7 rfl ⟨by decide, by decide⟩ (by omega) (fun h2 => ?_) (fun h2 => absurd h2 (by omega))
  refine j_iconst hx dX12_wouldBe_85 ?_
  exact j_zret hx hq rfl (by decide) (by decide) dX12_wouldBe_86 (by omega) ⟨0, rfl, rfl, rfl, (by omega)⟩

theorem lk_RX12_346 : LkV RX12 346 RX12 yX12_isMine cX12_isMine 3 (some .boolean) 1 := ⟨km_RX12_346, ki_yX12_isMine, ks_RX12_yX12_isMine, kn_RX12, kc_yX12_isMine, rfl, by decide +kernel, by decide +kernel, by decide +kernel⟩
theorem lk_RX12_334 : LkV RX12 334 RX12 yX12_top cX12_top 2 (some .int) 1 := ⟨km_RX12_334, ki_yX12_top, ks_RX12_yX12_top, kn_RX12, kc_yX12_top, rfl, by decide +kernel, by decide +kernel, by decide +kernel⟩
theorem lk_RX12_349 : LkV RX12 349 RX12 yX12_remembers cX12_remembers 3 (some .boolean) 2 := ⟨km_RX12_349, ki_yX12_remembers, ks_RX12_yX12_remembers, kn_RX12, kc_yX12_remembers, rfl, by decide +kernel, by decide +kernel, by decide +kernel⟩
theorem lk_RX12_352 : LkV RX12 352 RX12 yX12_wouldBe cX12_wouldBe 7 (some .boolean) 2 := ⟨km_RX12_352, ki_yX12_wouldBe, ks_RX12_yX12_wouldBe, kn_RX12, kc_yX12_wouldBe, rfl, by decide +kernel, by decide +kernel, by decide +kernel⟩
set_option maxHeartbeats 4000000 in
set_option maxRecDepth 20000 in
theorem c_X12_asks {E : zE} {l : Launch} (hst : l.stackTraces = false) (a : Nat) (x1 : Int) (x2 : Int) (x3 : Int) : Con E l yX12_asks cX12_asks 5 (some .boolean) { frames := 1, cells := 0, slots := 0, locals := 26 } (fun G s vs => vs = [.ref a, .int (zI x1), .int (zI x2), .int (zI x3)] ∧ zGK G ∧ zSK G s ∧ (gT G a = 13) ∧ ((-2147483648) ≤ x1 ∧ x1 ≤ 2147483647) ∧ ((-2147483648) ≤ x2 ∧ x2 ≤ 2147483647) ∧ ((-2147483648) ≤ x3 ∧ x3 ≤ 2147483647)) (fun G s _ => pI (fun r G2 s2 => G2 = G ∧ s2 = s ∧ (0 ≤ r ∧ r ≤ 1))) := by
  refine Con.mk hst (by decide) (fun G s vs h => by rw [h.1]; exact Nat.le_of_ble_eq_true rfl) ?_
  rintro X G s0 vs ⟨rfl, hG, hS0, ha, hx1, hx2, hx3⟩ rfl hx hq
  show JJ X E 5 G s0 0 0 [(0, .ref a), (1, .int (zI x1)), (2, .int (zI x2)), (3, .int (zI x3))] 0 []
  refine j_aload_n hx 0 dX12_asks_0 rfl ?_
  refine g13_35 hx hG ha kf_RX12_80 dX12_asks_1 ?_
  refine j_iload_n hx 1 dX12_asks_4 rfl ?_
  have f1 := zaI (j := (x1).toNat) hS0 (zr (k := 35) (t2 := 92) hG ha rfl) rfl (zlen hG (zr (k := 35) (t2 := 92) hG ha rfl) (n := 900) rfl rfl) (show 0 ≤ x1 by omega) (by omega) rfl
  refine j_iald hx hG (zr (k := 35) (t2 := 92) hG ha rfl) (by decide) rfl (zlen hG (zr (k := 35) (t2 := 92) hG ha rfl) (n := 900) rfl rfl) (by omega) (by omega) (j := (x1).toNat) rfl rfl dX12_asks_5 ?_
  refine j_istore hx [(4, .int (zI ((s0 (gP G a 35) (x1).toNat)))), (0, .ref a), (1, .int (zI x1)), (2, .int (zI x2)), (3, .int (zI x3))] dX12_asks_6 (by decide) rfl ?_
  refine j_aload_n hx 1 dX12_asks_8 rfl ?_
  refine g13_34 hx hG ha kf_RX12_77 dX12_asks_9 ?_
  refine j_iload_n hx 2 dX12_asks_12 rfl ?_
  have f2 := zaI (j := (x1).toNat) hS0 (zr (k := 34) (t2 := 91) hG ha rfl) rfl (zlen hG (zr (k := 34) (t2 := 91) hG ha rfl) (n := 900) rfl rfl) (show 0 ≤ x1 by omega) (by omega) rfl
  refine j_iald hx hG (zr (k := 34) (t2 := 91) hG ha rfl) (by decide) rfl (zlen hG (zr (k := 34) (t2 := 91) hG ha rfl) (n := 900) rfl rfl) (by omega) (by omega) (j := (x1).toNat) rfl rfl dX12_asks_13 ?_
  have h3 : ((s0 (gP G a 34) (x1).toNat) = 1) ∨ ((s0 (gP G a 34) (x1).toNat) = 2) ∨ ((s0 (gP G a 34) (x1).toNat) = 3) ∨ ((s0 (gP G a 34) (x1).toNat) = 4) ∨ ((s0 (gP G a 34) (x1).toNat) = 5) ∨ ((s0 (gP G a 34) (x1).toNat) = 6) ∨ ((s0 (gP G a 34) (x1).toNat) = 7) ∨ ((s0 (gP G a 34) (x1).toNat) = 8) ∨ ((s0 (gP G a 34) (x1).toNat) = 9) ∨ ((s0 (gP G a 34) (x1).toNat) = 10) ∨ ((s0 (gP G a 34) (x1).toNat) < 1 ∨ 10 < (s0 (gP G a 34) (x1).toNat)) := by omega
  rcases h3 with h3 | h3 | h3 | h3 | h3 | h3 | h3 | h3 | h3 | h3 | h3
  · skip
    refine j_switchIn hx 68 dX12_asks_14 (by omega) (by omega) (by omega) (by rw [h3]; rfl) rfl ?_
    refine j_aload_n hx 1 dX12_asks_68 rfl ?_
    refine j_callV hx hG (c_X12_alikes hst a) lk_RX12_343 ha (by decide) rfl rfl rfl rfl [] ⟨rfl, hG, hS0, ha⟩ rfl rfl ⟨by decide, by decide⟩ ⟨by decide, by decide⟩ (k2 := 0) (n2 := 0) rfl rfl (Nat.le_of_ble_eq_true rfl) dX12_asks_69 (kIP (fun v4 q5 => ?_))
    refine j_iconst hx dX12_asks_72 ?_
    refine j_icmp_eq hx 80 dX12_asks_73 rfl (by omega) ⟨by decide, by decide⟩ (fun h6 => ?_) (fun h6 => ?_)
    · skip
      refine j_iconst hx dX12_asks_80 ?_
      exact j_zret hx hq rfl (by decide) (by decide) dX12_asks_81 (by omega) ⟨0, rfl, rfl, rfl, (by omega)⟩
    · skip
      refine j_iconst hx dX12_asks_76 ?_
      refine j_goto hx 81 dX12_asks_77 rfl ?_
      exact j_zret hx hq rfl (by decide) (by decide) dX12_asks_81 (by omega) ⟨1, rfl, rfl, rfl, (by omega)⟩
  · skip
    refine j_switchIn hx 82 dX12_asks_14 (by omega) (by omega) (by omega) (by rw [h3]; rfl) rfl ?_
    refine j_aload_n hx 1 dX12_asks_82 rfl ?_
    refine j_iload_n hx 3 dX12_asks_83 rfl ?_
    refine j_callV hx hG (c_X12_isMine hst a x2) lk_RX12_346 ha (by decide) rfl rfl rfl rfl [.int (zI x2)] ⟨rfl, hG, hS0, ha, (by omega)⟩ rfl rfl ⟨by decide, by decide⟩ ⟨by decide, by decide⟩ (k2 := 0) (n2 := 0) rfl rfl (Nat.le_of_ble_eq_true rfl) dX12_asks_84 (kIP (fun v7 q8 => ?_))
    exact j_zret hx hq rfl (by decide) (by decide) dX12_asks_87 (by omega) ⟨v7, rfl, rfl, rfl, (by omega)⟩
  · skip
    refine j_switchIn hx 88 dX12_asks_14 (by omega) (by omega) (by omega) (by rw [h3]; rfl) rfl ?_
    refine j_aload_n hx 1 dX12_asks_88 rfl ?_
    refine j_iload_n hx 3 dX12_asks_89 rfl ?_
    refine j_callV hx hG (c_X12_top hst a x2) lk_RX12_334 ha (by decide) rfl rfl rfl rfl [.int (zI x2)] ⟨rfl, hG, hS0, ha, (by omega)⟩ rfl rfl ⟨by decide, by decide⟩ ⟨by decide, by decide⟩ (k2 := 0) (n2 := 0) rfl rfl (Nat.le_of_ble_eq_true rfl) dX12_asks_90 (kIP (fun v9 q10 => ?_))
    refine j_iload hx 0 dX12_asks_93 rfl ?_
    refine j_icmp_ne hx 102 dX12_asks_95 rfl (by omega) (by omega) (fun h11 => ?_) (fun h11 => ?_)
    · skip
      refine j_iconst hx dX12_asks_102 ?_
      exact j_zret hx hq rfl (by decide) (by decide) dX12_asks_103 (by omega) ⟨0, rfl, rfl, rfl, (by omega)⟩
    · skip
      refine j_iconst hx dX12_asks_98 ?_
      refine j_goto hx 103 dX12_asks_99 rfl ?_
      exact j_zret hx hq rfl (by decide) (by decide) dX12_asks_103 (by omega) ⟨1, rfl, rfl, rfl, (by omega)⟩
  · skip
    refine j_switchIn hx 104 dX12_asks_14 (by omega) (by omega) (by omega) (by rw [h3]; rfl) rfl ?_
    refine j_aload_n hx 1 dX12_asks_104 rfl ?_
    refine j_iload_n hx 3 dX12_asks_105 rfl ?_
    refine j_iload_n hx 3 dX12_asks_106 rfl ?_
    refine j_callV hx hG (c_X12_remembers hst a x2 x2) lk_RX12_349 ha (by decide) rfl rfl rfl rfl [.int (zI x2), .int (zI x2)] ⟨rfl, hG, hS0, ha, (by omega), (by omega)⟩ rfl rfl ⟨by decide, by decide⟩ ⟨by decide, by decide⟩ (k2 := 0) (n2 := 0) rfl rfl (Nat.le_of_ble_eq_true rfl) dX12_asks_107 (kIP (fun v12 q13 => ?_))
    refine j_if_eq hx 138 dX12_asks_110 rfl (by omega) (fun h14 => ?_) (fun h14 => ?_)
    · skip
      refine j_iconst hx dX12_asks_138 ?_
      exact j_zret hx hq rfl (by decide) (by decide) dX12_asks_139 (by omega) ⟨0, rfl, rfl, rfl, (by omega)⟩
    · skip
      refine j_aload_n hx 1 dX12_asks_113 rfl ?_
      refine g13_19 hx hG ha kf_RX12_50 dX12_asks_114 ?_
      refine j_aload_n hx 1 dX12_asks_117 rfl ?_
      refine g13_27 hx hG ha kf_RX12_56 dX12_asks_118 ?_
      refine j_iconst hx dX12_asks_121 ?_
      refine j_bipush hx dX12_asks_122 rfl ?_
      refine j_iload_n hx 3 dX12_asks_124 rfl ?_
      refine j_imul hx (r := 60 * x2) dX12_asks_125 rfl ?_
      refine j_norm (fun v15 f16 f17 f18 => ?_)
      refine j_iadd hx (r := v15) dX12_asks_126 (by omega) ?_
      have f19 := zaI (j := (v15).toNat) hS0 (zr (k := 27) (t2 := 84) hG ha rfl) rfl (zlen hG (zr (k := 27) (t2 := 84) hG ha rfl) (n := 515) rfl rfl) (show 0 ≤ v15 by omega) (by omega) rfl
      refine j_iald hx hG (zr (k := 27) (t2 := 84) hG ha rfl) (by decide) rfl (zlen hG (zr (k := 27) (t2 := 84) hG ha rfl) (n := 515) rfl rfl) (by omega) (by omega) (j := (v15).toNat) rfl rfl dX12_asks_127 ?_
      have f20 := zaI (j := ((s0 (gP G a 27) (v15).toNat)).toNat) hS0 (zr (k := 19) (t2 := 82) hG ha rfl) rfl (zlen hG (zr (k := 19) (t2 := 82) hG ha rfl) (n := 60) rfl rfl) (show 0 ≤ (s0 (gP G a 27) (v15).toNat) by omega) (by omega) rfl
      refine j_iald hx hG (zr (k := 19) (t2 := 82) hG ha rfl) (by decide) rfl (zlen hG (zr (k := 19) (t2 := 82) hG ha rfl) (n := 60) rfl rfl) (by omega) (by omega) (j := ((s0 (gP G a 27) (v15).toNat)).toNat) rfl rfl dX12_asks_128 ?_
      refine j_iload hx 0 dX12_asks_129 rfl ?_
      refine j_icmp_ne hx 138 dX12_asks_131 rfl (by omega) (by omega) (fun h21 => ?_) (fun h21 => ?_)
      · skip
        refine j_iconst hx dX12_asks_138 ?_
        exact j_zret hx hq rfl (by decide) (by decide) dX12_asks_139 (by omega) ⟨0, rfl, rfl, rfl, (by omega)⟩
      · skip
        refine j_iconst hx dX12_asks_134 ?_
        refine j_goto hx 139 dX12_asks_135 rfl ?_
        exact j_zret hx hq rfl (by decide) (by decide) dX12_asks_139 (by omega) ⟨1, rfl, rfl, rfl, (by omega)⟩
  · skip
    refine j_switchIn hx 140 dX12_asks_14 (by omega) (by omega) (by omega) (by rw [h3]; rfl) rfl ?_
    refine j_iload_n hx 4 dX12_asks_140 rfl ?_
    refine j_iconst hx dX12_asks_141 ?_
    refine j_icmp_eq hx 182 dX12_asks_142 rfl (by omega) ⟨by decide, by decide⟩ (fun h22 => ?_) (fun h22 => ?_)
    · skip
      refine j_iconst hx dX12_asks_182 ?_
      exact j_zret hx hq rfl (by decide) (by decide) dX12_asks_183 (by omega) ⟨0, rfl, rfl, rfl, (by omega)⟩
    · skip
      refine j_aload_n hx 1 dX12_asks_145 rfl ?_
      refine j_iload_n hx 3 dX12_asks_146 rfl ?_
      refine j_iload_n hx 4 dX12_asks_147 rfl ?_
      refine j_callV hx hG (c_X12_remembers hst a x2 x3) lk_RX12_349 ha (by decide) rfl rfl rfl rfl [.int (zI x2), .int (zI x3)] ⟨rfl, hG, hS0, ha, (by omega), (by omega)⟩ rfl rfl ⟨by decide, by decide⟩ ⟨by decide, by decide⟩ (k2 := 0) (n2 := 0) rfl rfl (Nat.le_of_ble_eq_true rfl) dX12_asks_148 (kIP (fun v23 q24 => ?_))
      refine j_if_eq hx 182 dX12_asks_151 rfl (by omega) (fun h25 => ?_) (fun h25 => ?_)
      · skip
        refine j_iconst hx dX12_asks_182 ?_
        exact j_zret hx hq rfl (by decide) (by decide) dX12_asks_183 (by omega) ⟨0, rfl, rfl, rfl, (by omega)⟩
      · skip
        refine j_aload_n hx 1 dX12_asks_154 rfl ?_
        refine j_iload_n hx 4 dX12_asks_155 rfl ?_
        refine j_aload_n hx 1 dX12_asks_156 rfl ?_
        refine g13_19 hx hG ha kf_RX12_50 dX12_asks_157 ?_
        refine j_aload_n hx 1 dX12_asks_160 rfl ?_
        refine g13_27 hx hG ha kf_RX12_56 dX12_asks_161 ?_
        refine j_iconst hx dX12_asks_164 ?_
        refine j_bipush hx dX12_asks_165 rfl ?_
        refine j_iload_n hx 4 dX12_asks_167 rfl ?_
        refine j_imul hx (r := 60 * x3) dX12_asks_168 rfl ?_
        refine j_norm (fun v26 f27 f28 f29 => ?_)
        refine j_iadd hx (r := v26) dX12_asks_169 (by omega) ?_
        have f30 := zaI (j := (v26).toNat) hS0 (zr (k := 27) (t2 := 84) hG ha rfl) rfl (zlen hG (zr (k := 27) (t2 := 84) hG ha rfl) (n := 515) rfl rfl) (show 0 ≤ v26 by omega) (by omega) rfl
        refine j_iald hx hG (zr (k := 27) (t2 := 84) hG ha rfl) (by decide) rfl (zlen hG (zr (k := 27) (t2 := 84) hG ha rfl) (n := 515) rfl rfl) (by omega) (by omega) (j := (v26).toNat) rfl rfl dX12_asks_170 ?_
        have f31 := zaI (j := ((s0 (gP G a 27) (v26).toNat)).toNat) hS0 (zr (k := 19) (t2 := 82) hG ha rfl) rfl (zlen hG (zr (k := 19) (t2 := 82) hG ha rfl) (n := 60) rfl rfl) (show 0 ≤ (s0 (gP G a 27) (v26).toNat) by omega) (by omega) rfl
        refine j_iald hx hG (zr (k := 19) (t2 := 82) hG ha rfl) (by decide) rfl (zlen hG (zr (k := 19) (t2 := 82) hG ha rfl) (n := 60) rfl rfl) (by omega) (by omega) (j := ((s0 (gP G a 27) (v26).toNat)).toNat) rfl rfl dX12_asks_171 ?_
        refine j_callV hx hG (c_X12_wouldBe hst a x3 ((s0 (gP G a 19) ((s0 (gP G a 27) (v26).toNat)).toNat))) lk_RX12_352 ha (by decide) rfl rfl rfl rfl [.int (zI x3), .int (zI ((s0 (gP G a 19) ((s0 (gP G a 27) (v26).toNat)).toNat)))] ⟨rfl, hG, hS0, ha, (by omega), (by omega)⟩ rfl rfl ⟨by decide, by decide⟩ ⟨by decide, by decide⟩ (k2 := 0) (n2 := 0) rfl rfl (Nat.le_of_ble_eq_true rfl) dX12_asks_172 (kIP (fun v32 q33 => ?_))
        refine j_if_eq hx 182 dX12_asks_175 rfl (by omega) (fun h34 => ?_) (fun h34 => ?_)
        · skip
          refine j_iconst hx dX12_asks_182 ?_
          exact j_zret hx hq rfl (by decide) (by decide) dX12_asks_183 (by omega) ⟨0, rfl, rfl, rfl, (by omega)⟩
        · skip
          refine j_iconst hx dX12_asks_178 ?_
          refine j_goto hx 183 dX12_asks_179 rfl ?_
          exact j_zret hx hq rfl (by decide) (by decide) dX12_asks_183 (by omega) ⟨1, rfl, rfl, rfl, (by omega)⟩
  · skip
    refine j_switchIn hx 184 dX12_asks_14 (by omega) (by omega) (by omega) (by rw [h3]; rfl) rfl ?_
    refine j_aload_n hx 1 dX12_asks_184 rfl ?_
    refine g13_27 hx hG ha kf_RX12_56 dX12_asks_185 ?_
    refine j_sipush hx dX12_asks_188 rfl ?_
    refine j_iload_n hx 3 dX12_asks_191 rfl ?_
    refine j_iadd hx (r := x2 + 483) dX12_asks_192 (by omega) ?_
    refine j_norm (fun v35 f36 f37 f38 => ?_)
    have f39 := zaI (j := (v35).toNat) hS0 (zr (k := 27) (t2 := 84) hG ha rfl) rfl (zlen hG (zr (k := 27) (t2 := 84) hG ha rfl) (n := 515) rfl rfl) (show 0 ≤ v35 by omega) (by omega) rfl
    refine j_iald hx hG (zr (k := 27) (t2 := 84) hG ha rfl) (by decide) rfl (zlen hG (zr (k := 27) (t2 := 84) hG ha rfl) (n := 515) rfl rfl) (by omega) (by omega) (j := (v35).toNat) rfl rfl dX12_asks_193 ?_
    refine j_iload hx 0 dX12_asks_194 rfl ?_
    refine j_icmp_ge hx 203 dX12_asks_196 rfl (by omega) (by omega) (fun h40 => ?_) (fun h40 => ?_)
    · skip
      refine j_iconst hx dX12_asks_203 ?_
      exact j_zret hx hq rfl (by decide) (by decide) dX12_asks_204 (by omega) ⟨0, rfl, rfl, rfl, (by omega)⟩
    · skip
      refine j_iconst hx dX12_asks_199 ?_
      refine j_goto hx 204 dX12_asks_200 rfl ?_
      exact j_zret hx hq rfl (by decide) (by decide) dX12_asks_204 (by omega) ⟨1, rfl, rfl, rfl, (by omega)⟩
  · skip
    refine j_switchIn hx 205 dX12_asks_14 (by omega) (by omega) (by omega) (by rw [h3]; rfl) rfl ?_
    refine j_aload_n hx 1 dX12_asks_205 rfl ?_
    refine g13_27 hx hG ha kf_RX12_56 dX12_asks_206 ?_
    refine j_sipush hx dX12_asks_209 rfl ?_
    refine j_iload_n hx 3 dX12_asks_212 rfl ?_
    refine j_iadd hx (r := x2 + 483) dX12_asks_213 (by omega) ?_
    refine j_norm (fun v41 f42 f43 f44 => ?_)
    have f45 := zaI (j := (v41).toNat) hS0 (zr (k := 27) (t2 := 84) hG ha rfl) rfl (zlen hG (zr (k := 27) (t2 := 84) hG ha rfl) (n := 515) rfl rfl) (show 0 ≤ v41 by omega) (by omega) rfl
    refine j_iald hx hG (zr (k := 27) (t2 := 84) hG ha rfl) (by decide) rfl (zlen hG (zr (k := 27) (t2 := 84) hG ha rfl) (n := 515) rfl rfl) (by omega) (by omega) (j := (v41).toNat) rfl rfl dX12_asks_214 ?_
    refine j_iload hx 0 dX12_asks_215 rfl ?_
    refine j_icmp_le hx 224 dX12_asks_217 rfl (by omega) (by omega) (fun h46 => ?_) (fun h46 => ?_)
    · skip
      refine j_iconst hx dX12_asks_224 ?_
      exact j_zret hx hq rfl (by decide) (by decide) dX12_asks_225 (by omega) ⟨0, rfl, rfl, rfl, (by omega)⟩
    · skip
      refine j_iconst hx dX12_asks_220 ?_
      refine j_goto hx 225 dX12_asks_221 rfl ?_
      exact j_zret hx hq rfl (by decide) (by decide) dX12_asks_225 (by omega) ⟨1, rfl, rfl, rfl, (by omega)⟩
  · skip
    refine j_switchIn hx 226 dX12_asks_14 (by omega) (by omega) (by omega) (by rw [h3]; rfl) rfl ?_
    refine j_aload_n hx 1 dX12_asks_226 rfl ?_
    refine g13_27 hx hG ha kf_RX12_56 dX12_asks_227 ?_
    refine j_sipush hx dX12_asks_230 rfl ?_
    refine j_iload_n hx 3 dX12_asks_233 rfl ?_
    refine j_iadd hx (r := x2 + 480) dX12_asks_234 (by omega) ?_
    refine j_norm (fun v47 f48 f49 f50 => ?_)
    have f51 := zaI (j := (v47).toNat) hS0 (zr (k := 27) (t2 := 84) hG ha rfl) rfl (zlen hG (zr (k := 27) (t2 := 84) hG ha rfl) (n := 515) rfl rfl) (show 0 ≤ v47 by omega) (by omega) rfl
    refine j_iald hx hG (zr (k := 27) (t2 := 84) hG ha rfl) (by decide) rfl (zlen hG (zr (k := 27) (t2 := 84) hG ha rfl) (n := 515) rfl rfl) (by omega) (by omega) (j := (v47).toNat) rfl rfl dX12_asks_235 ?_
    refine j_iload hx 0 dX12_asks_236 rfl ?_
    refine j_icmp_ge hx 245 dX12_asks_238 rfl (by omega) (by omega) (fun h52 => ?_) (fun h52 => ?_)
    · skip
      refine j_iconst hx dX12_asks_245 ?_
      exact j_zret hx hq rfl (by decide) (by decide) dX12_asks_246 (by omega) ⟨0, rfl, rfl, rfl, (by omega)⟩
    · skip
      refine j_iconst hx dX12_asks_241 ?_
      refine j_goto hx 246 dX12_asks_242 rfl ?_
      exact j_zret hx hq rfl (by decide) (by decide) dX12_asks_246 (by omega) ⟨1, rfl, rfl, rfl, (by omega)⟩
  · skip
    refine j_switchIn hx 247 dX12_asks_14 (by omega) (by omega) (by omega) (by rw [h3]; rfl) rfl ?_
    refine j_aload_n hx 1 dX12_asks_247 rfl ?_
    refine g13_27 hx hG ha kf_RX12_56 dX12_asks_248 ?_
    refine j_sipush hx dX12_asks_251 rfl ?_
    refine j_iload_n hx 3 dX12_asks_254 rfl ?_
    refine j_iadd hx (r := x2 + 480) dX12_asks_255 (by omega) ?_
    refine j_norm (fun v53 f54 f55 f56 => ?_)
    have f57 := zaI (j := (v53).toNat) hS0 (zr (k := 27) (t2 := 84) hG ha rfl) rfl (zlen hG (zr (k := 27) (t2 := 84) hG ha rfl) (n := 515) rfl rfl) (show 0 ≤ v53 by omega) (by omega) rfl
    refine j_iald hx hG (zr (k := 27) (t2 := 84) hG ha rfl) (by decide) rfl (zlen hG (zr (k := 27) (t2 := 84) hG ha rfl) (n := 515) rfl rfl) (by omega) (by omega) (j := (v53).toNat) rfl rfl dX12_asks_256 ?_
    refine j_iload hx 0 dX12_asks_257 rfl ?_
    refine j_icmp_le hx 266 dX12_asks_259 rfl (by omega) (by omega) (fun h58 => ?_) (fun h58 => ?_)
    · skip
      refine j_iconst hx dX12_asks_266 ?_
      exact j_zret hx hq rfl (by decide) (by decide) dX12_asks_267 (by omega) ⟨0, rfl, rfl, rfl, (by omega)⟩
    · skip
      refine j_iconst hx dX12_asks_262 ?_
      refine j_goto hx 267 dX12_asks_263 rfl ?_
      exact j_zret hx hq rfl (by decide) (by decide) dX12_asks_267 (by omega) ⟨1, rfl, rfl, rfl, (by omega)⟩
  · skip
    refine j_switchIn hx 268 dX12_asks_14 (by omega) (by omega) (by omega) (by rw [h3]; rfl) rfl ?_
    refine j_aload_n hx 1 dX12_asks_268 rfl ?_
    refine g13_27 hx hG ha kf_RX12_56 dX12_asks_269 ?_
    refine j_sipush hx dX12_asks_272 rfl ?_
    have f59 := zaI (j := 486) hS0 (zr (k := 27) (t2 := 84) hG ha rfl) rfl (zlen hG (zr (k := 27) (t2 := 84) hG ha rfl) (n := 515) rfl rfl) (show 0 ≤ 486 by omega) (by omega) rfl
    refine j_iald hx hG (zr (k := 27) (t2 := 84) hG ha rfl) (by decide) rfl (zlen hG (zr (k := 27) (t2 := 84) hG ha rfl) (n := 515) rfl rfl) (by omega) (by omega) (j := 486) rfl rfl dX12_asks_275 ?_
    refine j_iload hx 0 dX12_asks_276 rfl ?_
    refine j_icmp_le hx 285 dX12_asks_278 rfl (by omega) (by omega) (fun h60 => ?_) (fun h60 => ?_)
    · skip
      refine j_iconst hx dX12_asks_285 ?_
      exact j_zret hx hq rfl (by decide) (by decide) dX12_asks_286 (by omega) ⟨0, rfl, rfl, rfl, (by omega)⟩
    · skip
      refine j_iconst hx dX12_asks_281 ?_
      refine j_goto hx 286 dX12_asks_282 rfl ?_
      exact j_zret hx hq rfl (by decide) (by decide) dX12_asks_286 (by omega) ⟨1, rfl, rfl, rfl, (by omega)⟩
  · skip
    refine j_switchOut hx 287 dX12_asks_14 (by omega) (by omega) rfl ?_
    refine j_aload_n hx 1 dX12_asks_287 rfl ?_
    refine g13_27 hx hG ha kf_RX12_56 dX12_asks_288 ?_
    refine j_sipush hx dX12_asks_291 rfl ?_
    have f61 := zaI (j := 488) hS0 (zr (k := 27) (t2 := 84) hG ha rfl) rfl (zlen hG (zr (k := 27) (t2 := 84) hG ha rfl) (n := 515) rfl rfl) (show 0 ≤ 488 by omega) (by omega) rfl
    refine j_iald hx hG (zr (k := 27) (t2 := 84) hG ha rfl) (by decide) rfl (zlen hG (zr (k := 27) (t2 := 84) hG ha rfl) (n := 515) rfl rfl) (by omega) (by omega) (j := 488) rfl rfl dX12_asks_294 ?_
    refine j_iload hx 0 dX12_asks_295 rfl ?_
    refine j_irem hx dX12_asks_297 (by omega) (by omega) (by omega) (fun v62 f63 f64 f65 f66 => ?_)
    refine j_aload_n hx 1 dX12_asks_298 rfl ?_
    refine g13_36 hx hG ha kf_RX12_83 dX12_asks_299 ?_
    refine j_iload_n hx 2 dX12_asks_302 rfl ?_
    have f68 := zaI (j := (x1).toNat) hS0 (zr (k := 36) (t2 := 93) hG ha rfl) rfl (zlen hG (zr (k := 36) (t2 := 93) hG ha rfl) (n := 900) rfl rfl) (show 0 ≤ x1 by omega) (by omega) rfl
    refine j_iald hx hG (zr (k := 36) (t2 := 93) hG ha rfl) (by decide) rfl (zlen hG (zr (k := 36) (t2 := 93) hG ha rfl) (n := 900) rfl rfl) (by omega) (by omega) (j := (x1).toNat) rfl rfl dX12_asks_303 ?_
    refine j_icmp_ne hx 311 dX12_asks_304 rfl (by omega) (by omega) (fun h69 => ?_) (fun h69 => ?_)
    · skip
      refine j_iconst hx dX12_asks_311 ?_
      exact j_zret hx hq rfl (by decide) (by decide) dX12_asks_312 (by omega) ⟨0, rfl, rfl, rfl, (by omega)⟩
    · skip
      refine j_iconst hx dX12_asks_307 ?_
      refine j_goto hx 312 dX12_asks_308 rfl ?_
      exact j_zret hx hq rfl (by decide) (by decide) dX12_asks_312 (by omega) ⟨1, rfl, rfl, rfl, (by omega)⟩

theorem lk_RX12_355 : LkV RX12 355 RX12 yX12_asks cX12_asks 5 (some .boolean) 3 := ⟨km_RX12_355, ki_yX12_asks, ks_RX12_yX12_asks, kn_RX12, kc_yX12_asks, rfl, by decide +kernel, by decide +kernel, by decide +kernel⟩
set_option maxHeartbeats 4000000 in
set_option maxRecDepth 20000 in
theorem c_X12_holds {E : zE} {l : Launch} (hst : l.stackTraces = false) (a : Nat) (x1 : Int) (x2 : Int) (x3 : Int) : Con E l yX12_holds cX12_holds 6 (some .boolean) { frames := 2, cells := 0, slots := 0, locals := 50 } (fun G s vs => vs = [.ref a, .int (zI x1), .int (zI x2), .int (zI x3)] ∧ zGK G ∧ zSK G s ∧ (gT G a = 13) ∧ ((-2147483648) ≤ x1 ∧ x1 ≤ 2147483647) ∧ ((-2147483648) ≤ x2 ∧ x2 ≤ 2147483647) ∧ ((-2147483648) ≤ x3 ∧ x3 ≤ 2147483647)) (fun G s _ => pI (fun r G2 s2 => G2 = G ∧ zSK G s2 ∧ zFr [95] G s s2 ∧ (0 ≤ r ∧ r ≤ 1))) := by
  refine Con.mk hst (by decide) (fun G s vs h => by rw [h.1]; exact Nat.le_of_ble_eq_true rfl) ?_
  rintro X G s0 vs ⟨rfl, hG, hS0, ha, hx1, hx2, hx3⟩ rfl hx hq
  show JJ X E 6 G s0 0 0 [(0, .ref a), (1, .int (zI x1)), (2, .int (zI x2)), (3, .int (zI x3))] 0 []
  refine j_aload_n hx 0 dX12_holds_0 rfl ?_
  refine g13_37 hx hG ha kf_RX12_86 dX12_holds_1 ?_
  refine j_iload_n hx 1 dX12_holds_4 rfl ?_
  have f1 := zaI (j := (x1).toNat) hS0 (zr (k := 37) (t2 := 94) hG ha rfl) rfl (zlen hG (zr (k := 37) (t2 := 94) hG ha rfl) (n := 6) rfl rfl) (show 0 ≤ x1 by omega) (by omega) rfl
  refine j_iald hx hG (zr (k := 37) (t2 := 94) hG ha rfl) (by decide) rfl (zlen hG (zr (k := 37) (t2 := 94) hG ha rfl) (n := 6) rfl rfl) (by omega) (by omega) (j := (x1).toNat) rfl rfl dX12_holds_5 ?_
  refine j_if_ne hx 11 dX12_holds_6 rfl (by omega) (fun h2 => ?_) (fun h2 => ?_)
  · skip
    refine j_iconst hx dX12_holds_11 ?_
    refine j_istore hx [(4, .int (zI 0)), (0, .ref a), (1, .int (zI x1)), (2, .int (zI x2)), (3, .int (zI x3))] dX12_holds_12 (by decide) rfl ?_
    refine j_sipush hx dX12_holds_14 rfl ?_
    refine j_iload_n hx 2 dX12_holds_17 rfl ?_
    refine j_imul hx (r := 150 * x1) dX12_holds_18 rfl ?_
    refine j_norm (fun v3 f4 f5 f6 => ?_)
    refine j_istore hx [(5, .int (zI v3)), (4, .int (zI 0)), (0, .ref a), (1, .int (zI x1)), (2, .int (zI x2)), (3, .int (zI x3))] dX12_holds_19 (by decide) rfl ?_
    have c21_1 : ∀ (m_c21_1 : Nat) (v7 : Int) (v8 : Int) (s2 : zS), 2147483648 - v8 < m_c21_1 → ((-2147483648) ≤ v7 ∧ v7 ≤ 2147483647) → ((-2147483648) ≤ v8 ∧ v8 ≤ 2147483647) → (zSK G s2) → (zFr [95] G s0 s2) → JJ X E 6 G s2 0 0 [(0, .ref a), (1, .int (zI x1)), (2, .int (zI x2)), (3, .int (zI x3)), (4, .int (zI v7)), (5, .int (zI v8))] 21 [] := by
      intro m_c21_1
      induction m_c21_1 with
      | zero => intro v7 v8 s2 hm_c21_1 f3 f4 hS_s2 hF_s2; exfalso; omega
      | succ m_c21_1 ih_c21_1 => 
        intro v7 v8 s2 hm_c21_1 f3 f4 hS_s2 hF_s2
        refine j_iload hx 5 dX12_holds_21 rfl ?_
        refine j_sipush hx dX12_holds_23 rfl ?_
        refine j_iload_n hx 1 dX12_holds_26 rfl ?_
        refine j_imul hx (r := 150 * x1) dX12_holds_27 rfl ?_
        refine j_norm (fun v9 f10 f11 f12 => ?_)
        refine j_aload_n hx 0 dX12_holds_28 rfl ?_
        refine g13_37 hx hG ha kf_RX12_86 dX12_holds_29 ?_
        refine j_iload_n hx 1 dX12_holds_32 rfl ?_
        refine j_iald hx hG (zr (k := 37) (t2 := 94) hG ha rfl) (by decide) rfl (zlen hG (zr (k := 37) (t2 := 94) hG ha rfl) (n := 6) rfl rfl) (by omega) (by omega) (j := (x1).toNat) rfl (v := (s0 (gP G a 37) (x1).toNat)) (by rw [(zFr_g hF_s2 (zr (k := 37) (t2 := 94) hG ha rfl) (by decide))]) dX12_holds_33 ?_
        refine j_iadd hx (r := v9 + (s0 (gP G a 37) (x1).toNat)) dX12_holds_34 (by omega) ?_
        refine j_norm (fun v13 f14 f15 f16 => ?_)
        refine j_icmp_ge hx 199 dX12_holds_35 rfl (by omega) (by omega) (fun h17 => ?_) (fun h17 => ?_)
        · skip
          refine j_aload_n hx 0 dX12_holds_199 rfl ?_
          refine g13_42 hx hG ha kf_RX12_95 dX12_holds_200 ?_
          refine j_iconst hx dX12_holds_203 ?_
          have f18 := zaI (j := 0) hS_s2 (zr (k := 42) (t2 := 95) hG ha rfl) rfl (zlen hG (zr (k := 42) (t2 := 95) hG ha rfl) (n := 150) rfl rfl) (show 0 ≤ 0 by omega) (by omega) rfl
          refine j_zald hx hG (zr (k := 42) (t2 := 95) hG ha rfl) (by decide) rfl (zlen hG (zr (k := 42) (t2 := 95) hG ha rfl) (n := 150) rfl rfl) (by omega) (by omega) (j := 0) rfl rfl dX12_holds_204 ?_
          exact j_zret hx hq rfl (by decide) (by decide) dX12_holds_205 (by omega) ⟨(s2 (gP G a 42) 0), rfl, rfl, hS_s2, (zFr_t zFr_rf hF_s2 (by decide)), (by omega)⟩
        · skip
          refine j_aload_n hx 0 dX12_holds_38 rfl ?_
          refine g13_34 hx hG ha kf_RX12_77 dX12_holds_39 ?_
          refine j_iload hx 5 dX12_holds_42 rfl ?_
          have f19 := zaI (j := (v8).toNat) hS0 (zr (k := 34) (t2 := 91) hG ha rfl) rfl (zlen hG (zr (k := 34) (t2 := 91) hG ha rfl) (n := 900) rfl rfl) (show 0 ≤ v8 by omega) (by omega) rfl
          refine j_iald hx hG (zr (k := 34) (t2 := 91) hG ha rfl) (by decide) rfl (zlen hG (zr (k := 34) (t2 := 91) hG ha rfl) (n := 900) rfl rfl) (by omega) (by omega) (j := (v8).toNat) rfl (v := (s0 (gP G a 34) (v8).toNat)) (by rw [(zFr_g hF_s2 (zr (k := 34) (t2 := 91) hG ha rfl) (by decide))]) dX12_holds_44 ?_
          refine j_bipush hx dX12_holds_45 rfl ?_
          have c193_7 : ∀ (v20 : Int) (s8 : zS), ((-2147483648) ≤ v20 ∧ v20 ≤ 2147483647) → (zSK G s8) → (zFr [95] G s2 s8) → JJ X E 6 G s8 0 0 [(0, .ref a), (1, .int (zI x1)), (2, .int (zI x2)), (3, .int (zI x3)), (4, .int (zI v20)), (5, .int (zI v8))] 193 [] := by
            intro v20 s8 f9 hS_s8 hF_s8
            refine j_iinc hx 5 [(5, .int (zI (v8 + 1))), (0, .ref a), (1, .int (zI x1)), (2, .int (zI x2)), (3, .int (zI x3)), (4, .int (zI v20))] dX12_holds_193 rfl (by omega) (by decide) rfl ?_
            refine j_goto hx 21 dX12_holds_196 rfl ?_
            exact j_sub [1, 2, 3, 4, 5, 0] [(0, .ref a), (1, .int (zI x1)), (2, .int (zI x2)), (3, .int (zI x3)), (4, .int (zI v20)), (5, .int (zI (v8 + 1)))] rfl (ih_c21_1 v20 (v8 + 1) s8 (by omega) (by omega) (by omega) hS_s8 (zFr_t (zFr_t zFr_rf hF_s2 (by decide)) hF_s8 (by decide)))
          refine j_icmp_ne hx 79 dX12_holds_47 rfl (by omega) ⟨by decide, by decide⟩ (fun h21 => ?_) (fun h21 => ?_)
          · skip
            refine j_aload_n hx 0 dX12_holds_79 rfl ?_
            refine g13_34 hx hG ha kf_RX12_77 dX12_holds_80 ?_
            refine j_iload hx 5 dX12_holds_83 rfl ?_
            refine j_iald hx hG (zr (k := 34) (t2 := 91) hG ha rfl) (by decide) rfl (zlen hG (zr (k := 34) (t2 := 91) hG ha rfl) (n := 900) rfl rfl) (by omega) (by omega) (j := (v8).toNat) rfl (v := (s0 (gP G a 34) (v8).toNat)) (by rw [(zFr_g hF_s2 (zr (k := 34) (t2 := 91) hG ha rfl) (by decide))]) dX12_holds_85 ?_
            refine j_bipush hx dX12_holds_86 rfl ?_
            refine j_icmp_le hx 175 dX12_holds_88 rfl (by omega) ⟨by decide, by decide⟩ (fun h22 => ?_) (fun h22 => ?_)
            · skip
              refine j_aload_n hx 0 dX12_holds_175 rfl ?_
              refine g13_42 hx hG ha kf_RX12_95 dX12_holds_176 ?_
              refine j_iload hx 4 dX12_holds_179 rfl ?_
              refine j_aload_n hx 0 dX12_holds_181 rfl ?_
              refine j_iload hx 5 dX12_holds_182 rfl ?_
              refine j_iload_n hx 2 dX12_holds_184 rfl ?_
              refine j_iload_n hx 3 dX12_holds_185 rfl ?_
              refine j_callV hx hG (c_X12_asks hst a v8 x2 x3) lk_RX12_355 ha (by decide) rfl rfl rfl rfl [.int (zI v8), .int (zI x2), .int (zI x3)] ⟨rfl, hG, hS_s2, ha, (by omega), (by omega), (by omega)⟩ rfl rfl ⟨by decide, by decide⟩ ⟨by decide, by decide⟩ (k2 := 0) (n2 := 0) rfl rfl (Nat.le_of_ble_eq_true rfl) dX12_holds_186 (kIP (fun v23 q24 => ?_))
              refine j_zast hx hG (zr (k := 42) (t2 := 95) hG ha rfl) (by decide) rfl (zlen hG (zr (k := 42) (t2 := 95) hG ha rfl) (n := 150) rfl rfl) (by omega) (by omega) (j := (v7).toNat) rfl (znar_z (by omega)) dX12_holds_189 ?_
              obtain ⟨s12, e_s12⟩ : ∃ z, z = zU s2 (gP G a 42) (v7).toNat v23 := ⟨_, rfl⟩
              rw [← e_s12]
              have hS_s12 : zSK G s12 := by rw [e_s12]; exact zSK_A hS_s2 (zr (k := 42) (t2 := 95) hG ha rfl) rfl rfl rfl (by omega)
              refine j_iincN hx 4 (fun v25 => [(4, .int (zI v25)), (0, .ref a), (1, .int (zI x1)), (2, .int (zI x2)), (3, .int (zI x3)), (5, .int (zI v8))]) dX12_holds_190 rfl (by decide) (fun _ => rfl) (fun v25 f26 f27 f28 => ?_)
              exact j_sub [1, 2, 3, 4, 0, 5] [(0, .ref a), (1, .int (zI x1)), (2, .int (zI x2)), (3, .int (zI x3)), (4, .int (zI v25)), (5, .int (zI v8))] rfl (c193_7 v25 s12 (by omega) hS_s12 (zFr_u zFr_rf e_s12 (zr (k := 42) (t2 := 95) hG ha rfl) (by decide)))
            · skip
              refine j_iincN hx 4 (fun v29 => [(4, .int (zI v29)), (0, .ref a), (1, .int (zI x1)), (2, .int (zI x2)), (3, .int (zI x3)), (5, .int (zI v8))]) dX12_holds_91 rfl (by decide) (fun _ => rfl) (fun v29 f30 f31 f32 => ?_)
              refine j_aload_n hx 1 dX12_holds_94 rfl ?_
              refine g13_42 hx hG ha kf_RX12_95 dX12_holds_95 ?_
              refine j_iload hx 0 dX12_holds_98 rfl ?_
              refine j_iconst hx dX12_holds_100 ?_
              refine j_isub hx (r := v29 - 1) dX12_holds_101 rfl ?_
              refine j_norm (fun v33 f34 f35 f36 => ?_)
              refine j_aload_n hx 1 dX12_holds_102 rfl ?_
              refine g13_34 hx hG ha kf_RX12_77 dX12_holds_103 ?_
              refine j_iload hx 5 dX12_holds_106 rfl ?_
              refine j_iald hx hG (zr (k := 34) (t2 := 91) hG ha rfl) (by decide) rfl (zlen hG (zr (k := 34) (t2 := 91) hG ha rfl) (n := 900) rfl rfl) (by omega) (by omega) (j := (v8).toNat) rfl (v := (s0 (gP G a 34) (v8).toNat)) (by rw [(zFr_g hF_s2 (zr (k := 34) (t2 := 91) hG ha rfl) (by decide))]) dX12_holds_108 ?_
              refine j_bipush hx dX12_holds_109 rfl ?_
              have c171_13 : ∀ (v37 : Int), (0 ≤ v37 ∧ v37 ≤ 1) → JJ X E 6 G s2 0 0 [(0, .ref a), (1, .int (zI x1)), (2, .int (zI x2)), (3, .int (zI x3)), (4, .int (zI v29)), (5, .int (zI v8))] 171 [.int (zI v37), .int (zI v33), .ref (gP G a 42)] := by
                intro v37 f14
                refine j_zast hx hG (zr (k := 42) (t2 := 95) hG ha rfl) (by decide) rfl (zlen hG (zr (k := 42) (t2 := 95) hG ha rfl) (n := 150) rfl rfl) (by omega) (by omega) (j := (v33).toNat) rfl (znar_z (by omega)) dX12_holds_171 ?_
                obtain ⟨s15, e_s15⟩ : ∃ z, z = zU s2 (gP G a 42) (v33).toNat v37 := ⟨_, rfl⟩
                rw [← e_s15]
                have hS_s15 : zSK G s15 := by rw [e_s15]; exact zSK_A hS_s2 (zr (k := 42) (t2 := 95) hG ha rfl) rfl rfl rfl (by omega)
                refine j_goto hx 193 dX12_holds_172 rfl ?_
                exact j_sub [0, 1, 2, 3, 4, 5] [(0, .ref a), (1, .int (zI x1)), (2, .int (zI x2)), (3, .int (zI x3)), (4, .int (zI v29)), (5, .int (zI v8))] rfl (c193_7 v29 s15 (by omega) hS_s15 (zFr_u zFr_rf e_s15 (zr (k := 42) (t2 := 95) hG ha rfl) (by decide)))
              refine j_icmp_ne hx 144 dX12_holds_111 rfl (by omega) ⟨by decide, by decide⟩ (fun h38 => ?_) (fun h38 => ?_)
              · skip
                refine j_aload_n hx 1 dX12_holds_144 rfl ?_
                refine g13_42 hx hG ha kf_RX12_95 dX12_holds_145 ?_
                refine j_iload hx 0 dX12_holds_148 rfl ?_
                refine j_iconst hx dX12_holds_150 ?_
                refine j_isub hx (r := v29 - 1) dX12_holds_151 rfl ?_
                refine j_norm (fun v39 f40 f41 f42 => ?_)
                have f43 := zaI (j := (v39).toNat) hS_s2 (zr (k := 42) (t2 := 95) hG ha rfl) rfl (zlen hG (zr (k := 42) (t2 := 95) hG ha rfl) (n := 150) rfl rfl) (show 0 ≤ v39 by omega) (by omega) rfl
                refine j_zald hx hG (zr (k := 42) (t2 := 95) hG ha rfl) (by decide) rfl (zlen hG (zr (k := 42) (t2 := 95) hG ha rfl) (n := 150) rfl rfl) (by omega) (by omega) (j := (v39).toNat) rfl rfl dX12_holds_152 ?_
                have c166_16 : JJ X E 6 G s2 0 0 [(0, .ref a), (1, .int (zI x1)), (2, .int (zI x2)), (3, .int (zI x3)), (4, .int (zI v29)), (5, .int (zI v8))] 166 [.int (zI v33), .ref (gP G a 42)] := by
                  refine j_iconst hx dX12_holds_166 ?_
                  refine j_goto hx 171 dX12_holds_167 rfl ?_
                  exact j_sub [0, 1, 2, 3, 4, 5] [(0, .ref a), (1, .int (zI x1)), (2, .int (zI x2)), (3, .int (zI x3)), (4, .int (zI v29)), (5, .int (zI v8))] rfl (c171_13 1 (by omega))
                refine j_if_ne hx 166 dX12_holds_153 rfl (by omega) (fun h44 => ?_) (fun h44 => ?_)
                · skip
                  exact j_sub [1, 2, 3, 4, 0, 5] [(0, .ref a), (1, .int (zI x1)), (2, .int (zI x2)), (3, .int (zI x3)), (4, .int (zI v29)), (5, .int (zI v8))] rfl (c166_16  )
                · skip
                  refine j_aload_n hx 1 dX12_holds_156 rfl ?_
                  refine g13_42 hx hG ha kf_RX12_95 dX12_holds_157 ?_
                  refine j_iload hx 0 dX12_holds_160 rfl ?_
                  have f45 := zaI (j := (v29).toNat) hS_s2 (zr (k := 42) (t2 := 95) hG ha rfl) rfl (zlen hG (zr (k := 42) (t2 := 95) hG ha rfl) (n := 150) rfl rfl) (show 0 ≤ v29 by omega) (by omega) rfl
                  refine j_zald hx hG (zr (k := 42) (t2 := 95) hG ha rfl) (by decide) rfl (zlen hG (zr (k := 42) (t2 := 95) hG ha rfl) (n := 150) rfl rfl) (by omega) (by omega) (j := (v29).toNat) rfl rfl dX12_holds_162 ?_
                  refine j_if_eq hx 170 dX12_holds_163 rfl (by omega) (fun h46 => ?_) (fun h46 => ?_)
                  · skip
                    refine j_iconst hx dX12_holds_170 ?_
                    exact j_sub [1, 2, 3, 4, 0, 5] [(0, .ref a), (1, .int (zI x1)), (2, .int (zI x2)), (3, .int (zI x3)), (4, .int (zI v29)), (5, .int (zI v8))] rfl (c171_13 0 (by omega))
                  · skip
                    exact j_sub [1, 2, 3, 4, 0, 5] [(0, .ref a), (1, .int (zI x1)), (2, .int (zI x2)), (3, .int (zI x3)), (4, .int (zI v29)), (5, .int (zI v8))] rfl (c166_16  )
              · skip
                refine j_aload_n hx 1 dX12_holds_114 rfl ?_
                refine g13_42 hx hG ha kf_RX12_95 dX12_holds_115 ?_
                refine j_iload hx 0 dX12_holds_118 rfl ?_
                refine j_iconst hx dX12_holds_120 ?_
                refine j_isub hx (r := v29 - 1) dX12_holds_121 rfl ?_
                refine j_norm (fun v47 f48 f49 f50 => ?_)
                have f51 := zaI (j := (v47).toNat) hS_s2 (zr (k := 42) (t2 := 95) hG ha rfl) rfl (zlen hG (zr (k := 42) (t2 := 95) hG ha rfl) (n := 150) rfl rfl) (show 0 ≤ v47 by omega) (by omega) rfl
                refine j_zald hx hG (zr (k := 42) (t2 := 95) hG ha rfl) (by decide) rfl (zlen hG (zr (k := 42) (t2 := 95) hG ha rfl) (n := 150) rfl rfl) (by omega) (by omega) (j := (v47).toNat) rfl rfl dX12_holds_122 ?_
                have c140_17 : JJ X E 6 G s2 0 0 [(0, .ref a), (1, .int (zI x1)), (2, .int (zI x2)), (3, .int (zI x3)), (4, .int (zI v29)), (5, .int (zI v8))] 140 [.int (zI v33), .ref (gP G a 42)] := by
                  refine j_iconst hx dX12_holds_140 ?_
                  refine j_goto hx 171 dX12_holds_141 rfl ?_
                  exact j_sub [0, 1, 2, 3, 4, 5] [(0, .ref a), (1, .int (zI x1)), (2, .int (zI x2)), (3, .int (zI x3)), (4, .int (zI v29)), (5, .int (zI v8))] rfl (c171_13 0 (by omega))
                refine j_if_eq hx 140 dX12_holds_123 rfl (by omega) (fun h52 => ?_) (fun h52 => ?_)
                · skip
                  exact j_sub [1, 2, 3, 4, 0, 5] [(0, .ref a), (1, .int (zI x1)), (2, .int (zI x2)), (3, .int (zI x3)), (4, .int (zI v29)), (5, .int (zI v8))] rfl (c140_17  )
                · skip
                  refine j_aload_n hx 1 dX12_holds_126 rfl ?_
                  refine g13_42 hx hG ha kf_RX12_95 dX12_holds_127 ?_
                  refine j_iload hx 0 dX12_holds_130 rfl ?_
                  have f53 := zaI (j := (v29).toNat) hS_s2 (zr (k := 42) (t2 := 95) hG ha rfl) rfl (zlen hG (zr (k := 42) (t2 := 95) hG ha rfl) (n := 150) rfl rfl) (show 0 ≤ v29 by omega) (by omega) rfl
                  refine j_zald hx hG (zr (k := 42) (t2 := 95) hG ha rfl) (by decide) rfl (zlen hG (zr (k := 42) (t2 := 95) hG ha rfl) (n := 150) rfl rfl) (by omega) (by omega) (j := (v29).toNat) rfl rfl dX12_holds_132 ?_
                  refine j_if_eq hx 140 dX12_holds_133 rfl (by omega) (fun h54 => ?_) (fun h54 => ?_)
                  · skip
                    exact j_sub [1, 2, 3, 4, 0, 5] [(0, .ref a), (1, .int (zI x1)), (2, .int (zI x2)), (3, .int (zI x3)), (4, .int (zI v29)), (5, .int (zI v8))] rfl (c140_17  )
                  · skip
                    refine j_iconst hx dX12_holds_136 ?_
                    refine j_goto hx 171 dX12_holds_137 rfl ?_
                    exact j_sub [1, 2, 3, 4, 0, 5] [(0, .ref a), (1, .int (zI x1)), (2, .int (zI x2)), (3, .int (zI x3)), (4, .int (zI v29)), (5, .int (zI v8))] rfl (c171_13 1 (by omega))
          · skip
            refine j_aload_n hx 0 dX12_holds_50 rfl ?_
            refine g13_42 hx hG ha kf_RX12_95 dX12_holds_51 ?_
            refine j_iload hx 4 dX12_holds_54 rfl ?_
            refine j_iconst hx dX12_holds_56 ?_
            refine j_isub hx (r := v7 - 1) dX12_holds_57 rfl ?_
            refine j_norm (fun v55 f56 f57 f58 => ?_)
            refine j_aload_n hx 0 dX12_holds_58 rfl ?_
            refine g13_42 hx hG ha kf_RX12_95 dX12_holds_59 ?_
            refine j_iload hx 4 dX12_holds_62 rfl ?_
            refine j_iconst hx dX12_holds_64 ?_
            refine j_isub hx (r := v7 - 1) dX12_holds_65 rfl ?_
            refine j_norm (fun v59 f60 f61 f62 => ?_)
            have f63 := zaI (j := (v59).toNat) hS_s2 (zr (k := 42) (t2 := 95) hG ha rfl) rfl (zlen hG (zr (k := 42) (t2 := 95) hG ha rfl) (n := 150) rfl rfl) (show 0 ≤ v59 by omega) (by omega) rfl
            refine j_zald hx hG (zr (k := 42) (t2 := 95) hG ha rfl) (by decide) rfl (zlen hG (zr (k := 42) (t2 := 95) hG ha rfl) (n := 150) rfl rfl) (by omega) (by omega) (j := (v59).toNat) rfl rfl dX12_holds_66 ?_
            have c75_18 : ∀ (v64 : Int), (0 ≤ v64 ∧ v64 ≤ 1) → JJ X E 6 G s2 0 0 [(0, .ref a), (1, .int (zI x1)), (2, .int (zI x2)), (3, .int (zI x3)), (4, .int (zI v7)), (5, .int (zI v8))] 75 [.int (zI v64), .int (zI v55), .ref (gP G a 42)] := by
              intro v64 f19
              refine j_zast hx hG (zr (k := 42) (t2 := 95) hG ha rfl) (by decide) rfl (zlen hG (zr (k := 42) (t2 := 95) hG ha rfl) (n := 150) rfl rfl) (by omega) (by omega) (j := (v55).toNat) rfl (znar_z (by omega)) dX12_holds_75 ?_
              obtain ⟨s20, e_s20⟩ : ∃ z, z = zU s2 (gP G a 42) (v55).toNat v64 := ⟨_, rfl⟩
              rw [← e_s20]
              have hS_s20 : zSK G s20 := by rw [e_s20]; exact zSK_A hS_s2 (zr (k := 42) (t2 := 95) hG ha rfl) rfl rfl rfl (by omega)
              refine j_goto hx 193 dX12_holds_76 rfl ?_
              exact j_sub [0, 1, 2, 3, 4, 5] [(0, .ref a), (1, .int (zI x1)), (2, .int (zI x2)), (3, .int (zI x3)), (4, .int (zI v7)), (5, .int (zI v8))] rfl (c193_7 v7 s20 (by omega) hS_s20 (zFr_u zFr_rf e_s20 (zr (k := 42) (t2 := 95) hG ha rfl) (by decide)))
            refine j_if_ne hx 74 dX12_holds_67 rfl (by omega) (fun h65 => ?_) (fun h65 => ?_)
            · skip
              refine j_iconst hx dX12_holds_74 ?_
              exact j_sub [0, 1, 2, 3, 4, 5] [(0, .ref a), (1, .int (zI x1)), (2, .int (zI x2)), (3, .int (zI x3)), (4, .int (zI v7)), (5, .int (zI v8))] rfl (c75_18 0 (by omega))
            · skip
              refine j_iconst hx dX12_holds_70 ?_
              refine j_goto hx 75 dX12_holds_71 rfl ?_
              exact j_sub [0, 1, 2, 3, 4, 5] [(0, .ref a), (1, .int (zI x1)), (2, .int (zI x2)), (3, .int (zI x3)), (4, .int (zI v7)), (5, .int (zI v8))] rfl (c75_18 1 (by omega))
    exact j_sub [2, 3, 4, 5, 1, 0] [(0, .ref a), (1, .int (zI x1)), (2, .int (zI x2)), (3, .int (zI x3)), (4, .int (zI 0)), (5, .int (zI v3))] rfl (c21_1 (2147483648 * 4) 0 v3 s0 (by omega) (by omega) (by omega) hS0 zFr_rf)
  · skip
    refine j_iconst hx dX12_holds_9 ?_
    exact j_zret hx hq rfl (by decide) (by decide) dX12_holds_10 (by omega) ⟨0, rfl, rfl, hS0, zFr_rf, (by omega)⟩

theorem lk_RX12_358 : LkV RX12 358 RX12 yX12_holds cX12_holds 6 (some .boolean) 3 := ⟨km_RX12_358, ki_yX12_holds, ks_RX12_yX12_holds, kn_RX12, kc_yX12_holds, rfl, by decide +kernel, by decide +kernel, by decide +kernel⟩
set_option maxHeartbeats 4000000 in
set_option maxRecDepth 20000 in
theorem c_X12_would {E : zE} {l : Launch} (hst : l.stackTraces = false) (a : Nat) (x1 : Int) (x2 : Int) : Con E l yX12_would cX12_would 3 (some .boolean) { frames := 3, cells := 0, slots := 0, locals := 75 } (fun G s vs => vs = [.ref a, .int (zI x1), .int (zI x2)] ∧ zGK G ∧ zSK G s ∧ (gT G a = 13) ∧ ((-2147483648) ≤ x1 ∧ x1 ≤ 2147483647) ∧ ((-2147483648) ≤ x2 ∧ x2 ≤ 2147483647) ∧ (zS0 G s)) (fun G s _ => pI (fun r G2 s2 => G2 = G ∧ zSK G s2 ∧ zFr [13, 71, 95] G s s2 ∧ (0 ≤ r ∧ r ≤ 1))) := by
  refine Con.mk hst (by decide) (fun G s vs h => by rw [h.1]; exact Nat.le_of_ble_eq_true rfl) ?_
  rintro X G s0 vs ⟨rfl, hG, hS0, ha, hx1, hx2, hF0⟩ rfl hx hq
  show JJ X E 3 G s0 0 0 [(0, .ref a), (1, .int (zI x1)), (2, .int (zI x2))] 0 []
  refine j_aload_n hx 0 dX12_would_0 rfl ?_
  refine j_iconst hx dX12_would_1 ?_
  refine p13_0 hx hG ha kf_RX12_3 dX12_would_2 ?_
  obtain ⟨s1, e_s1⟩ : ∃ z, z = zU s0 a 0 0 := ⟨_, rfl⟩
  rw [← e_s1]
  have hS_s1 : zSK G s1 := by rw [e_s1]; exact zSK_F hS0 ha rfl rfl rfl (by omega)
  refine j_aload_n hx 0 dX12_would_5 rfl ?_
  refine j_iload_n hx 1 dX12_would_6 rfl ?_
  refine j_iconst hx dX12_would_7 ?_
  refine j_callV hx hG (c_X12_isPlayer hst a x1 1) lk_RX12_339 ha (by decide) rfl rfl rfl rfl [.int (zI x1), .int (zI 1)] ⟨rfl, hG, hS_s1, ha, (by omega), (by omega)⟩ rfl rfl ⟨by decide, by decide⟩ ⟨by decide, by decide⟩ (k2 := 0) (n2 := 0) rfl rfl (Nat.le_of_ble_eq_true rfl) dX12_would_8 (kIM (fun v1 s2 hS_s2 hF_s2 q2 => ?_))
  refine j_if_eq hx 29 dX12_would_11 rfl (by omega) (fun h3 => ?_) (fun h3 => ?_)
  · skip
    refine j_iconst hx dX12_would_29 ?_
    exact j_zret hx hq rfl (by decide) (by decide) dX12_would_30 (by omega) ⟨0, rfl, rfl, hS_s2, (zFr_t (zFr_u zFr_rf e_s1 ha (by decide)) hF_s2 (by decide)), (by omega)⟩
  · skip
    refine j_aload_n hx 0 dX12_would_14 rfl ?_
    refine j_iload_n hx 2 dX12_would_15 rfl ?_
    refine j_iconst hx dX12_would_16 ?_
    refine j_iconst hx dX12_would_17 ?_
    refine j_callS hx (c_X12_within hst x2 0 1) lk_RX12_314 [.int (zI x2), .int (zI 0), .int (zI 1)] ⟨rfl, hG, hS_s2, (by omega), (by omega), (by omega)⟩ rfl rfl ⟨by decide, by decide⟩ ⟨by decide, by decide⟩ (k2 := 0) (n2 := 0) rfl rfl (Nat.le_of_ble_eq_true rfl) dX12_would_18 (kIP (fun v4 q5 => ?_))
    refine j_iconst hx dX12_would_21 ?_
    refine j_iconst hx dX12_would_22 ?_
    refine j_callV hx hG (c_X12_may hst a v4 2 1) lk_RX12_240 ha (by decide) rfl rfl rfl rfl [.int (zI v4), .int (zI 2), .int (zI 1)] ⟨rfl, hG, hS_s2, ha, (by omega), (by omega), (by omega)⟩ rfl rfl ⟨by decide, by decide⟩ ⟨by decide, by decide⟩ (k2 := 0) (n2 := 0) rfl rfl (Nat.le_of_ble_eq_true rfl) dX12_would_23 (kIM (fun v6 s3 hS_s3 hF_s3 q7 => ?_))
    refine j_if_ne hx 31 dX12_would_26 rfl (by omega) (fun h8 => ?_) (fun h8 => ?_)
    · skip
      refine j_aload_n hx 0 dX12_would_31 rfl ?_
      refine j_iload_n hx 2 dX12_would_32 rfl ?_
      refine j_if_ne hx 40 dX12_would_33 rfl (by omega) (fun h9 => ?_) (fun h9 => ?_)
      · skip
        refine j_iconst hx dX12_would_40 ?_
        refine j_iload_n hx 1 dX12_would_41 rfl ?_
        refine j_iadd hx (r := x1 + 3) dX12_would_42 (by omega) ?_
        refine j_norm (fun v10 f11 f12 f13 => ?_)
        refine j_iload_n hx 1 dX12_would_43 rfl ?_
        refine j_aload_n hx 0 dX12_would_44 rfl ?_
        refine j_callV hx hG (c_X12_whose hst a) lk_RX12_336 ha (by decide) rfl rfl rfl rfl [] ⟨rfl, hG, hS_s3, ha⟩ rfl rfl ⟨by decide, by decide⟩ ⟨by decide, by decide⟩ (k2 := 0) (n2 := 0) rfl rfl (Nat.le_of_ble_eq_true rfl) dX12_would_45 (kIP (fun v14 q15 => ?_))
        refine j_callV hx hG (c_X12_holds hst a v10 x1 v14) lk_RX12_358 ha (by decide) rfl rfl rfl rfl [.int (zI v10), .int (zI x1), .int (zI v14)] ⟨rfl, hG, hS_s3, ha, (by omega), (by omega), (by omega)⟩ rfl rfl ⟨by decide, by decide⟩ ⟨by decide, by decide⟩ (k2 := 0) (n2 := 0) rfl rfl (Nat.le_of_ble_eq_true rfl) dX12_would_48 (kIM (fun v16 s4 hS_s4 hF_s4 q17 => ?_))
        exact j_zret hx hq rfl (by decide) (by decide) dX12_would_51 (by omega) ⟨v16, rfl, rfl, hS_s4, (zFr_t (zFr_t (zFr_t (zFr_u zFr_rf e_s1 ha (by decide)) hF_s2 (by decide)) hF_s3 (by decide)) hF_s4 (by decide)), (by omega)⟩
      · skip
        refine j_iload_n hx 1 dX12_would_36 rfl ?_
        refine j_goto hx 43 dX12_would_37 rfl ?_
        refine j_iload_n hx 1 dX12_would_43 rfl ?_
        refine j_aload_n hx 0 dX12_would_44 rfl ?_
        refine j_callV hx hG (c_X12_whose hst a) lk_RX12_336 ha (by decide) rfl rfl rfl rfl [] ⟨rfl, hG, hS_s3, ha⟩ rfl rfl ⟨by decide, by decide⟩ ⟨by decide, by decide⟩ (k2 := 0) (n2 := 0) rfl rfl (Nat.le_of_ble_eq_true rfl) dX12_would_45 (kIP (fun v18 q19 => ?_))
        refine j_callV hx hG (c_X12_holds hst a x1 x1 v18) lk_RX12_358 ha (by decide) rfl rfl rfl rfl [.int (zI x1), .int (zI x1), .int (zI v18)] ⟨rfl, hG, hS_s3, ha, (by omega), (by omega), (by omega)⟩ rfl rfl ⟨by decide, by decide⟩ ⟨by decide, by decide⟩ (k2 := 0) (n2 := 0) rfl rfl (Nat.le_of_ble_eq_true rfl) dX12_would_48 (kIM (fun v20 s5 hS_s5 hF_s5 q21 => ?_))
        exact j_zret hx hq rfl (by decide) (by decide) dX12_would_51 (by omega) ⟨v20, rfl, rfl, hS_s5, (zFr_t (zFr_t (zFr_t (zFr_u zFr_rf e_s1 ha (by decide)) hF_s2 (by decide)) hF_s3 (by decide)) hF_s5 (by decide)), (by omega)⟩
    · skip
      refine j_iconst hx dX12_would_29 ?_
      exact j_zret hx hq rfl (by decide) (by decide) dX12_would_30 (by omega) ⟨0, rfl, rfl, hS_s3, (zFr_t (zFr_t (zFr_u zFr_rf e_s1 ha (by decide)) hF_s2 (by decide)) hF_s3 (by decide)), (by omega)⟩

set_option maxHeartbeats 4000000 in
set_option maxRecDepth 20000 in
theorem c_X12_stays {E : zE} {l : Launch} (hst : l.stackTraces = false) (a : Nat) : Con E l yX12_stays cX12_stays 2 none { frames := 0, cells := 0, slots := 0, locals := 0 } (fun G s vs => vs = [.ref a] ∧ zGK G ∧ zSK G s ∧ (gT G a = 13)) (fun G s _ => pV (fun G2 s2 => G2 = G ∧ zSK G s2 ∧ zFr [85] G s s2 ∧ True)) := by
  refine Con.mk hst (by decide) (fun G s vs h => by rw [h.1]; exact Nat.le_of_ble_eq_true rfl) ?_
  rintro X G s0 vs ⟨rfl, hG, hS0, ha⟩ rfl hx hq
  show JJ X E 2 G s0 0 0 [(0, .ref a)] 0 []
  refine j_iconst hx dX12_stays_0 ?_
  refine j_istore_n hx [(1, .int (zI 0)), (0, .ref a)] dX12_stays_1 (by decide) rfl ?_
  have c2_1 : ∀ (m_c2_1 : Nat) (v1 : Int) (s2 : zS), 2147483648 - v1 < m_c2_1 → (0 ≤ v1 ∧ v1 ≤ 515) → (zSK G s2) → (zFr [85] G s0 s2) → JJ X E 2 G s2 0 0 [(0, .ref a), (1, .int (zI v1))] 2 [] := by
    intro m_c2_1
    induction m_c2_1 with
    | zero => intro v1 s2 hm_c2_1 f3 hS_s2 hF_s2; exfalso; omega
    | succ m_c2_1 ih_c2_1 => 
      intro v1 s2 hm_c2_1 f3 hS_s2 hF_s2
      refine j_iload_n hx 1 dX12_stays_2 rfl ?_
      refine j_sipush hx dX12_stays_3 rfl ?_
      refine j_icmp_ge hx 27 dX12_stays_6 rfl (by omega) ⟨by decide, by decide⟩ (fun h2 => ?_) (fun h2 => ?_)
      · skip
        exact j_vret hx hq rfl (by decide) (by decide) dX12_stays_27 ⟨rfl, rfl, hS_s2, (zFr_t zFr_rf hF_s2 (by decide)), trivial⟩
      · skip
        refine j_aload_n hx 0 dX12_stays_9 rfl ?_
        refine g13_28 hx hG ha kf_RX12_59 dX12_stays_10 ?_
        refine j_iload_n hx 1 dX12_stays_13 rfl ?_
        refine j_aload_n hx 0 dX12_stays_14 rfl ?_
        refine g13_27 hx hG ha kf_RX12_56 dX12_stays_15 ?_
        refine j_iload_n hx 1 dX12_stays_18 rfl ?_
        have f3 := zaI (j := (v1).toNat) hS0 (zr (k := 27) (t2 := 84) hG ha rfl) rfl (zlen hG (zr (k := 27) (t2 := 84) hG ha rfl) (n := 515) rfl rfl) (show 0 ≤ v1 by omega) (by omega) rfl
        refine j_iald hx hG (zr (k := 27) (t2 := 84) hG ha rfl) (by decide) rfl (zlen hG (zr (k := 27) (t2 := 84) hG ha rfl) (n := 515) rfl rfl) (by omega) (by omega) (j := (v1).toNat) rfl (v := (s0 (gP G a 27) (v1).toNat)) (by rw [(zFr_g hF_s2 (zr (k := 27) (t2 := 84) hG ha rfl) (by decide))]) dX12_stays_19 ?_
        refine j_iast hx hG (zr (k := 28) (t2 := 85) hG ha rfl) (by decide) rfl (zlen hG (zr (k := 28) (t2 := 85) hG ha rfl) (n := 515) rfl rfl) (by omega) (by omega) (j := (v1).toNat) rfl dX12_stays_20 ?_
        obtain ⟨s6, e_s6⟩ : ∃ z, z = zU s2 (gP G a 28) (v1).toNat ((s0 (gP G a 27) (v1).toNat)) := ⟨_, rfl⟩
        rw [← e_s6]
        have hS_s6 : zSK G s6 := by rw [e_s6]; exact zSK_A hS_s2 (zr (k := 28) (t2 := 85) hG ha rfl) rfl rfl rfl (by omega)
        refine j_iinc hx 1 [(1, .int (zI (v1 + 1))), (0, .ref a)] dX12_stays_21 rfl (by omega) (by decide) rfl ?_
        refine j_goto hx 2 dX12_stays_24 rfl ?_
        exact j_sub [1, 0] [(0, .ref a), (1, .int (zI (v1 + 1)))] rfl (ih_c2_1 (v1 + 1) s6 (by omega) (by omega) hS_s6 (zFr_u (zFr_t zFr_rf hF_s2 (by decide)) e_s6 (zr (k := 28) (t2 := 85) hG ha rfl) (by decide)))
  exact j_sub [1, 0] [(0, .ref a), (1, .int (zI 0))] rfl (c2_1 (2147483648 * 4) 0 s0 (by omega) (by omega) hS0 zFr_rf)

theorem lk_RX12_207 : LkV RX12 207 RX12 yX12_stays cX12_stays 2 none 0 := ⟨km_RX12_207, ki_yX12_stays, ks_RX12_yX12_stays, kn_RX12, kc_yX12_stays, rfl, by decide +kernel, by decide +kernel, by decide +kernel⟩
set_option maxHeartbeats 4000000 in
set_option maxRecDepth 20000 in
theorem c_X12_law {E : zE} {l : Launch} (hst : l.stackTraces = false) (a : Nat) (x1 : Int) (x2 : Int) : Con E l yX12_law cX12_law 4 (some .int) { frames := 1, cells := 0, slots := 0, locals := 23 } (fun G s vs => vs = [.ref a, .int (zI x1), .int (zI x2)] ∧ zGK G ∧ zSK G s ∧ (gT G a = 13) ∧ ((-2147483648) ≤ x1 ∧ x1 ≤ 2147483647) ∧ ((-2147483648) ≤ x2 ∧ x2 ≤ 2147483647) ∧ (zS0 G s)) (fun G s _ => pI (fun r G2 s2 => G2 = G ∧ zSK G s2 ∧ zFr [13, 71, 84, 85] G s s2 ∧ ((-2147483648) ≤ r ∧ r ≤ 2147483647))) := by
  refine Con.mk hst (by decide) (fun G s vs h => by rw [h.1]; exact Nat.le_of_ble_eq_true rfl) ?_
  rintro X G s0 vs ⟨rfl, hG, hS0, ha, hx1, hx2, hF0⟩ rfl hx hq
  show JJ X E 4 G s0 0 0 [(0, .ref a), (1, .int (zI x1)), (2, .int (zI x2))] 0 []
  refine j_aload_n hx 0 dX12_law_0 rfl ?_
  refine j_iconst hx dX12_law_1 ?_
  refine p13_0 hx hG ha kf_RX12_3 dX12_law_2 ?_
  obtain ⟨s1, e_s1⟩ : ∃ z, z = zU s0 a 0 0 := ⟨_, rfl⟩
  rw [← e_s1]
  have hS_s1 : zSK G s1 := by rw [e_s1]; exact zSK_F hS0 ha rfl rfl rfl (by omega)
  refine j_aload_n hx 0 dX12_law_5 rfl ?_
  refine j_iload_n hx 1 dX12_law_6 rfl ?_
  refine j_iconst hx dX12_law_7 ?_
  refine j_iconst hx dX12_law_8 ?_
  refine j_callS hx (c_X12_within hst x1 0 2) lk_RX12_314 [.int (zI x1), .int (zI 0), .int (zI 2)] ⟨rfl, hG, hS_s1, (by omega), (by omega), (by omega)⟩ rfl rfl ⟨by decide, by decide⟩ ⟨by decide, by decide⟩ (k2 := 0) (n2 := 0) rfl rfl (Nat.le_of_ble_eq_true rfl) dX12_law_9 (kIP (fun v1 q2 => ?_))
  refine j_if_eq hx 28 dX12_law_12 rfl (by omega) (fun h3 => ?_) (fun h3 => ?_)
  · skip
    refine j_iconst hx dX12_law_28 ?_
    refine j_iconst hx dX12_law_29 ?_
    refine j_iconst hx dX12_law_30 ?_
    refine j_callV hx hG (c_X12_may hst a 0 1 1) lk_RX12_240 ha (by decide) rfl rfl rfl rfl [.int (zI 0), .int (zI 1), .int (zI 1)] ⟨rfl, hG, hS_s1, ha, (by omega), (by omega), (by omega)⟩ rfl rfl ⟨by decide, by decide⟩ ⟨by decide, by decide⟩ (k2 := 0) (n2 := 0) rfl rfl (Nat.le_of_ble_eq_true rfl) dX12_law_31 (kIM (fun v4 s2 hS_s2 hF_s2 q5 => ?_))
    refine j_if_ne hx 39 dX12_law_34 rfl (by omega) (fun h6 => ?_) (fun h6 => ?_)
    · skip
      refine j_aload_n hx 0 dX12_law_39 rfl ?_
      refine g13_27 hx hG ha kf_RX12_56 dX12_law_40 ?_
      refine j_sipush hx dX12_law_43 rfl ?_
      refine j_iload_n hx 1 dX12_law_46 rfl ?_
      refine j_iadd hx (r := x1 + 491) dX12_law_47 (by omega) ?_
      refine j_norm (fun v7 f8 f9 f10 => ?_)
      have f11 := zaI (j := (v7).toNat) hS0 (zr (k := 27) (t2 := 84) hG ha rfl) rfl (zlen hG (zr (k := 27) (t2 := 84) hG ha rfl) (n := 515) rfl rfl) (show 0 ≤ v7 by omega) (by omega) rfl
      refine j_iald hx hG (zr (k := 27) (t2 := 84) hG ha rfl) (by decide) rfl (zlen hG (zr (k := 27) (t2 := 84) hG ha rfl) (n := 515) rfl rfl) (by omega) (by omega) (j := (v7).toNat) rfl (v := (s0 (gP G a 27) (v7).toNat)) (by rw [(zFr_g hF_s2 (zr (k := 27) (t2 := 84) hG ha rfl) (by decide)), e_s1, zU_at (Or.inl (zne ha (zr (k := 27) (t2 := 84) hG ha rfl) (by decide)))]) dX12_law_48 ?_
      refine j_istore_n hx [(3, .int (zI ((s0 (gP G a 27) (v7).toNat)))), (0, .ref a), (1, .int (zI x1)), (2, .int (zI x2))] dX12_law_49 (by decide) rfl ?_
      refine j_aload_n hx 1 dX12_law_50 rfl ?_
      refine g13_27 hx hG ha kf_RX12_56 dX12_law_51 ?_
      refine j_sipush hx dX12_law_54 rfl ?_
      refine j_iload_n hx 2 dX12_law_57 rfl ?_
      refine j_iadd hx (r := x1 + 491) dX12_law_58 (by omega) ?_
      refine j_norm (fun v12 f13 f14 f15 => ?_)
      refine j_iload_n hx 3 dX12_law_59 rfl ?_
      refine j_iast hx hG (zr (k := 27) (t2 := 84) hG ha rfl) (by decide) rfl (zlen hG (zr (k := 27) (t2 := 84) hG ha rfl) (n := 515) rfl rfl) (by omega) (by omega) (j := (v12).toNat) rfl dX12_law_60 ?_
      obtain ⟨s3, e_s3⟩ : ∃ z, z = zU s2 (gP G a 27) (v12).toNat x2 := ⟨_, rfl⟩
      rw [← e_s3]
      have hS_s3 : zSK G s3 := by rw [e_s3]; exact zSK_A hS_s2 (zr (k := 27) (t2 := 84) hG ha rfl) rfl rfl rfl (by omega)
      refine j_aload_n hx 1 dX12_law_61 rfl ?_
      refine j_callV hx hG (c_X12_stays hst a) lk_RX12_207 ha (by decide) rfl rfl rfl rfl [] ⟨rfl, hG, hS_s3, ha⟩ rfl rfl ⟨by decide, by decide⟩ ⟨by decide, by decide⟩ (k2 := 0) (n2 := 0) rfl rfl (Nat.le_of_ble_eq_true rfl) dX12_law_62 (kVM (fun s4 hS_s4 hF_s4 q17 => ?_))
      refine j_iload_n hx 0 dX12_law_65 rfl ?_
      exact j_iret hx hq rfl (by decide) (by decide) dX12_law_66 ⟨(s0 (gP G a 27) (v7).toNat), rfl, rfl, hS_s4, (zFr_t (zFr_u (zFr_t (zFr_u zFr_rf e_s1 ha (by decide)) hF_s2 (by decide)) e_s3 (zr (k := 27) (t2 := 84) hG ha rfl) (by decide)) hF_s4 (by decide)), (by omega)⟩
    · skip
      refine j_iconst hx dX12_law_37 ?_
      exact j_iret hx hq rfl (by decide) (by decide) dX12_law_38 ⟨0, rfl, rfl, hS_s2, (zFr_t (zFr_u zFr_rf e_s1 ha (by decide)) hF_s2 (by decide)), (by omega)⟩
  · skip
    refine j_iload_n hx 2 dX12_law_15 rfl ?_
    refine j_iconst hx dX12_law_16 ?_
    refine j_iconst hx dX12_law_17 ?_
    refine j_callS hx (c_X12_within hst x2 0 2) lk_RX12_314 [.int (zI x2), .int (zI 0), .int (zI 2)] ⟨rfl, hG, hS_s1, (by omega), (by omega), (by omega)⟩ rfl rfl ⟨by decide, by decide⟩ ⟨by decide, by decide⟩ (k2 := 0) (n2 := 0) rfl rfl (Nat.le_of_ble_eq_true rfl) dX12_law_18 (kIP (fun v18 q19 => ?_))
    refine j_if_eq hx 28 dX12_law_21 rfl (by omega) (fun h20 => ?_) (fun h20 => ?_)
    · skip
      refine j_iconst hx dX12_law_28 ?_
      refine j_iconst hx dX12_law_29 ?_
      refine j_iconst hx dX12_law_30 ?_
      refine j_callV hx hG (c_X12_may hst a 0 1 1) lk_RX12_240 ha (by decide) rfl rfl rfl rfl [.int (zI 0), .int (zI 1), .int (zI 1)] ⟨rfl, hG, hS_s1, ha, (by omega), (by omega), (by omega)⟩ rfl rfl ⟨by decide, by decide⟩ ⟨by decide, by decide⟩ (k2 := 0) (n2 := 0) rfl rfl (Nat.le_of_ble_eq_true rfl) dX12_law_31 (kIM (fun v21 s5 hS_s5 hF_s5 q22 => ?_))
      refine j_if_ne hx 39 dX12_law_34 rfl (by omega) (fun h23 => ?_) (fun h23 => ?_)
      · skip
        refine j_aload_n hx 0 dX12_law_39 rfl ?_
        refine g13_27 hx hG ha kf_RX12_56 dX12_law_40 ?_
        refine j_sipush hx dX12_law_43 rfl ?_
        refine j_iload_n hx 1 dX12_law_46 rfl ?_
        refine j_iadd hx (r := x1 + 491) dX12_law_47 (by omega) ?_
        refine j_norm (fun v24 f25 f26 f27 => ?_)
        have f28 := zaI (j := (v24).toNat) hS0 (zr (k := 27) (t2 := 84) hG ha rfl) rfl (zlen hG (zr (k := 27) (t2 := 84) hG ha rfl) (n := 515) rfl rfl) (show 0 ≤ v24 by omega) (by omega) rfl
        refine j_iald hx hG (zr (k := 27) (t2 := 84) hG ha rfl) (by decide) rfl (zlen hG (zr (k := 27) (t2 := 84) hG ha rfl) (n := 515) rfl rfl) (by omega) (by omega) (j := (v24).toNat) rfl (v := (s0 (gP G a 27) (v24).toNat)) (by rw [(zFr_g hF_s5 (zr (k := 27) (t2 := 84) hG ha rfl) (by decide)), e_s1, zU_at (Or.inl (zne ha (zr (k := 27) (t2 := 84) hG ha rfl) (by decide)))]) dX12_law_48 ?_
        refine j_istore_n hx [(3, .int (zI ((s0 (gP G a 27) (v24).toNat)))), (0, .ref a), (1, .int (zI x1)), (2, .int (zI x2))] dX12_law_49 (by decide) rfl ?_
        refine j_aload_n hx 1 dX12_law_50 rfl ?_
        refine g13_27 hx hG ha kf_RX12_56 dX12_law_51 ?_
        refine j_sipush hx dX12_law_54 rfl ?_
        refine j_iload_n hx 2 dX12_law_57 rfl ?_
        refine j_iadd hx (r := x1 + 491) dX12_law_58 (by omega) ?_
        refine j_norm (fun v29 f30 f31 f32 => ?_)
        refine j_iload_n hx 3 dX12_law_59 rfl ?_
        refine j_iast hx hG (zr (k := 27) (t2 := 84) hG ha rfl) (by decide) rfl (zlen hG (zr (k := 27) (t2 := 84) hG ha rfl) (n := 515) rfl rfl) (by omega) (by omega) (j := (v29).toNat) rfl dX12_law_60 ?_
        obtain ⟨s6, e_s6⟩ : ∃ z, z = zU s5 (gP G a 27) (v29).toNat x2 := ⟨_, rfl⟩
        rw [← e_s6]
        have hS_s6 : zSK G s6 := by rw [e_s6]; exact zSK_A hS_s5 (zr (k := 27) (t2 := 84) hG ha rfl) rfl rfl rfl (by omega)
        refine j_aload_n hx 1 dX12_law_61 rfl ?_
        refine j_callV hx hG (c_X12_stays hst a) lk_RX12_207 ha (by decide) rfl rfl rfl rfl [] ⟨rfl, hG, hS_s6, ha⟩ rfl rfl ⟨by decide, by decide⟩ ⟨by decide, by decide⟩ (k2 := 0) (n2 := 0) rfl rfl (Nat.le_of_ble_eq_true rfl) dX12_law_62 (kVM (fun s7 hS_s7 hF_s7 q34 => ?_))
        refine j_iload_n hx 0 dX12_law_65 rfl ?_
        exact j_iret hx hq rfl (by decide) (by decide) dX12_law_66 ⟨(s0 (gP G a 27) (v24).toNat), rfl, rfl, hS_s7, (zFr_t (zFr_u (zFr_t (zFr_u zFr_rf e_s1 ha (by decide)) hF_s5 (by decide)) e_s6 (zr (k := 27) (t2 := 84) hG ha rfl) (by decide)) hF_s7 (by decide)), (by omega)⟩
      · skip
        refine j_iconst hx dX12_law_37 ?_
        exact j_iret hx hq rfl (by decide) (by decide) dX12_law_38 ⟨0, rfl, rfl, hS_s5, (zFr_t (zFr_u zFr_rf e_s1 ha (by decide)) hF_s5 (by decide)), (by omega)⟩
    · skip
      refine j_iconst hx dX12_law_24 ?_
      refine j_goto hx 29 dX12_law_25 rfl ?_
      refine j_iconst hx dX12_law_29 ?_
      refine j_iconst hx dX12_law_30 ?_
      refine j_callV hx hG (c_X12_may hst a 1 1 1) lk_RX12_240 ha (by decide) rfl rfl rfl rfl [.int (zI 1), .int (zI 1), .int (zI 1)] ⟨rfl, hG, hS_s1, ha, (by omega), (by omega), (by omega)⟩ rfl rfl ⟨by decide, by decide⟩ ⟨by decide, by decide⟩ (k2 := 0) (n2 := 0) rfl rfl (Nat.le_of_ble_eq_true rfl) dX12_law_31 (kIM (fun v35 s8 hS_s8 hF_s8 q36 => ?_))
      refine j_if_ne hx 39 dX12_law_34 rfl (by omega) (fun h37 => ?_) (fun h37 => ?_)
      · skip
        refine j_aload_n hx 0 dX12_law_39 rfl ?_
        refine g13_27 hx hG ha kf_RX12_56 dX12_law_40 ?_
        refine j_sipush hx dX12_law_43 rfl ?_
        refine j_iload_n hx 1 dX12_law_46 rfl ?_
        refine j_iadd hx (r := x1 + 491) dX12_law_47 (by omega) ?_
        refine j_norm (fun v38 f39 f40 f41 => ?_)
        have f42 := zaI (j := (v38).toNat) hS0 (zr (k := 27) (t2 := 84) hG ha rfl) rfl (zlen hG (zr (k := 27) (t2 := 84) hG ha rfl) (n := 515) rfl rfl) (show 0 ≤ v38 by omega) (by omega) rfl
        refine j_iald hx hG (zr (k := 27) (t2 := 84) hG ha rfl) (by decide) rfl (zlen hG (zr (k := 27) (t2 := 84) hG ha rfl) (n := 515) rfl rfl) (by omega) (by omega) (j := (v38).toNat) rfl (v := (s0 (gP G a 27) (v38).toNat)) (by rw [(zFr_g hF_s8 (zr (k := 27) (t2 := 84) hG ha rfl) (by decide)), e_s1, zU_at (Or.inl (zne ha (zr (k := 27) (t2 := 84) hG ha rfl) (by decide)))]) dX12_law_48 ?_
        refine j_istore_n hx [(3, .int (zI ((s0 (gP G a 27) (v38).toNat)))), (0, .ref a), (1, .int (zI x1)), (2, .int (zI x2))] dX12_law_49 (by decide) rfl ?_
        refine j_aload_n hx 1 dX12_law_50 rfl ?_
        refine g13_27 hx hG ha kf_RX12_56 dX12_law_51 ?_
        refine j_sipush hx dX12_law_54 rfl ?_
        refine j_iload_n hx 2 dX12_law_57 rfl ?_
        refine j_iadd hx (r := x1 + 491) dX12_law_58 (by omega) ?_
        refine j_norm (fun v43 f44 f45 f46 => ?_)
        refine j_iload_n hx 3 dX12_law_59 rfl ?_
        refine j_iast hx hG (zr (k := 27) (t2 := 84) hG ha rfl) (by decide) rfl (zlen hG (zr (k := 27) (t2 := 84) hG ha rfl) (n := 515) rfl rfl) (by omega) (by omega) (j := (v43).toNat) rfl dX12_law_60 ?_
        obtain ⟨s9, e_s9⟩ : ∃ z, z = zU s8 (gP G a 27) (v43).toNat x2 := ⟨_, rfl⟩
        rw [← e_s9]
        have hS_s9 : zSK G s9 := by rw [e_s9]; exact zSK_A hS_s8 (zr (k := 27) (t2 := 84) hG ha rfl) rfl rfl rfl (by omega)
        refine j_aload_n hx 1 dX12_law_61 rfl ?_
        refine j_callV hx hG (c_X12_stays hst a) lk_RX12_207 ha (by decide) rfl rfl rfl rfl [] ⟨rfl, hG, hS_s9, ha⟩ rfl rfl ⟨by decide, by decide⟩ ⟨by decide, by decide⟩ (k2 := 0) (n2 := 0) rfl rfl (Nat.le_of_ble_eq_true rfl) dX12_law_62 (kVM (fun s10 hS_s10 hF_s10 q48 => ?_))
        refine j_iload_n hx 0 dX12_law_65 rfl ?_
        exact j_iret hx hq rfl (by decide) (by decide) dX12_law_66 ⟨(s0 (gP G a 27) (v38).toNat), rfl, rfl, hS_s10, (zFr_t (zFr_u (zFr_t (zFr_u zFr_rf e_s1 ha (by decide)) hF_s8 (by decide)) e_s9 (zr (k := 27) (t2 := 84) hG ha rfl) (by decide)) hF_s10 (by decide)), (by omega)⟩
      · skip
        refine j_iconst hx dX12_law_37 ?_
        exact j_iret hx hq rfl (by decide) (by decide) dX12_law_38 ⟨0, rfl, rfl, hS_s8, (zFr_t (zFr_u zFr_rf e_s1 ha (by decide)) hF_s8 (by decide)), (by omega)⟩

set_option maxHeartbeats 4000000 in
set_option maxRecDepth 20000 in
theorem c_X12_draws {E : zE} {l : Launch} (hst : l.stackTraces = false) (a : Nat) (x1 : Int) : Con E l yX12_draws cX12_draws 2 none { frames := 1, cells := 0, slots := 0, locals := 21 } (fun G s vs => vs = [.ref a, .int (zI x1)] ∧ zGK G ∧ zSK G s ∧ (gT G a = 13) ∧ ((-2147483648) ≤ x1 ∧ x1 ≤ 2147483647) ∧ (zS0 G s)) (fun G s _ => pV (fun G2 s2 => G2 = G ∧ zSK G s2 ∧ zFr [13, 84, 85] G s s2 ∧ True)) := by
  refine Con.mk hst (by decide) (fun G s vs h => by rw [h.1]; exact Nat.le_of_ble_eq_true rfl) ?_
  rintro X G s0 vs ⟨rfl, hG, hS0, ha, hx1, hF0⟩ rfl hx hq
  show JJ X E 2 G s0 0 0 [(0, .ref a), (1, .int (zI x1))] 0 []
  refine j_aload_n hx 0 dX12_draws_0 rfl ?_
  refine j_iconst hx dX12_draws_1 ?_
  refine p13_0 hx hG ha kf_RX12_3 dX12_draws_2 ?_
  obtain ⟨s1, e_s1⟩ : ∃ z, z = zU s0 a 0 0 := ⟨_, rfl⟩
  rw [← e_s1]
  have hS_s1 : zSK G s1 := by rw [e_s1]; exact zSK_F hS0 ha rfl rfl rfl (by omega)
  refine j_aload_n hx 0 dX12_draws_5 rfl ?_
  refine g13_27 hx hG ha kf_RX12_56 dX12_draws_6 ?_
  refine j_sipush hx dX12_draws_9 rfl ?_
  refine j_iload_n hx 1 dX12_draws_12 rfl ?_
  refine j_iast hx hG (zr (k := 27) (t2 := 84) hG ha rfl) (by decide) rfl (zlen hG (zr (k := 27) (t2 := 84) hG ha rfl) (n := 515) rfl rfl) (by omega) (by omega) (j := 489) rfl dX12_draws_13 ?_
  obtain ⟨s2, e_s2⟩ : ∃ z, z = zU s1 (gP G a 27) 489 x1 := ⟨_, rfl⟩
  rw [← e_s2]
  have hS_s2 : zSK G s2 := by rw [e_s2]; exact zSK_A hS_s1 (zr (k := 27) (t2 := 84) hG ha rfl) rfl rfl rfl (by omega)
  refine j_aload_n hx 0 dX12_draws_14 rfl ?_
  refine g13_27 hx hG ha kf_RX12_56 dX12_draws_15 ?_
  refine j_sipush hx dX12_draws_18 rfl ?_
  refine j_iconst hx dX12_draws_21 ?_
  refine j_iast hx hG (zr (k := 27) (t2 := 84) hG ha rfl) (by decide) rfl (zlen hG (zr (k := 27) (t2 := 84) hG ha rfl) (n := 515) rfl rfl) (by omega) (by omega) (j := 490) rfl dX12_draws_22 ?_
  obtain ⟨s3, e_s3⟩ : ∃ z, z = zU s2 (gP G a 27) 490 1 := ⟨_, rfl⟩
  rw [← e_s3]
  have hS_s3 : zSK G s3 := by rw [e_s3]; exact zSK_A hS_s2 (zr (k := 27) (t2 := 84) hG ha rfl) rfl rfl rfl (by omega)
  refine j_aload_n hx 0 dX12_draws_23 rfl ?_
  refine j_callV hx hG (c_X12_stays hst a) lk_RX12_207 ha (by decide) rfl rfl rfl rfl [] ⟨rfl, hG, hS_s3, ha⟩ rfl rfl ⟨by decide, by decide⟩ ⟨by decide, by decide⟩ (k2 := 0) (n2 := 0) rfl rfl (Nat.le_of_ble_eq_true rfl) dX12_draws_24 (kVM (fun s4 hS_s4 hF_s4 q2 => ?_))
  exact j_vret hx hq rfl (by decide) (by decide) dX12_draws_27 ⟨rfl, rfl, hS_s4, (zFr_t (zFr_u (zFr_u (zFr_u zFr_rf e_s1 ha (by decide)) e_s2 (zr (k := 27) (t2 := 84) hG ha rfl) (by decide)) e_s3 (zr (k := 27) (t2 := 84) hG ha rfl) (by decide)) hF_s4 (by decide)), trivial⟩

set_option maxHeartbeats 4000000 in
set_option maxRecDepth 20000 in
theorem c_X12_still {E : zE} {l : Launch} (hst : l.stackTraces = false) (a : Nat) : Con E l yX12_still cX12_still 2 (some .int) { frames := 1, cells := 0, slots := 0, locals := 21 } (fun G s vs => vs = [.ref a] ∧ zGK G ∧ zSK G s ∧ (gT G a = 13) ∧ (zS0 G s)) (fun G s _ => pI (fun r G2 s2 => G2 = G ∧ zSK G s2 ∧ zFr [13, 84, 85] G s s2 ∧ ((-2147483648) ≤ r ∧ r ≤ 2147483647))) := by
  refine Con.mk hst (by decide) (fun G s vs h => by rw [h.1]; exact Nat.le_of_ble_eq_true rfl) ?_
  rintro X G s0 vs ⟨rfl, hG, hS0, ha, hF0⟩ rfl hx hq
  show JJ X E 2 G s0 0 0 [(0, .ref a)] 0 []
  refine j_aload_n hx 0 dX12_still_0 rfl ?_
  refine j_iconst hx dX12_still_1 ?_
  refine p13_0 hx hG ha kf_RX12_3 dX12_still_2 ?_
  obtain ⟨s1, e_s1⟩ : ∃ z, z = zU s0 a 0 0 := ⟨_, rfl⟩
  rw [← e_s1]
  have hS_s1 : zSK G s1 := by rw [e_s1]; exact zSK_F hS0 ha rfl rfl rfl (by omega)
  refine j_aload_n hx 0 dX12_still_5 rfl ?_
  refine g13_27 hx hG ha kf_RX12_56 dX12_still_6 ?_
  refine j_sipush hx dX12_still_9 rfl ?_
  have f1 := z0a (j := 490) hF0 (zr (k := 27) (t2 := 84) hG ha rfl) rfl (zlen hG (zr (k := 27) (t2 := 84) hG ha rfl) (n := 515) rfl rfl) (show 0 ≤ 490 by omega) (by omega) rfl
  refine j_iald hx hG (zr (k := 27) (t2 := 84) hG ha rfl) (by decide) rfl (zlen hG (zr (k := 27) (t2 := 84) hG ha rfl) (n := 515) rfl rfl) (by omega) (by omega) (j := 490) rfl (v := (s0 (gP G a 27) 490)) (by rw [e_s1, zU_at (Or.inl (zne ha (zr (k := 27) (t2 := 84) hG ha rfl) (by decide)))]) dX12_still_12 ?_
  refine j_istore_n hx [(1, .int (zI ((s0 (gP G a 27) 490)))), (0, .ref a)] dX12_still_13 (by decide) rfl ?_
  refine j_aload_n hx 1 dX12_still_14 rfl ?_
  refine g13_27 hx hG ha kf_RX12_56 dX12_still_15 ?_
  refine j_sipush hx dX12_still_18 rfl ?_
  refine j_iconst hx dX12_still_21 ?_
  refine j_iast hx hG (zr (k := 27) (t2 := 84) hG ha rfl) (by decide) rfl (zlen hG (zr (k := 27) (t2 := 84) hG ha rfl) (n := 515) rfl rfl) (by omega) (by omega) (j := 490) rfl dX12_still_22 ?_
  obtain ⟨s2, e_s2⟩ : ∃ z, z = zU s1 (gP G a 27) 490 0 := ⟨_, rfl⟩
  rw [← e_s2]
  have hS_s2 : zSK G s2 := by rw [e_s2]; exact zSK_A hS_s1 (zr (k := 27) (t2 := 84) hG ha rfl) rfl rfl rfl (by omega)
  refine j_aload_n hx 1 dX12_still_23 rfl ?_
  refine j_callV hx hG (c_X12_stays hst a) lk_RX12_207 ha (by decide) rfl rfl rfl rfl [] ⟨rfl, hG, hS_s2, ha⟩ rfl rfl ⟨by decide, by decide⟩ ⟨by decide, by decide⟩ (k2 := 0) (n2 := 0) rfl rfl (Nat.le_of_ble_eq_true rfl) dX12_still_24 (kVM (fun s3 hS_s3 hF_s3 q3 => ?_))
  refine j_iload_n hx 0 dX12_still_27 rfl ?_
  exact j_iret hx hq rfl (by decide) (by decide) dX12_still_28 ⟨(s0 (gP G a 27) 490), rfl, rfl, hS_s3, (zFr_t (zFr_u (zFr_u zFr_rf e_s1 ha (by decide)) e_s2 (zr (k := 27) (t2 := 84) hG ha rfl) (by decide)) hF_s3 (by decide)), (by omega)⟩

set_option maxHeartbeats 4000000 in
set_option maxRecDepth 20000 in
theorem c_X12_take {E : zE} {l : Launch} (hst : l.stackTraces = false) (a : Nat) (x1 : Int) (x2 : Int) (x3 : Int) (x4 : Int) : Con E l yX12_take cX12_take 6 none { frames := 0, cells := 0, slots := 0, locals := 0 } (fun G s vs => vs = [.ref a, .int (zI x1), .int (zI x2), .int (zI x3), .int (zI x4)] ∧ zGK G ∧ zSK G s ∧ (gT G a = 13) ∧ ((-2147483648) ≤ x1 ∧ x1 ≤ 2147483647) ∧ ((-2147483648) ≤ x2 ∧ x2 ≤ 2147483647) ∧ ((-2147483648) ≤ x3 ∧ x3 ≤ 2147483647) ∧ ((-2147483648) ≤ x4 ∧ x4 ≤ 2147483647)) (fun G s _ => pV (fun G2 s2 => G2 = G ∧ zSK G s2 ∧ zFr [84] G s s2 ∧ True)) := by
  refine Con.mk hst (by decide) (fun G s vs h => by rw [h.1]; exact Nat.le_of_ble_eq_true rfl) ?_
  rintro X G s0 vs ⟨rfl, hG, hS0, ha, hx1, hx2, hx3, hx4⟩ rfl hx hq
  show JJ X E 6 G s0 0 0 [(0, .ref a), (1, .int (zI x1)), (2, .int (zI x2)), (3, .int (zI x3)), (4, .int (zI x4))] 0 []
  refine j_iconst hx dX12_take_0 ?_
  refine j_istore hx [(5, .int (zI 0)), (0, .ref a), (1, .int (zI x1)), (2, .int (zI x2)), (3, .int (zI x3)), (4, .int (zI x4))] dX12_take_1 (by decide) rfl ?_
  have c3_1 : ∀ (m_c3_1 : Nat) (v1 : Int) (s2 : zS), 2147483648 - v1 < m_c3_1 → (0 ≤ v1 ∧ v1 ≤ 2147483647) → (zSK G s2) → (zFr [84] G s0 s2) → JJ X E 6 G s2 0 0 [(0, .ref a), (1, .int (zI x1)), (2, .int (zI x2)), (3, .int (zI x3)), (4, .int (zI x4)), (5, .int (zI v1))] 3 [] := by
    intro m_c3_1
    induction m_c3_1 with
    | zero => intro v1 s2 hm_c3_1 f3 hS_s2 hF_s2; exfalso; omega
    | succ m_c3_1 ih_c3_1 => 
      intro v1 s2 hm_c3_1 f3 hS_s2 hF_s2
      refine j_iload hx 5 dX12_take_3 rfl ?_
      refine j_aload_n hx 0 dX12_take_5 rfl ?_
      refine g13_27 hx hG ha kf_RX12_56 dX12_take_6 ?_
      refine j_iload_n hx 2 dX12_take_9 rfl ?_
      have f2 := zaI (j := (x2).toNat) hS_s2 (zr (k := 27) (t2 := 84) hG ha rfl) rfl (zlen hG (zr (k := 27) (t2 := 84) hG ha rfl) (n := 515) rfl rfl) (show 0 ≤ x2 by omega) (by omega) rfl
      refine j_iald hx hG (zr (k := 27) (t2 := 84) hG ha rfl) (by decide) rfl (zlen hG (zr (k := 27) (t2 := 84) hG ha rfl) (n := 515) rfl rfl) (by omega) (by omega) (j := (x2).toNat) rfl rfl dX12_take_10 ?_
      refine j_icmp_ge hx 46 dX12_take_11 rfl (by omega) (by omega) (fun h3 => ?_) (fun h3 => ?_)
      · skip
        exact j_vret hx hq rfl (by decide) (by decide) dX12_take_46 ⟨rfl, rfl, hS_s2, (zFr_t zFr_rf hF_s2 (by decide)), trivial⟩
      · skip
        refine j_aload_n hx 0 dX12_take_14 rfl ?_
        refine g13_27 hx hG ha kf_RX12_56 dX12_take_15 ?_
        refine j_iload_n hx 3 dX12_take_18 rfl ?_
        refine j_aload_n hx 0 dX12_take_19 rfl ?_
        refine g13_27 hx hG ha kf_RX12_56 dX12_take_20 ?_
        refine j_iload hx 4 dX12_take_23 rfl ?_
        have f4 := zaI (j := (x4).toNat) hS_s2 (zr (k := 27) (t2 := 84) hG ha rfl) rfl (zlen hG (zr (k := 27) (t2 := 84) hG ha rfl) (n := 515) rfl rfl) (show 0 ≤ x4 by omega) (by omega) rfl
        refine j_iald hx hG (zr (k := 27) (t2 := 84) hG ha rfl) (by decide) rfl (zlen hG (zr (k := 27) (t2 := 84) hG ha rfl) (n := 515) rfl rfl) (by omega) (by omega) (j := (x4).toNat) rfl rfl dX12_take_25 ?_
        refine j_iadd hx (r := x3 + (s2 (gP G a 27) (x4).toNat)) dX12_take_26 (by omega) ?_
        refine j_norm (fun v5 f6 f7 f8 => ?_)
        refine j_iload hx 5 dX12_take_27 rfl ?_
        refine j_iadd hx (r := v5 + v1) dX12_take_29 rfl ?_
        refine j_norm (fun v9 f10 f11 f12 => ?_)
        refine j_aload_n hx 0 dX12_take_30 rfl ?_
        refine g13_27 hx hG ha kf_RX12_56 dX12_take_31 ?_
        refine j_iload_n hx 1 dX12_take_34 rfl ?_
        refine j_iload hx 5 dX12_take_35 rfl ?_
        refine j_iadd hx (r := x1 + v1) dX12_take_37 rfl ?_
        refine j_norm (fun v13 f14 f15 f16 => ?_)
        have f17 := zaI (j := (v13).toNat) hS_s2 (zr (k := 27) (t2 := 84) hG ha rfl) rfl (zlen hG (zr (k := 27) (t2 := 84) hG ha rfl) (n := 515) rfl rfl) (show 0 ≤ v13 by omega) (by omega) rfl
        refine j_iald hx hG (zr (k := 27) (t2 := 84) hG ha rfl) (by decide) rfl (zlen hG (zr (k := 27) (t2 := 84) hG ha rfl) (n := 515) rfl rfl) (by omega) (by omega) (j := (v13).toNat) rfl rfl dX12_take_38 ?_
        refine j_iast hx hG (zr (k := 27) (t2 := 84) hG ha rfl) (by decide) rfl (zlen hG (zr (k := 27) (t2 := 84) hG ha rfl) (n := 515) rfl rfl) (by omega) (by omega) (j := (v9).toNat) rfl dX12_take_39 ?_
        obtain ⟨s6, e_s6⟩ : ∃ z, z = zU s2 (gP G a 27) (v9).toNat ((s2 (gP G a 27) (v13).toNat)) := ⟨_, rfl⟩
        rw [← e_s6]
        have hS_s6 : zSK G s6 := by rw [e_s6]; exact zSK_A hS_s2 (zr (k := 27) (t2 := 84) hG ha rfl) rfl rfl rfl (by omega)
        refine j_iinc hx 5 [(5, .int (zI (v1 + 1))), (0, .ref a), (1, .int (zI x1)), (2, .int (zI x2)), (3, .int (zI x3)), (4, .int (zI x4))] dX12_take_40 rfl (by omega) (by decide) rfl ?_
        refine j_goto hx 3 dX12_take_43 rfl ?_
        exact j_sub [1, 2, 3, 4, 5, 0] [(0, .ref a), (1, .int (zI x1)), (2, .int (zI x2)), (3, .int (zI x3)), (4, .int (zI x4)), (5, .int (zI (v1 + 1)))] rfl (ih_c3_1 (v1 + 1) s6 (by omega) (by omega) hS_s6 (zFr_u (zFr_t zFr_rf hF_s2 (by decide)) e_s6 (zr (k := 27) (t2 := 84) hG ha rfl) (by decide)))
  exact j_sub [1, 2, 3, 4, 5, 0] [(0, .ref a), (1, .int (zI x1)), (2, .int (zI x2)), (3, .int (zI x3)), (4, .int (zI x4)), (5, .int (zI 0))] rfl (c3_1 (2147483648 * 4) 0 s0 (by omega) (by omega) hS0 zFr_rf)

theorem lk_RX12_361 : LkV RX12 361 RX12 yX12_take cX12_take 6 none 4 := ⟨km_RX12_361, ki_yX12_take, ks_RX12_yX12_take, kn_RX12, kc_yX12_take, rfl, by decide +kernel, by decide +kernel, by decide +kernel⟩
set_option maxHeartbeats 4000000 in
set_option maxRecDepth 20000 in
theorem c_X12_comes {E : zE} {l : Launch} (hst : l.stackTraces = false) (a : Nat) (x1 : Int) (x2 : Int) (x3 : Int) : Con E l yX12_comes cX12_comes 4 none { frames := 1, cells := 0, slots := 0, locals := 25 } (fun G s vs => vs = [.ref a, .int (zI x1), .int (zI x2), .int (zI x3)] ∧ zGK G ∧ zSK G s ∧ (gT G a = 13) ∧ ((-2147483648) ≤ x1 ∧ x1 ≤ 2147483647) ∧ ((-2147483648) ≤ x2 ∧ x2 ≤ 2147483647) ∧ ((-2147483648) ≤ x3 ∧ x3 ≤ 2147483647)) (fun G s _ => pV (fun G2 s2 => G2 = G ∧ zSK G s2 ∧ zFr [84] G s s2 ∧ True)) := by
  refine Con.mk hst (by decide) (fun G s vs h => by rw [h.1]; exact Nat.le_of_ble_eq_true rfl) ?_
  rintro X G s0 vs ⟨rfl, hG, hS0, ha, hx1, hx2, hx3⟩ rfl hx hq
  show JJ X E 4 G s0 0 0 [(0, .ref a), (1, .int (zI x1)), (2, .int (zI x2)), (3, .int (zI x3))] 0 []
  refine j_aload_n hx 0 dX12_comes_0 rfl ?_
  refine j_sipush hx dX12_comes_1 rfl ?_
  refine j_bipush hx dX12_comes_4 rfl ?_
  refine j_iload_n hx 1 dX12_comes_6 rfl ?_
  refine j_imul hx (r := 60 * x1) dX12_comes_7 rfl ?_
  refine j_norm (fun v1 f2 f3 f4 => ?_)
  refine j_iadd hx (r := v1 + 180) dX12_comes_8 (by omega) ?_
  refine j_norm (fun v5 f6 f7 f8 => ?_)
  refine j_sipush hx dX12_comes_9 rfl ?_
  refine j_iload_n hx 1 dX12_comes_12 rfl ?_
  refine j_iadd hx (r := x1 + 483) dX12_comes_13 (by omega) ?_
  refine j_norm (fun v9 f10 f11 f12 => ?_)
  refine j_iload_n hx 2 dX12_comes_14 rfl ?_
  refine j_iload_n hx 3 dX12_comes_15 rfl ?_
  refine j_callV hx hG (c_X12_take hst a v5 v9 x2 x3) lk_RX12_361 ha (by decide) rfl rfl rfl rfl [.int (zI v5), .int (zI v9), .int (zI x2), .int (zI x3)] ⟨rfl, hG, hS0, ha, (by omega), (by omega), (by omega), (by omega)⟩ rfl rfl ⟨by decide, by decide⟩ ⟨by decide, by decide⟩ (k2 := 0) (n2 := 0) rfl rfl (Nat.le_of_ble_eq_true rfl) dX12_comes_16 (kVM (fun s1 hS_s1 hF_s1 q14 => ?_))
  refine j_aload_n hx 0 dX12_comes_19 rfl ?_
  refine g13_27 hx hG ha kf_RX12_56 dX12_comes_20 ?_
  refine j_iload_n hx 3 dX12_comes_23 rfl ?_
  refine j_dup2 hx dX12_comes_24 rfl rfl ?_
  have f15 := zaI (j := (x3).toNat) hS_s1 (zr (k := 27) (t2 := 84) hG ha rfl) rfl (zlen hG (zr (k := 27) (t2 := 84) hG ha rfl) (n := 515) rfl rfl) (show 0 ≤ x3 by omega) (by omega) rfl
  refine j_iald hx hG (zr (k := 27) (t2 := 84) hG ha rfl) (by decide) rfl (zlen hG (zr (k := 27) (t2 := 84) hG ha rfl) (n := 515) rfl rfl) (by omega) (by omega) (j := (x3).toNat) rfl rfl dX12_comes_25 ?_
  refine j_aload_n hx 0 dX12_comes_26 rfl ?_
  refine g13_27 hx hG ha kf_RX12_56 dX12_comes_27 ?_
  refine j_sipush hx dX12_comes_30 rfl ?_
  refine j_iload_n hx 1 dX12_comes_33 rfl ?_
  refine j_iadd hx (r := x1 + 483) dX12_comes_34 (by omega) ?_
  refine j_norm (fun v16 f17 f18 f19 => ?_)
  have f20 := zaI (j := (v16).toNat) hS_s1 (zr (k := 27) (t2 := 84) hG ha rfl) rfl (zlen hG (zr (k := 27) (t2 := 84) hG ha rfl) (n := 515) rfl rfl) (show 0 ≤ v16 by omega) (by omega) rfl
  refine j_iald hx hG (zr (k := 27) (t2 := 84) hG ha rfl) (by decide) rfl (zlen hG (zr (k := 27) (t2 := 84) hG ha rfl) (n := 515) rfl rfl) (by omega) (by omega) (j := (v16).toNat) rfl rfl dX12_comes_35 ?_
  refine j_iadd hx (r := (s1 (gP G a 27) (x3).toNat) + (s1 (gP G a 27) (v16).toNat)) dX12_comes_36 (by omega) ?_
  refine j_norm (fun v21 f22 f23 f24 => ?_)
  refine j_iast hx hG (zr (k := 27) (t2 := 84) hG ha rfl) (by decide) rfl (zlen hG (zr (k := 27) (t2 := 84) hG ha rfl) (n := 515) rfl rfl) (by omega) (by omega) (j := (x3).toNat) rfl dX12_comes_37 ?_
  obtain ⟨s2, e_s2⟩ : ∃ z, z = zU s1 (gP G a 27) (x3).toNat v21 := ⟨_, rfl⟩
  rw [← e_s2]
  have hS_s2 : zSK G s2 := by rw [e_s2]; exact zSK_A hS_s1 (zr (k := 27) (t2 := 84) hG ha rfl) rfl rfl rfl (by omega)
  refine j_aload_n hx 0 dX12_comes_38 rfl ?_
  refine g13_27 hx hG ha kf_RX12_56 dX12_comes_39 ?_
  refine j_sipush hx dX12_comes_42 rfl ?_
  refine j_iload_n hx 1 dX12_comes_45 rfl ?_
  refine j_iadd hx (r := x1 + 483) dX12_comes_46 (by omega) ?_
  refine j_norm (fun v25 f26 f27 f28 => ?_)
  refine j_iconst hx dX12_comes_47 ?_
  refine j_iast hx hG (zr (k := 27) (t2 := 84) hG ha rfl) (by decide) rfl (zlen hG (zr (k := 27) (t2 := 84) hG ha rfl) (n := 515) rfl rfl) (by omega) (by omega) (j := (v25).toNat) rfl dX12_comes_48 ?_
  obtain ⟨s3, e_s3⟩ : ∃ z, z = zU s2 (gP G a 27) (v25).toNat 0 := ⟨_, rfl⟩
  rw [← e_s3]
  have hS_s3 : zSK G s3 := by rw [e_s3]; exact zSK_A hS_s2 (zr (k := 27) (t2 := 84) hG ha rfl) rfl rfl rfl (by omega)
  exact j_vret hx hq rfl (by decide) (by decide) dX12_comes_49 ⟨rfl, rfl, hS_s3, (zFr_u (zFr_u (zFr_t zFr_rf hF_s1 (by decide)) e_s2 (zr (k := 27) (t2 := 84) hG ha rfl) (by decide)) e_s3 (zr (k := 27) (t2 := 84) hG ha rfl) (by decide)), trivial⟩

theorem lk_RX12_365 : LkV RX12 365 RX12 yX12_comes cX12_comes 4 none 3 := ⟨km_RX12_365, ki_yX12_comes, ks_RX12_yX12_comes, kn_RX12, kc_yX12_comes, rfl, by decide +kernel, by decide +kernel, by decide +kernel⟩
set_option maxHeartbeats 4000000 in
set_option maxRecDepth 20000 in
theorem c_X12_comesToRow {E : zE} {l : Launch} (hst : l.stackTraces = false) (a : Nat) (x1 : Int) (x2 : Int) : Con E l yX12_comesToRow cX12_comesToRow 3 none { frames := 2, cells := 0, slots := 0, locals := 48 } (fun G s vs => vs = [.ref a, .int (zI x1), .int (zI x2)] ∧ zGK G ∧ zSK G s ∧ (gT G a = 13) ∧ ((-2147483648) ≤ x1 ∧ x1 ≤ 2147483647) ∧ ((-2147483648) ≤ x2 ∧ x2 ≤ 2147483647)) (fun G s _ => pV (fun G2 s2 => G2 = G ∧ zSK G s2 ∧ zFr [84] G s s2 ∧ True)) := by
  refine Con.mk hst (by decide) (fun G s vs h => by rw [h.1]; exact Nat.le_of_ble_eq_true rfl) ?_
  rintro X G s0 vs ⟨rfl, hG, hS0, ha, hx1, hx2⟩ rfl hx hq
  show JJ X E 3 G s0 0 0 [(0, .ref a), (1, .int (zI x1)), (2, .int (zI x2))] 0 []
  refine j_aload_n hx 0 dX12_comesToRow_0 rfl ?_
  refine j_iload_n hx 1 dX12_comesToRow_1 rfl ?_
  refine j_iconst hx dX12_comesToRow_2 ?_
  refine j_bipush hx dX12_comesToRow_3 rfl ?_
  refine j_iload_n hx 2 dX12_comesToRow_5 rfl ?_
  refine j_imul hx (r := 60 * x2) dX12_comesToRow_6 rfl ?_
  refine j_norm (fun v1 f2 f3 f4 => ?_)
  refine j_iadd hx (r := v1) dX12_comesToRow_7 (by omega) ?_
  refine j_sipush hx dX12_comesToRow_8 rfl ?_
  refine j_iload_n hx 2 dX12_comesToRow_11 rfl ?_
  refine j_iadd hx (r := x2 + 480) dX12_comesToRow_12 (by omega) ?_
  refine j_norm (fun v5 f6 f7 f8 => ?_)
  refine j_callV hx hG (c_X12_comes hst a x1 v1 v5) lk_RX12_365 ha (by decide) rfl rfl rfl rfl [.int (zI x1), .int (zI v1), .int (zI v5)] ⟨rfl, hG, hS0, ha, (by omega), (by omega), (by omega)⟩ rfl rfl ⟨by decide, by decide⟩ ⟨by decide, by decide⟩ (k2 := 0) (n2 := 0) rfl rfl (Nat.le_of_ble_eq_true rfl) dX12_comesToRow_13 (kVM (fun s1 hS_s1 hF_s1 q10 => ?_))
  exact j_vret hx hq rfl (by decide) (by decide) dX12_comesToRow_16 ⟨rfl, rfl, hS_s1, (zFr_t zFr_rf hF_s1 (by decide)), trivial⟩

theorem lk_RX12_368 : LkV RX12 368 RX12 yX12_comesToRow cX12_comesToRow 3 none 2 := ⟨km_RX12_368, ki_yX12_comesToRow, ks_RX12_yX12_comesToRow, kn_RX12, kc_yX12_comesToRow, rfl, by decide +kernel, by decide +kernel, by decide +kernel⟩
set_option maxHeartbeats 4000000 in
set_option maxRecDepth 20000 in
theorem c_X12_turnsOver {E : zE} {l : Launch} (hst : l.stackTraces = false) (a : Nat) (x1 : Int) : Con E l yX12_turnsOver cX12_turnsOver 2 none { frames := 3, cells := 0, slots := 0, locals := 70 } (fun G s vs => vs = [.ref a, .int (zI x1)] ∧ zGK G ∧ zSK G s ∧ (gT G a = 13) ∧ ((-2147483648) ≤ x1 ∧ x1 ≤ 2147483647)) (fun G s _ => pV (fun G2 s2 => G2 = G ∧ zSK G s2 ∧ zFr [84] G s s2 ∧ True)) := by
  refine Con.mk hst (by decide) (fun G s vs h => by rw [h.1]; exact Nat.le_of_ble_eq_true rfl) ?_
  rintro X G s0 vs ⟨rfl, hG, hS0, ha, hx1⟩ rfl hx hq
  show JJ X E 2 G s0 0 0 [(0, .ref a), (1, .int (zI x1))] 0 []
  refine j_aload_n hx 0 dX12_turnsOver_0 rfl ?_
  refine g13_27 hx hG ha kf_RX12_56 dX12_turnsOver_1 ?_
  refine j_sipush hx dX12_turnsOver_4 rfl ?_
  refine j_iload_n hx 1 dX12_turnsOver_7 rfl ?_
  refine j_iadd hx (r := x1 + 480) dX12_turnsOver_8 (by omega) ?_
  refine j_norm (fun v1 f2 f3 f4 => ?_)
  have f5 := zaI (j := (v1).toNat) hS0 (zr (k := 27) (t2 := 84) hG ha rfl) rfl (zlen hG (zr (k := 27) (t2 := 84) hG ha rfl) (n := 515) rfl rfl) (show 0 ≤ v1 by omega) (by omega) rfl
  refine j_iald hx hG (zr (k := 27) (t2 := 84) hG ha rfl) (by decide) rfl (zlen hG (zr (k := 27) (t2 := 84) hG ha rfl) (n := 515) rfl rfl) (by omega) (by omega) (j := (v1).toNat) rfl rfl dX12_turnsOver_9 ?_
  refine j_if_ne hx 19 dX12_turnsOver_10 rfl (by omega) (fun h6 => ?_) (fun h6 => ?_)
  · skip
    exact j_vret hx hq rfl (by decide) (by decide) dX12_turnsOver_19 ⟨rfl, rfl, hS0, zFr_rf, trivial⟩
  · skip
    refine j_aload_n hx 0 dX12_turnsOver_13 rfl ?_
    refine j_iload_n hx 1 dX12_turnsOver_14 rfl ?_
    refine j_iload_n hx 1 dX12_turnsOver_15 rfl ?_
    refine j_callV hx hG (c_X12_comesToRow hst a x1 x1) lk_RX12_368 ha (by decide) rfl rfl rfl rfl [.int (zI x1), .int (zI x1)] ⟨rfl, hG, hS0, ha, (by omega), (by omega)⟩ rfl rfl ⟨by decide, by decide⟩ ⟨by decide, by decide⟩ (k2 := 0) (n2 := 0) rfl rfl (Nat.le_of_ble_eq_true rfl) dX12_turnsOver_16 (kVM (fun s1 hS_s1 hF_s1 q8 => ?_))
    exact j_vret hx hq rfl (by decide) (by decide) dX12_turnsOver_19 ⟨rfl, rfl, hS_s1, (zFr_t zFr_rf hF_s1 (by decide)), trivial⟩

set_option maxHeartbeats 4000000 in
set_option maxRecDepth 20000 in
theorem c_X12_guesses {E : zE} {l : Launch} (hst : l.stackTraces = false) (a : Nat) (x1 : Int) : Con E l yX12_guesses cX12_guesses 3 none { frames := 0, cells := 0, slots := 0, locals := 0 } (fun G s vs => vs = [.ref a, .int (zI x1)] ∧ zGK G ∧ zSK G s ∧ (gT G a = 13) ∧ ((-2147483648) ≤ x1 ∧ x1 ≤ 2147483647)) (fun G s _ => pV (fun G2 s2 => G2 = G ∧ s2 = s ∧ True)) := by
  refine Con.mk hst (by decide) (fun G s vs h => by rw [h.1]; exact Nat.le_of_ble_eq_true rfl) ?_
  rintro X G s0 vs ⟨rfl, hG, hS0, ha, hx1⟩ rfl hx hq
  show JJ X E 3 G s0 0 0 [(0, .ref a), (1, .int (zI x1))] 0 []
  refine j_iconst hx dX12_guesses_0 ?_
  refine j_istore_n hx [(2, .int (zI 0)), (0, .ref a), (1, .int (zI x1))] dX12_guesses_1 (by decide) rfl ?_
  refine j_iload_n hx 0 dX12_guesses_2 rfl ?_
  refine j_aload_n hx 1 dX12_guesses_3 rfl ?_
  have f1 := zf hS0 ha (k := 24) rfl
  refine g13_24 hx hG ha kf_RX12_189 rfl dX12_guesses_4 ?_
  refine j_icmp_ge hx 48 dX12_guesses_7 rfl ⟨by decide, by decide⟩ (by omega) (fun h2 => ?_) (fun h2 => absurd h2 (by omega))
  exact j_vret hx hq rfl (by decide) (by decide) dX12_guesses_48 ⟨rfl, rfl, rfl, trivial⟩

set_option maxHeartbeats 4000000 in
set_option maxRecDepth 20000 in
theorem c_X12_takesFirst {E : zE} {l : Launch} (hst : l.stackTraces = false) (a : Nat) (x1 : Int) : Con E l yX12_takesFirst cX12_takesFirst 4 (some .int) { frames := 0, cells := 0, slots := 0, locals := 0 } (fun G s vs => vs = [.ref a, .int (zI x1)] ∧ zGK G ∧ zSK G s ∧ (gT G a = 13) ∧ ((-2147483648) ≤ x1 ∧ x1 ≤ 2147483647)) (fun G s _ => pI (fun r G2 s2 => G2 = G ∧ zSK G s2 ∧ zFr [84] G s s2 ∧ ((-2147483648) ≤ r ∧ r ≤ 2147483647))) := by
  refine Con.mk hst (by decide) (fun G s vs h => by rw [h.1]; exact Nat.le_of_ble_eq_true rfl) ?_
  rintro X G s0 vs ⟨rfl, hG, hS0, ha, hx1⟩ rfl hx hq
  show JJ X E 4 G s0 0 0 [(0, .ref a), (1, .int (zI x1))] 0 []
  refine j_aload_n hx 0 dX12_takesFirst_0 rfl ?_
  refine g13_27 hx hG ha kf_RX12_56 dX12_takesFirst_1 ?_
  refine j_iconst hx dX12_takesFirst_4 ?_
  refine j_bipush hx dX12_takesFirst_5 rfl ?_
  refine j_iload_n hx 1 dX12_takesFirst_7 rfl ?_
  refine j_imul hx (r := 60 * x1) dX12_takesFirst_8 rfl ?_
  refine j_norm (fun v1 f2 f3 f4 => ?_)
  refine j_iadd hx (r := v1) dX12_takesFirst_9 (by omega) ?_
  have f5 := zaI (j := (v1).toNat) hS0 (zr (k := 27) (t2 := 84) hG ha rfl) rfl (zlen hG (zr (k := 27) (t2 := 84) hG ha rfl) (n := 515) rfl rfl) (show 0 ≤ v1 by omega) (by omega) rfl
  refine j_iald hx hG (zr (k := 27) (t2 := 84) hG ha rfl) (by decide) rfl (zlen hG (zr (k := 27) (t2 := 84) hG ha rfl) (n := 515) rfl rfl) (by omega) (by omega) (j := (v1).toNat) rfl rfl dX12_takesFirst_10 ?_
  refine j_istore_n hx [(2, .int (zI ((s0 (gP G a 27) (v1).toNat)))), (0, .ref a), (1, .int (zI x1))] dX12_takesFirst_11 (by decide) rfl ?_
  refine j_aload_n hx 1 dX12_takesFirst_12 rfl ?_
  refine g13_27 hx hG ha kf_RX12_56 dX12_takesFirst_13 ?_
  refine j_sipush hx dX12_takesFirst_16 rfl ?_
  refine j_iload_n hx 2 dX12_takesFirst_19 rfl ?_
  refine j_iadd hx (r := x1 + 480) dX12_takesFirst_20 (by omega) ?_
  refine j_norm (fun v6 f7 f8 f9 => ?_)
  refine j_dup2 hx dX12_takesFirst_21 rfl rfl ?_
  have f10 := zaI (j := (v6).toNat) hS0 (zr (k := 27) (t2 := 84) hG ha rfl) rfl (zlen hG (zr (k := 27) (t2 := 84) hG ha rfl) (n := 515) rfl rfl) (show 0 ≤ v6 by omega) (by omega) rfl
  refine j_iald hx hG (zr (k := 27) (t2 := 84) hG ha rfl) (by decide) rfl (zlen hG (zr (k := 27) (t2 := 84) hG ha rfl) (n := 515) rfl rfl) (by omega) (by omega) (j := (v6).toNat) rfl rfl dX12_takesFirst_22 ?_
  refine j_iconst hx dX12_takesFirst_23 ?_
  refine j_isub hx (r := (s0 (gP G a 27) (v6).toNat) - 1) dX12_takesFirst_24 (by omega) ?_
  refine j_norm (fun v11 f12 f13 f14 => ?_)
  refine j_iast hx hG (zr (k := 27) (t2 := 84) hG ha rfl) (by decide) rfl (zlen hG (zr (k := 27) (t2 := 84) hG ha rfl) (n := 515) rfl rfl) (by omega) (by omega) (j := (v6).toNat) rfl dX12_takesFirst_25 ?_
  obtain ⟨s1, e_s1⟩ : ∃ z, z = zU s0 (gP G a 27) (v6).toNat v11 := ⟨_, rfl⟩
  rw [← e_s1]
  have hS_s1 : zSK G s1 := by rw [e_s1]; exact zSK_A hS0 (zr (k := 27) (t2 := 84) hG ha rfl) rfl rfl rfl (by omega)
  refine j_iconst hx dX12_takesFirst_26 ?_
  refine j_istore_n hx [(3, .int (zI 0)), (2, .int (zI ((s0 (gP G a 27) (v1).toNat)))), (0, .ref a), (1, .int (zI x1))] dX12_takesFirst_27 (by decide) rfl ?_
  have c28_2 : ∀ (m_c28_2 : Nat) (v15 : Int) (s3 : zS), 2147483648 - v15 < m_c28_2 → (0 ≤ v15 ∧ v15 ≤ 2147483647) → (zSK G s3) → (zFr [84] G s1 s3) → JJ X E 4 G s3 0 0 [(0, .ref a), (1, .int (zI x1)), (2, .int (zI ((s0 (gP G a 27) (v1).toNat)))), (3, .int (zI v15))] 28 [] := by
    intro m_c28_2
    induction m_c28_2 with
    | zero => intro v15 s3 hm_c28_2 f4 hS_s3 hF_s3; exfalso; omega
    | succ m_c28_2 ih_c28_2 => 
      intro v15 s3 hm_c28_2 f4 hS_s3 hF_s3
      refine j_iload_n hx 3 dX12_takesFirst_28 rfl ?_
      refine j_aload_n hx 0 dX12_takesFirst_29 rfl ?_
      refine g13_27 hx hG ha kf_RX12_56 dX12_takesFirst_30 ?_
      refine j_sipush hx dX12_takesFirst_33 rfl ?_
      refine j_iload_n hx 1 dX12_takesFirst_36 rfl ?_
      refine j_iadd hx (r := x1 + 480) dX12_takesFirst_37 (by omega) ?_
      refine j_norm (fun v16 f17 f18 f19 => ?_)
      have f20 := zaI (j := (v16).toNat) hS_s3 (zr (k := 27) (t2 := 84) hG ha rfl) rfl (zlen hG (zr (k := 27) (t2 := 84) hG ha rfl) (n := 515) rfl rfl) (show 0 ≤ v16 by omega) (by omega) rfl
      refine j_iald hx hG (zr (k := 27) (t2 := 84) hG ha rfl) (by decide) rfl (zlen hG (zr (k := 27) (t2 := 84) hG ha rfl) (n := 515) rfl rfl) (by omega) (by omega) (j := (v16).toNat) rfl rfl dX12_takesFirst_38 ?_
      refine j_icmp_ge hx 76 dX12_takesFirst_39 rfl (by omega) (by omega) (fun h21 => ?_) (fun h21 => ?_)
      · skip
        refine j_iload_n hx 2 dX12_takesFirst_76 rfl ?_
        exact j_iret hx hq rfl (by decide) (by decide) dX12_takesFirst_77 ⟨(s0 (gP G a 27) (v1).toNat), rfl, rfl, hS_s3, (zFr_t (zFr_u zFr_rf e_s1 (zr (k := 27) (t2 := 84) hG ha rfl) (by decide)) hF_s3 (by decide)), (by omega)⟩
      · skip
        refine j_aload_n hx 0 dX12_takesFirst_42 rfl ?_
        refine g13_27 hx hG ha kf_RX12_56 dX12_takesFirst_43 ?_
        refine j_iconst hx dX12_takesFirst_46 ?_
        refine j_bipush hx dX12_takesFirst_47 rfl ?_
        refine j_iload_n hx 1 dX12_takesFirst_49 rfl ?_
        refine j_imul hx (r := 60 * x1) dX12_takesFirst_50 rfl ?_
        refine j_norm (fun v22 f23 f24 f25 => ?_)
        refine j_iadd hx (r := v22) dX12_takesFirst_51 (by omega) ?_
        refine j_iload_n hx 3 dX12_takesFirst_52 rfl ?_
        refine j_iadd hx (r := v22 + v15) dX12_takesFirst_53 rfl ?_
        refine j_norm (fun v26 f27 f28 f29 => ?_)
        refine j_aload_n hx 0 dX12_takesFirst_54 rfl ?_
        refine g13_27 hx hG ha kf_RX12_56 dX12_takesFirst_55 ?_
        refine j_iconst hx dX12_takesFirst_58 ?_
        refine j_bipush hx dX12_takesFirst_59 rfl ?_
        refine j_iload_n hx 1 dX12_takesFirst_61 rfl ?_
        refine j_imul hx (r := 60 * x1) dX12_takesFirst_62 rfl ?_
        refine j_norm (fun v30 f31 f32 f33 => ?_)
        refine j_iadd hx (r := v30) dX12_takesFirst_63 (by omega) ?_
        refine j_iload_n hx 3 dX12_takesFirst_64 rfl ?_
        refine j_iadd hx (r := v30 + v15) dX12_takesFirst_65 rfl ?_
        refine j_norm (fun v34 f35 f36 f37 => ?_)
        refine j_iconst hx dX12_takesFirst_66 ?_
        refine j_iadd hx (r := v34 + 1) dX12_takesFirst_67 rfl ?_
        refine j_norm (fun v38 f39 f40 f41 => ?_)
        have f42 := zaI (j := (v38).toNat) hS_s3 (zr (k := 27) (t2 := 84) hG ha rfl) rfl (zlen hG (zr (k := 27) (t2 := 84) hG ha rfl) (n := 515) rfl rfl) (show 0 ≤ v38 by omega) (by omega) rfl
        refine j_iald hx hG (zr (k := 27) (t2 := 84) hG ha rfl) (by decide) rfl (zlen hG (zr (k := 27) (t2 := 84) hG ha rfl) (n := 515) rfl rfl) (by omega) (by omega) (j := (v38).toNat) rfl rfl dX12_takesFirst_68 ?_
        refine j_iast hx hG (zr (k := 27) (t2 := 84) hG ha rfl) (by decide) rfl (zlen hG (zr (k := 27) (t2 := 84) hG ha rfl) (n := 515) rfl rfl) (by omega) (by omega) (j := (v26).toNat) rfl dX12_takesFirst_69 ?_
        obtain ⟨s7, e_s7⟩ : ∃ z, z = zU s3 (gP G a 27) (v26).toNat ((s3 (gP G a 27) (v38).toNat)) := ⟨_, rfl⟩
        rw [← e_s7]
        have hS_s7 : zSK G s7 := by rw [e_s7]; exact zSK_A hS_s3 (zr (k := 27) (t2 := 84) hG ha rfl) rfl rfl rfl (by omega)
        refine j_iinc hx 3 [(3, .int (zI (v15 + 1))), (0, .ref a), (1, .int (zI x1)), (2, .int (zI ((s0 (gP G a 27) (v1).toNat))))] dX12_takesFirst_70 rfl (by omega) (by decide) rfl ?_
        refine j_goto hx 28 dX12_takesFirst_73 rfl ?_
        exact j_sub [1, 2, 3, 0] [(0, .ref a), (1, .int (zI x1)), (2, .int (zI ((s0 (gP G a 27) (v1).toNat)))), (3, .int (zI (v15 + 1)))] rfl (ih_c28_2 (v15 + 1) s7 (by omega) (by omega) hS_s7 (zFr_u (zFr_t zFr_rf hF_s3 (by decide)) e_s7 (zr (k := 27) (t2 := 84) hG ha rfl) (by decide)))
  exact j_sub [2, 3, 1, 0] [(0, .ref a), (1, .int (zI x1)), (2, .int (zI ((s0 (gP G a 27) (v1).toNat)))), (3, .int (zI 0))] rfl (c28_2 (2147483648 * 4) 0 s1 (by omega) (by omega) hS_s1 zFr_rf)

set_option maxHeartbeats 4000000 in
set_option maxRecDepth 20000 in
theorem c_X12_latest {E : zE} {l : Launch} (hst : l.stackTraces = false) (a : Nat) (x1 : Int) : Con E l yX12_latest cX12_latest 2 (some .int) { frames := 1, cells := 0, slots := 0, locals := 23 } (fun G s vs => vs = [.ref a, .int (zI x1)] ∧ zGK G ∧ zSK G s ∧ (gT G a = 13) ∧ ((-2147483648) ≤ x1 ∧ x1 ≤ 2147483647) ∧ (zS0 G s)) (fun G s _ => pI (fun r G2 s2 => G2 = G ∧ zSK G s2 ∧ zFr [13, 71] G s s2 ∧ ((-2147483648) ≤ r ∧ r ≤ 2147483647))) := by
  refine Con.mk hst (by decide) (fun G s vs h => by rw [h.1]; exact Nat.le_of_ble_eq_true rfl) ?_
  rintro X G s0 vs ⟨rfl, hG, hS0, ha, hx1, hF0⟩ rfl hx hq
  show JJ X E 2 G s0 0 0 [(0, .ref a), (1, .int (zI x1))] 0 []
  refine j_aload_n hx 0 dX12_latest_0 rfl ?_
  refine j_iconst hx dX12_latest_1 ?_
  refine p13_0 hx hG ha kf_RX12_3 dX12_latest_2 ?_
  obtain ⟨s1, e_s1⟩ : ∃ z, z = zU s0 a 0 0 := ⟨_, rfl⟩
  rw [← e_s1]
  have hS_s1 : zSK G s1 := by rw [e_s1]; exact zSK_F hS0 ha rfl rfl rfl (by omega)
  refine j_aload_n hx 0 dX12_latest_5 rfl ?_
  refine j_iload_n hx 1 dX12_latest_6 rfl ?_
  refine j_iconst hx dX12_latest_7 ?_
  refine j_iconst hx dX12_latest_8 ?_
  refine j_callS hx (c_X12_within hst x1 0 4) lk_RX12_314 [.int (zI x1), .int (zI 0), .int (zI 4)] ⟨rfl, hG, hS_s1, (by omega), (by omega), (by omega)⟩ rfl rfl ⟨by decide, by decide⟩ ⟨by decide, by decide⟩ (k2 := 0) (n2 := 0) rfl rfl (Nat.le_of_ble_eq_true rfl) dX12_latest_9 (kIP (fun v1 q2 => ?_))
  refine j_iconst hx dX12_latest_12 ?_
  refine j_iconst hx dX12_latest_13 ?_
  refine j_callV hx hG (c_X12_may hst a v1 1 1) lk_RX12_240 ha (by decide) rfl rfl rfl rfl [.int (zI v1), .int (zI 1), .int (zI 1)] ⟨rfl, hG, hS_s1, ha, (by omega), (by omega), (by omega)⟩ rfl rfl ⟨by decide, by decide⟩ ⟨by decide, by decide⟩ (k2 := 0) (n2 := 0) rfl rfl (Nat.le_of_ble_eq_true rfl) dX12_latest_14 (kIM (fun v3 s2 hS_s2 hF_s2 q4 => ?_))
  refine j_if_ne hx 22 dX12_latest_17 rfl (by omega) (fun h5 => ?_) (fun h5 => ?_)
  · skip
    refine j_aload_n hx 0 dX12_latest_22 rfl ?_
    refine g13_30 hx hG ha kf_RX12_65 dX12_latest_23 ?_
    refine j_iload_n hx 1 dX12_latest_26 rfl ?_
    have f6 := z0a (j := (x1).toNat) hF0 (zr (k := 30) (t2 := 87) hG ha rfl) rfl (zlen hG (zr (k := 30) (t2 := 87) hG ha rfl) (n := 5) rfl rfl) (show 0 ≤ x1 by omega) (by omega) rfl
    refine j_iald hx hG (zr (k := 30) (t2 := 87) hG ha rfl) (by decide) rfl (zlen hG (zr (k := 30) (t2 := 87) hG ha rfl) (n := 5) rfl rfl) (by omega) (by omega) (j := (x1).toNat) rfl (v := (s0 (gP G a 30) (x1).toNat)) (by rw [(zFr_g hF_s2 (zr (k := 30) (t2 := 87) hG ha rfl) (by decide)), e_s1, zU_at (Or.inl (zne ha (zr (k := 30) (t2 := 87) hG ha rfl) (by decide)))]) dX12_latest_27 ?_
    exact j_iret hx hq rfl (by decide) (by decide) dX12_latest_28 ⟨(s0 (gP G a 30) (x1).toNat), rfl, rfl, hS_s2, (zFr_t (zFr_u zFr_rf e_s1 ha (by decide)) hF_s2 (by decide)), (by omega)⟩
  · skip
    refine j_iconst hx dX12_latest_20 ?_
    exact j_iret hx hq rfl (by decide) (by decide) dX12_latest_21 ⟨0, rfl, rfl, hS_s2, (zFr_t (zFr_u zFr_rf e_s1 ha (by decide)) hF_s2 (by decide)), (by omega)⟩

set_option maxHeartbeats 4000000 in
set_option maxRecDepth 20000 in
theorem c_X12_calls {E : zE} {l : Launch} (hst : l.stackTraces = false) (a : Nat) (x1 : Int) (x2 : Int) : Con E l yX12_calls cX12_calls 3 (some .int) { frames := 2, cells := 0, slots := 0, locals := 45 } (fun G s vs => vs = [.ref a, .int (zI x1), .int (zI x2)] ∧ zGK G ∧ zSK G s ∧ (gT G a = 13) ∧ ((-2147483648) ≤ x1 ∧ x1 ≤ 2147483647) ∧ ((-2147483648) ≤ x2 ∧ x2 ≤ 2147483647) ∧ (zS0 G s)) (fun G s _ => pI (fun r G2 s2 => G2 = G ∧ zSK G s2 ∧ zFr [13, 71] G s s2 ∧ ((-2147483648) ≤ r ∧ r ≤ 2147483647))) := by
  refine Con.mk hst (by decide) (fun G s vs h => by rw [h.1]; exact Nat.le_of_ble_eq_true rfl) ?_
  rintro X G s0 vs ⟨rfl, hG, hS0, ha, hx1, hx2, hF0⟩ rfl hx hq
  show JJ X E 3 G s0 0 0 [(0, .ref a), (1, .int (zI x1)), (2, .int (zI x2))] 0 []
  refine j_aload_n hx 0 dX12_calls_0 rfl ?_
  refine j_iconst hx dX12_calls_1 ?_
  refine p13_0 hx hG ha kf_RX12_3 dX12_calls_2 ?_
  obtain ⟨s1, e_s1⟩ : ∃ z, z = zU s0 a 0 0 := ⟨_, rfl⟩
  rw [← e_s1]
  have hS_s1 : zSK G s1 := by rw [e_s1]; exact zSK_F hS0 ha rfl rfl rfl (by omega)
  refine j_aload_n hx 0 dX12_calls_5 rfl ?_
  refine j_iload_n hx 1 dX12_calls_6 rfl ?_
  refine j_iconst hx dX12_calls_7 ?_
  refine j_callV hx hG (c_X12_isPlayer hst a x1 1) lk_RX12_339 ha (by decide) rfl rfl rfl rfl [.int (zI x1), .int (zI 1)] ⟨rfl, hG, hS_s1, ha, (by omega), (by omega)⟩ rfl rfl ⟨by decide, by decide⟩ ⟨by decide, by decide⟩ (k2 := 0) (n2 := 0) rfl rfl (Nat.le_of_ble_eq_true rfl) dX12_calls_8 (kIM (fun v1 s2 hS_s2 hF_s2 q2 => ?_))
  refine j_if_eq hx 29 dX12_calls_11 rfl (by omega) (fun h3 => ?_) (fun h3 => ?_)
  · skip
    refine j_iconst hx dX12_calls_29 ?_
    exact j_iret hx hq rfl (by decide) (by decide) dX12_calls_30 ⟨0, rfl, rfl, hS_s2, (zFr_t (zFr_u zFr_rf e_s1 ha (by decide)) hF_s2 (by decide)), (by omega)⟩
  · skip
    refine j_aload_n hx 0 dX12_calls_14 rfl ?_
    refine j_iload_n hx 2 dX12_calls_15 rfl ?_
    refine j_iconst hx dX12_calls_16 ?_
    refine j_iconst hx dX12_calls_17 ?_
    refine j_callS hx (c_X12_within hst x2 0 5) lk_RX12_314 [.int (zI x2), .int (zI 0), .int (zI 5)] ⟨rfl, hG, hS_s2, (by omega), (by omega), (by omega)⟩ rfl rfl ⟨by decide, by decide⟩ ⟨by decide, by decide⟩ (k2 := 0) (n2 := 0) rfl rfl (Nat.le_of_ble_eq_true rfl) dX12_calls_18 (kIP (fun v4 q5 => ?_))
    refine j_iconst hx dX12_calls_21 ?_
    refine j_iconst hx dX12_calls_22 ?_
    refine j_callV hx hG (c_X12_may hst a v4 2 1) lk_RX12_240 ha (by decide) rfl rfl rfl rfl [.int (zI v4), .int (zI 2), .int (zI 1)] ⟨rfl, hG, hS_s2, ha, (by omega), (by omega), (by omega)⟩ rfl rfl ⟨by decide, by decide⟩ ⟨by decide, by decide⟩ (k2 := 0) (n2 := 0) rfl rfl (Nat.le_of_ble_eq_true rfl) dX12_calls_23 (kIM (fun v6 s3 hS_s3 hF_s3 q7 => ?_))
    refine j_if_ne hx 31 dX12_calls_26 rfl (by omega) (fun h8 => ?_) (fun h8 => ?_)
    · skip
      refine j_aload_n hx 0 dX12_calls_31 rfl ?_
      refine g13_27 hx hG ha kf_RX12_56 dX12_calls_32 ?_
      refine j_sipush hx dX12_calls_35 rfl ?_
      refine j_bipush hx dX12_calls_38 rfl ?_
      refine j_iload_n hx 1 dX12_calls_40 rfl ?_
      refine j_imul hx (r := 6 * x1) dX12_calls_41 rfl ?_
      refine j_norm (fun v9 f10 f11 f12 => ?_)
      refine j_iadd hx (r := v9 + 494) dX12_calls_42 (by omega) ?_
      refine j_norm (fun v13 f14 f15 f16 => ?_)
      refine j_iload_n hx 2 dX12_calls_43 rfl ?_
      refine j_iadd hx (r := v13 + x2) dX12_calls_44 rfl ?_
      refine j_norm (fun v17 f18 f19 f20 => ?_)
      have f21 := zaI (j := (v17).toNat) hS0 (zr (k := 27) (t2 := 84) hG ha rfl) rfl (zlen hG (zr (k := 27) (t2 := 84) hG ha rfl) (n := 515) rfl rfl) (show 0 ≤ v17 by omega) (by omega) rfl
      refine j_iald hx hG (zr (k := 27) (t2 := 84) hG ha rfl) (by decide) rfl (zlen hG (zr (k := 27) (t2 := 84) hG ha rfl) (n := 515) rfl rfl) (by omega) (by omega) (j := (v17).toNat) rfl (v := (s0 (gP G a 27) (v17).toNat)) (by rw [(zFr_g hF_s3 (zr (k := 27) (t2 := 84) hG ha rfl) (by decide)), (zFr_g hF_s2 (zr (k := 27) (t2 := 84) hG ha rfl) (by decide)), e_s1, zU_at (Or.inl (zne ha (zr (k := 27) (t2 := 84) hG ha rfl) (by decide)))]) dX12_calls_45 ?_
      exact j_iret hx hq rfl (by decide) (by decide) dX12_calls_46 ⟨(s0 (gP G a 27) (v17).toNat), rfl, rfl, hS_s3, (zFr_t (zFr_t (zFr_u zFr_rf e_s1 ha (by decide)) hF_s2 (by decide)) hF_s3 (by decide)), (by omega)⟩
    · skip
      refine j_iconst hx dX12_calls_29 ?_
      exact j_iret hx hq rfl (by decide) (by decide) dX12_calls_30 ⟨0, rfl, rfl, hS_s3, (zFr_t (zFr_t (zFr_u zFr_rf e_s1 ha (by decide)) hF_s2 (by decide)) hF_s3 (by decide)), (by omega)⟩

set_option maxHeartbeats 4000000 in
set_option maxRecDepth 20000 in
theorem c_X12_won {E : zE} {l : Launch} (hst : l.stackTraces = false) (a : Nat) (x1 : Int) : Con E l yX12_won cX12_won 2 (some .int) { frames := 2, cells := 0, slots := 0, locals := 45 } (fun G s vs => vs = [.ref a, .int (zI x1)] ∧ zGK G ∧ zSK G s ∧ (gT G a = 13) ∧ ((-2147483648) ≤ x1 ∧ x1 ≤ 2147483647) ∧ (zS0 G s)) (fun G s _ => pI (fun r G2 s2 => G2 = G ∧ zSK G s2 ∧ zFr [13, 71] G s s2 ∧ ((-2147483648) ≤ r ∧ r ≤ 2147483647))) := by
  refine Con.mk hst (by decide) (fun G s vs h => by rw [h.1]; exact Nat.le_of_ble_eq_true rfl) ?_
  rintro X G s0 vs ⟨rfl, hG, hS0, ha, hx1, hF0⟩ rfl hx hq
  show JJ X E 2 G s0 0 0 [(0, .ref a), (1, .int (zI x1))] 0 []
  refine j_aload_n hx 0 dX12_won_0 rfl ?_
  refine j_iconst hx dX12_won_1 ?_
  refine p13_0 hx hG ha kf_RX12_3 dX12_won_2 ?_
  obtain ⟨s1, e_s1⟩ : ∃ z, z = zU s0 a 0 0 := ⟨_, rfl⟩
  rw [← e_s1]
  have hS_s1 : zSK G s1 := by rw [e_s1]; exact zSK_F hS0 ha rfl rfl rfl (by omega)
  refine j_aload_n hx 0 dX12_won_5 rfl ?_
  refine j_iload_n hx 1 dX12_won_6 rfl ?_
  refine j_iconst hx dX12_won_7 ?_
  refine j_callV hx hG (c_X12_isPlayer hst a x1 1) lk_RX12_339 ha (by decide) rfl rfl rfl rfl [.int (zI x1), .int (zI 1)] ⟨rfl, hG, hS_s1, ha, (by omega), (by omega)⟩ rfl rfl ⟨by decide, by decide⟩ ⟨by decide, by decide⟩ (k2 := 0) (n2 := 0) rfl rfl (Nat.le_of_ble_eq_true rfl) dX12_won_8 (kIM (fun v1 s2 hS_s2 hF_s2 q2 => ?_))
  refine j_if_ne hx 16 dX12_won_11 rfl (by omega) (fun h3 => ?_) (fun h3 => ?_)
  · skip
    refine j_aload_n hx 0 dX12_won_16 rfl ?_
    refine g13_27 hx hG ha kf_RX12_56 dX12_won_17 ?_
    refine j_sipush hx dX12_won_20 rfl ?_
    refine j_iload_n hx 1 dX12_won_23 rfl ?_
    refine j_iadd hx (r := x1 + 512) dX12_won_24 (by omega) ?_
    refine j_norm (fun v4 f5 f6 f7 => ?_)
    have f8 := zaI (j := (v4).toNat) hS0 (zr (k := 27) (t2 := 84) hG ha rfl) rfl (zlen hG (zr (k := 27) (t2 := 84) hG ha rfl) (n := 515) rfl rfl) (show 0 ≤ v4 by omega) (by omega) rfl
    refine j_iald hx hG (zr (k := 27) (t2 := 84) hG ha rfl) (by decide) rfl (zlen hG (zr (k := 27) (t2 := 84) hG ha rfl) (n := 515) rfl rfl) (by omega) (by omega) (j := (v4).toNat) rfl (v := (s0 (gP G a 27) (v4).toNat)) (by rw [(zFr_g hF_s2 (zr (k := 27) (t2 := 84) hG ha rfl) (by decide)), e_s1, zU_at (Or.inl (zne ha (zr (k := 27) (t2 := 84) hG ha rfl) (by decide)))]) dX12_won_25 ?_
    exact j_iret hx hq rfl (by decide) (by decide) dX12_won_26 ⟨(s0 (gP G a 27) (v4).toNat), rfl, rfl, hS_s2, (zFr_t (zFr_u zFr_rf e_s1 ha (by decide)) hF_s2 (by decide)), (by omega)⟩
  · skip
    refine j_iconst hx dX12_won_14 ?_
    exact j_iret hx hq rfl (by decide) (by decide) dX12_won_15 ⟨0, rfl, rfl, hS_s2, (zFr_t (zFr_u zFr_rf e_s1 ha (by decide)) hF_s2 (by decide)), (by omega)⟩
