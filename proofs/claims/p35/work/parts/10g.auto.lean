set_option maxHeartbeats 1200000 in
set_option maxRecDepth 20000 in
theorem c_X12_held {E : zE} {l : Launch} (hst : l.stackTraces = false) (a : Nat) (x1 : Int) : Con E l yX12_held cX12_held 2 (some .int) { frames := 0, cells := 0, slots := 0, locals := 0 } (fun G s vs => vs = [.ref a, .int (zI x1)] ∧ zGK G ∧ zSK G s ∧ (gT G a = 13) ∧ (0 ≤ x1 ∧ x1 ≤ 2)) (fun G s _ => pI (fun r G2 s2 => G2 = G ∧ s2 = s ∧ (0 ≤ r ∧ r ≤ 120) ∧ r = s (gP G a 27) (x1 + 480).toNat + s (gP G a 27) (x1 + 483).toNat)) := by
  refine Con.mk hst (by decide) (fun G s vs h => by rw [h.1]; exact Nat.le_of_ble_eq_true rfl) ?_
  rintro X G s0 vs ⟨rfl, hG, hS0, ha, hx1⟩ rfl hx hq
  show JJ X E 2 G s0 0 0 [(0, .ref a), (1, .int (zI x1))] 0 []
  refine j_aload_n hx 0 dX12_held_0 rfl ?_
  refine g13_27 hx hG ha kf_RX12_56 dX12_held_1 ?_
  refine j_sipush hx dX12_held_4 rfl ?_
  refine j_iload_n hx 1 dX12_held_7 rfl ?_
  refine j_iadd hx (r := x1 + 480) dX12_held_8 (by omega) ?_
  have f1 := zaQ (j := (x1 + 480).toNat) hS0 (zr (k := 27) (t2 := 84) hG ha rfl) (congrArg some (axS_2 (x1 + 480).toNat (by omega))) (zlen hG (zr (k := 27) (t2 := 84) hG ha rfl) (n := 515) rfl rfl) (show 0 ≤ x1 + 480 by omega) (by omega) rfl
  have c2 := zc_1 (j := (x1 + 480).toNat) hS0 (zr (k := 27) (t2 := 84) hG ha rfl) (zn hG (zr (k := 27) (t2 := 84) hG ha rfl) rfl) (by omega) (by omega)
  refine j_iald hx hG (zr (k := 27) (t2 := 84) hG ha rfl) (by decide) rfl (zlen hG (zr (k := 27) (t2 := 84) hG ha rfl) (n := 515) rfl rfl) (by omega) (by omega) (j := (x1 + 480).toNat) rfl rfl dX12_held_9 ?_
  refine j_aload_n hx 0 dX12_held_10 rfl ?_
  refine g13_27 hx hG ha kf_RX12_56 dX12_held_11 ?_
  refine j_sipush hx dX12_held_14 rfl ?_
  refine j_iload_n hx 1 dX12_held_17 rfl ?_
  refine j_iadd hx (r := x1 + 483) dX12_held_18 (by omega) ?_
  have f3 := zaQ (j := (x1 + 483).toNat) hS0 (zr (k := 27) (t2 := 84) hG ha rfl) (congrArg some (axS_2 (x1 + 483).toNat (by omega))) (zlen hG (zr (k := 27) (t2 := 84) hG ha rfl) (n := 515) rfl rfl) (show 0 ≤ x1 + 483 by omega) (by omega) rfl
  have c4 := zc_1 (j := (x1 + 483).toNat) hS0 (zr (k := 27) (t2 := 84) hG ha rfl) (zn hG (zr (k := 27) (t2 := 84) hG ha rfl) rfl) (by omega) (by omega)
  have c5 : (x1 + 480).toNat ≠ (x1 + 483).toNat → s0 (gP G a 27) (x1 + 480).toNat + s0 (gP G a 27) (x1 + 483).toNat ≤ zc (s0 (gP G a 27)) := fun e => zc_2 hS0 (zr (k := 27) (t2 := 84) hG ha rfl) (zn hG (zr (k := 27) (t2 := 84) hG ha rfl) rfl) (by omega) (by omega) (by omega) (by omega) e
  refine j_iald hx hG (zr (k := 27) (t2 := 84) hG ha rfl) (by decide) rfl (zlen hG (zr (k := 27) (t2 := 84) hG ha rfl) (n := 515) rfl rfl) (by omega) (by omega) (j := (x1 + 483).toNat) rfl rfl dX12_held_19 ?_
  refine j_iadd hx (r := (s0 (gP G a 27) (x1 + 480).toNat) + (s0 (gP G a 27) (x1 + 483).toNat)) dX12_held_20 (by omega) ?_
  exact j_iret hx hq rfl (by decide) (by decide) dX12_held_21 ⟨(s0 (gP G a 27) (x1 + 480).toNat) + (s0 (gP G a 27) (x1 + 483).toNat), rfl, rfl, rfl, ⟨(by omega), by omega⟩⟩

theorem lk_RX12_322 : LkV RX12 322 RX12 yX12_held cX12_held 2 (some .int) 1 := ⟨km_RX12_322, ki_yX12_held, ks_RX12_yX12_held, kn_RX12, kc_yX12_held, rfl, by decide +kernel, by decide +kernel, by decide +kernel⟩
set_option maxHeartbeats 1200000 in
set_option maxRecDepth 20000 in
theorem c_X12_isOut {E : zE} {l : Launch} (hst : l.stackTraces = false) (a : Nat) (x1 : Int) : Con E l yX12_isOut cX12_isOut 2 (some .boolean) { frames := 1, cells := 0, slots := 0, locals := 21 } (fun G s vs => vs = [.ref a, .int (zI x1)] ∧ zGK G ∧ zSK G s ∧ (gT G a = 13) ∧ (0 ≤ x1 ∧ x1 ≤ 2)) (fun G s _ => pI (fun r G2 s2 => G2 = G ∧ s2 = s ∧ (0 ≤ r ∧ r ≤ 1) ∧ ((r = 1 → s (gP G a 27) (x1 + 480).toNat + s (gP G a 27) (x1 + 483).toNat = 0) ∧ (r = 0 → 1 ≤ s (gP G a 27) (x1 + 480).toNat + s (gP G a 27) (x1 + 483).toNat)))) := by
  refine Con.mk hst (by decide) (fun G s vs h => by rw [h.1]; exact Nat.le_of_ble_eq_true rfl) ?_
  rintro X G s0 vs ⟨rfl, hG, hS0, ha, hx1⟩ rfl hx hq
  show JJ X E 2 G s0 0 0 [(0, .ref a), (1, .int (zI x1))] 0 []
  refine j_aload_n hx 0 dX12_isOut_0 rfl ?_
  refine j_iload_n hx 1 dX12_isOut_1 rfl ?_
  refine j_callV hx hG (c_X12_held hst a x1) lk_RX12_322 ha (by decide) rfl rfl rfl rfl [.int (zI x1)] ⟨rfl, hG, hS0, ha, (by omega)⟩ rfl rfl ⟨by decide, by decide⟩ ⟨by decide, by decide⟩ (k2 := 0) (n2 := 0) rfl rfl (Nat.le_of_ble_eq_true rfl) dX12_isOut_2 (kIP (fun v1 q2 => ?_))
  refine j_if_ne hx 12 dX12_isOut_5 rfl (by omega) (fun h3 => ?_) (fun h3 => ?_)
  · skip
    refine j_iconst hx dX12_isOut_12 ?_
    exact j_zret hx hq rfl (by decide) (by decide) dX12_isOut_13 (by omega) ⟨0, rfl, rfl, rfl, ⟨(by omega), by omega⟩⟩
  · skip
    refine j_iconst hx dX12_isOut_8 ?_
    refine j_goto hx 13 dX12_isOut_9 rfl ?_
    exact j_zret hx hq rfl (by decide) (by decide) dX12_isOut_13 (by omega) ⟨1, rfl, rfl, rfl, ⟨(by omega), by omega⟩⟩

theorem lk_RX12_325 : LkV RX12 325 RX12 yX12_isOut cX12_isOut 2 (some .boolean) 1 := ⟨km_RX12_325, ki_yX12_isOut, ks_RX12_yX12_isOut, kn_RX12, kc_yX12_isOut, rfl, by decide +kernel, by decide +kernel, by decide +kernel⟩
set_option maxHeartbeats 1200000 in
set_option maxRecDepth 20000 in
theorem c_X12_isOver {E : zE} {l : Launch} (hst : l.stackTraces = false) (a : Nat) : Con E l yX12_isOver cX12_isOver 3 (some .boolean) { frames := 2, cells := 0, slots := 0, locals := 42 } (fun G s vs => vs = [.ref a] ∧ zGK G ∧ zSK G s ∧ (gT G a = 13)) (fun G s _ => pI (fun r G2 s2 => G2 = G ∧ s2 = s ∧ (0 ≤ r ∧ r ≤ 1))) := by
  refine Con.mk hst (by decide) (fun G s vs h => by rw [h.1]; exact Nat.le_of_ble_eq_true rfl) ?_
  rintro X G s0 vs ⟨rfl, hG, hS0, ha⟩ rfl hx hq
  show JJ X E 3 G s0 0 0 [(0, .ref a)] 0 []
  refine j_iconst hx dX12_isOver_0 ?_
  refine j_istore_n hx [(1, .int (zI 0)), (0, .ref a)] dX12_isOver_1 (by decide) rfl ?_
  refine j_iconst hx dX12_isOver_2 ?_
  refine j_istore_n hx [(2, .int (zI 0)), (1, .int (zI 0)), (0, .ref a)] dX12_isOver_3 (by decide) rfl ?_
  have c4_1 : ∀ (m_c4_1 : Nat) (v1 : Int) (v2 : Int), 2147483648 - v2 < m_c4_1 → ((-2147483648) ≤ v1 ∧ v1 ≤ 2147483647) → (0 ≤ v2 ∧ v2 ≤ 3) → JJ X E 3 G s0 0 0 [(0, .ref a), (1, .int (zI v1)), (2, .int (zI v2))] 4 [] := by
    intro m_c4_1
    induction m_c4_1 with
    | zero => intro v1 v2 hm_c4_1 fA2 fA3; exfalso; omega
    | succ m_c4_1 ih_c4_1 => 
      intro v1 v2 hm_c4_1 fA2 fA3
      refine j_iload_n hx 2 dX12_isOver_4 rfl ?_
      refine j_aload_n hx 0 dX12_isOver_5 rfl ?_
      have f3 := zf hS0 ha (k := 24) rfl
      refine g13_24 hx hG ha kf_RX12_189 rfl dX12_isOver_6 ?_
      refine j_icmp_ge hx 34 dX12_isOver_9 rfl (by omega) (by omega) (fun h4 => ?_) (fun h4 => ?_)
      · skip
        refine j_iload_n hx 1 dX12_isOver_34 rfl ?_
        refine j_iconst hx dX12_isOver_35 ?_
        refine j_icmp_gt hx 43 dX12_isOver_36 rfl (by omega) ⟨by decide, by decide⟩ (fun h5 => ?_) (fun h5 => ?_)
        · skip
          refine j_iconst hx dX12_isOver_43 ?_
          exact j_zret hx hq rfl (by decide) (by decide) dX12_isOver_44 (by omega) ⟨0, rfl, rfl, rfl, (by omega)⟩
        · skip
          refine j_iconst hx dX12_isOver_39 ?_
          refine j_goto hx 44 dX12_isOver_40 rfl ?_
          exact j_zret hx hq rfl (by decide) (by decide) dX12_isOver_44 (by omega) ⟨1, rfl, rfl, rfl, (by omega)⟩
      · skip
        refine j_iload_n hx 1 dX12_isOver_12 rfl ?_
        refine j_aload_n hx 0 dX12_isOver_13 rfl ?_
        refine j_iload_n hx 2 dX12_isOver_14 rfl ?_
        refine j_callV hx hG (c_X12_isOut hst a v2) lk_RX12_325 ha (by decide) rfl rfl rfl rfl [.int (zI v2)] ⟨rfl, hG, hS0, ha, (by omega)⟩ rfl rfl ⟨by decide, by decide⟩ ⟨by decide, by decide⟩ (k2 := 0) (n2 := 0) rfl rfl (Nat.le_of_ble_eq_true rfl) dX12_isOver_15 (kIP (fun v6 q7 => ?_))
        have c26_4 : ∀ (v8 : Int), (0 ≤ v8 ∧ v8 ≤ 1) → JJ X E 3 G s0 0 0 [(0, .ref a), (2, .int (zI v2))] 26 [.int (zI v8), .int (zI v1)] := by
          intro v8 fA5
          refine j_iadd hx (r := v1 + v8) dX12_isOver_26 rfl ?_
          refine j_norm (fun v9 f10 f11 f12 => ?_)
          refine j_istore_n hx [(1, .int (zI v9)), (0, .ref a), (2, .int (zI v2))] dX12_isOver_27 (by decide) rfl ?_
          refine j_iinc hx 2 [(2, .int (zI (v2 + 1))), (1, .int (zI v9)), (0, .ref a)] dX12_isOver_28 rfl (by omega) (by decide) rfl ?_
          refine j_goto hx 4 dX12_isOver_31 rfl ?_
          exact j_sub [2, 1, 0] [(0, .ref a), (1, .int (zI v9)), (2, .int (zI (v2 + 1)))] rfl (ih_c4_1 v9 (v2 + 1) (by omega) (by omega) (by omega))
        refine j_if_eq hx 25 dX12_isOver_18 rfl (by omega) (fun h13 => ?_) (fun h13 => ?_)
        · skip
          refine j_iconst hx dX12_isOver_25 ?_
          exact j_sub [0, 2] [(0, .ref a), (2, .int (zI v2))] rfl (c26_4 1 (by omega))
        · skip
          refine j_iconst hx dX12_isOver_21 ?_
          refine j_goto hx 26 dX12_isOver_22 rfl ?_
          exact j_sub [0, 2] [(0, .ref a), (2, .int (zI v2))] rfl (c26_4 0 (by omega))
  exact j_sub [2, 1, 0] [(0, .ref a), (1, .int (zI 0)), (2, .int (zI 0))] rfl (c4_1 (2147483648 * 4) 0 0 (by omega) (by omega) (by omega))

set_option maxHeartbeats 1200000 in
set_option maxRecDepth 20000 in
theorem c_X12_next {E : zE} {l : Launch} (hst : l.stackTraces = false) (a : Nat) (x1 : Int) : Con E l yX12_next cX12_next 3 (some .int) { frames := 2, cells := 0, slots := 0, locals := 42 } (fun G s vs => vs = [.ref a, .int (zI x1)] ∧ zGK G ∧ zSK G s ∧ (gT G a = 13) ∧ ((-1) ≤ x1 ∧ x1 ≤ 2)) (fun G s _ => pI (fun r G2 s2 => G2 = G ∧ s2 = s ∧ ((-1) ≤ r ∧ r ≤ 2) ∧ (r = -1 ∨ (0 ≤ r ∧ r < s a 24 ∧ 1 ≤ s (gP G a 27) (r + 480).toNat + s (gP G a 27) (r + 483).toNat)))) := by
  refine Con.mk hst (by decide) (fun G s vs h => by rw [h.1]; exact Nat.le_of_ble_eq_true rfl) ?_
  rintro X G s0 vs ⟨rfl, hG, hS0, ha, hx1⟩ rfl hx hq
  show JJ X E 3 G s0 0 0 [(0, .ref a), (1, .int (zI x1))] 0 []
  refine j_iconst hx dX12_next_0 ?_
  refine j_istore_n hx [(2, .int (zI 1)), (0, .ref a), (1, .int (zI x1))] dX12_next_1 (by decide) rfl ?_
  have c2_1 : ∀ (m_c2_1 : Nat) (v1 : Int), 2147483648 - v1 < m_c2_1 → (1 ≤ v1 ∧ v1 ≤ 4) → JJ X E 3 G s0 0 0 [(0, .ref a), (1, .int (zI x1)), (2, .int (zI v1))] 2 [] := by
    intro m_c2_1
    induction m_c2_1 with
    | zero => intro v1 hm_c2_1 fA2; exfalso; omega
    | succ m_c2_1 ih_c2_1 => 
      intro v1 hm_c2_1 fA2
      refine j_iload_n hx 2 dX12_next_2 rfl ?_
      refine j_aload_n hx 0 dX12_next_3 rfl ?_
      have f2 := zf hS0 ha (k := 24) rfl
      refine g13_24 hx hG ha kf_RX12_189 rfl dX12_next_4 ?_
      refine j_icmp_gt hx 40 dX12_next_7 rfl (by omega) (by omega) (fun h3 => ?_) (fun h3 => ?_)
      · skip
        refine j_iconst hx dX12_next_40 ?_
        exact j_iret hx hq rfl (by decide) (by decide) dX12_next_41 ⟨(-1), rfl, rfl, rfl, ⟨(by omega), by omega⟩⟩
      · skip
        refine j_aload_n hx 0 dX12_next_10 rfl ?_
        refine j_iload_n hx 1 dX12_next_11 rfl ?_
        refine j_iload_n hx 2 dX12_next_12 rfl ?_
        refine j_iadd hx (r := x1 + v1) dX12_next_13 rfl ?_
        refine j_aload_n hx 0 dX12_next_14 rfl ?_
        refine g13_24 hx hG ha kf_RX12_189 rfl dX12_next_15 ?_
        refine j_irem hx dX12_next_18 (by omega) (by omega) (by omega) (fun v4 f5 f6 f7 f8 => ?_)
        have f10 : 0 ≤ v4 := by rw [f7 (by omega) (by omega)]; exact Int.emod_nonneg _ (by omega)
        refine j_callV hx hG (c_X12_isOut hst a v4) lk_RX12_325 ha (by decide) rfl rfl rfl rfl [.int (zI v4)] ⟨rfl, hG, hS0, ha, (by omega)⟩ rfl rfl ⟨by decide, by decide⟩ ⟨by decide, by decide⟩ (k2 := 0) (n2 := 0) rfl rfl (Nat.le_of_ble_eq_true rfl) dX12_next_19 (kIP (fun v11 q12 => ?_))
        refine j_if_ne hx 34 dX12_next_22 rfl (by omega) (fun h13 => ?_) (fun h13 => ?_)
        · skip
          refine j_iinc hx 2 [(2, .int (zI (v1 + 1))), (0, .ref a), (1, .int (zI x1))] dX12_next_34 rfl (by omega) (by decide) rfl ?_
          refine j_goto hx 2 dX12_next_37 rfl ?_
          exact j_sub [1, 2, 0] [(0, .ref a), (1, .int (zI x1)), (2, .int (zI (v1 + 1)))] rfl (ih_c2_1 (v1 + 1) (by omega) (by omega))
        · skip
          refine j_iload_n hx 1 dX12_next_25 rfl ?_
          refine j_iload_n hx 2 dX12_next_26 rfl ?_
          refine j_iadd hx (r := x1 + v1) dX12_next_27 rfl ?_
          refine j_aload_n hx 0 dX12_next_28 rfl ?_
          refine g13_24 hx hG ha kf_RX12_189 rfl dX12_next_29 ?_
          refine j_irem hx dX12_next_32 (by omega) (by omega) (by omega) (fun v14 f15 f16 f17 f18 => ?_)
          have f20 : 0 ≤ v14 := by rw [f17 (by omega) (by omega)]; exact Int.emod_nonneg _ (by omega)
          obtain rfl : v4 = v14 := by omega
          exact j_iret hx hq rfl (by decide) (by decide) dX12_next_33 ⟨v4, rfl, rfl, rfl, ⟨(by omega), by omega⟩⟩
  exact j_sub [1, 2, 0] [(0, .ref a), (1, .int (zI x1)), (2, .int (zI 1))] rfl (c2_1 (2147483648 * 4) 1 (by omega) (by omega))

theorem lk_RX12_328 : LkV RX12 328 RX12 yX12_isOver cX12_isOver 3 (some .boolean) 0 := ⟨km_RX12_328, ki_yX12_isOver, ks_RX12_yX12_isOver, kn_RX12, kc_yX12_isOver, rfl, by decide +kernel, by decide +kernel, by decide +kernel⟩
theorem lk_RX12_331 : LkV RX12 331 RX12 yX12_next cX12_next 3 (some .int) 1 := ⟨km_RX12_331, ki_yX12_next, ks_RX12_yX12_next, kn_RX12, kc_yX12_next, rfl, by decide +kernel, by decide +kernel, by decide +kernel⟩
set_option maxHeartbeats 1200000 in
set_option maxRecDepth 20000 in
theorem c_X12_whose {E : zE} {l : Launch} (hst : l.stackTraces = false) (a : Nat) : Con E l yX12_whose cX12_whose 1 (some .int) { frames := 3, cells := 0, slots := 0, locals := 64 } (fun G s vs => vs = [.ref a] ∧ zGK G ∧ zSK G s ∧ (gT G a = 13)) (fun G s _ => pI (fun r G2 s2 => G2 = G ∧ s2 = s ∧ ((-1) ≤ r ∧ r ≤ 2) ∧ (r = -1 ∨ (0 ≤ r ∧ r < s a 24 ∧ 1 ≤ s (gP G a 27) (r + 480).toNat + s (gP G a 27) (r + 483).toNat)))) := by
  refine Con.mk hst (by decide) (fun G s vs h => by rw [h.1]; exact Nat.le_of_ble_eq_true rfl) ?_
  rintro X G s0 vs ⟨rfl, hG, hS0, ha⟩ rfl hx hq
  show JJ X E 1 G s0 0 0 [(0, .ref a)] 0 []
  refine j_aload_n hx 0 dX12_whose_0 rfl ?_
  refine j_callV hx hG (c_X12_isOver hst a) lk_RX12_328 ha (by decide) rfl rfl rfl rfl [] ⟨rfl, hG, hS0, ha⟩ rfl rfl ⟨by decide, by decide⟩ ⟨by decide, by decide⟩ (k2 := 0) (n2 := 0) rfl rfl (Nat.le_of_ble_eq_true rfl) dX12_whose_1 (kIP (fun v1 q2 => ?_))
  refine j_if_eq hx 11 dX12_whose_4 rfl (by omega) (fun h3 => ?_) (fun h3 => ?_)
  · skip
    refine j_aload_n hx 0 dX12_whose_11 rfl ?_
    refine j_aload_n hx 0 dX12_whose_12 rfl ?_
    refine g13_27 hx hG ha kf_RX12_56 dX12_whose_13 ?_
    refine j_sipush hx dX12_whose_16 rfl ?_
    have f4 := zaQ (j := 487) hS0 (zr (k := 27) (t2 := 84) hG ha rfl) (congrArg some (axS_3 487 (by omega))) (zlen hG (zr (k := 27) (t2 := 84) hG ha rfl) (n := 515) rfl rfl) (show 0 ≤ 487 by omega) (by omega) rfl
    refine j_iald hx hG (zr (k := 27) (t2 := 84) hG ha rfl) (by decide) rfl (zlen hG (zr (k := 27) (t2 := 84) hG ha rfl) (n := 515) rfl rfl) (by omega) (by omega) (j := 487) rfl rfl dX12_whose_19 ?_
    refine j_callV hx hG (c_X12_next hst a ((s0 (gP G a 27) 487))) lk_RX12_331 ha (by decide) rfl rfl rfl rfl [.int (zI ((s0 (gP G a 27) 487)))] ⟨rfl, hG, hS0, ha, (by omega)⟩ rfl rfl ⟨by decide, by decide⟩ ⟨by decide, by decide⟩ (k2 := 0) (n2 := 0) rfl rfl (Nat.le_of_ble_eq_true rfl) dX12_whose_20 (kIP (fun v5 q6 => ?_))
    have f7 := zf hS0 ha (k := 24) rfl
    exact j_iret hx hq rfl (by decide) (by decide) dX12_whose_23 ⟨v5, rfl, rfl, rfl, ⟨(by omega), by omega⟩⟩
  · skip
    refine j_iconst hx dX12_whose_7 ?_
    refine j_goto hx 23 dX12_whose_8 rfl ?_
    have f8 := zf hS0 ha (k := 24) rfl
    exact j_iret hx hq rfl (by decide) (by decide) dX12_whose_23 ⟨(-1), rfl, rfl, rfl, ⟨(by omega), by omega⟩⟩

theorem lk_RX12_314 : LkS RX12 314 yX12_within cX12_within 3 (some .boolean) 3 := ⟨km_RX12_314, kst_yX12_within, kn_RX12, kc_yX12_within, by decide +kernel, by decide +kernel, by decide +kernel⟩
theorem lk_RX12_336 : LkV RX12 336 RX12 yX12_whose cX12_whose 1 (some .int) 0 := ⟨km_RX12_336, ki_yX12_whose, ks_RX12_yX12_whose, kn_RX12, kc_yX12_whose, rfl, by decide +kernel, by decide +kernel, by decide +kernel⟩
set_option maxHeartbeats 1200000 in
set_option maxRecDepth 20000 in
theorem c_X12_told {E : zE} {l : Launch} (hst : l.stackTraces = false) (a : Nat) (x1 : Int) : Con E l yX12_told cX12_told 2 (some .int) { frames := 4, cells := 0, slots := 0, locals := 84 } (fun G s vs => vs = [.ref a, .int (zI x1)] ∧ zGK G ∧ zSK G s ∧ (gT G a = 13) ∧ ((-2147483648) ≤ x1 ∧ x1 ≤ 2147483647)) (fun G s _ => pI (fun r G2 s2 => G2 = G ∧ zSK G s2 ∧ zFr [13, 71] G s s2 ∧ ((-2147483648) ≤ r ∧ r ≤ 2147483647) ∧ s2 a 3 = s a 3 ∧ s2 a 4 = s a 4 ∧ s2 a 5 = s a 5 ∧ s2 a 7 = s a 7 ∧ s2 a 21 = s a 21 ∧ s2 a 22 = s a 22 ∧ s2 a 23 = s a 23 ∧ s2 a 24 = s a 24 ∧ s2 a 38 = s a 38 ∧ s2 a 51 = s a 51 ∧ s2 a 52 = s a 52)) := by
  refine Con.mk hst (by decide) (fun G s vs h => by rw [h.1]; exact Nat.le_of_ble_eq_true rfl) ?_
  rintro X G s0 vs ⟨rfl, hG, hS0, ha, hx1⟩ rfl hx hq
  show JJ X E 2 G s0 0 0 [(0, .ref a), (1, .int (zI x1))] 0 []
  refine j_aload_n hx 0 dX12_told_0 rfl ?_
  refine j_iconst hx dX12_told_1 ?_
  refine p13_0 hx hG ha kf_RX12_3 dX12_told_2 ?_
  obtain ⟨s1, e_s1⟩ : ∃ z, z = zU s0 a 0 0 := ⟨_, rfl⟩
  rw [← e_s1]
  have hS_s1 : zSK G s1 := by rw [e_s1]; exact zSK_F hS0 ha rfl rfl rfl (by omega)
  refine j_aload_n hx 0 dX12_told_5 rfl ?_
  refine j_iload_n hx 1 dX12_told_6 rfl ?_
  refine j_iconst hx dX12_told_7 ?_
  refine j_bipush hx dX12_told_8 rfl ?_
  refine j_callS hx (c_X12_within hst x1 0 8) lk_RX12_314 [.int (zI x1), .int (zI 0), .int (zI 8)] ⟨rfl, hG, hS_s1, (by omega), (by omega), (by omega)⟩ rfl rfl ⟨by decide, by decide⟩ ⟨by decide, by decide⟩ (k2 := 0) (n2 := 0) rfl rfl (Nat.le_of_ble_eq_true rfl) dX12_told_10 (kIP (fun v1 q2 => ?_))
  refine j_iconst hx dX12_told_13 ?_
  refine j_iconst hx dX12_told_14 ?_
  rcases (show v1 = 0 ∨ v1 = 1 by omega) with rfl | rfl
  · skip
    have g4 : s1 a 0 = 0 := (by rw [e_s1, zU_eq])
    have g5 : s1 a 3 = s0 a 3 := (by rw [e_s1, zU_at (Or.inr (by decide))])
    have f6 := zf hS0 ha (k := 3) rfl
    have g7 : s1 a 4 = s0 a 4 := (by rw [e_s1, zU_at (Or.inr (by decide))])
    have f8 := zf hS0 ha (k := 4) rfl
    have g9 : s1 a 5 = s0 a 5 := (by rw [e_s1, zU_at (Or.inr (by decide))])
    have f10 := zf hS0 ha (k := 5) rfl
    have g11 : s1 a 7 = s0 a 7 := (by rw [e_s1, zU_at (Or.inr (by decide))])
    have f12 := zf hS0 ha (k := 7) rfl
    have g13 : s1 a 21 = s0 a 21 := (by rw [e_s1, zU_at (Or.inr (by decide))])
    have f14 := zf hS0 ha (k := 21) rfl
    have g15 : s1 a 22 = s0 a 22 := (by rw [e_s1, zU_at (Or.inr (by decide))])
    have f16 := zf hS0 ha (k := 22) rfl
    have g17 : s1 a 23 = s0 a 23 := (by rw [e_s1, zU_at (Or.inr (by decide))])
    have f18 := zf hS0 ha (k := 23) rfl
    have g19 : s1 a 24 = s0 a 24 := (by rw [e_s1, zU_at (Or.inr (by decide))])
    have f20 := zf hS0 ha (k := 24) rfl
    have g21 : s1 a 38 = s0 a 38 := (by rw [e_s1, zU_at (Or.inr (by decide))])
    have f22 := zf hS0 ha (k := 38) rfl
    have g23 : s1 a 51 = s0 a 51 := (by rw [e_s1, zU_at (Or.inr (by decide))])
    have f24 := zf hS0 ha (k := 51) rfl
    have g25 : s1 a 52 = s0 a 52 := (by rw [e_s1, zU_at (Or.inr (by decide))])
    have f26 := zf hS0 ha (k := 52) rfl
    refine j_callV hx hG (c_X12_may_f hst a 0 1 1) lk_RX12_240 ha (by decide) rfl rfl rfl rfl [.int (zI 0), .int (zI 1), .int (zI 1)] ⟨rfl, hG, hS_s1, ha, (by omega), (by omega), (by omega), (((by rw [e_s1, zU_eq]) : s1 a 0 = 0).trans (by omega))⟩ rfl rfl ⟨by decide, by decide⟩ ⟨by decide, by decide⟩ (k2 := 0) (n2 := 0) rfl rfl (Nat.le_of_ble_eq_true rfl) dX12_told_15 (kIM (fun v27 s2 hS_s2 hF_s2 q28 => ?_))
    refine j_if_ne hx 23 dX12_told_18 rfl (by omega) (fun h29 => absurd h29 (by omega)) (fun h29 => ?_)
    refine j_iconst hx dX12_told_21 ?_
    have f30 := zf hS_s2 ha (k := 3) rfl
    have f31 := zf hS_s2 ha (k := 4) rfl
    have f32 := zf hS_s2 ha (k := 5) rfl
    have f33 := zf hS_s2 ha (k := 7) rfl
    have f34 := zf hS_s2 ha (k := 21) rfl
    have f35 := zf hS_s2 ha (k := 22) rfl
    have f36 := zf hS_s2 ha (k := 23) rfl
    have f37 := zf hS_s2 ha (k := 24) rfl
    have f38 := zf hS_s2 ha (k := 38) rfl
    have f39 := zf hS_s2 ha (k := 51) rfl
    have f40 := zf hS_s2 ha (k := 52) rfl
    exact j_iret hx hq rfl (by decide) (by decide) dX12_told_22 ⟨0, rfl, rfl, hS_s2, (zFr_t (zFr_u zFr_rf e_s1 ha (by decide)) hF_s2 (by decide)), ⟨(by omega), by omega, by omega, by omega, by omega, by omega, by omega, by omega, by omega, by omega, by omega, by omega⟩⟩
  · skip
    have g41 : s1 a 0 = 0 := (by rw [e_s1, zU_eq])
    refine j_callV hx hG (c_X12_may_t hst a 1 1 1) lk_RX12_240 ha (by decide) rfl rfl rfl rfl [.int (zI 1), .int (zI 1), .int (zI 1)] ⟨rfl, hG, hS_s1, ha, (by omega), (by omega), (by omega), (((by rw [e_s1, zU_eq]) : s1 a 0 = 0).trans (by omega))⟩ rfl rfl ⟨by decide, by decide⟩ ⟨by decide, by decide⟩ (k2 := 0) (n2 := 0) rfl rfl (Nat.le_of_ble_eq_true rfl) dX12_told_15 (kIP (fun v42 q43 => ?_))
    refine j_if_ne hx 23 dX12_told_18 rfl (by omega) (fun h44 => ?_) (fun h44 => absurd h44 (by omega))
    refine j_iload_n hx 1 dX12_told_23 rfl ?_
    refine j_iconst hx dX12_told_24 ?_
    refine j_icmp_ge hx 60 dX12_told_25 rfl (by omega) ⟨by decide, by decide⟩ (fun h45 => ?_) (fun h45 => ?_)
    · skip
      refine j_iload_n hx 1 dX12_told_60 rfl ?_
      refine j_iconst hx dX12_told_61 ?_
      refine j_icmp_ge hx 86 dX12_told_62 rfl (by omega) ⟨by decide, by decide⟩ (fun h46 => ?_) (fun h46 => ?_)
      · skip
        refine j_iload_n hx 1 dX12_told_86 rfl ?_
        refine j_bipush hx dX12_told_87 rfl ?_
        refine j_icmp_ge hx 107 dX12_told_89 rfl (by omega) ⟨by decide, by decide⟩ (fun h47 => ?_) (fun h47 => ?_)
        · skip
          refine j_aload_n hx 0 dX12_told_107 rfl ?_
          have f48 := zf hS0 ha (k := 26) rfl
          refine g13_26 hx hG ha kf_RX12_195 (v := (s0 a 26)) (by rw [e_s1, zU_at (Or.inr (by decide))]) dX12_told_108 ?_
          have g49 : s1 a 3 = s0 a 3 := (by rw [e_s1, zU_at (Or.inr (by decide))])
          have f50 := zf hS0 ha (k := 3) rfl
          have g51 : s1 a 4 = s0 a 4 := (by rw [e_s1, zU_at (Or.inr (by decide))])
          have f52 := zf hS0 ha (k := 4) rfl
          have g53 : s1 a 5 = s0 a 5 := (by rw [e_s1, zU_at (Or.inr (by decide))])
          have f54 := zf hS0 ha (k := 5) rfl
          have g55 : s1 a 7 = s0 a 7 := (by rw [e_s1, zU_at (Or.inr (by decide))])
          have f56 := zf hS0 ha (k := 7) rfl
          have g57 : s1 a 21 = s0 a 21 := (by rw [e_s1, zU_at (Or.inr (by decide))])
          have f58 := zf hS0 ha (k := 21) rfl
          have g59 : s1 a 22 = s0 a 22 := (by rw [e_s1, zU_at (Or.inr (by decide))])
          have f60 := zf hS0 ha (k := 22) rfl
          have g61 : s1 a 23 = s0 a 23 := (by rw [e_s1, zU_at (Or.inr (by decide))])
          have f62 := zf hS0 ha (k := 23) rfl
          have g63 : s1 a 24 = s0 a 24 := (by rw [e_s1, zU_at (Or.inr (by decide))])
          have f64 := zf hS0 ha (k := 24) rfl
          have g65 : s1 a 38 = s0 a 38 := (by rw [e_s1, zU_at (Or.inr (by decide))])
          have f66 := zf hS0 ha (k := 38) rfl
          have g67 : s1 a 51 = s0 a 51 := (by rw [e_s1, zU_at (Or.inr (by decide))])
          have f68 := zf hS0 ha (k := 51) rfl
          have g69 : s1 a 52 = s0 a 52 := (by rw [e_s1, zU_at (Or.inr (by decide))])
          have f70 := zf hS0 ha (k := 52) rfl
          exact j_iret hx hq rfl (by decide) (by decide) dX12_told_111 ⟨(s0 a 26), rfl, rfl, hS_s1, (zFr_u zFr_rf e_s1 ha (by decide)), ⟨(by omega), by omega, by omega, by omega, by omega, by omega, by omega, by omega, by omega, by omega, by omega, by omega⟩⟩
        · skip
          refine j_aload_n hx 0 dX12_told_92 rfl ?_
          refine g13_27 hx hG ha kf_RX12_56 dX12_told_93 ?_
          refine j_sipush hx dX12_told_96 rfl ?_
          refine j_iload_n hx 1 dX12_told_99 rfl ?_
          refine j_iadd hx (r := x1 + 491) dX12_told_100 (by omega) ?_
          refine j_iconst hx dX12_told_101 ?_
          refine j_isub hx (r := x1 + 486) dX12_told_102 (by omega) ?_
          have f71 := zaQ (j := (x1 + 486).toNat) hS0 (zr (k := 27) (t2 := 84) hG ha rfl) (congrArg some (axS_7 (x1 + 486).toNat (by omega))) (zlen hG (zr (k := 27) (t2 := 84) hG ha rfl) (n := 515) rfl rfl) (show 0 ≤ x1 + 486 by omega) (by omega) rfl
          refine j_iald hx hG (zr (k := 27) (t2 := 84) hG ha rfl) (by decide) rfl (zlen hG (zr (k := 27) (t2 := 84) hG ha rfl) (n := 515) rfl rfl) (by omega) (by omega) (j := (x1 + 486).toNat) rfl (v := (s0 (gP G a 27) (x1 + 486).toNat)) (by rw [e_s1, zU_at (Or.inl (zne ha (zr (k := 27) (t2 := 84) hG ha rfl) (by decide)))]) dX12_told_103 ?_
          refine j_goto hx 111 dX12_told_104 rfl ?_
          have g72 : s1 a 3 = s0 a 3 := (by rw [e_s1, zU_at (Or.inr (by decide))])
          have f73 := zf hS0 ha (k := 3) rfl
          have g74 : s1 a 4 = s0 a 4 := (by rw [e_s1, zU_at (Or.inr (by decide))])
          have f75 := zf hS0 ha (k := 4) rfl
          have g76 : s1 a 5 = s0 a 5 := (by rw [e_s1, zU_at (Or.inr (by decide))])
          have f77 := zf hS0 ha (k := 5) rfl
          have g78 : s1 a 7 = s0 a 7 := (by rw [e_s1, zU_at (Or.inr (by decide))])
          have f79 := zf hS0 ha (k := 7) rfl
          have g80 : s1 a 21 = s0 a 21 := (by rw [e_s1, zU_at (Or.inr (by decide))])
          have f81 := zf hS0 ha (k := 21) rfl
          have g82 : s1 a 22 = s0 a 22 := (by rw [e_s1, zU_at (Or.inr (by decide))])
          have f83 := zf hS0 ha (k := 22) rfl
          have g84 : s1 a 23 = s0 a 23 := (by rw [e_s1, zU_at (Or.inr (by decide))])
          have f85 := zf hS0 ha (k := 23) rfl
          have g86 : s1 a 24 = s0 a 24 := (by rw [e_s1, zU_at (Or.inr (by decide))])
          have f87 := zf hS0 ha (k := 24) rfl
          have g88 : s1 a 38 = s0 a 38 := (by rw [e_s1, zU_at (Or.inr (by decide))])
          have f89 := zf hS0 ha (k := 38) rfl
          have g90 : s1 a 51 = s0 a 51 := (by rw [e_s1, zU_at (Or.inr (by decide))])
          have f91 := zf hS0 ha (k := 51) rfl
          have g92 : s1 a 52 = s0 a 52 := (by rw [e_s1, zU_at (Or.inr (by decide))])
          have f93 := zf hS0 ha (k := 52) rfl
          exact j_iret hx hq rfl (by decide) (by decide) dX12_told_111 ⟨(s0 (gP G a 27) (x1 + 486).toNat), rfl, rfl, hS_s1, (zFr_u zFr_rf e_s1 ha (by decide)), ⟨(by omega), by omega, by omega, by omega, by omega, by omega, by omega, by omega, by omega, by omega, by omega, by omega⟩⟩
      · skip
        refine j_iload_n hx 1 dX12_told_65 rfl ?_
        refine j_iconst hx dX12_told_66 ?_
        refine j_icmp_ne hx 77 dX12_told_67 rfl (by omega) ⟨by decide, by decide⟩ (fun h94 => ?_) (fun h94 => ?_)
        · skip
          refine j_aload_n hx 0 dX12_told_77 rfl ?_
          refine g13_27 hx hG ha kf_RX12_56 dX12_told_78 ?_
          refine j_sipush hx dX12_told_81 rfl ?_
          have f95 := zaQ (j := 486) hS0 (zr (k := 27) (t2 := 84) hG ha rfl) (congrArg some (axS_2 486 (by omega))) (zlen hG (zr (k := 27) (t2 := 84) hG ha rfl) (n := 515) rfl rfl) (show 0 ≤ 486 by omega) (by omega) rfl
          have c96 := zc_1 (j := 486) hS0 (zr (k := 27) (t2 := 84) hG ha rfl) (zn hG (zr (k := 27) (t2 := 84) hG ha rfl) rfl) (by omega) (by omega)
          refine j_iald hx hG (zr (k := 27) (t2 := 84) hG ha rfl) (by decide) rfl (zlen hG (zr (k := 27) (t2 := 84) hG ha rfl) (n := 515) rfl rfl) (by omega) (by omega) (j := 486) rfl (v := (s0 (gP G a 27) 486)) (by rw [e_s1, zU_at (Or.inl (zne ha (zr (k := 27) (t2 := 84) hG ha rfl) (by decide)))]) dX12_told_84 ?_
          have g97 : s1 a 3 = s0 a 3 := (by rw [e_s1, zU_at (Or.inr (by decide))])
          have f98 := zf hS0 ha (k := 3) rfl
          have g99 : s1 a 4 = s0 a 4 := (by rw [e_s1, zU_at (Or.inr (by decide))])
          have f100 := zf hS0 ha (k := 4) rfl
          have g101 : s1 a 5 = s0 a 5 := (by rw [e_s1, zU_at (Or.inr (by decide))])
          have f102 := zf hS0 ha (k := 5) rfl
          have g103 : s1 a 7 = s0 a 7 := (by rw [e_s1, zU_at (Or.inr (by decide))])
          have f104 := zf hS0 ha (k := 7) rfl
          have g105 : s1 a 21 = s0 a 21 := (by rw [e_s1, zU_at (Or.inr (by decide))])
          have f106 := zf hS0 ha (k := 21) rfl
          have g107 : s1 a 22 = s0 a 22 := (by rw [e_s1, zU_at (Or.inr (by decide))])
          have f108 := zf hS0 ha (k := 22) rfl
          have g109 : s1 a 23 = s0 a 23 := (by rw [e_s1, zU_at (Or.inr (by decide))])
          have f110 := zf hS0 ha (k := 23) rfl
          have g111 : s1 a 24 = s0 a 24 := (by rw [e_s1, zU_at (Or.inr (by decide))])
          have f112 := zf hS0 ha (k := 24) rfl
          have g113 : s1 a 38 = s0 a 38 := (by rw [e_s1, zU_at (Or.inr (by decide))])
          have f114 := zf hS0 ha (k := 38) rfl
          have g115 : s1 a 51 = s0 a 51 := (by rw [e_s1, zU_at (Or.inr (by decide))])
          have f116 := zf hS0 ha (k := 51) rfl
          have g117 : s1 a 52 = s0 a 52 := (by rw [e_s1, zU_at (Or.inr (by decide))])
          have f118 := zf hS0 ha (k := 52) rfl
          exact j_iret hx hq rfl (by decide) (by decide) dX12_told_85 ⟨(s0 (gP G a 27) 486), rfl, rfl, hS_s1, (zFr_u zFr_rf e_s1 ha (by decide)), ⟨(by omega), by omega, by omega, by omega, by omega, by omega, by omega, by omega, by omega, by omega, by omega, by omega⟩⟩
        · skip
          refine j_aload_n hx 0 dX12_told_70 rfl ?_
          refine j_callV hx hG (c_X12_whose hst a) lk_RX12_336 ha (by decide) rfl rfl rfl rfl [] ⟨rfl, hG, hS_s1, ha⟩ rfl rfl ⟨by decide, by decide⟩ ⟨by decide, by decide⟩ (k2 := 0) (n2 := 0) rfl rfl (Nat.le_of_ble_eq_true rfl) dX12_told_71 (kIP (fun v119 q120 => ?_))
          refine j_goto hx 85 dX12_told_74 rfl ?_
          have g121 : s1 a 3 = s0 a 3 := (by rw [e_s1, zU_at (Or.inr (by decide))])
          have f122 := zf hS0 ha (k := 3) rfl
          have g123 : s1 a 4 = s0 a 4 := (by rw [e_s1, zU_at (Or.inr (by decide))])
          have f124 := zf hS0 ha (k := 4) rfl
          have g125 : s1 a 5 = s0 a 5 := (by rw [e_s1, zU_at (Or.inr (by decide))])
          have f126 := zf hS0 ha (k := 5) rfl
          have g127 : s1 a 7 = s0 a 7 := (by rw [e_s1, zU_at (Or.inr (by decide))])
          have f128 := zf hS0 ha (k := 7) rfl
          have g129 : s1 a 21 = s0 a 21 := (by rw [e_s1, zU_at (Or.inr (by decide))])
          have f130 := zf hS0 ha (k := 21) rfl
          have g131 : s1 a 22 = s0 a 22 := (by rw [e_s1, zU_at (Or.inr (by decide))])
          have f132 := zf hS0 ha (k := 22) rfl
          have g133 : s1 a 23 = s0 a 23 := (by rw [e_s1, zU_at (Or.inr (by decide))])
          have f134 := zf hS0 ha (k := 23) rfl
          have g135 : s1 a 24 = s0 a 24 := (by rw [e_s1, zU_at (Or.inr (by decide))])
          have f136 := zf hS0 ha (k := 24) rfl
          have g137 : s1 a 38 = s0 a 38 := (by rw [e_s1, zU_at (Or.inr (by decide))])
          have f138 := zf hS0 ha (k := 38) rfl
          have g139 : s1 a 51 = s0 a 51 := (by rw [e_s1, zU_at (Or.inr (by decide))])
          have f140 := zf hS0 ha (k := 51) rfl
          have g141 : s1 a 52 = s0 a 52 := (by rw [e_s1, zU_at (Or.inr (by decide))])
          have f142 := zf hS0 ha (k := 52) rfl
          exact j_iret hx hq rfl (by decide) (by decide) dX12_told_85 ⟨v119, rfl, rfl, hS_s1, (zFr_u zFr_rf e_s1 ha (by decide)), ⟨(by omega), by omega, by omega, by omega, by omega, by omega, by omega, by omega, by omega, by omega, by omega, by omega⟩⟩
    · skip
      refine j_iload_n hx 1 dX12_told_28 rfl ?_
      refine j_if_ne hx 39 dX12_told_29 rfl (by omega) (fun h143 => ?_) (fun h143 => ?_)
      · skip
        refine j_iload_n hx 1 dX12_told_39 rfl ?_
        refine j_iconst hx dX12_told_40 ?_
        refine j_icmp_ne hx 51 dX12_told_41 rfl (by omega) ⟨by decide, by decide⟩ (fun h144 => ?_) (fun h144 => ?_)
        · skip
          refine j_aload_n hx 0 dX12_told_51 rfl ?_
          refine g13_27 hx hG ha kf_RX12_56 dX12_told_52 ?_
          refine j_sipush hx dX12_told_55 rfl ?_
          have f145 := zaQ (j := 488) hS0 (zr (k := 27) (t2 := 84) hG ha rfl) (congrArg some (axS_4 488 (by omega))) (zlen hG (zr (k := 27) (t2 := 84) hG ha rfl) (n := 515) rfl rfl) (show 0 ≤ 488 by omega) (by omega) rfl
          refine j_iald hx hG (zr (k := 27) (t2 := 84) hG ha rfl) (by decide) rfl (zlen hG (zr (k := 27) (t2 := 84) hG ha rfl) (n := 515) rfl rfl) (by omega) (by omega) (j := 488) rfl (v := (s0 (gP G a 27) 488)) (by rw [e_s1, zU_at (Or.inl (zne ha (zr (k := 27) (t2 := 84) hG ha rfl) (by decide)))]) dX12_told_58 ?_
          have g146 : s1 a 3 = s0 a 3 := (by rw [e_s1, zU_at (Or.inr (by decide))])
          have f147 := zf hS0 ha (k := 3) rfl
          have g148 : s1 a 4 = s0 a 4 := (by rw [e_s1, zU_at (Or.inr (by decide))])
          have f149 := zf hS0 ha (k := 4) rfl
          have g150 : s1 a 5 = s0 a 5 := (by rw [e_s1, zU_at (Or.inr (by decide))])
          have f151 := zf hS0 ha (k := 5) rfl
          have g152 : s1 a 7 = s0 a 7 := (by rw [e_s1, zU_at (Or.inr (by decide))])
          have f153 := zf hS0 ha (k := 7) rfl
          have g154 : s1 a 21 = s0 a 21 := (by rw [e_s1, zU_at (Or.inr (by decide))])
          have f155 := zf hS0 ha (k := 21) rfl
          have g156 : s1 a 22 = s0 a 22 := (by rw [e_s1, zU_at (Or.inr (by decide))])
          have f157 := zf hS0 ha (k := 22) rfl
          have g158 : s1 a 23 = s0 a 23 := (by rw [e_s1, zU_at (Or.inr (by decide))])
          have f159 := zf hS0 ha (k := 23) rfl
          have g160 : s1 a 24 = s0 a 24 := (by rw [e_s1, zU_at (Or.inr (by decide))])
          have f161 := zf hS0 ha (k := 24) rfl
          have g162 : s1 a 38 = s0 a 38 := (by rw [e_s1, zU_at (Or.inr (by decide))])
          have f163 := zf hS0 ha (k := 38) rfl
          have g164 : s1 a 51 = s0 a 51 := (by rw [e_s1, zU_at (Or.inr (by decide))])
          have f165 := zf hS0 ha (k := 51) rfl
          have g166 : s1 a 52 = s0 a 52 := (by rw [e_s1, zU_at (Or.inr (by decide))])
          have f167 := zf hS0 ha (k := 52) rfl
          exact j_iret hx hq rfl (by decide) (by decide) dX12_told_59 ⟨(s0 (gP G a 27) 488), rfl, rfl, hS_s1, (zFr_u zFr_rf e_s1 ha (by decide)), ⟨(by omega), by omega, by omega, by omega, by omega, by omega, by omega, by omega, by omega, by omega, by omega, by omega⟩⟩
        · skip
          refine j_aload_n hx 0 dX12_told_44 rfl ?_
          have f168 := zf hS0 ha (k := 25) rfl
          refine g13_25 hx hG ha kf_RX12_192 (v := (s0 a 25)) (by rw [e_s1, zU_at (Or.inr (by decide))]) dX12_told_45 ?_
          refine j_goto hx 59 dX12_told_48 rfl ?_
          have g169 : s1 a 3 = s0 a 3 := (by rw [e_s1, zU_at (Or.inr (by decide))])
          have f170 := zf hS0 ha (k := 3) rfl
          have g171 : s1 a 4 = s0 a 4 := (by rw [e_s1, zU_at (Or.inr (by decide))])
          have f172 := zf hS0 ha (k := 4) rfl
          have g173 : s1 a 5 = s0 a 5 := (by rw [e_s1, zU_at (Or.inr (by decide))])
          have f174 := zf hS0 ha (k := 5) rfl
          have g175 : s1 a 7 = s0 a 7 := (by rw [e_s1, zU_at (Or.inr (by decide))])
          have f176 := zf hS0 ha (k := 7) rfl
          have g177 : s1 a 21 = s0 a 21 := (by rw [e_s1, zU_at (Or.inr (by decide))])
          have f178 := zf hS0 ha (k := 21) rfl
          have g179 : s1 a 22 = s0 a 22 := (by rw [e_s1, zU_at (Or.inr (by decide))])
          have f180 := zf hS0 ha (k := 22) rfl
          have g181 : s1 a 23 = s0 a 23 := (by rw [e_s1, zU_at (Or.inr (by decide))])
          have f182 := zf hS0 ha (k := 23) rfl
          have g183 : s1 a 24 = s0 a 24 := (by rw [e_s1, zU_at (Or.inr (by decide))])
          have f184 := zf hS0 ha (k := 24) rfl
          have g185 : s1 a 38 = s0 a 38 := (by rw [e_s1, zU_at (Or.inr (by decide))])
          have f186 := zf hS0 ha (k := 38) rfl
          have g187 : s1 a 51 = s0 a 51 := (by rw [e_s1, zU_at (Or.inr (by decide))])
          have f188 := zf hS0 ha (k := 51) rfl
          have g189 : s1 a 52 = s0 a 52 := (by rw [e_s1, zU_at (Or.inr (by decide))])
          have f190 := zf hS0 ha (k := 52) rfl
          exact j_iret hx hq rfl (by decide) (by decide) dX12_told_59 ⟨(s0 a 25), rfl, rfl, hS_s1, (zFr_u zFr_rf e_s1 ha (by decide)), ⟨(by omega), by omega, by omega, by omega, by omega, by omega, by omega, by omega, by omega, by omega, by omega, by omega⟩⟩
      · skip
        refine j_aload_n hx 0 dX12_told_32 rfl ?_
        have f191 := zf hS0 ha (k := 24) rfl
        refine g13_24 hx hG ha kf_RX12_189 (v := (s0 a 24)) (by rw [e_s1, zU_at (Or.inr (by decide))]) dX12_told_33 ?_
        refine j_goto hx 59 dX12_told_36 rfl ?_
        have g192 : s1 a 3 = s0 a 3 := (by rw [e_s1, zU_at (Or.inr (by decide))])
        have f193 := zf hS0 ha (k := 3) rfl
        have g194 : s1 a 4 = s0 a 4 := (by rw [e_s1, zU_at (Or.inr (by decide))])
        have f195 := zf hS0 ha (k := 4) rfl
        have g196 : s1 a 5 = s0 a 5 := (by rw [e_s1, zU_at (Or.inr (by decide))])
        have f197 := zf hS0 ha (k := 5) rfl
        have g198 : s1 a 7 = s0 a 7 := (by rw [e_s1, zU_at (Or.inr (by decide))])
        have f199 := zf hS0 ha (k := 7) rfl
        have g200 : s1 a 21 = s0 a 21 := (by rw [e_s1, zU_at (Or.inr (by decide))])
        have f201 := zf hS0 ha (k := 21) rfl
        have g202 : s1 a 22 = s0 a 22 := (by rw [e_s1, zU_at (Or.inr (by decide))])
        have f203 := zf hS0 ha (k := 22) rfl
        have g204 : s1 a 23 = s0 a 23 := (by rw [e_s1, zU_at (Or.inr (by decide))])
        have f205 := zf hS0 ha (k := 23) rfl
        have g206 : s1 a 24 = s0 a 24 := (by rw [e_s1, zU_at (Or.inr (by decide))])
        have g207 : s1 a 38 = s0 a 38 := (by rw [e_s1, zU_at (Or.inr (by decide))])
        have f208 := zf hS0 ha (k := 38) rfl
        have g209 : s1 a 51 = s0 a 51 := (by rw [e_s1, zU_at (Or.inr (by decide))])
        have f210 := zf hS0 ha (k := 51) rfl
        have g211 : s1 a 52 = s0 a 52 := (by rw [e_s1, zU_at (Or.inr (by decide))])
        have f212 := zf hS0 ha (k := 52) rfl
        exact j_iret hx hq rfl (by decide) (by decide) dX12_told_59 ⟨(s0 a 24), rfl, rfl, hS_s1, (zFr_u zFr_rf e_s1 ha (by decide)), ⟨(by omega), by omega, by omega, by omega, by omega, by omega, by omega, by omega, by omega, by omega, by omega, by omega⟩⟩

set_option maxHeartbeats 1200000 in
set_option maxRecDepth 20000 in
theorem c_X12_isPlayer {E : zE} {l : Launch} (hst : l.stackTraces = false) (a : Nat) (x1 : Int) (x2 : Int) : Con E l yX12_isPlayer cX12_isPlayer 3 (some .boolean) { frames := 1, cells := 0, slots := 0, locals := 23 } (fun G s vs => vs = [.ref a, .int (zI x1), .int (zI x2)] ∧ zGK G ∧ zSK G s ∧ (gT G a = 13) ∧ ((-2147483648) ≤ x1 ∧ x1 ≤ 2147483647) ∧ (1 ≤ x2 ∧ x2 ≤ 2) ∧ (s a 0 = 0)) (fun G s _ => pI (fun r G2 s2 => G2 = G ∧ zSK G s2 ∧ zFr [13, 71] G s s2 ∧ (0 ≤ r ∧ r ≤ 1) ∧ ((r = 1 → 0 ≤ x1 ∧ x1 < s a 24 ∧ s2 a 0 = 0) ∧ (r = 0 → s2 a 0 = x2)) ∧ s2 a 3 = s a 3 ∧ s2 a 4 = s a 4 ∧ s2 a 5 = s a 5 ∧ s2 a 7 = s a 7 ∧ s2 a 21 = s a 21 ∧ s2 a 22 = s a 22 ∧ s2 a 23 = s a 23 ∧ s2 a 24 = s a 24 ∧ s2 a 38 = s a 38 ∧ s2 a 51 = s a 51 ∧ s2 a 52 = s a 52)) := by
  refine Con.mk hst (by decide) (fun G s vs h => by rw [h.1]; exact Nat.le_of_ble_eq_true rfl) ?_
  rintro X G s0 vs ⟨rfl, hG, hS0, ha, hx1, hx2, e0⟩ rfl hx hq
  show JJ X E 3 G s0 0 0 [(0, .ref a), (1, .int (zI x1)), (2, .int (zI x2))] 0 []
  refine j_aload_n hx 0 dX12_isPlayer_0 rfl ?_
  refine j_iload_n hx 1 dX12_isPlayer_1 rfl ?_
  refine j_iconst hx dX12_isPlayer_2 ?_
  refine j_aload_n hx 0 dX12_isPlayer_3 rfl ?_
  have f1 := zf hS0 ha (k := 24) rfl
  refine g13_24 hx hG ha kf_RX12_189 rfl dX12_isPlayer_4 ?_
  refine j_iconst hx dX12_isPlayer_7 ?_
  refine j_isub hx (r := (s0 a 24) - 1) dX12_isPlayer_8 (by omega) ?_
  refine j_callS hx (c_X12_within hst x1 0 ((s0 a 24) - 1)) lk_RX12_314 [.int (zI x1), .int (zI 0), .int (zI ((s0 a 24) - 1))] ⟨rfl, hG, hS0, (by omega), (by omega), (by omega)⟩ rfl rfl ⟨by decide, by decide⟩ ⟨by decide, by decide⟩ (k2 := 0) (n2 := 0) rfl rfl (Nat.le_of_ble_eq_true rfl) dX12_isPlayer_9 (kIP (fun v2 q3 => ?_))
  refine j_iload_n hx 2 dX12_isPlayer_12 rfl ?_
  refine j_iconst hx dX12_isPlayer_13 ?_
  rcases (show v2 = 0 ∨ v2 = 1 by omega) with rfl | rfl
  · skip
    have f5 := zf hS0 ha (k := 3) rfl
    have f6 := zf hS0 ha (k := 4) rfl
    have f7 := zf hS0 ha (k := 5) rfl
    have f8 := zf hS0 ha (k := 7) rfl
    have f9 := zf hS0 ha (k := 21) rfl
    have f10 := zf hS0 ha (k := 22) rfl
    have f11 := zf hS0 ha (k := 23) rfl
    have f12 := zf hS0 ha (k := 38) rfl
    have f13 := zf hS0 ha (k := 51) rfl
    have f14 := zf hS0 ha (k := 52) rfl
    refine j_callV hx hG (c_X12_may_f hst a 0 x2 0) lk_RX12_240 ha (by decide) rfl rfl rfl rfl [.int (zI 0), .int (zI x2), .int (zI 0)] ⟨rfl, hG, hS0, ha, (by omega), (by omega), (by omega), (by omega)⟩ rfl rfl ⟨by decide, by decide⟩ ⟨by decide, by decide⟩ (k2 := 0) (n2 := 0) rfl rfl (Nat.le_of_ble_eq_true rfl) dX12_isPlayer_14 (kIM (fun v15 s1 hS_s1 hF_s1 q16 => ?_))
    have f17 := zf hS_s1 ha (k := 0) rfl
    have f18 := zf hS_s1 ha (k := 3) rfl
    have f19 := zf hS_s1 ha (k := 4) rfl
    have f20 := zf hS_s1 ha (k := 5) rfl
    have f21 := zf hS_s1 ha (k := 7) rfl
    have f22 := zf hS_s1 ha (k := 21) rfl
    have f23 := zf hS_s1 ha (k := 22) rfl
    have f24 := zf hS_s1 ha (k := 23) rfl
    have f25 := zf hS_s1 ha (k := 24) rfl
    have f26 := zf hS_s1 ha (k := 38) rfl
    have f27 := zf hS_s1 ha (k := 51) rfl
    have f28 := zf hS_s1 ha (k := 52) rfl
    exact j_zret hx hq rfl (by decide) (by decide) dX12_isPlayer_17 (by omega) ⟨v15, rfl, rfl, hS_s1, (zFr_t zFr_rf hF_s1 (by decide)), ⟨(by omega), by omega, by omega, by omega, by omega, by omega, by omega, by omega, by omega, by omega, by omega, by omega, by omega⟩⟩
  · skip
    refine j_callV hx hG (c_X12_may_t hst a 1 x2 0) lk_RX12_240 ha (by decide) rfl rfl rfl rfl [.int (zI 1), .int (zI x2), .int (zI 0)] ⟨rfl, hG, hS0, ha, (by omega), (by omega), (by omega), (by omega)⟩ rfl rfl ⟨by decide, by decide⟩ ⟨by decide, by decide⟩ (k2 := 0) (n2 := 0) rfl rfl (Nat.le_of_ble_eq_true rfl) dX12_isPlayer_14 (kIP (fun v29 q30 => ?_))
    have f31 := zf hS0 ha (k := 3) rfl
    have f32 := zf hS0 ha (k := 4) rfl
    have f33 := zf hS0 ha (k := 5) rfl
    have f34 := zf hS0 ha (k := 7) rfl
    have f35 := zf hS0 ha (k := 21) rfl
    have f36 := zf hS0 ha (k := 22) rfl
    have f37 := zf hS0 ha (k := 23) rfl
    have f38 := zf hS0 ha (k := 38) rfl
    have f39 := zf hS0 ha (k := 51) rfl
    have f40 := zf hS0 ha (k := 52) rfl
    exact j_zret hx hq rfl (by decide) (by decide) dX12_isPlayer_17 (by omega) ⟨v29, rfl, rfl, hS0, zFr_rf, ⟨(by omega), by omega, by omega, by omega, by omega, by omega, by omega, by omega, by omega, by omega, by omega, by omega, by omega⟩⟩

theorem lk_RX12_339 : LkV RX12 339 RX12 yX12_isPlayer cX12_isPlayer 3 (some .boolean) 2 := ⟨km_RX12_339, ki_yX12_isPlayer, ks_RX12_yX12_isPlayer, kn_RX12, kc_yX12_isPlayer, rfl, by decide +kernel, by decide +kernel, by decide +kernel⟩
set_option maxHeartbeats 1200000 in
set_option maxRecDepth 20000 in
theorem c_X12_player {E : zE} {l : Launch} (hst : l.stackTraces = false) (a : Nat) (x1 : Int) (x2 : Int) : Con E l yX12_player cX12_player 3 (some .int) { frames := 2, cells := 0, slots := 0, locals := 45 } (fun G s vs => vs = [.ref a, .int (zI x1), .int (zI x2)] ∧ zGK G ∧ zSK G s ∧ (gT G a = 13) ∧ ((-2147483648) ≤ x1 ∧ x1 ≤ 2147483647) ∧ ((-2147483648) ≤ x2 ∧ x2 ≤ 2147483647)) (fun G s _ => pI (fun r G2 s2 => G2 = G ∧ zSK G s2 ∧ zFr [13, 71] G s s2 ∧ ((-2147483648) ≤ r ∧ r ≤ 2147483647) ∧ s2 a 3 = s a 3 ∧ s2 a 4 = s a 4 ∧ s2 a 5 = s a 5 ∧ s2 a 7 = s a 7 ∧ s2 a 21 = s a 21 ∧ s2 a 22 = s a 22 ∧ s2 a 23 = s a 23 ∧ s2 a 24 = s a 24 ∧ s2 a 38 = s a 38 ∧ s2 a 51 = s a 51 ∧ s2 a 52 = s a 52)) := by
  refine Con.mk hst (by decide) (fun G s vs h => by rw [h.1]; exact Nat.le_of_ble_eq_true rfl) ?_
  rintro X G s0 vs ⟨rfl, hG, hS0, ha, hx1, hx2⟩ rfl hx hq
  show JJ X E 3 G s0 0 0 [(0, .ref a), (1, .int (zI x1)), (2, .int (zI x2))] 0 []
  refine j_aload_n hx 0 dX12_player_0 rfl ?_
  refine j_iconst hx dX12_player_1 ?_
  refine p13_0 hx hG ha kf_RX12_3 dX12_player_2 ?_
  obtain ⟨s1, e_s1⟩ : ∃ z, z = zU s0 a 0 0 := ⟨_, rfl⟩
  rw [← e_s1]
  have hS_s1 : zSK G s1 := by rw [e_s1]; exact zSK_F hS0 ha rfl rfl rfl (by omega)
  refine j_aload_n hx 0 dX12_player_5 rfl ?_
  refine j_iload_n hx 1 dX12_player_6 rfl ?_
  refine j_iconst hx dX12_player_7 ?_
  have g1 : s1 a 0 = 0 := (by rw [e_s1, zU_eq])
  have g2 : s1 a 24 = s0 a 24 := (by rw [e_s1, zU_at (Or.inr (by decide))])
  have f3 := zf hS0 ha (k := 24) rfl
  have g4 : s1 a 3 = s0 a 3 := (by rw [e_s1, zU_at (Or.inr (by decide))])
  have f5 := zf hS0 ha (k := 3) rfl
  have g6 : s1 a 4 = s0 a 4 := (by rw [e_s1, zU_at (Or.inr (by decide))])
  have f7 := zf hS0 ha (k := 4) rfl
  have g8 : s1 a 5 = s0 a 5 := (by rw [e_s1, zU_at (Or.inr (by decide))])
  have f9 := zf hS0 ha (k := 5) rfl
  have g10 : s1 a 7 = s0 a 7 := (by rw [e_s1, zU_at (Or.inr (by decide))])
  have f11 := zf hS0 ha (k := 7) rfl
  have g12 : s1 a 21 = s0 a 21 := (by rw [e_s1, zU_at (Or.inr (by decide))])
  have f13 := zf hS0 ha (k := 21) rfl
  have g14 : s1 a 22 = s0 a 22 := (by rw [e_s1, zU_at (Or.inr (by decide))])
  have f15 := zf hS0 ha (k := 22) rfl
  have g16 : s1 a 23 = s0 a 23 := (by rw [e_s1, zU_at (Or.inr (by decide))])
  have f17 := zf hS0 ha (k := 23) rfl
  have g18 : s1 a 38 = s0 a 38 := (by rw [e_s1, zU_at (Or.inr (by decide))])
  have f19 := zf hS0 ha (k := 38) rfl
  have g20 : s1 a 51 = s0 a 51 := (by rw [e_s1, zU_at (Or.inr (by decide))])
  have f21 := zf hS0 ha (k := 51) rfl
  have g22 : s1 a 52 = s0 a 52 := (by rw [e_s1, zU_at (Or.inr (by decide))])
  have f23 := zf hS0 ha (k := 52) rfl
  refine j_callV hx hG (c_X12_isPlayer hst a x1 1) lk_RX12_339 ha (by decide) rfl rfl rfl rfl [.int (zI x1), .int (zI 1)] ⟨rfl, hG, hS_s1, ha, (by omega), (by omega), (((by rw [e_s1, zU_eq]) : s1 a 0 = 0).trans (by omega))⟩ rfl rfl ⟨by decide, by decide⟩ ⟨by decide, by decide⟩ (k2 := 0) (n2 := 0) rfl rfl (Nat.le_of_ble_eq_true rfl) dX12_player_8 (kIM (fun v24 s2 hS_s2 hF_s2 q25 => ?_))
  refine j_if_eq hx 30 dX12_player_11 rfl (by omega) (fun h26 => ?_) (fun h26 => ?_)
  · skip
    refine j_iconst hx dX12_player_30 ?_
    have f27 := zf hS_s2 ha (k := 3) rfl
    have f28 := zf hS_s2 ha (k := 4) rfl
    have f29 := zf hS_s2 ha (k := 5) rfl
    have f30 := zf hS_s2 ha (k := 7) rfl
    have f31 := zf hS_s2 ha (k := 21) rfl
    have f32 := zf hS_s2 ha (k := 22) rfl
    have f33 := zf hS_s2 ha (k := 23) rfl
    have f34 := zf hS_s2 ha (k := 24) rfl
    have f35 := zf hS_s2 ha (k := 38) rfl
    have f36 := zf hS_s2 ha (k := 51) rfl
    have f37 := zf hS_s2 ha (k := 52) rfl
    exact j_iret hx hq rfl (by decide) (by decide) dX12_player_31 ⟨0, rfl, rfl, hS_s2, (zFr_t (zFr_u zFr_rf e_s1 ha (by decide)) hF_s2 (by decide)), ⟨(by omega), by omega, by omega, by omega, by omega, by omega, by omega, by omega, by omega, by omega, by omega, by omega⟩⟩
  · skip
    refine j_aload_n hx 0 dX12_player_14 rfl ?_
    refine j_iload_n hx 2 dX12_player_15 rfl ?_
    refine j_iconst hx dX12_player_16 ?_
    refine j_bipush hx dX12_player_17 rfl ?_
    refine j_callS hx (c_X12_within hst x2 0 7) lk_RX12_314 [.int (zI x2), .int (zI 0), .int (zI 7)] ⟨rfl, hG, hS_s2, (by omega), (by omega), (by omega)⟩ rfl rfl ⟨by decide, by decide⟩ ⟨by decide, by decide⟩ (k2 := 0) (n2 := 0) rfl rfl (Nat.le_of_ble_eq_true rfl) dX12_player_19 (kIP (fun v38 q39 => ?_))
    refine j_iconst hx dX12_player_22 ?_
    refine j_iconst hx dX12_player_23 ?_
    rcases (show v38 = 0 ∨ v38 = 1 by omega) with rfl | rfl
    · skip
      have f41 := zf hS_s2 ha (k := 0) rfl
      have f42 := zf hS_s2 ha (k := 3) rfl
      have f43 := zf hS_s2 ha (k := 4) rfl
      have f44 := zf hS_s2 ha (k := 5) rfl
      have f45 := zf hS_s2 ha (k := 7) rfl
      have f46 := zf hS_s2 ha (k := 21) rfl
      have f47 := zf hS_s2 ha (k := 22) rfl
      have f48 := zf hS_s2 ha (k := 23) rfl
      have f49 := zf hS_s2 ha (k := 24) rfl
      have f50 := zf hS_s2 ha (k := 38) rfl
      have f51 := zf hS_s2 ha (k := 51) rfl
      have f52 := zf hS_s2 ha (k := 52) rfl
      refine j_callV hx hG (c_X12_may_f hst a 0 2 1) lk_RX12_240 ha (by decide) rfl rfl rfl rfl [.int (zI 0), .int (zI 2), .int (zI 1)] ⟨rfl, hG, hS_s2, ha, (by omega), (by omega), (by omega), (by omega)⟩ rfl rfl ⟨by decide, by decide⟩ ⟨by decide, by decide⟩ (k2 := 0) (n2 := 0) rfl rfl (Nat.le_of_ble_eq_true rfl) dX12_player_24 (kIM (fun v53 s3 hS_s3 hF_s3 q54 => ?_))
      refine j_if_ne hx 32 dX12_player_27 rfl (by omega) (fun h55 => absurd h55 (by omega)) (fun h55 => ?_)
      refine j_iconst hx dX12_player_30 ?_
      have f56 := zf hS_s3 ha (k := 3) rfl
      have f57 := zf hS_s3 ha (k := 4) rfl
      have f58 := zf hS_s3 ha (k := 5) rfl
      have f59 := zf hS_s3 ha (k := 7) rfl
      have f60 := zf hS_s3 ha (k := 21) rfl
      have f61 := zf hS_s3 ha (k := 22) rfl
      have f62 := zf hS_s3 ha (k := 23) rfl
      have f63 := zf hS_s3 ha (k := 24) rfl
      have f64 := zf hS_s3 ha (k := 38) rfl
      have f65 := zf hS_s3 ha (k := 51) rfl
      have f66 := zf hS_s3 ha (k := 52) rfl
      exact j_iret hx hq rfl (by decide) (by decide) dX12_player_31 ⟨0, rfl, rfl, hS_s3, (zFr_t (zFr_t (zFr_u zFr_rf e_s1 ha (by decide)) hF_s2 (by decide)) hF_s3 (by decide)), ⟨(by omega), by omega, by omega, by omega, by omega, by omega, by omega, by omega, by omega, by omega, by omega, by omega⟩⟩
    · skip
      have f67 := zf hS_s2 ha (k := 0) rfl
      refine j_callV hx hG (c_X12_may_t hst a 1 2 1) lk_RX12_240 ha (by decide) rfl rfl rfl rfl [.int (zI 1), .int (zI 2), .int (zI 1)] ⟨rfl, hG, hS_s2, ha, (by omega), (by omega), (by omega), (by omega)⟩ rfl rfl ⟨by decide, by decide⟩ ⟨by decide, by decide⟩ (k2 := 0) (n2 := 0) rfl rfl (Nat.le_of_ble_eq_true rfl) dX12_player_24 (kIP (fun v68 q69 => ?_))
      refine j_if_ne hx 32 dX12_player_27 rfl (by omega) (fun h70 => ?_) (fun h70 => absurd h70 (by omega))
      refine j_iload_n hx 2 dX12_player_32 rfl ?_
      refine j_iconst hx dX12_player_33 ?_
      refine j_icmp_ge hx 62 dX12_player_34 rfl (by omega) ⟨by decide, by decide⟩ (fun h71 => ?_) (fun h71 => ?_)
      · skip
        refine j_iload_n hx 2 dX12_player_62 rfl ?_
        refine j_iconst hx dX12_player_63 ?_
        refine j_icmp_ne hx 80 dX12_player_64 rfl (by omega) ⟨by decide, by decide⟩ (fun h72 => ?_) (fun h72 => ?_)
        · skip
          refine j_iload_n hx 2 dX12_player_80 rfl ?_
          refine j_bipush hx dX12_player_81 rfl ?_
          refine j_icmp_ne hx 99 dX12_player_83 rfl (by omega) ⟨by decide, by decide⟩ (fun h73 => ?_) (fun h73 => ?_)
          · skip
            refine j_aload_n hx 0 dX12_player_99 rfl ?_
            refine j_iload_n hx 1 dX12_player_100 rfl ?_
            refine j_callV hx hG (c_X12_isOut hst a x1) lk_RX12_325 ha (by decide) rfl rfl rfl rfl [.int (zI x1)] ⟨rfl, hG, hS_s2, ha, (by omega)⟩ rfl rfl ⟨by decide, by decide⟩ ⟨by decide, by decide⟩ (k2 := 0) (n2 := 0) rfl rfl (Nat.le_of_ble_eq_true rfl) dX12_player_101 (kIP (fun v74 q75 => ?_))
            refine j_if_eq hx 111 dX12_player_104 rfl (by omega) (fun h76 => ?_) (fun h76 => ?_)
            · skip
              refine j_iconst hx dX12_player_111 ?_
              have f77 := zf hS_s2 ha (k := 3) rfl
              have f78 := zf hS_s2 ha (k := 4) rfl
              have f79 := zf hS_s2 ha (k := 5) rfl
              have f80 := zf hS_s2 ha (k := 7) rfl
              have f81 := zf hS_s2 ha (k := 21) rfl
              have f82 := zf hS_s2 ha (k := 22) rfl
              have f83 := zf hS_s2 ha (k := 23) rfl
              have f84 := zf hS_s2 ha (k := 24) rfl
              have f85 := zf hS_s2 ha (k := 38) rfl
              have f86 := zf hS_s2 ha (k := 51) rfl
              have f87 := zf hS_s2 ha (k := 52) rfl
              exact j_iret hx hq rfl (by decide) (by decide) dX12_player_112 ⟨0, rfl, rfl, hS_s2, (zFr_t (zFr_u zFr_rf e_s1 ha (by decide)) hF_s2 (by decide)), ⟨(by omega), by omega, by omega, by omega, by omega, by omega, by omega, by omega, by omega, by omega, by omega, by omega⟩⟩
            · skip
              refine j_iconst hx dX12_player_107 ?_
              refine j_goto hx 112 dX12_player_108 rfl ?_
              have f88 := zf hS_s2 ha (k := 3) rfl
              have f89 := zf hS_s2 ha (k := 4) rfl
              have f90 := zf hS_s2 ha (k := 5) rfl
              have f91 := zf hS_s2 ha (k := 7) rfl
              have f92 := zf hS_s2 ha (k := 21) rfl
              have f93 := zf hS_s2 ha (k := 22) rfl
              have f94 := zf hS_s2 ha (k := 23) rfl
              have f95 := zf hS_s2 ha (k := 24) rfl
              have f96 := zf hS_s2 ha (k := 38) rfl
              have f97 := zf hS_s2 ha (k := 51) rfl
              have f98 := zf hS_s2 ha (k := 52) rfl
              exact j_iret hx hq rfl (by decide) (by decide) dX12_player_112 ⟨1, rfl, rfl, hS_s2, (zFr_t (zFr_u zFr_rf e_s1 ha (by decide)) hF_s2 (by decide)), ⟨(by omega), by omega, by omega, by omega, by omega, by omega, by omega, by omega, by omega, by omega, by omega, by omega⟩⟩
          · skip
            refine j_aload_n hx 0 dX12_player_86 rfl ?_
            refine g13_27 hx hG ha kf_RX12_56 dX12_player_87 ?_
            refine j_sipush hx dX12_player_90 rfl ?_
            refine j_iload_n hx 1 dX12_player_93 rfl ?_
            refine j_iadd hx (r := x1 + 483) dX12_player_94 (by omega) ?_
            have f99 := zaQ (j := (x1 + 483).toNat) hS0 (zr (k := 27) (t2 := 84) hG ha rfl) (congrArg some (axS_2 (x1 + 483).toNat (by omega))) (zlen hG (zr (k := 27) (t2 := 84) hG ha rfl) (n := 515) rfl rfl) (show 0 ≤ x1 + 483 by omega) (by omega) rfl
            have c100 := zc_1 (j := (x1 + 483).toNat) hS0 (zr (k := 27) (t2 := 84) hG ha rfl) (zn hG (zr (k := 27) (t2 := 84) hG ha rfl) rfl) (by omega) (by omega)
            refine j_iald hx hG (zr (k := 27) (t2 := 84) hG ha rfl) (by decide) rfl (zlen hG (zr (k := 27) (t2 := 84) hG ha rfl) (n := 515) rfl rfl) (by omega) (by omega) (j := (x1 + 483).toNat) rfl (v := (s0 (gP G a 27) (x1 + 483).toNat)) (by rw [(zFr_g hF_s2 (zr (k := 27) (t2 := 84) hG ha rfl) (by decide)), e_s1, zU_at (Or.inl (zne ha (zr (k := 27) (t2 := 84) hG ha rfl) (by decide)))]) dX12_player_95 ?_
            refine j_goto hx 112 dX12_player_96 rfl ?_
            have f101 := zf hS_s2 ha (k := 3) rfl
            have f102 := zf hS_s2 ha (k := 4) rfl
            have f103 := zf hS_s2 ha (k := 5) rfl
            have f104 := zf hS_s2 ha (k := 7) rfl
            have f105 := zf hS_s2 ha (k := 21) rfl
            have f106 := zf hS_s2 ha (k := 22) rfl
            have f107 := zf hS_s2 ha (k := 23) rfl
            have f108 := zf hS_s2 ha (k := 24) rfl
            have f109 := zf hS_s2 ha (k := 38) rfl
            have f110 := zf hS_s2 ha (k := 51) rfl
            have f111 := zf hS_s2 ha (k := 52) rfl
            exact j_iret hx hq rfl (by decide) (by decide) dX12_player_112 ⟨(s0 (gP G a 27) (x1 + 483).toNat), rfl, rfl, hS_s2, (zFr_t (zFr_u zFr_rf e_s1 ha (by decide)) hF_s2 (by decide)), ⟨(by omega), by omega, by omega, by omega, by omega, by omega, by omega, by omega, by omega, by omega, by omega, by omega⟩⟩
        · skip
          refine j_aload_n hx 0 dX12_player_67 rfl ?_
          refine g13_27 hx hG ha kf_RX12_56 dX12_player_68 ?_
          refine j_sipush hx dX12_player_71 rfl ?_
          refine j_iload_n hx 1 dX12_player_74 rfl ?_
          refine j_iadd hx (r := x1 + 480) dX12_player_75 (by omega) ?_
          have f112 := zaQ (j := (x1 + 480).toNat) hS0 (zr (k := 27) (t2 := 84) hG ha rfl) (congrArg some (axS_2 (x1 + 480).toNat (by omega))) (zlen hG (zr (k := 27) (t2 := 84) hG ha rfl) (n := 515) rfl rfl) (show 0 ≤ x1 + 480 by omega) (by omega) rfl
          have c113 := zc_1 (j := (x1 + 480).toNat) hS0 (zr (k := 27) (t2 := 84) hG ha rfl) (zn hG (zr (k := 27) (t2 := 84) hG ha rfl) rfl) (by omega) (by omega)
          refine j_iald hx hG (zr (k := 27) (t2 := 84) hG ha rfl) (by decide) rfl (zlen hG (zr (k := 27) (t2 := 84) hG ha rfl) (n := 515) rfl rfl) (by omega) (by omega) (j := (x1 + 480).toNat) rfl (v := (s0 (gP G a 27) (x1 + 480).toNat)) (by rw [(zFr_g hF_s2 (zr (k := 27) (t2 := 84) hG ha rfl) (by decide)), e_s1, zU_at (Or.inl (zne ha (zr (k := 27) (t2 := 84) hG ha rfl) (by decide)))]) dX12_player_76 ?_
          refine j_goto hx 112 dX12_player_77 rfl ?_
          have f114 := zf hS_s2 ha (k := 3) rfl
          have f115 := zf hS_s2 ha (k := 4) rfl
          have f116 := zf hS_s2 ha (k := 5) rfl
          have f117 := zf hS_s2 ha (k := 7) rfl
          have f118 := zf hS_s2 ha (k := 21) rfl
          have f119 := zf hS_s2 ha (k := 22) rfl
          have f120 := zf hS_s2 ha (k := 23) rfl
          have f121 := zf hS_s2 ha (k := 24) rfl
          have f122 := zf hS_s2 ha (k := 38) rfl
          have f123 := zf hS_s2 ha (k := 51) rfl
          have f124 := zf hS_s2 ha (k := 52) rfl
          exact j_iret hx hq rfl (by decide) (by decide) dX12_player_112 ⟨(s0 (gP G a 27) (x1 + 480).toNat), rfl, rfl, hS_s2, (zFr_t (zFr_u zFr_rf e_s1 ha (by decide)) hF_s2 (by decide)), ⟨(by omega), by omega, by omega, by omega, by omega, by omega, by omega, by omega, by omega, by omega, by omega, by omega⟩⟩
      · skip
        refine j_iload_n hx 2 dX12_player_37 rfl ?_
        refine j_iconst hx dX12_player_38 ?_
        refine j_icmp_ge hx 55 dX12_player_39 rfl (by omega) ⟨by decide, by decide⟩ (fun h125 => ?_) (fun h125 => ?_)
        · skip
          refine j_aload_n hx 0 dX12_player_55 rfl ?_
          refine g13_18 hx hG ha kf_RX12_47 dX12_player_56 ?_
          refine j_iload_n hx 1 dX12_player_59 rfl ?_
          have f126 := zaI (j := (x1).toNat) hS0 (zr (k := 18) (t2 := 81) hG ha rfl) rfl (zlen hG (zr (k := 18) (t2 := 81) hG ha rfl) (n := 3) rfl rfl) (show 0 ≤ x1 by omega) (by omega) rfl
          refine j_iald hx hG (zr (k := 18) (t2 := 81) hG ha rfl) (by decide) rfl (zlen hG (zr (k := 18) (t2 := 81) hG ha rfl) (n := 3) rfl rfl) (by omega) (by omega) (j := (x1).toNat) rfl (v := (s0 (gP G a 18) (x1).toNat)) (by rw [(zFr_g hF_s2 (zr (k := 18) (t2 := 81) hG ha rfl) (by decide)), e_s1, zU_at (Or.inl (zne ha (zr (k := 18) (t2 := 81) hG ha rfl) (by decide)))]) dX12_player_60 ?_
          have f127 := zf hS_s2 ha (k := 3) rfl
          have f128 := zf hS_s2 ha (k := 4) rfl
          have f129 := zf hS_s2 ha (k := 5) rfl
          have f130 := zf hS_s2 ha (k := 7) rfl
          have f131 := zf hS_s2 ha (k := 21) rfl
          have f132 := zf hS_s2 ha (k := 22) rfl
          have f133 := zf hS_s2 ha (k := 23) rfl
          have f134 := zf hS_s2 ha (k := 24) rfl
          have f135 := zf hS_s2 ha (k := 38) rfl
          have f136 := zf hS_s2 ha (k := 51) rfl
          have f137 := zf hS_s2 ha (k := 52) rfl
          exact j_iret hx hq rfl (by decide) (by decide) dX12_player_61 ⟨(s0 (gP G a 18) (x1).toNat), rfl, rfl, hS_s2, (zFr_t (zFr_u zFr_rf e_s1 ha (by decide)) hF_s2 (by decide)), ⟨(by omega), by omega, by omega, by omega, by omega, by omega, by omega, by omega, by omega, by omega, by omega, by omega⟩⟩
        · skip
          refine j_aload_n hx 0 dX12_player_42 rfl ?_
          refine g13_17 hx hG ha kf_RX12_44 dX12_player_43 ?_
          refine j_iconst hx dX12_player_46 ?_
          refine j_iload_n hx 1 dX12_player_47 rfl ?_
          refine j_imul hx (r := 4 * x1) dX12_player_48 rfl ?_
          refine j_iload_n hx 2 dX12_player_49 rfl ?_
          refine j_iadd hx (r := 4 * x1 + x2) dX12_player_50 (by omega) ?_
          have f138 := zaI (j := (4 * x1 + x2).toNat) hS0 (zr (k := 17) (t2 := 80) hG ha rfl) rfl (zlen hG (zr (k := 17) (t2 := 80) hG ha rfl) (n := 12) rfl rfl) (show 0 ≤ 4 * x1 + x2 by omega) (by omega) rfl
          refine j_iald hx hG (zr (k := 17) (t2 := 80) hG ha rfl) (by decide) rfl (zlen hG (zr (k := 17) (t2 := 80) hG ha rfl) (n := 12) rfl rfl) (by omega) (by omega) (j := (4 * x1 + x2).toNat) rfl (v := (s0 (gP G a 17) (4 * x1 + x2).toNat)) (by rw [(zFr_g hF_s2 (zr (k := 17) (t2 := 80) hG ha rfl) (by decide)), e_s1, zU_at (Or.inl (zne ha (zr (k := 17) (t2 := 80) hG ha rfl) (by decide)))]) dX12_player_51 ?_
          refine j_goto hx 61 dX12_player_52 rfl ?_
          have f139 := zf hS_s2 ha (k := 3) rfl
          have f140 := zf hS_s2 ha (k := 4) rfl
          have f141 := zf hS_s2 ha (k := 5) rfl
          have f142 := zf hS_s2 ha (k := 7) rfl
          have f143 := zf hS_s2 ha (k := 21) rfl
          have f144 := zf hS_s2 ha (k := 22) rfl
          have f145 := zf hS_s2 ha (k := 23) rfl
          have f146 := zf hS_s2 ha (k := 24) rfl
          have f147 := zf hS_s2 ha (k := 38) rfl
          have f148 := zf hS_s2 ha (k := 51) rfl
          have f149 := zf hS_s2 ha (k := 52) rfl
          exact j_iret hx hq rfl (by decide) (by decide) dX12_player_61 ⟨(s0 (gP G a 17) (4 * x1 + x2).toNat), rfl, rfl, hS_s2, (zFr_t (zFr_u zFr_rf e_s1 ha (by decide)) hF_s2 (by decide)), ⟨(by omega), by omega, by omega, by omega, by omega, by omega, by omega, by omega, by omega, by omega, by omega, by omega⟩⟩

set_option maxHeartbeats 1200000 in
set_option maxRecDepth 20000 in
theorem c_X12_row {E : zE} {l : Launch} (hst : l.stackTraces = false) (a : Nat) (x1 : Int) (x2 : Int) : Con E l yX12_row cX12_row 3 (some .int) { frames := 2, cells := 0, slots := 0, locals := 45 } (fun G s vs => vs = [.ref a, .int (zI x1), .int (zI x2)] ∧ zGK G ∧ zSK G s ∧ (gT G a = 13) ∧ ((-2147483648) ≤ x1 ∧ x1 ≤ 2147483647) ∧ ((-2147483648) ≤ x2 ∧ x2 ≤ 2147483647)) (fun G s _ => pI (fun r G2 s2 => G2 = G ∧ zSK G s2 ∧ zFr [13, 71] G s s2 ∧ ((-2147483648) ≤ r ∧ r ≤ 2147483647) ∧ s2 a 3 = s a 3 ∧ s2 a 4 = s a 4 ∧ s2 a 5 = s a 5 ∧ s2 a 7 = s a 7 ∧ s2 a 21 = s a 21 ∧ s2 a 22 = s a 22 ∧ s2 a 23 = s a 23 ∧ s2 a 24 = s a 24 ∧ s2 a 38 = s a 38 ∧ s2 a 51 = s a 51 ∧ s2 a 52 = s a 52)) := by
  refine Con.mk hst (by decide) (fun G s vs h => by rw [h.1]; exact Nat.le_of_ble_eq_true rfl) ?_
  rintro X G s0 vs ⟨rfl, hG, hS0, ha, hx1, hx2⟩ rfl hx hq
  show JJ X E 3 G s0 0 0 [(0, .ref a), (1, .int (zI x1)), (2, .int (zI x2))] 0 []
  refine j_aload_n hx 0 dX12_row_0 rfl ?_
  refine j_iconst hx dX12_row_1 ?_
  refine p13_0 hx hG ha kf_RX12_3 dX12_row_2 ?_
  obtain ⟨s1, e_s1⟩ : ∃ z, z = zU s0 a 0 0 := ⟨_, rfl⟩
  rw [← e_s1]
  have hS_s1 : zSK G s1 := by rw [e_s1]; exact zSK_F hS0 ha rfl rfl rfl (by omega)
  refine j_aload_n hx 0 dX12_row_5 rfl ?_
  refine j_iload_n hx 1 dX12_row_6 rfl ?_
  refine j_iconst hx dX12_row_7 ?_
  have g1 : s1 a 0 = 0 := (by rw [e_s1, zU_eq])
  have g2 : s1 a 24 = s0 a 24 := (by rw [e_s1, zU_at (Or.inr (by decide))])
  have f3 := zf hS0 ha (k := 24) rfl
  have g4 : s1 a 3 = s0 a 3 := (by rw [e_s1, zU_at (Or.inr (by decide))])
  have f5 := zf hS0 ha (k := 3) rfl
  have g6 : s1 a 4 = s0 a 4 := (by rw [e_s1, zU_at (Or.inr (by decide))])
  have f7 := zf hS0 ha (k := 4) rfl
  have g8 : s1 a 5 = s0 a 5 := (by rw [e_s1, zU_at (Or.inr (by decide))])
  have f9 := zf hS0 ha (k := 5) rfl
  have g10 : s1 a 7 = s0 a 7 := (by rw [e_s1, zU_at (Or.inr (by decide))])
  have f11 := zf hS0 ha (k := 7) rfl
  have g12 : s1 a 21 = s0 a 21 := (by rw [e_s1, zU_at (Or.inr (by decide))])
  have f13 := zf hS0 ha (k := 21) rfl
  have g14 : s1 a 22 = s0 a 22 := (by rw [e_s1, zU_at (Or.inr (by decide))])
  have f15 := zf hS0 ha (k := 22) rfl
  have g16 : s1 a 23 = s0 a 23 := (by rw [e_s1, zU_at (Or.inr (by decide))])
  have f17 := zf hS0 ha (k := 23) rfl
  have g18 : s1 a 38 = s0 a 38 := (by rw [e_s1, zU_at (Or.inr (by decide))])
  have f19 := zf hS0 ha (k := 38) rfl
  have g20 : s1 a 51 = s0 a 51 := (by rw [e_s1, zU_at (Or.inr (by decide))])
  have f21 := zf hS0 ha (k := 51) rfl
  have g22 : s1 a 52 = s0 a 52 := (by rw [e_s1, zU_at (Or.inr (by decide))])
  have f23 := zf hS0 ha (k := 52) rfl
  refine j_callV hx hG (c_X12_isPlayer hst a x1 1) lk_RX12_339 ha (by decide) rfl rfl rfl rfl [.int (zI x1), .int (zI 1)] ⟨rfl, hG, hS_s1, ha, (by omega), (by omega), (((by rw [e_s1, zU_eq]) : s1 a 0 = 0).trans (by omega))⟩ rfl rfl ⟨by decide, by decide⟩ ⟨by decide, by decide⟩ (k2 := 0) (n2 := 0) rfl rfl (Nat.le_of_ble_eq_true rfl) dX12_row_8 (kIM (fun v24 s2 hS_s2 hF_s2 q25 => ?_))
  refine j_if_ne hx 16 dX12_row_11 rfl (by omega) (fun h26 => ?_) (fun h26 => ?_)
  · skip
    refine j_iload_n hx 2 dX12_row_16 rfl ?_
    refine j_iconst hx dX12_row_17 ?_
    refine j_aload_n hx 0 dX12_row_18 rfl ?_
    refine g13_27 hx hG ha kf_RX12_56 dX12_row_19 ?_
    refine j_sipush hx dX12_row_22 rfl ?_
    refine j_iload_n hx 1 dX12_row_25 rfl ?_
    refine j_iadd hx (r := x1 + 480) dX12_row_26 (by omega) ?_
    have f27 := zaQ (j := (x1 + 480).toNat) hS0 (zr (k := 27) (t2 := 84) hG ha rfl) (congrArg some (axS_2 (x1 + 480).toNat (by omega))) (zlen hG (zr (k := 27) (t2 := 84) hG ha rfl) (n := 515) rfl rfl) (show 0 ≤ x1 + 480 by omega) (by omega) rfl
    have c28 := zc_1 (j := (x1 + 480).toNat) hS0 (zr (k := 27) (t2 := 84) hG ha rfl) (zn hG (zr (k := 27) (t2 := 84) hG ha rfl) rfl) (by omega) (by omega)
    refine j_iald hx hG (zr (k := 27) (t2 := 84) hG ha rfl) (by decide) rfl (zlen hG (zr (k := 27) (t2 := 84) hG ha rfl) (n := 515) rfl rfl) (by omega) (by omega) (j := (x1 + 480).toNat) rfl (v := (s0 (gP G a 27) (x1 + 480).toNat)) (by rw [(zFr_g hF_s2 (zr (k := 27) (t2 := 84) hG ha rfl) (by decide)), e_s1, zU_at (Or.inl (zne ha (zr (k := 27) (t2 := 84) hG ha rfl) (by decide)))]) dX12_row_27 ?_
    refine j_iconst hx dX12_row_28 ?_
    refine j_isub hx (r := (s0 (gP G a 27) (x1 + 480).toNat) - 1) dX12_row_29 (by omega) ?_
    refine j_callS hx (c_X12_within hst x2 0 ((s0 (gP G a 27) (x1 + 480).toNat) - 1)) lk_RX12_314 [.int (zI x2), .int (zI 0), .int (zI ((s0 (gP G a 27) (x1 + 480).toNat) - 1))] ⟨rfl, hG, hS_s2, (by omega), (by omega), (by omega)⟩ rfl rfl ⟨by decide, by decide⟩ ⟨by decide, by decide⟩ (k2 := 0) (n2 := 0) rfl rfl (Nat.le_of_ble_eq_true rfl) dX12_row_30 (kIP (fun v29 q30 => ?_))
    refine j_if_eq hx 57 dX12_row_33 rfl (by omega) (fun h31 => ?_) (fun h31 => ?_)
    · skip
      refine j_iconst hx dX12_row_57 ?_
      have f32 := zf hS_s2 ha (k := 3) rfl
      have f33 := zf hS_s2 ha (k := 4) rfl
      have f34 := zf hS_s2 ha (k := 5) rfl
      have f35 := zf hS_s2 ha (k := 7) rfl
      have f36 := zf hS_s2 ha (k := 21) rfl
      have f37 := zf hS_s2 ha (k := 22) rfl
      have f38 := zf hS_s2 ha (k := 23) rfl
      have f39 := zf hS_s2 ha (k := 24) rfl
      have f40 := zf hS_s2 ha (k := 38) rfl
      have f41 := zf hS_s2 ha (k := 51) rfl
      have f42 := zf hS_s2 ha (k := 52) rfl
      exact j_iret hx hq rfl (by decide) (by decide) dX12_row_58 ⟨(-1), rfl, rfl, hS_s2, (zFr_t (zFr_u zFr_rf e_s1 ha (by decide)) hF_s2 (by decide)), ⟨(by omega), by omega, by omega, by omega, by omega, by omega, by omega, by omega, by omega, by omega, by omega, by omega⟩⟩
    · skip
      refine j_aload_n hx 0 dX12_row_36 rfl ?_
      refine g13_19 hx hG ha kf_RX12_50 dX12_row_37 ?_
      refine j_aload_n hx 0 dX12_row_40 rfl ?_
      refine g13_27 hx hG ha kf_RX12_56 dX12_row_41 ?_
      refine j_iconst hx dX12_row_44 ?_
      refine j_bipush hx dX12_row_45 rfl ?_
      refine j_iload_n hx 1 dX12_row_47 rfl ?_
      refine j_imul hx (r := 60 * x1) dX12_row_48 rfl ?_
      refine j_iadd hx (r := 60 * x1) dX12_row_49 (by omega) ?_
      refine j_iload_n hx 2 dX12_row_50 rfl ?_
      refine j_iadd hx (r := 60 * x1 + x2) dX12_row_51 (by omega) ?_
      have f43 := zaQ (j := (60 * x1 + x2).toNat) hS0 (zr (k := 27) (t2 := 84) hG ha rfl) (congrArg some (axS_0 (60 * x1 + x2).toNat (by omega))) (zlen hG (zr (k := 27) (t2 := 84) hG ha rfl) (n := 515) rfl rfl) (show 0 ≤ 60 * x1 + x2 by omega) (by omega) rfl
      refine j_iald hx hG (zr (k := 27) (t2 := 84) hG ha rfl) (by decide) rfl (zlen hG (zr (k := 27) (t2 := 84) hG ha rfl) (n := 515) rfl rfl) (by omega) (by omega) (j := (60 * x1 + x2).toNat) rfl (v := (s0 (gP G a 27) (60 * x1 + x2).toNat)) (by rw [(zFr_g hF_s2 (zr (k := 27) (t2 := 84) hG ha rfl) (by decide)), e_s1, zU_at (Or.inl (zne ha (zr (k := 27) (t2 := 84) hG ha rfl) (by decide)))]) dX12_row_52 ?_
      have f44 := zaI (j := ((s0 (gP G a 27) (60 * x1 + x2).toNat)).toNat) hS0 (zr (k := 19) (t2 := 82) hG ha rfl) rfl (zlen hG (zr (k := 19) (t2 := 82) hG ha rfl) (n := 60) rfl rfl) (show 0 ≤ (s0 (gP G a 27) (60 * x1 + x2).toNat) by omega) (by omega) rfl
      refine j_iald hx hG (zr (k := 19) (t2 := 82) hG ha rfl) (by decide) rfl (zlen hG (zr (k := 19) (t2 := 82) hG ha rfl) (n := 60) rfl rfl) (by omega) (by omega) (j := ((s0 (gP G a 27) (60 * x1 + x2).toNat)).toNat) rfl (v := (s0 (gP G a 19) ((s0 (gP G a 27) (60 * x1 + x2).toNat)).toNat)) (by rw [(zFr_g hF_s2 (zr (k := 19) (t2 := 82) hG ha rfl) (by decide)), e_s1, zU_at (Or.inl (zne ha (zr (k := 19) (t2 := 82) hG ha rfl) (by decide)))]) dX12_row_53 ?_
      refine j_goto hx 58 dX12_row_54 rfl ?_
      have f45 := zf hS_s2 ha (k := 3) rfl
      have f46 := zf hS_s2 ha (k := 4) rfl
      have f47 := zf hS_s2 ha (k := 5) rfl
      have f48 := zf hS_s2 ha (k := 7) rfl
      have f49 := zf hS_s2 ha (k := 21) rfl
      have f50 := zf hS_s2 ha (k := 22) rfl
      have f51 := zf hS_s2 ha (k := 23) rfl
      have f52 := zf hS_s2 ha (k := 24) rfl
      have f53 := zf hS_s2 ha (k := 38) rfl
      have f54 := zf hS_s2 ha (k := 51) rfl
      have f55 := zf hS_s2 ha (k := 52) rfl
      exact j_iret hx hq rfl (by decide) (by decide) dX12_row_58 ⟨(s0 (gP G a 19) ((s0 (gP G a 27) (60 * x1 + x2).toNat)).toNat), rfl, rfl, hS_s2, (zFr_t (zFr_u zFr_rf e_s1 ha (by decide)) hF_s2 (by decide)), ⟨(by omega), by omega, by omega, by omega, by omega, by omega, by omega, by omega, by omega, by omega, by omega, by omega⟩⟩
  · skip
    refine j_iconst hx dX12_row_14 ?_
    have f56 := zf hS_s2 ha (k := 3) rfl
    have f57 := zf hS_s2 ha (k := 4) rfl
    have f58 := zf hS_s2 ha (k := 5) rfl
    have f59 := zf hS_s2 ha (k := 7) rfl
    have f60 := zf hS_s2 ha (k := 21) rfl
    have f61 := zf hS_s2 ha (k := 22) rfl
    have f62 := zf hS_s2 ha (k := 23) rfl
    have f63 := zf hS_s2 ha (k := 24) rfl
    have f64 := zf hS_s2 ha (k := 38) rfl
    have f65 := zf hS_s2 ha (k := 51) rfl
    have f66 := zf hS_s2 ha (k := 52) rfl
    exact j_iret hx hq rfl (by decide) (by decide) dX12_row_15 ⟨0, rfl, rfl, hS_s2, (zFr_t (zFr_u zFr_rf e_s1 ha (by decide)) hF_s2 (by decide)), ⟨(by omega), by omega, by omega, by omega, by omega, by omega, by omega, by omega, by omega, by omega, by omega, by omega⟩⟩

set_option maxHeartbeats 1200000 in
set_option maxRecDepth 20000 in
theorem c_X12_heap {E : zE} {l : Launch} (hst : l.stackTraces = false) (a : Nat) (x1 : Int) (x2 : Int) : Con E l yX12_heap cX12_heap 3 (some .int) { frames := 2, cells := 0, slots := 0, locals := 45 } (fun G s vs => vs = [.ref a, .int (zI x1), .int (zI x2)] ∧ zGK G ∧ zSK G s ∧ (gT G a = 13) ∧ ((-2147483648) ≤ x1 ∧ x1 ≤ 2147483647) ∧ ((-2147483648) ≤ x2 ∧ x2 ≤ 2147483647)) (fun G s _ => pI (fun r G2 s2 => G2 = G ∧ zSK G s2 ∧ zFr [13, 71] G s s2 ∧ ((-2147483648) ≤ r ∧ r ≤ 2147483647) ∧ s2 a 3 = s a 3 ∧ s2 a 4 = s a 4 ∧ s2 a 5 = s a 5 ∧ s2 a 7 = s a 7 ∧ s2 a 21 = s a 21 ∧ s2 a 22 = s a 22 ∧ s2 a 23 = s a 23 ∧ s2 a 24 = s a 24 ∧ s2 a 38 = s a 38 ∧ s2 a 51 = s a 51 ∧ s2 a 52 = s a 52)) := by
  refine Con.mk hst (by decide) (fun G s vs h => by rw [h.1]; exact Nat.le_of_ble_eq_true rfl) ?_
  rintro X G s0 vs ⟨rfl, hG, hS0, ha, hx1, hx2⟩ rfl hx hq
  show JJ X E 3 G s0 0 0 [(0, .ref a), (1, .int (zI x1)), (2, .int (zI x2))] 0 []
  refine j_aload_n hx 0 dX12_heap_0 rfl ?_
  refine j_iconst hx dX12_heap_1 ?_
  refine p13_0 hx hG ha kf_RX12_3 dX12_heap_2 ?_
  obtain ⟨s1, e_s1⟩ : ∃ z, z = zU s0 a 0 0 := ⟨_, rfl⟩
  rw [← e_s1]
  have hS_s1 : zSK G s1 := by rw [e_s1]; exact zSK_F hS0 ha rfl rfl rfl (by omega)
  refine j_aload_n hx 0 dX12_heap_5 rfl ?_
  refine j_iload_n hx 1 dX12_heap_6 rfl ?_
  refine j_iconst hx dX12_heap_7 ?_
  have g1 : s1 a 0 = 0 := (by rw [e_s1, zU_eq])
  have g2 : s1 a 24 = s0 a 24 := (by rw [e_s1, zU_at (Or.inr (by decide))])
  have f3 := zf hS0 ha (k := 24) rfl
  have g4 : s1 a 3 = s0 a 3 := (by rw [e_s1, zU_at (Or.inr (by decide))])
  have f5 := zf hS0 ha (k := 3) rfl
  have g6 : s1 a 4 = s0 a 4 := (by rw [e_s1, zU_at (Or.inr (by decide))])
  have f7 := zf hS0 ha (k := 4) rfl
  have g8 : s1 a 5 = s0 a 5 := (by rw [e_s1, zU_at (Or.inr (by decide))])
  have f9 := zf hS0 ha (k := 5) rfl
  have g10 : s1 a 7 = s0 a 7 := (by rw [e_s1, zU_at (Or.inr (by decide))])
  have f11 := zf hS0 ha (k := 7) rfl
  have g12 : s1 a 21 = s0 a 21 := (by rw [e_s1, zU_at (Or.inr (by decide))])
  have f13 := zf hS0 ha (k := 21) rfl
  have g14 : s1 a 22 = s0 a 22 := (by rw [e_s1, zU_at (Or.inr (by decide))])
  have f15 := zf hS0 ha (k := 22) rfl
  have g16 : s1 a 23 = s0 a 23 := (by rw [e_s1, zU_at (Or.inr (by decide))])
  have f17 := zf hS0 ha (k := 23) rfl
  have g18 : s1 a 38 = s0 a 38 := (by rw [e_s1, zU_at (Or.inr (by decide))])
  have f19 := zf hS0 ha (k := 38) rfl
  have g20 : s1 a 51 = s0 a 51 := (by rw [e_s1, zU_at (Or.inr (by decide))])
  have f21 := zf hS0 ha (k := 51) rfl
  have g22 : s1 a 52 = s0 a 52 := (by rw [e_s1, zU_at (Or.inr (by decide))])
  have f23 := zf hS0 ha (k := 52) rfl
  refine j_callV hx hG (c_X12_isPlayer hst a x1 1) lk_RX12_339 ha (by decide) rfl rfl rfl rfl [.int (zI x1), .int (zI 1)] ⟨rfl, hG, hS_s1, ha, (by omega), (by omega), (((by rw [e_s1, zU_eq]) : s1 a 0 = 0).trans (by omega))⟩ rfl rfl ⟨by decide, by decide⟩ ⟨by decide, by decide⟩ (k2 := 0) (n2 := 0) rfl rfl (Nat.le_of_ble_eq_true rfl) dX12_heap_8 (kIM (fun v24 s2 hS_s2 hF_s2 q25 => ?_))
  refine j_if_ne hx 16 dX12_heap_11 rfl (by omega) (fun h26 => ?_) (fun h26 => ?_)
  · skip
    refine j_iload_n hx 2 dX12_heap_16 rfl ?_
    refine j_iconst hx dX12_heap_17 ?_
    refine j_aload_n hx 0 dX12_heap_18 rfl ?_
    refine g13_27 hx hG ha kf_RX12_56 dX12_heap_19 ?_
    refine j_sipush hx dX12_heap_22 rfl ?_
    refine j_iload_n hx 1 dX12_heap_25 rfl ?_
    refine j_iadd hx (r := x1 + 483) dX12_heap_26 (by omega) ?_
    have f27 := zaQ (j := (x1 + 483).toNat) hS0 (zr (k := 27) (t2 := 84) hG ha rfl) (congrArg some (axS_2 (x1 + 483).toNat (by omega))) (zlen hG (zr (k := 27) (t2 := 84) hG ha rfl) (n := 515) rfl rfl) (show 0 ≤ x1 + 483 by omega) (by omega) rfl
    have c28 := zc_1 (j := (x1 + 483).toNat) hS0 (zr (k := 27) (t2 := 84) hG ha rfl) (zn hG (zr (k := 27) (t2 := 84) hG ha rfl) rfl) (by omega) (by omega)
    refine j_iald hx hG (zr (k := 27) (t2 := 84) hG ha rfl) (by decide) rfl (zlen hG (zr (k := 27) (t2 := 84) hG ha rfl) (n := 515) rfl rfl) (by omega) (by omega) (j := (x1 + 483).toNat) rfl (v := (s0 (gP G a 27) (x1 + 483).toNat)) (by rw [(zFr_g hF_s2 (zr (k := 27) (t2 := 84) hG ha rfl) (by decide)), e_s1, zU_at (Or.inl (zne ha (zr (k := 27) (t2 := 84) hG ha rfl) (by decide)))]) dX12_heap_27 ?_
    refine j_iconst hx dX12_heap_28 ?_
    refine j_isub hx (r := (s0 (gP G a 27) (x1 + 483).toNat) - 1) dX12_heap_29 (by omega) ?_
    refine j_callS hx (c_X12_within hst x2 0 ((s0 (gP G a 27) (x1 + 483).toNat) - 1)) lk_RX12_314 [.int (zI x2), .int (zI 0), .int (zI ((s0 (gP G a 27) (x1 + 483).toNat) - 1))] ⟨rfl, hG, hS_s2, (by omega), (by omega), (by omega)⟩ rfl rfl ⟨by decide, by decide⟩ ⟨by decide, by decide⟩ (k2 := 0) (n2 := 0) rfl rfl (Nat.le_of_ble_eq_true rfl) dX12_heap_30 (kIP (fun v29 q30 => ?_))
    refine j_if_eq hx 59 dX12_heap_33 rfl (by omega) (fun h31 => ?_) (fun h31 => ?_)
    · skip
      refine j_iconst hx dX12_heap_59 ?_
      have f32 := zf hS_s2 ha (k := 3) rfl
      have f33 := zf hS_s2 ha (k := 4) rfl
      have f34 := zf hS_s2 ha (k := 5) rfl
      have f35 := zf hS_s2 ha (k := 7) rfl
      have f36 := zf hS_s2 ha (k := 21) rfl
      have f37 := zf hS_s2 ha (k := 22) rfl
      have f38 := zf hS_s2 ha (k := 23) rfl
      have f39 := zf hS_s2 ha (k := 24) rfl
      have f40 := zf hS_s2 ha (k := 38) rfl
      have f41 := zf hS_s2 ha (k := 51) rfl
      have f42 := zf hS_s2 ha (k := 52) rfl
      exact j_iret hx hq rfl (by decide) (by decide) dX12_heap_60 ⟨(-1), rfl, rfl, hS_s2, (zFr_t (zFr_u zFr_rf e_s1 ha (by decide)) hF_s2 (by decide)), ⟨(by omega), by omega, by omega, by omega, by omega, by omega, by omega, by omega, by omega, by omega, by omega, by omega⟩⟩
    · skip
      refine j_aload_n hx 0 dX12_heap_36 rfl ?_
      refine g13_19 hx hG ha kf_RX12_50 dX12_heap_37 ?_
      refine j_aload_n hx 0 dX12_heap_40 rfl ?_
      refine g13_27 hx hG ha kf_RX12_56 dX12_heap_41 ?_
      refine j_sipush hx dX12_heap_44 rfl ?_
      refine j_bipush hx dX12_heap_47 rfl ?_
      refine j_iload_n hx 1 dX12_heap_49 rfl ?_
      refine j_imul hx (r := 60 * x1) dX12_heap_50 rfl ?_
      refine j_iadd hx (r := 60 * x1 + 180) dX12_heap_51 (by omega) ?_
      refine j_iload_n hx 2 dX12_heap_52 rfl ?_
      refine j_iadd hx (r := 60 * x1 + x2 + 180) dX12_heap_53 (by omega) ?_
      have f43 := zaQ (j := (60 * x1 + x2 + 180).toNat) hS0 (zr (k := 27) (t2 := 84) hG ha rfl) (congrArg some (axS_0 (60 * x1 + x2 + 180).toNat (by omega))) (zlen hG (zr (k := 27) (t2 := 84) hG ha rfl) (n := 515) rfl rfl) (show 0 ≤ 60 * x1 + x2 + 180 by omega) (by omega) rfl
      refine j_iald hx hG (zr (k := 27) (t2 := 84) hG ha rfl) (by decide) rfl (zlen hG (zr (k := 27) (t2 := 84) hG ha rfl) (n := 515) rfl rfl) (by omega) (by omega) (j := (60 * x1 + x2 + 180).toNat) rfl (v := (s0 (gP G a 27) (60 * x1 + x2 + 180).toNat)) (by rw [(zFr_g hF_s2 (zr (k := 27) (t2 := 84) hG ha rfl) (by decide)), e_s1, zU_at (Or.inl (zne ha (zr (k := 27) (t2 := 84) hG ha rfl) (by decide)))]) dX12_heap_54 ?_
      have f44 := zaI (j := ((s0 (gP G a 27) (60 * x1 + x2 + 180).toNat)).toNat) hS0 (zr (k := 19) (t2 := 82) hG ha rfl) rfl (zlen hG (zr (k := 19) (t2 := 82) hG ha rfl) (n := 60) rfl rfl) (show 0 ≤ (s0 (gP G a 27) (60 * x1 + x2 + 180).toNat) by omega) (by omega) rfl
      refine j_iald hx hG (zr (k := 19) (t2 := 82) hG ha rfl) (by decide) rfl (zlen hG (zr (k := 19) (t2 := 82) hG ha rfl) (n := 60) rfl rfl) (by omega) (by omega) (j := ((s0 (gP G a 27) (60 * x1 + x2 + 180).toNat)).toNat) rfl (v := (s0 (gP G a 19) ((s0 (gP G a 27) (60 * x1 + x2 + 180).toNat)).toNat)) (by rw [(zFr_g hF_s2 (zr (k := 19) (t2 := 82) hG ha rfl) (by decide)), e_s1, zU_at (Or.inl (zne ha (zr (k := 19) (t2 := 82) hG ha rfl) (by decide)))]) dX12_heap_55 ?_
      refine j_goto hx 60 dX12_heap_56 rfl ?_
      have f45 := zf hS_s2 ha (k := 3) rfl
      have f46 := zf hS_s2 ha (k := 4) rfl
      have f47 := zf hS_s2 ha (k := 5) rfl
      have f48 := zf hS_s2 ha (k := 7) rfl
      have f49 := zf hS_s2 ha (k := 21) rfl
      have f50 := zf hS_s2 ha (k := 22) rfl
      have f51 := zf hS_s2 ha (k := 23) rfl
      have f52 := zf hS_s2 ha (k := 24) rfl
      have f53 := zf hS_s2 ha (k := 38) rfl
      have f54 := zf hS_s2 ha (k := 51) rfl
      have f55 := zf hS_s2 ha (k := 52) rfl
      exact j_iret hx hq rfl (by decide) (by decide) dX12_heap_60 ⟨(s0 (gP G a 19) ((s0 (gP G a 27) (60 * x1 + x2 + 180).toNat)).toNat), rfl, rfl, hS_s2, (zFr_t (zFr_u zFr_rf e_s1 ha (by decide)) hF_s2 (by decide)), ⟨(by omega), by omega, by omega, by omega, by omega, by omega, by omega, by omega, by omega, by omega, by omega, by omega⟩⟩
  · skip
    refine j_iconst hx dX12_heap_14 ?_
    have f56 := zf hS_s2 ha (k := 3) rfl
    have f57 := zf hS_s2 ha (k := 4) rfl
    have f58 := zf hS_s2 ha (k := 5) rfl
    have f59 := zf hS_s2 ha (k := 7) rfl
    have f60 := zf hS_s2 ha (k := 21) rfl
    have f61 := zf hS_s2 ha (k := 22) rfl
    have f62 := zf hS_s2 ha (k := 23) rfl
    have f63 := zf hS_s2 ha (k := 24) rfl
    have f64 := zf hS_s2 ha (k := 38) rfl
    have f65 := zf hS_s2 ha (k := 51) rfl
    have f66 := zf hS_s2 ha (k := 52) rfl
    exact j_iret hx hq rfl (by decide) (by decide) dX12_heap_15 ⟨0, rfl, rfl, hS_s2, (zFr_t (zFr_u zFr_rf e_s1 ha (by decide)) hF_s2 (by decide)), ⟨(by omega), by omega, by omega, by omega, by omega, by omega, by omega, by omega, by omega, by omega, by omega, by omega⟩⟩

set_option maxHeartbeats 1200000 in
set_option maxRecDepth 20000 in
theorem c_X12_pool {E : zE} {l : Launch} (hst : l.stackTraces = false) (a : Nat) (x1 : Int) : Con E l yX12_pool cX12_pool 2 (some .int) { frames := 1, cells := 0, slots := 0, locals := 22 } (fun G s vs => vs = [.ref a, .int (zI x1)] ∧ zGK G ∧ zSK G s ∧ (gT G a = 13) ∧ ((-2147483648) ≤ x1 ∧ x1 ≤ 2147483647)) (fun G s _ => pI (fun r G2 s2 => G2 = G ∧ zSK G s2 ∧ zFr [13] G s s2 ∧ ((-2147483648) ≤ r ∧ r ≤ 2147483647) ∧ s2 a 3 = s a 3 ∧ s2 a 4 = s a 4 ∧ s2 a 5 = s a 5 ∧ s2 a 7 = s a 7 ∧ s2 a 21 = s a 21 ∧ s2 a 22 = s a 22 ∧ s2 a 23 = s a 23 ∧ s2 a 24 = s a 24 ∧ s2 a 38 = s a 38 ∧ s2 a 51 = s a 51 ∧ s2 a 52 = s a 52)) := by
  refine Con.mk hst (by decide) (fun G s vs h => by rw [h.1]; exact Nat.le_of_ble_eq_true rfl) ?_
  rintro X G s0 vs ⟨rfl, hG, hS0, ha, hx1⟩ rfl hx hq
  show JJ X E 2 G s0 0 0 [(0, .ref a), (1, .int (zI x1))] 0 []
  refine j_aload_n hx 0 dX12_pool_0 rfl ?_
  refine j_iconst hx dX12_pool_1 ?_
  refine p13_0 hx hG ha kf_RX12_3 dX12_pool_2 ?_
  obtain ⟨s1, e_s1⟩ : ∃ z, z = zU s0 a 0 0 := ⟨_, rfl⟩
  rw [← e_s1]
  have hS_s1 : zSK G s1 := by rw [e_s1]; exact zSK_F hS0 ha rfl rfl rfl (by omega)
  refine j_iload_n hx 1 dX12_pool_5 rfl ?_
  refine j_iconst hx dX12_pool_6 ?_
  refine j_aload_n hx 0 dX12_pool_7 rfl ?_
  refine g13_27 hx hG ha kf_RX12_56 dX12_pool_8 ?_
  refine j_sipush hx dX12_pool_11 rfl ?_
  have f1 := zaQ (j := 486) hS0 (zr (k := 27) (t2 := 84) hG ha rfl) (congrArg some (axS_2 486 (by omega))) (zlen hG (zr (k := 27) (t2 := 84) hG ha rfl) (n := 515) rfl rfl) (show 0 ≤ 486 by omega) (by omega) rfl
  have c2 := zc_1 (j := 486) hS0 (zr (k := 27) (t2 := 84) hG ha rfl) (zn hG (zr (k := 27) (t2 := 84) hG ha rfl) rfl) (by omega) (by omega)
  refine j_iald hx hG (zr (k := 27) (t2 := 84) hG ha rfl) (by decide) rfl (zlen hG (zr (k := 27) (t2 := 84) hG ha rfl) (n := 515) rfl rfl) (by omega) (by omega) (j := 486) rfl (v := (s0 (gP G a 27) 486)) (by rw [e_s1, zU_at (Or.inl (zne ha (zr (k := 27) (t2 := 84) hG ha rfl) (by decide)))]) dX12_pool_14 ?_
  refine j_iconst hx dX12_pool_15 ?_
  refine j_isub hx (r := (s0 (gP G a 27) 486) - 1) dX12_pool_16 (by omega) ?_
  refine j_callS hx (c_X12_within hst x1 0 ((s0 (gP G a 27) 486) - 1)) lk_RX12_314 [.int (zI x1), .int (zI 0), .int (zI ((s0 (gP G a 27) 486) - 1))] ⟨rfl, hG, hS_s1, (by omega), (by omega), (by omega)⟩ rfl rfl ⟨by decide, by decide⟩ ⟨by decide, by decide⟩ (k2 := 0) (n2 := 0) rfl rfl (Nat.le_of_ble_eq_true rfl) dX12_pool_17 (kIP (fun v3 q4 => ?_))
  refine j_if_eq hx 41 dX12_pool_20 rfl (by omega) (fun h5 => ?_) (fun h5 => ?_)
  · skip
    refine j_iconst hx dX12_pool_41 ?_
    have g6 : s1 a 3 = s0 a 3 := (by rw [e_s1, zU_at (Or.inr (by decide))])
    have f7 := zf hS0 ha (k := 3) rfl
    have g8 : s1 a 4 = s0 a 4 := (by rw [e_s1, zU_at (Or.inr (by decide))])
    have f9 := zf hS0 ha (k := 4) rfl
    have g10 : s1 a 5 = s0 a 5 := (by rw [e_s1, zU_at (Or.inr (by decide))])
    have f11 := zf hS0 ha (k := 5) rfl
    have g12 : s1 a 7 = s0 a 7 := (by rw [e_s1, zU_at (Or.inr (by decide))])
    have f13 := zf hS0 ha (k := 7) rfl
    have g14 : s1 a 21 = s0 a 21 := (by rw [e_s1, zU_at (Or.inr (by decide))])
    have f15 := zf hS0 ha (k := 21) rfl
    have g16 : s1 a 22 = s0 a 22 := (by rw [e_s1, zU_at (Or.inr (by decide))])
    have f17 := zf hS0 ha (k := 22) rfl
    have g18 : s1 a 23 = s0 a 23 := (by rw [e_s1, zU_at (Or.inr (by decide))])
    have f19 := zf hS0 ha (k := 23) rfl
    have g20 : s1 a 24 = s0 a 24 := (by rw [e_s1, zU_at (Or.inr (by decide))])
    have f21 := zf hS0 ha (k := 24) rfl
    have g22 : s1 a 38 = s0 a 38 := (by rw [e_s1, zU_at (Or.inr (by decide))])
    have f23 := zf hS0 ha (k := 38) rfl
    have g24 : s1 a 51 = s0 a 51 := (by rw [e_s1, zU_at (Or.inr (by decide))])
    have f25 := zf hS0 ha (k := 51) rfl
    have g26 : s1 a 52 = s0 a 52 := (by rw [e_s1, zU_at (Or.inr (by decide))])
    have f27 := zf hS0 ha (k := 52) rfl
    exact j_iret hx hq rfl (by decide) (by decide) dX12_pool_42 ⟨(-1), rfl, rfl, hS_s1, (zFr_u zFr_rf e_s1 ha (by decide)), ⟨(by omega), by omega, by omega, by omega, by omega, by omega, by omega, by omega, by omega, by omega, by omega, by omega⟩⟩
  · skip
    refine j_aload_n hx 0 dX12_pool_23 rfl ?_
    refine g13_19 hx hG ha kf_RX12_50 dX12_pool_24 ?_
    refine j_aload_n hx 0 dX12_pool_27 rfl ?_
    refine g13_27 hx hG ha kf_RX12_56 dX12_pool_28 ?_
    refine j_sipush hx dX12_pool_31 rfl ?_
    refine j_iload_n hx 1 dX12_pool_34 rfl ?_
    refine j_iadd hx (r := x1 + 360) dX12_pool_35 (by omega) ?_
    have f28 := zaQ (j := (x1 + 360).toNat) hS0 (zr (k := 27) (t2 := 84) hG ha rfl) (congrArg some (axS_0 (x1 + 360).toNat (by omega))) (zlen hG (zr (k := 27) (t2 := 84) hG ha rfl) (n := 515) rfl rfl) (show 0 ≤ x1 + 360 by omega) (by omega) rfl
    refine j_iald hx hG (zr (k := 27) (t2 := 84) hG ha rfl) (by decide) rfl (zlen hG (zr (k := 27) (t2 := 84) hG ha rfl) (n := 515) rfl rfl) (by omega) (by omega) (j := (x1 + 360).toNat) rfl (v := (s0 (gP G a 27) (x1 + 360).toNat)) (by rw [e_s1, zU_at (Or.inl (zne ha (zr (k := 27) (t2 := 84) hG ha rfl) (by decide)))]) dX12_pool_36 ?_
    have f29 := zaI (j := ((s0 (gP G a 27) (x1 + 360).toNat)).toNat) hS0 (zr (k := 19) (t2 := 82) hG ha rfl) rfl (zlen hG (zr (k := 19) (t2 := 82) hG ha rfl) (n := 60) rfl rfl) (show 0 ≤ (s0 (gP G a 27) (x1 + 360).toNat) by omega) (by omega) rfl
    refine j_iald hx hG (zr (k := 19) (t2 := 82) hG ha rfl) (by decide) rfl (zlen hG (zr (k := 19) (t2 := 82) hG ha rfl) (n := 60) rfl rfl) (by omega) (by omega) (j := ((s0 (gP G a 27) (x1 + 360).toNat)).toNat) rfl (v := (s0 (gP G a 19) ((s0 (gP G a 27) (x1 + 360).toNat)).toNat)) (by rw [e_s1, zU_at (Or.inl (zne ha (zr (k := 19) (t2 := 82) hG ha rfl) (by decide)))]) dX12_pool_37 ?_
    refine j_goto hx 42 dX12_pool_38 rfl ?_
    have g30 : s1 a 3 = s0 a 3 := (by rw [e_s1, zU_at (Or.inr (by decide))])
    have f31 := zf hS0 ha (k := 3) rfl
    have g32 : s1 a 4 = s0 a 4 := (by rw [e_s1, zU_at (Or.inr (by decide))])
    have f33 := zf hS0 ha (k := 4) rfl
    have g34 : s1 a 5 = s0 a 5 := (by rw [e_s1, zU_at (Or.inr (by decide))])
    have f35 := zf hS0 ha (k := 5) rfl
    have g36 : s1 a 7 = s0 a 7 := (by rw [e_s1, zU_at (Or.inr (by decide))])
    have f37 := zf hS0 ha (k := 7) rfl
    have g38 : s1 a 21 = s0 a 21 := (by rw [e_s1, zU_at (Or.inr (by decide))])
    have f39 := zf hS0 ha (k := 21) rfl
    have g40 : s1 a 22 = s0 a 22 := (by rw [e_s1, zU_at (Or.inr (by decide))])
    have f41 := zf hS0 ha (k := 22) rfl
    have g42 : s1 a 23 = s0 a 23 := (by rw [e_s1, zU_at (Or.inr (by decide))])
    have f43 := zf hS0 ha (k := 23) rfl
    have g44 : s1 a 24 = s0 a 24 := (by rw [e_s1, zU_at (Or.inr (by decide))])
    have f45 := zf hS0 ha (k := 24) rfl
    have g46 : s1 a 38 = s0 a 38 := (by rw [e_s1, zU_at (Or.inr (by decide))])
    have f47 := zf hS0 ha (k := 38) rfl
    have g48 : s1 a 51 = s0 a 51 := (by rw [e_s1, zU_at (Or.inr (by decide))])
    have f49 := zf hS0 ha (k := 51) rfl
    have g50 : s1 a 52 = s0 a 52 := (by rw [e_s1, zU_at (Or.inr (by decide))])
    have f51 := zf hS0 ha (k := 52) rfl
    exact j_iret hx hq rfl (by decide) (by decide) dX12_pool_42 ⟨(s0 (gP G a 19) ((s0 (gP G a 27) (x1 + 360).toNat)).toNat), rfl, rfl, hS_s1, (zFr_u zFr_rf e_s1 ha (by decide)), ⟨(by omega), by omega, by omega, by omega, by omega, by omega, by omega, by omega, by omega, by omega, by omega, by omega⟩⟩

set_option maxHeartbeats 1200000 in
set_option maxRecDepth 20000 in
theorem c_X12_lain {E : zE} {l : Launch} (hst : l.stackTraces = false) (a : Nat) (x1 : Int) (x2 : Int) : Con E l yX12_lain cX12_lain 3 (some .int) { frames := 2, cells := 0, slots := 0, locals := 45 } (fun G s vs => vs = [.ref a, .int (zI x1), .int (zI x2)] ∧ zGK G ∧ zSK G s ∧ (gT G a = 13) ∧ ((-2147483648) ≤ x1 ∧ x1 ≤ 2147483647) ∧ ((-2147483648) ≤ x2 ∧ x2 ≤ 2147483647)) (fun G s _ => pI (fun r G2 s2 => G2 = G ∧ zSK G s2 ∧ zFr [13, 71] G s s2 ∧ ((-2147483648) ≤ r ∧ r ≤ 2147483647) ∧ s2 a 3 = s a 3 ∧ s2 a 4 = s a 4 ∧ s2 a 5 = s a 5 ∧ s2 a 7 = s a 7 ∧ s2 a 21 = s a 21 ∧ s2 a 22 = s a 22 ∧ s2 a 23 = s a 23 ∧ s2 a 24 = s a 24 ∧ s2 a 38 = s a 38 ∧ s2 a 51 = s a 51 ∧ s2 a 52 = s a 52)) := by
  refine Con.mk hst (by decide) (fun G s vs h => by rw [h.1]; exact Nat.le_of_ble_eq_true rfl) ?_
  rintro X G s0 vs ⟨rfl, hG, hS0, ha, hx1, hx2⟩ rfl hx hq
  show JJ X E 3 G s0 0 0 [(0, .ref a), (1, .int (zI x1)), (2, .int (zI x2))] 0 []
  refine j_aload_n hx 0 dX12_lain_0 rfl ?_
  refine j_iconst hx dX12_lain_1 ?_
  refine p13_0 hx hG ha kf_RX12_3 dX12_lain_2 ?_
  obtain ⟨s1, e_s1⟩ : ∃ z, z = zU s0 a 0 0 := ⟨_, rfl⟩
  rw [← e_s1]
  have hS_s1 : zSK G s1 := by rw [e_s1]; exact zSK_F hS0 ha rfl rfl rfl (by omega)
  refine j_aload_n hx 0 dX12_lain_5 rfl ?_
  refine j_iload_n hx 1 dX12_lain_6 rfl ?_
  refine j_iconst hx dX12_lain_7 ?_
  have g1 : s1 a 0 = 0 := (by rw [e_s1, zU_eq])
  have g2 : s1 a 24 = s0 a 24 := (by rw [e_s1, zU_at (Or.inr (by decide))])
  have f3 := zf hS0 ha (k := 24) rfl
  have g4 : s1 a 3 = s0 a 3 := (by rw [e_s1, zU_at (Or.inr (by decide))])
  have f5 := zf hS0 ha (k := 3) rfl
  have g6 : s1 a 4 = s0 a 4 := (by rw [e_s1, zU_at (Or.inr (by decide))])
  have f7 := zf hS0 ha (k := 4) rfl
  have g8 : s1 a 5 = s0 a 5 := (by rw [e_s1, zU_at (Or.inr (by decide))])
  have f9 := zf hS0 ha (k := 5) rfl
  have g10 : s1 a 7 = s0 a 7 := (by rw [e_s1, zU_at (Or.inr (by decide))])
  have f11 := zf hS0 ha (k := 7) rfl
  have g12 : s1 a 21 = s0 a 21 := (by rw [e_s1, zU_at (Or.inr (by decide))])
  have f13 := zf hS0 ha (k := 21) rfl
  have g14 : s1 a 22 = s0 a 22 := (by rw [e_s1, zU_at (Or.inr (by decide))])
  have f15 := zf hS0 ha (k := 22) rfl
  have g16 : s1 a 23 = s0 a 23 := (by rw [e_s1, zU_at (Or.inr (by decide))])
  have f17 := zf hS0 ha (k := 23) rfl
  have g18 : s1 a 38 = s0 a 38 := (by rw [e_s1, zU_at (Or.inr (by decide))])
  have f19 := zf hS0 ha (k := 38) rfl
  have g20 : s1 a 51 = s0 a 51 := (by rw [e_s1, zU_at (Or.inr (by decide))])
  have f21 := zf hS0 ha (k := 51) rfl
  have g22 : s1 a 52 = s0 a 52 := (by rw [e_s1, zU_at (Or.inr (by decide))])
  have f23 := zf hS0 ha (k := 52) rfl
  refine j_callV hx hG (c_X12_isPlayer hst a x1 1) lk_RX12_339 ha (by decide) rfl rfl rfl rfl [.int (zI x1), .int (zI 1)] ⟨rfl, hG, hS_s1, ha, (by omega), (by omega), (((by rw [e_s1, zU_eq]) : s1 a 0 = 0).trans (by omega))⟩ rfl rfl ⟨by decide, by decide⟩ ⟨by decide, by decide⟩ (k2 := 0) (n2 := 0) rfl rfl (Nat.le_of_ble_eq_true rfl) dX12_lain_8 (kIM (fun v24 s2 hS_s2 hF_s2 q25 => ?_))
  refine j_if_ne hx 16 dX12_lain_11 rfl (by omega) (fun h26 => ?_) (fun h26 => ?_)
  · skip
    refine j_iload_n hx 2 dX12_lain_16 rfl ?_
    refine j_iconst hx dX12_lain_17 ?_
    refine j_aload_n hx 0 dX12_lain_18 rfl ?_
    refine g13_27 hx hG ha kf_RX12_56 dX12_lain_19 ?_
    refine j_sipush hx dX12_lain_22 rfl ?_
    refine j_iload_n hx 1 dX12_lain_25 rfl ?_
    refine j_iadd hx (r := x1 + 480) dX12_lain_26 (by omega) ?_
    have f27 := zaQ (j := (x1 + 480).toNat) hS0 (zr (k := 27) (t2 := 84) hG ha rfl) (congrArg some (axS_2 (x1 + 480).toNat (by omega))) (zlen hG (zr (k := 27) (t2 := 84) hG ha rfl) (n := 515) rfl rfl) (show 0 ≤ x1 + 480 by omega) (by omega) rfl
    have c28 := zc_1 (j := (x1 + 480).toNat) hS0 (zr (k := 27) (t2 := 84) hG ha rfl) (zn hG (zr (k := 27) (t2 := 84) hG ha rfl) rfl) (by omega) (by omega)
    refine j_iald hx hG (zr (k := 27) (t2 := 84) hG ha rfl) (by decide) rfl (zlen hG (zr (k := 27) (t2 := 84) hG ha rfl) (n := 515) rfl rfl) (by omega) (by omega) (j := (x1 + 480).toNat) rfl (v := (s0 (gP G a 27) (x1 + 480).toNat)) (by rw [(zFr_g hF_s2 (zr (k := 27) (t2 := 84) hG ha rfl) (by decide)), e_s1, zU_at (Or.inl (zne ha (zr (k := 27) (t2 := 84) hG ha rfl) (by decide)))]) dX12_lain_27 ?_
    refine j_iconst hx dX12_lain_28 ?_
    refine j_isub hx (r := (s0 (gP G a 27) (x1 + 480).toNat) - 1) dX12_lain_29 (by omega) ?_
    refine j_callS hx (c_X12_within hst x2 0 ((s0 (gP G a 27) (x1 + 480).toNat) - 1)) lk_RX12_314 [.int (zI x2), .int (zI 0), .int (zI ((s0 (gP G a 27) (x1 + 480).toNat) - 1))] ⟨rfl, hG, hS_s2, (by omega), (by omega), (by omega)⟩ rfl rfl ⟨by decide, by decide⟩ ⟨by decide, by decide⟩ (k2 := 0) (n2 := 0) rfl rfl (Nat.le_of_ble_eq_true rfl) dX12_lain_30 (kIP (fun v29 q30 => ?_))
    refine j_if_eq hx 61 dX12_lain_33 rfl (by omega) (fun h31 => ?_) (fun h31 => ?_)
    · skip
      refine j_iconst hx dX12_lain_61 ?_
      have f32 := zf hS_s2 ha (k := 3) rfl
      have f33 := zf hS_s2 ha (k := 4) rfl
      have f34 := zf hS_s2 ha (k := 5) rfl
      have f35 := zf hS_s2 ha (k := 7) rfl
      have f36 := zf hS_s2 ha (k := 21) rfl
      have f37 := zf hS_s2 ha (k := 22) rfl
      have f38 := zf hS_s2 ha (k := 23) rfl
      have f39 := zf hS_s2 ha (k := 24) rfl
      have f40 := zf hS_s2 ha (k := 38) rfl
      have f41 := zf hS_s2 ha (k := 51) rfl
      have f42 := zf hS_s2 ha (k := 52) rfl
      exact j_iret hx hq rfl (by decide) (by decide) dX12_lain_62 ⟨(-1), rfl, rfl, hS_s2, (zFr_t (zFr_u zFr_rf e_s1 ha (by decide)) hF_s2 (by decide)), ⟨(by omega), by omega, by omega, by omega, by omega, by omega, by omega, by omega, by omega, by omega, by omega, by omega⟩⟩
    · skip
      refine j_aload_n hx 0 dX12_lain_36 rfl ?_
      refine g13_27 hx hG ha kf_RX12_56 dX12_lain_37 ?_
      refine j_sipush hx dX12_lain_40 rfl ?_
      refine j_aload_n hx 0 dX12_lain_43 rfl ?_
      refine g13_27 hx hG ha kf_RX12_56 dX12_lain_44 ?_
      refine j_iconst hx dX12_lain_47 ?_
      refine j_bipush hx dX12_lain_48 rfl ?_
      refine j_iload_n hx 1 dX12_lain_50 rfl ?_
      refine j_imul hx (r := 60 * x1) dX12_lain_51 rfl ?_
      refine j_iadd hx (r := 60 * x1) dX12_lain_52 (by omega) ?_
      refine j_iload_n hx 2 dX12_lain_53 rfl ?_
      refine j_iadd hx (r := 60 * x1 + x2) dX12_lain_54 (by omega) ?_
      have f43 := zaQ (j := (60 * x1 + x2).toNat) hS0 (zr (k := 27) (t2 := 84) hG ha rfl) (congrArg some (axS_0 (60 * x1 + x2).toNat (by omega))) (zlen hG (zr (k := 27) (t2 := 84) hG ha rfl) (n := 515) rfl rfl) (show 0 ≤ 60 * x1 + x2 by omega) (by omega) rfl
      refine j_iald hx hG (zr (k := 27) (t2 := 84) hG ha rfl) (by decide) rfl (zlen hG (zr (k := 27) (t2 := 84) hG ha rfl) (n := 515) rfl rfl) (by omega) (by omega) (j := (60 * x1 + x2).toNat) rfl (v := (s0 (gP G a 27) (60 * x1 + x2).toNat)) (by rw [(zFr_g hF_s2 (zr (k := 27) (t2 := 84) hG ha rfl) (by decide)), e_s1, zU_at (Or.inl (zne ha (zr (k := 27) (t2 := 84) hG ha rfl) (by decide)))]) dX12_lain_55 ?_
      refine j_iadd hx (r := (s0 (gP G a 27) (60 * x1 + x2).toNat) + 420) dX12_lain_56 (by omega) ?_
      have f44 := zaQ (j := ((s0 (gP G a 27) (60 * x1 + x2).toNat) + 420).toNat) hS0 (zr (k := 27) (t2 := 84) hG ha rfl) (congrArg some (axS_1 ((s0 (gP G a 27) (60 * x1 + x2).toNat) + 420).toNat (by omega))) (zlen hG (zr (k := 27) (t2 := 84) hG ha rfl) (n := 515) rfl rfl) (show 0 ≤ (s0 (gP G a 27) (60 * x1 + x2).toNat) + 420 by omega) (by omega) rfl
      refine j_iald hx hG (zr (k := 27) (t2 := 84) hG ha rfl) (by decide) rfl (zlen hG (zr (k := 27) (t2 := 84) hG ha rfl) (n := 515) rfl rfl) (by omega) (by omega) (j := ((s0 (gP G a 27) (60 * x1 + x2).toNat) + 420).toNat) rfl (v := (s0 (gP G a 27) ((s0 (gP G a 27) (60 * x1 + x2).toNat) + 420).toNat)) (by rw [(zFr_g hF_s2 (zr (k := 27) (t2 := 84) hG ha rfl) (by decide)), e_s1, zU_at (Or.inl (zne ha (zr (k := 27) (t2 := 84) hG ha rfl) (by decide)))]) dX12_lain_57 ?_
      refine j_goto hx 62 dX12_lain_58 rfl ?_
      have f45 := zf hS_s2 ha (k := 3) rfl
      have f46 := zf hS_s2 ha (k := 4) rfl
      have f47 := zf hS_s2 ha (k := 5) rfl
      have f48 := zf hS_s2 ha (k := 7) rfl
      have f49 := zf hS_s2 ha (k := 21) rfl
      have f50 := zf hS_s2 ha (k := 22) rfl
      have f51 := zf hS_s2 ha (k := 23) rfl
      have f52 := zf hS_s2 ha (k := 24) rfl
      have f53 := zf hS_s2 ha (k := 38) rfl
      have f54 := zf hS_s2 ha (k := 51) rfl
      have f55 := zf hS_s2 ha (k := 52) rfl
      exact j_iret hx hq rfl (by decide) (by decide) dX12_lain_62 ⟨(s0 (gP G a 27) ((s0 (gP G a 27) (60 * x1 + x2).toNat) + 420).toNat), rfl, rfl, hS_s2, (zFr_t (zFr_u zFr_rf e_s1 ha (by decide)) hF_s2 (by decide)), ⟨(by omega), by omega, by omega, by omega, by omega, by omega, by omega, by omega, by omega, by omega, by omega, by omega⟩⟩
  · skip
    refine j_iconst hx dX12_lain_14 ?_
    have f56 := zf hS_s2 ha (k := 3) rfl
    have f57 := zf hS_s2 ha (k := 4) rfl
    have f58 := zf hS_s2 ha (k := 5) rfl
    have f59 := zf hS_s2 ha (k := 7) rfl
    have f60 := zf hS_s2 ha (k := 21) rfl
    have f61 := zf hS_s2 ha (k := 22) rfl
    have f62 := zf hS_s2 ha (k := 23) rfl
    have f63 := zf hS_s2 ha (k := 24) rfl
    have f64 := zf hS_s2 ha (k := 38) rfl
    have f65 := zf hS_s2 ha (k := 51) rfl
    have f66 := zf hS_s2 ha (k := 52) rfl
    exact j_iret hx hq rfl (by decide) (by decide) dX12_lain_15 ⟨0, rfl, rfl, hS_s2, (zFr_t (zFr_u zFr_rf e_s1 ha (by decide)) hF_s2 (by decide)), ⟨(by omega), by omega, by omega, by omega, by omega, by omega, by omega, by omega, by omega, by omega, by omega, by omega⟩⟩

set_option maxHeartbeats 1200000 in
set_option maxRecDepth 20000 in
theorem c_X12_top {E : zE} {l : Launch} (hst : l.stackTraces = false) (a : Nat) (x1 : Int) : Con E l yX12_top cX12_top 2 (some .int) { frames := 0, cells := 0, slots := 0, locals := 0 } (fun G s vs => vs = [.ref a, .int (zI x1)] ∧ zGK G ∧ zSK G s ∧ (gT G a = 13) ∧ (0 ≤ x1 ∧ x1 ≤ 2)) (fun G s _ => pI (fun r G2 s2 => G2 = G ∧ s2 = s ∧ ((-2147483648) ≤ r ∧ r ≤ 2147483647))) := by
  refine Con.mk hst (by decide) (fun G s vs h => by rw [h.1]; exact Nat.le_of_ble_eq_true rfl) ?_
  rintro X G s0 vs ⟨rfl, hG, hS0, ha, hx1⟩ rfl hx hq
  show JJ X E 2 G s0 0 0 [(0, .ref a), (1, .int (zI x1))] 0 []
  refine j_aload_n hx 0 dX12_top_0 rfl ?_
  refine g13_27 hx hG ha kf_RX12_56 dX12_top_1 ?_
  refine j_sipush hx dX12_top_4 rfl ?_
  refine j_iload_n hx 1 dX12_top_7 rfl ?_
  refine j_iadd hx (r := x1 + 483) dX12_top_8 (by omega) ?_
  have f1 := zaQ (j := (x1 + 483).toNat) hS0 (zr (k := 27) (t2 := 84) hG ha rfl) (congrArg some (axS_2 (x1 + 483).toNat (by omega))) (zlen hG (zr (k := 27) (t2 := 84) hG ha rfl) (n := 515) rfl rfl) (show 0 ≤ x1 + 483 by omega) (by omega) rfl
  have c2 := zc_1 (j := (x1 + 483).toNat) hS0 (zr (k := 27) (t2 := 84) hG ha rfl) (zn hG (zr (k := 27) (t2 := 84) hG ha rfl) rfl) (by omega) (by omega)
  refine j_iald hx hG (zr (k := 27) (t2 := 84) hG ha rfl) (by decide) rfl (zlen hG (zr (k := 27) (t2 := 84) hG ha rfl) (n := 515) rfl rfl) (by omega) (by omega) (j := (x1 + 483).toNat) rfl rfl dX12_top_9 ?_
  refine j_if_ne hx 17 dX12_top_10 rfl (by omega) (fun h3 => ?_) (fun h3 => ?_)
  · skip
    refine j_aload_n hx 0 dX12_top_17 rfl ?_
    refine g13_19 hx hG ha kf_RX12_50 dX12_top_18 ?_
    refine j_aload_n hx 0 dX12_top_21 rfl ?_
    refine g13_27 hx hG ha kf_RX12_56 dX12_top_22 ?_
    refine j_sipush hx dX12_top_25 rfl ?_
    refine j_bipush hx dX12_top_28 rfl ?_
    refine j_iload_n hx 1 dX12_top_30 rfl ?_
    refine j_imul hx (r := 60 * x1) dX12_top_31 rfl ?_
    refine j_iadd hx (r := 60 * x1 + 180) dX12_top_32 (by omega) ?_
    refine j_aload_n hx 0 dX12_top_33 rfl ?_
    refine g13_27 hx hG ha kf_RX12_56 dX12_top_34 ?_
    refine j_sipush hx dX12_top_37 rfl ?_
    refine j_iload_n hx 1 dX12_top_40 rfl ?_
    refine j_iadd hx (r := x1 + 483) dX12_top_41 (by omega) ?_
    refine j_iald hx hG (zr (k := 27) (t2 := 84) hG ha rfl) (by decide) rfl (zlen hG (zr (k := 27) (t2 := 84) hG ha rfl) (n := 515) rfl rfl) (by omega) (by omega) (j := (x1 + 483).toNat) rfl rfl dX12_top_42 ?_
    refine j_iadd hx (r := 60 * x1 + (s0 (gP G a 27) (x1 + 483).toNat) + 180) dX12_top_43 (by omega) ?_
    refine j_iconst hx dX12_top_44 ?_
    refine j_isub hx (r := 60 * x1 + (s0 (gP G a 27) (x1 + 483).toNat) + 179) dX12_top_45 (by omega) ?_
    have f4 := zaQ (j := (60 * x1 + (s0 (gP G a 27) (x1 + 483).toNat) + 179).toNat) hS0 (zr (k := 27) (t2 := 84) hG ha rfl) (congrArg some (axS_0 (60 * x1 + (s0 (gP G a 27) (x1 + 483).toNat) + 179).toNat (by omega))) (zlen hG (zr (k := 27) (t2 := 84) hG ha rfl) (n := 515) rfl rfl) (show 0 ≤ 60 * x1 + (s0 (gP G a 27) (x1 + 483).toNat) + 179 by omega) (by omega) rfl
    refine j_iald hx hG (zr (k := 27) (t2 := 84) hG ha rfl) (by decide) rfl (zlen hG (zr (k := 27) (t2 := 84) hG ha rfl) (n := 515) rfl rfl) (by omega) (by omega) (j := (60 * x1 + (s0 (gP G a 27) (x1 + 483).toNat) + 179).toNat) rfl rfl dX12_top_46 ?_
    have f5 := zaI (j := ((s0 (gP G a 27) (60 * x1 + (s0 (gP G a 27) (x1 + 483).toNat) + 179).toNat)).toNat) hS0 (zr (k := 19) (t2 := 82) hG ha rfl) rfl (zlen hG (zr (k := 19) (t2 := 82) hG ha rfl) (n := 60) rfl rfl) (show 0 ≤ (s0 (gP G a 27) (60 * x1 + (s0 (gP G a 27) (x1 + 483).toNat) + 179).toNat) by omega) (by omega) rfl
    refine j_iald hx hG (zr (k := 19) (t2 := 82) hG ha rfl) (by decide) rfl (zlen hG (zr (k := 19) (t2 := 82) hG ha rfl) (n := 60) rfl rfl) (by omega) (by omega) (j := ((s0 (gP G a 27) (60 * x1 + (s0 (gP G a 27) (x1 + 483).toNat) + 179).toNat)).toNat) rfl rfl dX12_top_47 ?_
    exact j_iret hx hq rfl (by decide) (by decide) dX12_top_48 ⟨(s0 (gP G a 19) ((s0 (gP G a 27) (60 * x1 + (s0 (gP G a 27) (x1 + 483).toNat) + 179).toNat)).toNat), rfl, rfl, rfl, (by omega)⟩
  · skip
    refine j_iconst hx dX12_top_13 ?_
    refine j_goto hx 48 dX12_top_14 rfl ?_
    exact j_iret hx hq rfl (by decide) (by decide) dX12_top_48 ⟨(-1), rfl, rfl, rfl, (by omega)⟩

theorem lk_RX12_334 : LkV RX12 334 RX12 yX12_top cX12_top 2 (some .int) 1 := ⟨km_RX12_334, ki_yX12_top, ks_RX12_yX12_top, kn_RX12, kc_yX12_top, rfl, by decide +kernel, by decide +kernel, by decide +kernel⟩
set_option maxHeartbeats 1200000 in
set_option maxRecDepth 20000 in
theorem c_X12_alikes {E : zE} {l : Launch} (hst : l.stackTraces = false) (a : Nat) : Con E l yX12_alikes cX12_alikes 3 (some .int) { frames := 1, cells := 0, slots := 0, locals := 21 } (fun G s vs => vs = [.ref a] ∧ zGK G ∧ zSK G s ∧ (gT G a = 13)) (fun G s _ => pI (fun r G2 s2 => G2 = G ∧ s2 = s ∧ ((-1) ≤ r ∧ r ≤ 12) ∧ (r = -1 ∨ r = 1 ∨ r = 2 ∨ r = 12))) := by
  refine Con.mk hst (by decide) (fun G s vs h => by rw [h.1]; exact Nat.le_of_ble_eq_true rfl) ?_
  rintro X G s0 vs ⟨rfl, hG, hS0, ha⟩ rfl hx hq
  show JJ X E 3 G s0 0 0 [(0, .ref a)] 0 []
  refine j_iconst hx dX12_alikes_0 ?_
  refine j_istore_n hx [(1, .int (zI 0)), (0, .ref a)] dX12_alikes_1 (by decide) rfl ?_
  have c2_1 : ∀ (m_c2_1 : Nat) (v1 : Int), 2147483648 - v1 < m_c2_1 → (0 ≤ v1 ∧ v1 ≤ 3) → JJ X E 3 G s0 0 0 [(0, .ref a), (1, .int (zI v1))] 2 [] := by
    intro m_c2_1
    induction m_c2_1 with
    | zero => intro v1 hm_c2_1 fA2; exfalso; omega
    | succ m_c2_1 ih_c2_1 => 
      intro v1 hm_c2_1 fA2
      refine j_iload_n hx 1 dX12_alikes_2 rfl ?_
      refine j_aload_n hx 0 dX12_alikes_3 rfl ?_
      have f2 := zf hS0 ha (k := 24) rfl
      refine g13_24 hx hG ha kf_RX12_189 rfl dX12_alikes_4 ?_
      refine j_icmp_ge hx 63 dX12_alikes_7 rfl (by omega) (by omega) (fun h3 => ?_) (fun h3 => ?_)
      · skip
        refine j_iconst hx dX12_alikes_63 ?_
        exact j_iret hx hq rfl (by decide) (by decide) dX12_alikes_64 ⟨(-1), rfl, rfl, rfl, ⟨(by omega), by omega⟩⟩
      · skip
        refine j_iload_n hx 1 dX12_alikes_10 rfl ?_
        refine j_iconst hx dX12_alikes_11 ?_
        refine j_iadd hx (r := v1 + 1) dX12_alikes_12 rfl ?_
        refine j_istore_n hx [(2, .int (zI (v1 + 1))), (0, .ref a), (1, .int (zI v1))] dX12_alikes_13 (by decide) rfl ?_
        have c14_3 : ∀ (m_c14_3 : Nat) (v4 : Int), 2147483648 - v4 < m_c14_3 → (1 ≤ v4 ∧ v4 ≤ 3) → (v1 + 1 ≤ v4) → JJ X E 3 G s0 0 0 [(0, .ref a), (1, .int (zI v1)), (2, .int (zI v4))] 14 [] := by
          intro m_c14_3
          induction m_c14_3 with
          | zero => intro v4 hm_c14_3 fA4 fA5; exfalso; omega
          | succ m_c14_3 ih_c14_3 => 
            intro v4 hm_c14_3 fA4 fA5
            refine j_iload_n hx 2 dX12_alikes_14 rfl ?_
            refine j_aload_n hx 0 dX12_alikes_15 rfl ?_
            refine g13_24 hx hG ha kf_RX12_189 rfl dX12_alikes_16 ?_
            refine j_icmp_ge hx 57 dX12_alikes_19 rfl (by omega) (by omega) (fun h5 => ?_) (fun h5 => ?_)
            · skip
              refine j_iinc hx 1 [(1, .int (zI (v1 + 1))), (0, .ref a), (2, .int (zI v4))] dX12_alikes_57 rfl (by omega) (by decide) rfl ?_
              refine j_goto hx 2 dX12_alikes_60 rfl ?_
              exact j_sub [1, 0] [(0, .ref a), (1, .int (zI (v1 + 1)))] rfl (ih_c2_1 (v1 + 1) (by omega) (by omega))
            · skip
              refine j_aload_n hx 0 dX12_alikes_22 rfl ?_
              refine j_iload_n hx 1 dX12_alikes_23 rfl ?_
              refine j_callV hx hG (c_X12_top hst a v1) lk_RX12_334 ha (by decide) rfl rfl rfl rfl [.int (zI v1)] ⟨rfl, hG, hS0, ha, (by omega)⟩ rfl rfl ⟨by decide, by decide⟩ ⟨by decide, by decide⟩ (k2 := 0) (n2 := 0) rfl rfl (Nat.le_of_ble_eq_true rfl) dX12_alikes_24 (kIP (fun v6 q7 => ?_))
              refine j_iconst hx dX12_alikes_27 ?_
              have c51_6 : JJ X E 3 G s0 0 0 [(0, .ref a), (1, .int (zI v1)), (2, .int (zI v4))] 51 [] := by
                refine j_iinc hx 2 [(2, .int (zI (v4 + 1))), (0, .ref a), (1, .int (zI v1))] dX12_alikes_51 rfl (by omega) (by decide) rfl ?_
                refine j_goto hx 14 dX12_alikes_54 rfl ?_
                exact j_sub [1, 2, 0] [(0, .ref a), (1, .int (zI v1)), (2, .int (zI (v4 + 1)))] rfl (ih_c14_3 (v4 + 1) (by omega) (by omega) (by omega))
              refine j_icmp_eq hx 51 dX12_alikes_28 rfl (by omega) ⟨by decide, by decide⟩ (fun h8 => ?_) (fun h8 => ?_)
              · skip
                exact j_sub [0, 1, 2] [(0, .ref a), (1, .int (zI v1)), (2, .int (zI v4))] rfl (c51_6  )
              · skip
                refine j_aload_n hx 0 dX12_alikes_31 rfl ?_
                refine j_iload_n hx 1 dX12_alikes_32 rfl ?_
                refine j_callV hx hG (c_X12_top hst a v1) lk_RX12_334 ha (by decide) rfl rfl rfl rfl [.int (zI v1)] ⟨rfl, hG, hS0, ha, (by omega)⟩ rfl rfl ⟨by decide, by decide⟩ ⟨by decide, by decide⟩ (k2 := 0) (n2 := 0) rfl rfl (Nat.le_of_ble_eq_true rfl) dX12_alikes_33 (kIP (fun v9 q10 => ?_))
                refine j_aload_n hx 0 dX12_alikes_36 rfl ?_
                refine j_iload_n hx 2 dX12_alikes_37 rfl ?_
                refine j_callV hx hG (c_X12_top hst a v4) lk_RX12_334 ha (by decide) rfl rfl rfl rfl [.int (zI v4)] ⟨rfl, hG, hS0, ha, (by omega)⟩ rfl rfl ⟨by decide, by decide⟩ ⟨by decide, by decide⟩ (k2 := 0) (n2 := 0) rfl rfl (Nat.le_of_ble_eq_true rfl) dX12_alikes_38 (kIP (fun v11 q12 => ?_))
                refine j_icmp_ne hx 51 dX12_alikes_41 rfl (by omega) (by omega) (fun h13 => ?_) (fun h13 => ?_)
                · skip
                  exact j_sub [0, 1, 2] [(0, .ref a), (1, .int (zI v1)), (2, .int (zI v4))] rfl (c51_6  )
                · skip
                  refine j_bipush hx dX12_alikes_44 rfl ?_
                  refine j_iload_n hx 1 dX12_alikes_46 rfl ?_
                  refine j_imul hx (r := 10 * v1) dX12_alikes_47 rfl ?_
                  refine j_iload_n hx 2 dX12_alikes_48 rfl ?_
                  refine j_iadd hx (r := 10 * v1 + v4) dX12_alikes_49 (by omega) ?_
                  exact j_iret hx hq rfl (by decide) (by decide) dX12_alikes_50 ⟨10 * v1 + v4, rfl, rfl, rfl, ⟨(by omega), by omega⟩⟩
        exact j_sub [1, 2, 0] [(0, .ref a), (1, .int (zI v1)), (2, .int (zI (v1 + 1)))] rfl (c14_3 (2147483648 * 4) (v1 + 1) (by omega) (by omega) (by omega))
  exact j_sub [1, 0] [(0, .ref a), (1, .int (zI 0))] rfl (c2_1 (2147483648 * 4) 0 (by omega) (by omega))

theorem lk_RX12_343 : LkV RX12 343 RX12 yX12_alikes cX12_alikes 3 (some .int) 0 := ⟨km_RX12_343, ki_yX12_alikes, ks_RX12_yX12_alikes, kn_RX12, kc_yX12_alikes, rfl, by decide +kernel, by decide +kernel, by decide +kernel⟩
set_option maxHeartbeats 1200000 in
set_option maxRecDepth 20000 in
theorem c_X12_alike {E : zE} {l : Launch} (hst : l.stackTraces = false) (a : Nat) : Con E l yX12_alike cX12_alike 1 (some .int) { frames := 2, cells := 0, slots := 0, locals := 43 } (fun G s vs => vs = [.ref a] ∧ zGK G ∧ zSK G s ∧ (gT G a = 13)) (fun G s _ => pI (fun r G2 s2 => G2 = G ∧ zSK G s2 ∧ zFr [13] G s s2 ∧ ((-2147483648) ≤ r ∧ r ≤ 2147483647) ∧ s2 a 3 = s a 3 ∧ s2 a 4 = s a 4 ∧ s2 a 5 = s a 5 ∧ s2 a 7 = s a 7 ∧ s2 a 21 = s a 21 ∧ s2 a 22 = s a 22 ∧ s2 a 23 = s a 23 ∧ s2 a 24 = s a 24 ∧ s2 a 38 = s a 38 ∧ s2 a 51 = s a 51 ∧ s2 a 52 = s a 52)) := by
  refine Con.mk hst (by decide) (fun G s vs h => by rw [h.1]; exact Nat.le_of_ble_eq_true rfl) ?_
  rintro X G s0 vs ⟨rfl, hG, hS0, ha⟩ rfl hx hq
  show JJ X E 1 G s0 0 0 [(0, .ref a)] 0 []
  refine j_aload_n hx 0 dX12_alike_0 rfl ?_
  refine j_iconst hx dX12_alike_1 ?_
  refine p13_0 hx hG ha kf_RX12_3 dX12_alike_2 ?_
  obtain ⟨s1, e_s1⟩ : ∃ z, z = zU s0 a 0 0 := ⟨_, rfl⟩
  rw [← e_s1]
  have hS_s1 : zSK G s1 := by rw [e_s1]; exact zSK_F hS0 ha rfl rfl rfl (by omega)
  refine j_aload_n hx 0 dX12_alike_5 rfl ?_
  refine j_callV hx hG (c_X12_alikes hst a) lk_RX12_343 ha (by decide) rfl rfl rfl rfl [] ⟨rfl, hG, hS_s1, ha⟩ rfl rfl ⟨by decide, by decide⟩ ⟨by decide, by decide⟩ (k2 := 0) (n2 := 0) rfl rfl (Nat.le_of_ble_eq_true rfl) dX12_alike_6 (kIP (fun v1 q2 => ?_))
  have g3 : s1 a 3 = s0 a 3 := (by rw [e_s1, zU_at (Or.inr (by decide))])
  have f4 := zf hS0 ha (k := 3) rfl
  have g5 : s1 a 4 = s0 a 4 := (by rw [e_s1, zU_at (Or.inr (by decide))])
  have f6 := zf hS0 ha (k := 4) rfl
  have g7 : s1 a 5 = s0 a 5 := (by rw [e_s1, zU_at (Or.inr (by decide))])
  have f8 := zf hS0 ha (k := 5) rfl
  have g9 : s1 a 7 = s0 a 7 := (by rw [e_s1, zU_at (Or.inr (by decide))])
  have f10 := zf hS0 ha (k := 7) rfl
  have g11 : s1 a 21 = s0 a 21 := (by rw [e_s1, zU_at (Or.inr (by decide))])
  have f12 := zf hS0 ha (k := 21) rfl
  have g13 : s1 a 22 = s0 a 22 := (by rw [e_s1, zU_at (Or.inr (by decide))])
  have f14 := zf hS0 ha (k := 22) rfl
  have g15 : s1 a 23 = s0 a 23 := (by rw [e_s1, zU_at (Or.inr (by decide))])
  have f16 := zf hS0 ha (k := 23) rfl
  have g17 : s1 a 24 = s0 a 24 := (by rw [e_s1, zU_at (Or.inr (by decide))])
  have f18 := zf hS0 ha (k := 24) rfl
  have g19 : s1 a 38 = s0 a 38 := (by rw [e_s1, zU_at (Or.inr (by decide))])
  have f20 := zf hS0 ha (k := 38) rfl
  have g21 : s1 a 51 = s0 a 51 := (by rw [e_s1, zU_at (Or.inr (by decide))])
  have f22 := zf hS0 ha (k := 51) rfl
  have g23 : s1 a 52 = s0 a 52 := (by rw [e_s1, zU_at (Or.inr (by decide))])
  have f24 := zf hS0 ha (k := 52) rfl
  exact j_iret hx hq rfl (by decide) (by decide) dX12_alike_9 ⟨v1, rfl, rfl, hS_s1, (zFr_u zFr_rf e_s1 ha (by decide)), ⟨(by omega), by omega, by omega, by omega, by omega, by omega, by omega, by omega, by omega, by omega, by omega, by omega⟩⟩

set_option maxHeartbeats 1200000 in
set_option maxRecDepth 20000 in
theorem c_X12_isMine {E : zE} {l : Launch} (hst : l.stackTraces = false) (a : Nat) (x1 : Int) : Con E l yX12_isMine cX12_isMine 3 (some .boolean) { frames := 1, cells := 0, slots := 0, locals := 21 } (fun G s vs => vs = [.ref a, .int (zI x1)] ∧ zGK G ∧ zSK G s ∧ (gT G a = 13) ∧ (0 ≤ x1 ∧ x1 ≤ 2)) (fun G s _ => pI (fun r G2 s2 => G2 = G ∧ s2 = s ∧ (0 ≤ r ∧ r ≤ 1))) := by
  refine Con.mk hst (by decide) (fun G s vs h => by rw [h.1]; exact Nat.le_of_ble_eq_true rfl) ?_
  rintro X G s0 vs ⟨rfl, hG, hS0, ha, hx1⟩ rfl hx hq
  show JJ X E 3 G s0 0 0 [(0, .ref a), (1, .int (zI x1))] 0 []
  refine j_iconst hx dX12_isMine_0 ?_
  refine j_istore_n hx [(2, .int (zI 0)), (0, .ref a), (1, .int (zI x1))] dX12_isMine_1 (by decide) rfl ?_
  have c2_1 : ∀ (m_c2_1 : Nat) (v1 : Int), 2147483648 - v1 < m_c2_1 → (0 ≤ v1 ∧ v1 ≤ 3) → JJ X E 3 G s0 0 0 [(0, .ref a), (1, .int (zI x1)), (2, .int (zI v1))] 2 [] := by
    intro m_c2_1
    induction m_c2_1 with
    | zero => intro v1 hm_c2_1 fA2; exfalso; omega
    | succ m_c2_1 ih_c2_1 => 
      intro v1 hm_c2_1 fA2
      refine j_iload_n hx 2 dX12_isMine_2 rfl ?_
      refine j_aload_n hx 0 dX12_isMine_3 rfl ?_
      have f2 := zf hS0 ha (k := 24) rfl
      refine g13_24 hx hG ha kf_RX12_189 rfl dX12_isMine_4 ?_
      refine j_icmp_ge hx 45 dX12_isMine_7 rfl (by omega) (by omega) (fun h3 => ?_) (fun h3 => ?_)
      · skip
        refine j_iconst hx dX12_isMine_45 ?_
        exact j_zret hx hq rfl (by decide) (by decide) dX12_isMine_46 (by omega) ⟨0, rfl, rfl, rfl, (by omega)⟩
      · skip
        refine j_iload_n hx 2 dX12_isMine_10 rfl ?_
        refine j_iload_n hx 1 dX12_isMine_11 rfl ?_
        have c39_3 : JJ X E 3 G s0 0 0 [(0, .ref a), (1, .int (zI x1)), (2, .int (zI v1))] 39 [] := by
          refine j_iinc hx 2 [(2, .int (zI (v1 + 1))), (0, .ref a), (1, .int (zI x1))] dX12_isMine_39 rfl (by omega) (by decide) rfl ?_
          refine j_goto hx 2 dX12_isMine_42 rfl ?_
          exact j_sub [1, 2, 0] [(0, .ref a), (1, .int (zI x1)), (2, .int (zI (v1 + 1)))] rfl (ih_c2_1 (v1 + 1) (by omega) (by omega))
        refine j_icmp_eq hx 39 dX12_isMine_12 rfl (by omega) (by omega) (fun h4 => ?_) (fun h4 => ?_)
        · skip
          exact j_sub [0, 1, 2] [(0, .ref a), (1, .int (zI x1)), (2, .int (zI v1))] rfl (c39_3  )
        · skip
          refine j_aload_n hx 0 dX12_isMine_15 rfl ?_
          refine j_iload_n hx 1 dX12_isMine_16 rfl ?_
          refine j_callV hx hG (c_X12_top hst a x1) lk_RX12_334 ha (by decide) rfl rfl rfl rfl [.int (zI x1)] ⟨rfl, hG, hS0, ha, (by omega)⟩ rfl rfl ⟨by decide, by decide⟩ ⟨by decide, by decide⟩ (k2 := 0) (n2 := 0) rfl rfl (Nat.le_of_ble_eq_true rfl) dX12_isMine_17 (kIP (fun v5 q6 => ?_))
          refine j_iconst hx dX12_isMine_20 ?_
          refine j_icmp_eq hx 39 dX12_isMine_21 rfl (by omega) ⟨by decide, by decide⟩ (fun h7 => ?_) (fun h7 => ?_)
          · skip
            exact j_sub [0, 1, 2] [(0, .ref a), (1, .int (zI x1)), (2, .int (zI v1))] rfl (c39_3  )
          · skip
            refine j_aload_n hx 0 dX12_isMine_24 rfl ?_
            refine j_iload_n hx 2 dX12_isMine_25 rfl ?_
            refine j_callV hx hG (c_X12_top hst a v1) lk_RX12_334 ha (by decide) rfl rfl rfl rfl [.int (zI v1)] ⟨rfl, hG, hS0, ha, (by omega)⟩ rfl rfl ⟨by decide, by decide⟩ ⟨by decide, by decide⟩ (k2 := 0) (n2 := 0) rfl rfl (Nat.le_of_ble_eq_true rfl) dX12_isMine_26 (kIP (fun v8 q9 => ?_))
            refine j_aload_n hx 0 dX12_isMine_29 rfl ?_
            refine j_iload_n hx 1 dX12_isMine_30 rfl ?_
            refine j_callV hx hG (c_X12_top hst a x1) lk_RX12_334 ha (by decide) rfl rfl rfl rfl [.int (zI x1)] ⟨rfl, hG, hS0, ha, (by omega)⟩ rfl rfl ⟨by decide, by decide⟩ ⟨by decide, by decide⟩ (k2 := 0) (n2 := 0) rfl rfl (Nat.le_of_ble_eq_true rfl) dX12_isMine_31 (kIP (fun v10 q11 => ?_))
            refine j_icmp_ne hx 39 dX12_isMine_34 rfl (by omega) (by omega) (fun h12 => ?_) (fun h12 => ?_)
            · skip
              exact j_sub [0, 1, 2] [(0, .ref a), (1, .int (zI x1)), (2, .int (zI v1))] rfl (c39_3  )
            · skip
              refine j_iconst hx dX12_isMine_37 ?_
              exact j_zret hx hq rfl (by decide) (by decide) dX12_isMine_38 (by omega) ⟨1, rfl, rfl, rfl, (by omega)⟩
  exact j_sub [1, 2, 0] [(0, .ref a), (1, .int (zI x1)), (2, .int (zI 0))] rfl (c2_1 (2147483648 * 4) 0 (by omega) (by omega))

set_option maxHeartbeats 1200000 in
set_option maxRecDepth 20000 in
theorem c_X12_remembers {E : zE} {l : Launch} (hst : l.stackTraces = false) (a : Nat) (x1 : Int) (x2 : Int) : Con E l yX12_remembers cX12_remembers 3 (some .boolean) { frames := 0, cells := 0, slots := 0, locals := 0 } (fun G s vs => vs = [.ref a, .int (zI x1), .int (zI x2)] ∧ zGK G ∧ zSK G s ∧ (gT G a = 13) ∧ (0 ≤ x1 ∧ x1 ≤ 2) ∧ (0 ≤ x2 ∧ x2 ≤ 2)) (fun G s _ => pI (fun r G2 s2 => G2 = G ∧ s2 = s ∧ (0 ≤ r ∧ r ≤ 1))) := by
  refine Con.mk hst (by decide) (fun G s vs h => by rw [h.1]; exact Nat.le_of_ble_eq_true rfl) ?_
  rintro X G s0 vs ⟨rfl, hG, hS0, ha, hx1, hx2⟩ rfl hx hq
  show JJ X E 3 G s0 0 0 [(0, .ref a), (1, .int (zI x1)), (2, .int (zI x2))] 0 []
  refine j_aload_n hx 0 dX12_remembers_0 rfl ?_
  refine g13_27 hx hG ha kf_RX12_56 dX12_remembers_1 ?_
  refine j_sipush hx dX12_remembers_4 rfl ?_
  refine j_iload_n hx 2 dX12_remembers_7 rfl ?_
  refine j_iadd hx (r := x2 + 480) dX12_remembers_8 (by omega) ?_
  have f1 := zaQ (j := (x2 + 480).toNat) hS0 (zr (k := 27) (t2 := 84) hG ha rfl) (congrArg some (axS_2 (x2 + 480).toNat (by omega))) (zlen hG (zr (k := 27) (t2 := 84) hG ha rfl) (n := 515) rfl rfl) (show 0 ≤ x2 + 480 by omega) (by omega) rfl
  have c2 := zc_1 (j := (x2 + 480).toNat) hS0 (zr (k := 27) (t2 := 84) hG ha rfl) (zn hG (zr (k := 27) (t2 := 84) hG ha rfl) rfl) (by omega) (by omega)
  refine j_iald hx hG (zr (k := 27) (t2 := 84) hG ha rfl) (by decide) rfl (zlen hG (zr (k := 27) (t2 := 84) hG ha rfl) (n := 515) rfl rfl) (by omega) (by omega) (j := (x2 + 480).toNat) rfl rfl dX12_remembers_9 ?_
  refine j_if_le hx 54 dX12_remembers_10 rfl (by omega) (fun h3 => ?_) (fun h3 => ?_)
  · skip
    refine j_iconst hx dX12_remembers_54 ?_
    exact j_zret hx hq rfl (by decide) (by decide) dX12_remembers_55 (by omega) ⟨0, rfl, rfl, rfl, (by omega)⟩
  · skip
    refine j_aload_n hx 0 dX12_remembers_13 rfl ?_
    refine g13_17 hx hG ha kf_RX12_44 dX12_remembers_14 ?_
    refine j_iconst hx dX12_remembers_17 ?_
    refine j_iload_n hx 1 dX12_remembers_18 rfl ?_
    refine j_imul hx (r := 4 * x1) dX12_remembers_19 rfl ?_
    refine j_iconst hx dX12_remembers_20 ?_
    refine j_iadd hx (r := 4 * x1 + 1) dX12_remembers_21 (by omega) ?_
    have f4 := zaI (j := (4 * x1 + 1).toNat) hS0 (zr (k := 17) (t2 := 80) hG ha rfl) rfl (zlen hG (zr (k := 17) (t2 := 80) hG ha rfl) (n := 12) rfl rfl) (show 0 ≤ 4 * x1 + 1 by omega) (by omega) rfl
    refine j_iald hx hG (zr (k := 17) (t2 := 80) hG ha rfl) (by decide) rfl (zlen hG (zr (k := 17) (t2 := 80) hG ha rfl) (n := 12) rfl rfl) (by omega) (by omega) (j := (4 * x1 + 1).toNat) rfl rfl dX12_remembers_22 ?_
    refine j_if_le hx 54 dX12_remembers_23 rfl (by omega) (fun h5 => ?_) (fun h5 => ?_)
    · skip
      refine j_iconst hx dX12_remembers_54 ?_
      exact j_zret hx hq rfl (by decide) (by decide) dX12_remembers_55 (by omega) ⟨0, rfl, rfl, rfl, (by omega)⟩
    · skip
      refine j_aload_n hx 0 dX12_remembers_26 rfl ?_
      refine g13_27 hx hG ha kf_RX12_56 dX12_remembers_27 ?_
      refine j_sipush hx dX12_remembers_30 rfl ?_
      refine j_aload_n hx 0 dX12_remembers_33 rfl ?_
      refine g13_27 hx hG ha kf_RX12_56 dX12_remembers_34 ?_
      refine j_iconst hx dX12_remembers_37 ?_
      refine j_bipush hx dX12_remembers_38 rfl ?_
      refine j_iload_n hx 2 dX12_remembers_40 rfl ?_
      refine j_imul hx (r := 60 * x2) dX12_remembers_41 rfl ?_
      refine j_iadd hx (r := 60 * x2) dX12_remembers_42 (by omega) ?_
      have f6 := zaQ (j := (60 * x2).toNat) hS0 (zr (k := 27) (t2 := 84) hG ha rfl) (congrArg some (axS_0 (60 * x2).toNat (by omega))) (zlen hG (zr (k := 27) (t2 := 84) hG ha rfl) (n := 515) rfl rfl) (show 0 ≤ 60 * x2 by omega) (by omega) rfl
      refine j_iald hx hG (zr (k := 27) (t2 := 84) hG ha rfl) (by decide) rfl (zlen hG (zr (k := 27) (t2 := 84) hG ha rfl) (n := 515) rfl rfl) (by omega) (by omega) (j := (60 * x2).toNat) rfl rfl dX12_remembers_43 ?_
      refine j_iadd hx (r := (s0 (gP G a 27) (60 * x2).toNat) + 420) dX12_remembers_44 (by omega) ?_
      have f7 := zaQ (j := ((s0 (gP G a 27) (60 * x2).toNat) + 420).toNat) hS0 (zr (k := 27) (t2 := 84) hG ha rfl) (congrArg some (axS_1 ((s0 (gP G a 27) (60 * x2).toNat) + 420).toNat (by omega))) (zlen hG (zr (k := 27) (t2 := 84) hG ha rfl) (n := 515) rfl rfl) (show 0 ≤ (s0 (gP G a 27) (60 * x2).toNat) + 420 by omega) (by omega) rfl
      refine j_iald hx hG (zr (k := 27) (t2 := 84) hG ha rfl) (by decide) rfl (zlen hG (zr (k := 27) (t2 := 84) hG ha rfl) (n := 515) rfl rfl) (by omega) (by omega) (j := ((s0 (gP G a 27) (60 * x2).toNat) + 420).toNat) rfl rfl dX12_remembers_45 ?_
      refine j_iconst hx dX12_remembers_46 ?_
      refine j_icmp_ne hx 54 dX12_remembers_47 rfl (by omega) ⟨by decide, by decide⟩ (fun h8 => ?_) (fun h8 => ?_)
      · skip
        refine j_iconst hx dX12_remembers_54 ?_
        exact j_zret hx hq rfl (by decide) (by decide) dX12_remembers_55 (by omega) ⟨0, rfl, rfl, rfl, (by omega)⟩
      · skip
        refine j_iconst hx dX12_remembers_50 ?_
        refine j_goto hx 55 dX12_remembers_51 rfl ?_
        exact j_zret hx hq rfl (by decide) (by decide) dX12_remembers_55 (by omega) ⟨1, rfl, rfl, rfl, (by omega)⟩

set_option maxHeartbeats 1200000 in
set_option maxRecDepth 20000 in
theorem c_X12_wouldBe {E : zE} {l : Launch} (hst : l.stackTraces = false) (a : Nat) (x1 : Int) (x2 : Int) : Con E l yX12_wouldBe cX12_wouldBe 7 (some .boolean) { frames := 1, cells := 0, slots := 0, locals := 21 } (fun G s vs => vs = [.ref a, .int (zI x1), .int (zI x2)] ∧ zGK G ∧ zSK G s ∧ (gT G a = 13) ∧ (0 ≤ x1 ∧ x1 ≤ 2) ∧ ((-2147483648) ≤ x2 ∧ x2 ≤ 2147483647)) (fun G s _ => pI (fun r G2 s2 => G2 = G ∧ s2 = s ∧ (0 ≤ r ∧ r ≤ 1))) := by
  refine Con.mk hst (by decide) (fun G s vs h => by rw [h.1]; exact Nat.le_of_ble_eq_true rfl) ?_
  rintro X G s0 vs ⟨rfl, hG, hS0, ha, hx1, hx2⟩ rfl hx hq
  show JJ X E 7 G s0 0 0 [(0, .ref a), (1, .int (zI x1)), (2, .int (zI x2))] 0 []
  refine j_iconst hx dX12_wouldBe_0 ?_
  refine j_istore_n hx [(3, .int (zI 0)), (0, .ref a), (1, .int (zI x1)), (2, .int (zI x2))] dX12_wouldBe_1 (by decide) rfl ?_
  have c2_1 : ∀ (m_c2_1 : Nat) (v1 : Int), 2147483648 - v1 < m_c2_1 → (0 ≤ v1 ∧ v1 ≤ 3) → JJ X E 7 G s0 0 0 [(0, .ref a), (1, .int (zI x1)), (2, .int (zI x2)), (3, .int (zI v1))] 2 [] := by
    intro m_c2_1
    induction m_c2_1 with
    | zero => intro v1 hm_c2_1 fA2; exfalso; omega
    | succ m_c2_1 ih_c2_1 => 
      intro v1 hm_c2_1 fA2
      refine j_iload_n hx 3 dX12_wouldBe_2 rfl ?_
      refine j_aload_n hx 0 dX12_wouldBe_3 rfl ?_
      have f2 := zf hS0 ha (k := 24) rfl
      refine g13_24 hx hG ha kf_RX12_189 rfl dX12_wouldBe_4 ?_
      refine j_icmp_ge hx 85 dX12_wouldBe_7 rfl (by omega) (by omega) (fun h3 => ?_) (fun h3 => ?_)
      · skip
        refine j_iconst hx dX12_wouldBe_85 ?_
        exact j_zret hx hq rfl (by decide) (by decide) dX12_wouldBe_86 (by omega) ⟨0, rfl, rfl, rfl, (by omega)⟩
      · skip
        refine j_iload_n hx 3 dX12_wouldBe_10 rfl ?_
        refine j_iconst hx dX12_wouldBe_11 ?_
        refine j_iadd hx (r := v1 + 1) dX12_wouldBe_12 rfl ?_
        refine j_istore hx [(4, .int (zI (v1 + 1))), (0, .ref a), (1, .int (zI x1)), (2, .int (zI x2)), (3, .int (zI v1))] dX12_wouldBe_13 (by decide) rfl ?_
        have c15_3 : ∀ (m_c15_3 : Nat) (v4 : Int), 2147483648 - v4 < m_c15_3 → (1 ≤ v4 ∧ v4 ≤ 3) → JJ X E 7 G s0 0 0 [(0, .ref a), (1, .int (zI x1)), (2, .int (zI x2)), (3, .int (zI v1)), (4, .int (zI v4))] 15 [] := by
          intro m_c15_3
          induction m_c15_3 with
          | zero => intro v4 hm_c15_3 fA4; exfalso; omega
          | succ m_c15_3 ih_c15_3 => 
            intro v4 hm_c15_3 fA4
            refine j_iload hx 4 dX12_wouldBe_15 rfl ?_
            refine j_aload_n hx 0 dX12_wouldBe_17 rfl ?_
            refine g13_24 hx hG ha kf_RX12_189 rfl dX12_wouldBe_18 ?_
            refine j_icmp_ge hx 79 dX12_wouldBe_21 rfl (by omega) (by omega) (fun h5 => ?_) (fun h5 => ?_)
            · skip
              refine j_iinc hx 3 [(3, .int (zI (v1 + 1))), (0, .ref a), (1, .int (zI x1)), (2, .int (zI x2)), (4, .int (zI v4))] dX12_wouldBe_79 rfl (by omega) (by decide) rfl ?_
              refine j_goto hx 2 dX12_wouldBe_82 rfl ?_
              exact j_sub [1, 2, 3, 0] [(0, .ref a), (1, .int (zI x1)), (2, .int (zI x2)), (3, .int (zI (v1 + 1)))] rfl (ih_c2_1 (v1 + 1) (by omega) (by omega))
            · skip
              refine j_iload_n hx 3 dX12_wouldBe_24 rfl ?_
              refine j_iload_n hx 1 dX12_wouldBe_25 rfl ?_
              have c38_5 : ∀ (v6 : Int), ((-2147483648) ≤ v6 ∧ v6 ≤ 2147483647) → JJ X E 7 G s0 0 0 [(0, .ref a), (1, .int (zI x1)), (2, .int (zI x2)), (3, .int (zI v1)), (4, .int (zI v4))] 38 [.int (zI v6)] := by
                intro v6 fA6
                refine j_istore hx [(5, .int (zI v6)), (0, .ref a), (1, .int (zI x1)), (2, .int (zI x2)), (3, .int (zI v1)), (4, .int (zI v4))] dX12_wouldBe_38 (by decide) rfl ?_
                refine j_iload hx 5 dX12_wouldBe_40 rfl ?_
                refine j_iload_n hx 2 dX12_wouldBe_42 rfl ?_
                have c56_7 : ∀ (v7 : Int), ((-2147483648) ≤ v7 ∧ v7 ≤ 2147483647) → JJ X E 7 G s0 0 0 [(0, .ref a), (1, .int (zI x1)), (2, .int (zI x2)), (3, .int (zI v1)), (4, .int (zI v4)), (5, .int (zI v6))] 56 [.int (zI v7)] := by
                  intro v7 fA8
                  refine j_istore hx [(6, .int (zI v7)), (0, .ref a), (1, .int (zI x1)), (2, .int (zI x2)), (3, .int (zI v1)), (4, .int (zI v4)), (5, .int (zI v6))] dX12_wouldBe_56 (by decide) rfl ?_
                  refine j_iload hx 6 dX12_wouldBe_58 rfl ?_
                  refine j_iconst hx dX12_wouldBe_60 ?_
                  have c73_9 : JJ X E 7 G s0 0 0 [(0, .ref a), (1, .int (zI x1)), (2, .int (zI x2)), (3, .int (zI v1)), (4, .int (zI v4))] 73 [] := by
                    refine j_iinc hx 4 [(4, .int (zI (v4 + 1))), (0, .ref a), (1, .int (zI x1)), (2, .int (zI x2)), (3, .int (zI v1))] dX12_wouldBe_73 rfl (by omega) (by decide) rfl ?_
                    refine j_goto hx 15 dX12_wouldBe_76 rfl ?_
                    exact j_sub [1, 2, 3, 4, 0] [(0, .ref a), (1, .int (zI x1)), (2, .int (zI x2)), (3, .int (zI v1)), (4, .int (zI (v4 + 1)))] rfl (ih_c15_3 (v4 + 1) (by omega) (by omega))
                  refine j_icmp_eq hx 73 dX12_wouldBe_61 rfl (by omega) ⟨by decide, by decide⟩ (fun h8 => ?_) (fun h8 => ?_)
                  · skip
                    exact j_sub [1, 2, 3, 4, 5] [(0, .ref a), (1, .int (zI x1)), (2, .int (zI x2)), (3, .int (zI v1)), (4, .int (zI v4))] rfl (c73_9  )
                  · skip
                    refine j_iload hx 6 dX12_wouldBe_64 rfl ?_
                    refine j_iload hx 0 dX12_wouldBe_66 rfl ?_
                    refine j_icmp_ne hx 73 dX12_wouldBe_68 rfl (by omega) (by omega) (fun h9 => ?_) (fun h9 => ?_)
                    · skip
                      exact j_sub [1, 2, 3, 4, 5] [(0, .ref a), (1, .int (zI x1)), (2, .int (zI x2)), (3, .int (zI v1)), (4, .int (zI v4))] rfl (c73_9  )
                    · skip
                      refine j_iconst hx dX12_wouldBe_71 ?_
                      exact j_zret hx hq rfl (by decide) (by decide) dX12_wouldBe_72 (by omega) ⟨1, rfl, rfl, rfl, (by omega)⟩
                refine j_icmp_ne hx 50 dX12_wouldBe_43 rfl (by omega) (by omega) (fun h10 => ?_) (fun h10 => ?_)
                · skip
                  refine j_aload_n hx 1 dX12_wouldBe_50 rfl ?_
                  refine j_iload hx 5 dX12_wouldBe_51 rfl ?_
                  refine j_callV hx hG (c_X12_top hst a v4) lk_RX12_334 ha (by decide) rfl rfl rfl rfl [.int (zI v4)] ⟨rfl, hG, hS0, ha, (by omega)⟩ rfl rfl ⟨by decide, by decide⟩ ⟨by decide, by decide⟩ (k2 := 0) (n2 := 0) rfl rfl (Nat.le_of_ble_eq_true rfl) dX12_wouldBe_53 (kIP (fun v11 q12 => ?_))
                  exact j_sub [1, 2, 3, 4, 5, 0] [(0, .ref a), (1, .int (zI x1)), (2, .int (zI x2)), (3, .int (zI v1)), (4, .int (zI v4)), (5, .int (zI v6))] rfl (c56_7 v11 (by omega))
                · skip
                  refine j_iload_n hx 3 dX12_wouldBe_46 rfl ?_
                  refine j_goto hx 56 dX12_wouldBe_47 rfl ?_
                  exact j_sub [1, 2, 3, 4, 5, 0] [(0, .ref a), (1, .int (zI x1)), (2, .int (zI x2)), (3, .int (zI v1)), (4, .int (zI v4)), (5, .int (zI v6))] rfl (c56_7 x2 (by omega))
              refine j_icmp_ne hx 33 dX12_wouldBe_26 rfl (by omega) (by omega) (fun h13 => ?_) (fun h13 => ?_)
              · skip
                refine j_aload_n hx 0 dX12_wouldBe_33 rfl ?_
                refine j_iload_n hx 3 dX12_wouldBe_34 rfl ?_
                refine j_callV hx hG (c_X12_top hst a v1) lk_RX12_334 ha (by decide) rfl rfl rfl rfl [.int (zI v1)] ⟨rfl, hG, hS0, ha, (by omega)⟩ rfl rfl ⟨by decide, by decide⟩ ⟨by decide, by decide⟩ (k2 := 0) (n2 := 0) rfl rfl (Nat.le_of_ble_eq_true rfl) dX12_wouldBe_35 (kIP (fun v14 q15 => ?_))
                exact j_sub [0, 1, 2, 3, 4] [(0, .ref a), (1, .int (zI x1)), (2, .int (zI x2)), (3, .int (zI v1)), (4, .int (zI v4))] rfl (c38_5 v14 (by omega))
              · skip
                refine j_iload_n hx 2 dX12_wouldBe_29 rfl ?_
                refine j_goto hx 38 dX12_wouldBe_30 rfl ?_
                exact j_sub [0, 1, 2, 3, 4] [(0, .ref a), (1, .int (zI x1)), (2, .int (zI x2)), (3, .int (zI v1)), (4, .int (zI v4))] rfl (c38_5 x2 (by omega))
        exact j_sub [1, 2, 3, 4, 0] [(0, .ref a), (1, .int (zI x1)), (2, .int (zI x2)), (3, .int (zI v1)), (4, .int (zI (v1 + 1)))] rfl (c15_3 (2147483648 * 4) (v1 + 1) (by omega) (by omega))
  exact j_sub [1, 2, 3, 0] [(0, .ref a), (1, .int (zI x1)), (2, .int (zI x2)), (3, .int (zI 0))] rfl (c2_1 (2147483648 * 4) 0 (by omega) (by omega))

theorem lk_RX12_346 : LkV RX12 346 RX12 yX12_isMine cX12_isMine 3 (some .boolean) 1 := ⟨km_RX12_346, ki_yX12_isMine, ks_RX12_yX12_isMine, kn_RX12, kc_yX12_isMine, rfl, by decide +kernel, by decide +kernel, by decide +kernel⟩
theorem lk_RX12_349 : LkV RX12 349 RX12 yX12_remembers cX12_remembers 3 (some .boolean) 2 := ⟨km_RX12_349, ki_yX12_remembers, ks_RX12_yX12_remembers, kn_RX12, kc_yX12_remembers, rfl, by decide +kernel, by decide +kernel, by decide +kernel⟩
theorem lk_RX12_352 : LkV RX12 352 RX12 yX12_wouldBe cX12_wouldBe 7 (some .boolean) 2 := ⟨km_RX12_352, ki_yX12_wouldBe, ks_RX12_yX12_wouldBe, kn_RX12, kc_yX12_wouldBe, rfl, by decide +kernel, by decide +kernel, by decide +kernel⟩
set_option maxHeartbeats 1200000 in
set_option maxRecDepth 20000 in
theorem c_X12_asks {E : zE} {l : Launch} (hst : l.stackTraces = false) (a : Nat) (x1 : Int) (x2 : Int) (x3 : Int) : Con E l yX12_asks cX12_asks 5 (some .boolean) { frames := 2, cells := 0, slots := 0, locals := 47 } (fun G s vs => vs = [.ref a, .int (zI x1), .int (zI x2), .int (zI x3)] ∧ zGK G ∧ zSK G s ∧ (gT G a = 13) ∧ (0 ≤ x1 ∧ x1 ≤ 899) ∧ (0 ≤ x2 ∧ x2 ≤ 2) ∧ ((-1) ≤ x3 ∧ x3 ≤ 2) ∧ (s (gP G a 34) (x1).toNat < 20) ∧ ((s (gP G a 34) (x1).toNat < 1 ∨ 10 < s (gP G a 34) (x1).toNat) → 1 ≤ s (gP G a 35) (x1).toNat)) (fun G s _ => pI (fun r G2 s2 => G2 = G ∧ s2 = s ∧ (0 ≤ r ∧ r ≤ 1))) := by
  refine Con.mk hst (by decide) (fun G s vs h => by rw [h.1]; exact Nat.le_of_ble_eq_true rfl) ?_
  rintro X G s0 vs ⟨rfl, hG, hS0, ha, hx1, hx2, hx3, e0, e1⟩ rfl hx hq
  show JJ X E 5 G s0 0 0 [(0, .ref a), (1, .int (zI x1)), (2, .int (zI x2)), (3, .int (zI x3))] 0 []
  refine j_aload_n hx 0 dX12_asks_0 rfl ?_
  refine g13_35 hx hG ha kf_RX12_80 dX12_asks_1 ?_
  refine j_iload_n hx 1 dX12_asks_4 rfl ?_
  have f1 := zaI (j := (x1).toNat) hS0 (zr (k := 35) (t2 := 92) hG ha rfl) rfl (zlen hG (zr (k := 35) (t2 := 92) hG ha rfl) (n := 900) rfl rfl) (show 0 ≤ x1 by omega) (by omega) rfl
  refine j_iald hx hG (zr (k := 35) (t2 := 92) hG ha rfl) (by decide) rfl (zlen hG (zr (k := 35) (t2 := 92) hG ha rfl) (n := 900) rfl rfl) (by omega) (by omega) (j := (x1).toNat) rfl rfl dX12_asks_5 ?_
  refine j_istore hx [(4, .int (zI ((s0 (gP G a 35) (x1).toNat)))), (0, .ref a), (1, .int (zI x1)), (2, .int (zI x2)), (3, .int (zI x3))] dX12_asks_6 (by decide) rfl ?_
  refine j_aload_n hx 1 dX12_asks_8 rfl ?_
  refine g13_34 hx hG ha kf_RX12_77 dX12_asks_9 ?_
  refine j_iload_n hx 2 dX12_asks_12 rfl ?_
  have f2 := zaI (j := (x1).toNat) hS0 (zr (k := 34) (t2 := 91) hG ha rfl) rfl (zlen hG (zr (k := 34) (t2 := 91) hG ha rfl) (n := 900) rfl rfl) (show 0 ≤ x1 by omega) (by omega) rfl
  refine j_iald hx hG (zr (k := 34) (t2 := 91) hG ha rfl) (by decide) rfl (zlen hG (zr (k := 34) (t2 := 91) hG ha rfl) (n := 900) rfl rfl) (by omega) (by omega) (j := (x1).toNat) rfl rfl dX12_asks_13 ?_
  have h3 : ((s0 (gP G a 34) (x1).toNat) = 1) ∨ ((s0 (gP G a 34) (x1).toNat) = 2) ∨ ((s0 (gP G a 34) (x1).toNat) = 3) ∨ ((s0 (gP G a 34) (x1).toNat) = 4) ∨ ((s0 (gP G a 34) (x1).toNat) = 5) ∨ ((s0 (gP G a 34) (x1).toNat) = 6) ∨ ((s0 (gP G a 34) (x1).toNat) = 7) ∨ ((s0 (gP G a 34) (x1).toNat) = 8) ∨ ((s0 (gP G a 34) (x1).toNat) = 9) ∨ ((s0 (gP G a 34) (x1).toNat) = 10) ∨ ((s0 (gP G a 34) (x1).toNat) < 1 ∨ 10 < (s0 (gP G a 34) (x1).toNat)) := by omega
  rcases h3 with h3 | h3 | h3 | h3 | h3 | h3 | h3 | h3 | h3 | h3 | h3
  · skip
    refine j_switchIn hx 68 dX12_asks_14 (by omega) (by omega) (by omega) (by rw [h3]; rfl) rfl ?_
    refine j_aload_n hx 1 dX12_asks_68 rfl ?_
    refine j_callV hx hG (c_X12_alikes hst a) lk_RX12_343 ha (by decide) rfl rfl rfl rfl [] ⟨rfl, hG, hS0, ha⟩ rfl rfl ⟨by decide, by decide⟩ ⟨by decide, by decide⟩ (k2 := 0) (n2 := 0) rfl rfl (Nat.le_of_ble_eq_true rfl) dX12_asks_69 (kIP (fun v4 q5 => ?_))
    refine j_iconst hx dX12_asks_72 ?_
    refine j_icmp_eq hx 80 dX12_asks_73 rfl (by omega) ⟨by decide, by decide⟩ (fun h6 => ?_) (fun h6 => ?_)
    · skip
      refine j_iconst hx dX12_asks_80 ?_
      exact j_zret hx hq rfl (by decide) (by decide) dX12_asks_81 (by omega) ⟨0, rfl, rfl, rfl, (by omega)⟩
    · skip
      refine j_iconst hx dX12_asks_76 ?_
      refine j_goto hx 81 dX12_asks_77 rfl ?_
      exact j_zret hx hq rfl (by decide) (by decide) dX12_asks_81 (by omega) ⟨1, rfl, rfl, rfl, (by omega)⟩
  · skip
    refine j_switchIn hx 82 dX12_asks_14 (by omega) (by omega) (by omega) (by rw [h3]; rfl) rfl ?_
    refine j_aload_n hx 1 dX12_asks_82 rfl ?_
    refine j_iload_n hx 3 dX12_asks_83 rfl ?_
    refine j_callV hx hG (c_X12_isMine hst a x2) lk_RX12_346 ha (by decide) rfl rfl rfl rfl [.int (zI x2)] ⟨rfl, hG, hS0, ha, (by omega)⟩ rfl rfl ⟨by decide, by decide⟩ ⟨by decide, by decide⟩ (k2 := 0) (n2 := 0) rfl rfl (Nat.le_of_ble_eq_true rfl) dX12_asks_84 (kIP (fun v7 q8 => ?_))
    exact j_zret hx hq rfl (by decide) (by decide) dX12_asks_87 (by omega) ⟨v7, rfl, rfl, rfl, (by omega)⟩
  · skip
    refine j_switchIn hx 88 dX12_asks_14 (by omega) (by omega) (by omega) (by rw [h3]; rfl) rfl ?_
    refine j_aload_n hx 1 dX12_asks_88 rfl ?_
    refine j_iload_n hx 3 dX12_asks_89 rfl ?_
    refine j_callV hx hG (c_X12_top hst a x2) lk_RX12_334 ha (by decide) rfl rfl rfl rfl [.int (zI x2)] ⟨rfl, hG, hS0, ha, (by omega)⟩ rfl rfl ⟨by decide, by decide⟩ ⟨by decide, by decide⟩ (k2 := 0) (n2 := 0) rfl rfl (Nat.le_of_ble_eq_true rfl) dX12_asks_90 (kIP (fun v9 q10 => ?_))
    refine j_iload hx 0 dX12_asks_93 rfl ?_
    refine j_icmp_ne hx 102 dX12_asks_95 rfl (by omega) (by omega) (fun h11 => ?_) (fun h11 => ?_)
    · skip
      refine j_iconst hx dX12_asks_102 ?_
      exact j_zret hx hq rfl (by decide) (by decide) dX12_asks_103 (by omega) ⟨0, rfl, rfl, rfl, (by omega)⟩
    · skip
      refine j_iconst hx dX12_asks_98 ?_
      refine j_goto hx 103 dX12_asks_99 rfl ?_
      exact j_zret hx hq rfl (by decide) (by decide) dX12_asks_103 (by omega) ⟨1, rfl, rfl, rfl, (by omega)⟩
  · skip
    refine j_switchIn hx 104 dX12_asks_14 (by omega) (by omega) (by omega) (by rw [h3]; rfl) rfl ?_
    refine j_aload_n hx 1 dX12_asks_104 rfl ?_
    refine j_iload_n hx 3 dX12_asks_105 rfl ?_
    refine j_iload_n hx 3 dX12_asks_106 rfl ?_
    refine j_callV hx hG (c_X12_remembers hst a x2 x2) lk_RX12_349 ha (by decide) rfl rfl rfl rfl [.int (zI x2), .int (zI x2)] ⟨rfl, hG, hS0, ha, (by omega), (by omega)⟩ rfl rfl ⟨by decide, by decide⟩ ⟨by decide, by decide⟩ (k2 := 0) (n2 := 0) rfl rfl (Nat.le_of_ble_eq_true rfl) dX12_asks_107 (kIP (fun v12 q13 => ?_))
    refine j_if_eq hx 138 dX12_asks_110 rfl (by omega) (fun h14 => ?_) (fun h14 => ?_)
    · skip
      refine j_iconst hx dX12_asks_138 ?_
      exact j_zret hx hq rfl (by decide) (by decide) dX12_asks_139 (by omega) ⟨0, rfl, rfl, rfl, (by omega)⟩
    · skip
      refine j_aload_n hx 1 dX12_asks_113 rfl ?_
      refine g13_19 hx hG ha kf_RX12_50 dX12_asks_114 ?_
      refine j_aload_n hx 1 dX12_asks_117 rfl ?_
      refine g13_27 hx hG ha kf_RX12_56 dX12_asks_118 ?_
      refine j_iconst hx dX12_asks_121 ?_
      refine j_bipush hx dX12_asks_122 rfl ?_
      refine j_iload_n hx 3 dX12_asks_124 rfl ?_
      refine j_imul hx (r := 60 * x2) dX12_asks_125 rfl ?_
      refine j_iadd hx (r := 60 * x2) dX12_asks_126 (by omega) ?_
      have f15 := zaQ (j := (60 * x2).toNat) hS0 (zr (k := 27) (t2 := 84) hG ha rfl) (congrArg some (axS_0 (60 * x2).toNat (by omega))) (zlen hG (zr (k := 27) (t2 := 84) hG ha rfl) (n := 515) rfl rfl) (show 0 ≤ 60 * x2 by omega) (by omega) rfl
      refine j_iald hx hG (zr (k := 27) (t2 := 84) hG ha rfl) (by decide) rfl (zlen hG (zr (k := 27) (t2 := 84) hG ha rfl) (n := 515) rfl rfl) (by omega) (by omega) (j := (60 * x2).toNat) rfl rfl dX12_asks_127 ?_
      have f16 := zaI (j := ((s0 (gP G a 27) (60 * x2).toNat)).toNat) hS0 (zr (k := 19) (t2 := 82) hG ha rfl) rfl (zlen hG (zr (k := 19) (t2 := 82) hG ha rfl) (n := 60) rfl rfl) (show 0 ≤ (s0 (gP G a 27) (60 * x2).toNat) by omega) (by omega) rfl
      refine j_iald hx hG (zr (k := 19) (t2 := 82) hG ha rfl) (by decide) rfl (zlen hG (zr (k := 19) (t2 := 82) hG ha rfl) (n := 60) rfl rfl) (by omega) (by omega) (j := ((s0 (gP G a 27) (60 * x2).toNat)).toNat) rfl rfl dX12_asks_128 ?_
      refine j_iload hx 0 dX12_asks_129 rfl ?_
      refine j_icmp_ne hx 138 dX12_asks_131 rfl (by omega) (by omega) (fun h17 => ?_) (fun h17 => ?_)
      · skip
        refine j_iconst hx dX12_asks_138 ?_
        exact j_zret hx hq rfl (by decide) (by decide) dX12_asks_139 (by omega) ⟨0, rfl, rfl, rfl, (by omega)⟩
      · skip
        refine j_iconst hx dX12_asks_134 ?_
        refine j_goto hx 139 dX12_asks_135 rfl ?_
        exact j_zret hx hq rfl (by decide) (by decide) dX12_asks_139 (by omega) ⟨1, rfl, rfl, rfl, (by omega)⟩
  · skip
    refine j_switchIn hx 140 dX12_asks_14 (by omega) (by omega) (by omega) (by rw [h3]; rfl) rfl ?_
    refine j_iload_n hx 4 dX12_asks_140 rfl ?_
    refine j_iconst hx dX12_asks_141 ?_
    refine j_icmp_eq hx 182 dX12_asks_142 rfl (by omega) ⟨by decide, by decide⟩ (fun h18 => ?_) (fun h18 => ?_)
    · skip
      refine j_iconst hx dX12_asks_182 ?_
      exact j_zret hx hq rfl (by decide) (by decide) dX12_asks_183 (by omega) ⟨0, rfl, rfl, rfl, (by omega)⟩
    · skip
      refine j_aload_n hx 1 dX12_asks_145 rfl ?_
      refine j_iload_n hx 3 dX12_asks_146 rfl ?_
      refine j_iload_n hx 4 dX12_asks_147 rfl ?_
      refine j_callV hx hG (c_X12_remembers hst a x2 x3) lk_RX12_349 ha (by decide) rfl rfl rfl rfl [.int (zI x2), .int (zI x3)] ⟨rfl, hG, hS0, ha, (by omega), (by omega)⟩ rfl rfl ⟨by decide, by decide⟩ ⟨by decide, by decide⟩ (k2 := 0) (n2 := 0) rfl rfl (Nat.le_of_ble_eq_true rfl) dX12_asks_148 (kIP (fun v19 q20 => ?_))
      refine j_if_eq hx 182 dX12_asks_151 rfl (by omega) (fun h21 => ?_) (fun h21 => ?_)
      · skip
        refine j_iconst hx dX12_asks_182 ?_
        exact j_zret hx hq rfl (by decide) (by decide) dX12_asks_183 (by omega) ⟨0, rfl, rfl, rfl, (by omega)⟩
      · skip
        refine j_aload_n hx 1 dX12_asks_154 rfl ?_
        refine j_iload_n hx 4 dX12_asks_155 rfl ?_
        refine j_aload_n hx 1 dX12_asks_156 rfl ?_
        refine g13_19 hx hG ha kf_RX12_50 dX12_asks_157 ?_
        refine j_aload_n hx 1 dX12_asks_160 rfl ?_
        refine g13_27 hx hG ha kf_RX12_56 dX12_asks_161 ?_
        refine j_iconst hx dX12_asks_164 ?_
        refine j_bipush hx dX12_asks_165 rfl ?_
        refine j_iload_n hx 4 dX12_asks_167 rfl ?_
        refine j_imul hx (r := 60 * x3) dX12_asks_168 rfl ?_
        refine j_iadd hx (r := 60 * x3) dX12_asks_169 (by omega) ?_
        have f22 := zaQ (j := (60 * x3).toNat) hS0 (zr (k := 27) (t2 := 84) hG ha rfl) (congrArg some (axS_0 (60 * x3).toNat (by omega))) (zlen hG (zr (k := 27) (t2 := 84) hG ha rfl) (n := 515) rfl rfl) (show 0 ≤ 60 * x3 by omega) (by omega) rfl
        refine j_iald hx hG (zr (k := 27) (t2 := 84) hG ha rfl) (by decide) rfl (zlen hG (zr (k := 27) (t2 := 84) hG ha rfl) (n := 515) rfl rfl) (by omega) (by omega) (j := (60 * x3).toNat) rfl rfl dX12_asks_170 ?_
        have f23 := zaI (j := ((s0 (gP G a 27) (60 * x3).toNat)).toNat) hS0 (zr (k := 19) (t2 := 82) hG ha rfl) rfl (zlen hG (zr (k := 19) (t2 := 82) hG ha rfl) (n := 60) rfl rfl) (show 0 ≤ (s0 (gP G a 27) (60 * x3).toNat) by omega) (by omega) rfl
        refine j_iald hx hG (zr (k := 19) (t2 := 82) hG ha rfl) (by decide) rfl (zlen hG (zr (k := 19) (t2 := 82) hG ha rfl) (n := 60) rfl rfl) (by omega) (by omega) (j := ((s0 (gP G a 27) (60 * x3).toNat)).toNat) rfl rfl dX12_asks_171 ?_
        refine j_callV hx hG (c_X12_wouldBe hst a x3 ((s0 (gP G a 19) ((s0 (gP G a 27) (60 * x3).toNat)).toNat))) lk_RX12_352 ha (by decide) rfl rfl rfl rfl [.int (zI x3), .int (zI ((s0 (gP G a 19) ((s0 (gP G a 27) (60 * x3).toNat)).toNat)))] ⟨rfl, hG, hS0, ha, (by omega), (by omega)⟩ rfl rfl ⟨by decide, by decide⟩ ⟨by decide, by decide⟩ (k2 := 0) (n2 := 0) rfl rfl (Nat.le_of_ble_eq_true rfl) dX12_asks_172 (kIP (fun v24 q25 => ?_))
        refine j_if_eq hx 182 dX12_asks_175 rfl (by omega) (fun h26 => ?_) (fun h26 => ?_)
        · skip
          refine j_iconst hx dX12_asks_182 ?_
          exact j_zret hx hq rfl (by decide) (by decide) dX12_asks_183 (by omega) ⟨0, rfl, rfl, rfl, (by omega)⟩
        · skip
          refine j_iconst hx dX12_asks_178 ?_
          refine j_goto hx 183 dX12_asks_179 rfl ?_
          exact j_zret hx hq rfl (by decide) (by decide) dX12_asks_183 (by omega) ⟨1, rfl, rfl, rfl, (by omega)⟩
  · skip
    refine j_switchIn hx 184 dX12_asks_14 (by omega) (by omega) (by omega) (by rw [h3]; rfl) rfl ?_
    refine j_aload_n hx 1 dX12_asks_184 rfl ?_
    refine g13_27 hx hG ha kf_RX12_56 dX12_asks_185 ?_
    refine j_sipush hx dX12_asks_188 rfl ?_
    refine j_iload_n hx 3 dX12_asks_191 rfl ?_
    refine j_iadd hx (r := x2 + 483) dX12_asks_192 (by omega) ?_
    have f27 := zaQ (j := (x2 + 483).toNat) hS0 (zr (k := 27) (t2 := 84) hG ha rfl) (congrArg some (axS_2 (x2 + 483).toNat (by omega))) (zlen hG (zr (k := 27) (t2 := 84) hG ha rfl) (n := 515) rfl rfl) (show 0 ≤ x2 + 483 by omega) (by omega) rfl
    have c28 := zc_1 (j := (x2 + 483).toNat) hS0 (zr (k := 27) (t2 := 84) hG ha rfl) (zn hG (zr (k := 27) (t2 := 84) hG ha rfl) rfl) (by omega) (by omega)
    refine j_iald hx hG (zr (k := 27) (t2 := 84) hG ha rfl) (by decide) rfl (zlen hG (zr (k := 27) (t2 := 84) hG ha rfl) (n := 515) rfl rfl) (by omega) (by omega) (j := (x2 + 483).toNat) rfl rfl dX12_asks_193 ?_
    refine j_iload hx 0 dX12_asks_194 rfl ?_
    refine j_icmp_ge hx 203 dX12_asks_196 rfl (by omega) (by omega) (fun h29 => ?_) (fun h29 => ?_)
    · skip
      refine j_iconst hx dX12_asks_203 ?_
      exact j_zret hx hq rfl (by decide) (by decide) dX12_asks_204 (by omega) ⟨0, rfl, rfl, rfl, (by omega)⟩
    · skip
      refine j_iconst hx dX12_asks_199 ?_
      refine j_goto hx 204 dX12_asks_200 rfl ?_
      exact j_zret hx hq rfl (by decide) (by decide) dX12_asks_204 (by omega) ⟨1, rfl, rfl, rfl, (by omega)⟩
  · skip
    refine j_switchIn hx 205 dX12_asks_14 (by omega) (by omega) (by omega) (by rw [h3]; rfl) rfl ?_
    refine j_aload_n hx 1 dX12_asks_205 rfl ?_
    refine g13_27 hx hG ha kf_RX12_56 dX12_asks_206 ?_
    refine j_sipush hx dX12_asks_209 rfl ?_
    refine j_iload_n hx 3 dX12_asks_212 rfl ?_
    refine j_iadd hx (r := x2 + 483) dX12_asks_213 (by omega) ?_
    have f30 := zaQ (j := (x2 + 483).toNat) hS0 (zr (k := 27) (t2 := 84) hG ha rfl) (congrArg some (axS_2 (x2 + 483).toNat (by omega))) (zlen hG (zr (k := 27) (t2 := 84) hG ha rfl) (n := 515) rfl rfl) (show 0 ≤ x2 + 483 by omega) (by omega) rfl
    have c31 := zc_1 (j := (x2 + 483).toNat) hS0 (zr (k := 27) (t2 := 84) hG ha rfl) (zn hG (zr (k := 27) (t2 := 84) hG ha rfl) rfl) (by omega) (by omega)
    refine j_iald hx hG (zr (k := 27) (t2 := 84) hG ha rfl) (by decide) rfl (zlen hG (zr (k := 27) (t2 := 84) hG ha rfl) (n := 515) rfl rfl) (by omega) (by omega) (j := (x2 + 483).toNat) rfl rfl dX12_asks_214 ?_
    refine j_iload hx 0 dX12_asks_215 rfl ?_
    refine j_icmp_le hx 224 dX12_asks_217 rfl (by omega) (by omega) (fun h32 => ?_) (fun h32 => ?_)
    · skip
      refine j_iconst hx dX12_asks_224 ?_
      exact j_zret hx hq rfl (by decide) (by decide) dX12_asks_225 (by omega) ⟨0, rfl, rfl, rfl, (by omega)⟩
    · skip
      refine j_iconst hx dX12_asks_220 ?_
      refine j_goto hx 225 dX12_asks_221 rfl ?_
      exact j_zret hx hq rfl (by decide) (by decide) dX12_asks_225 (by omega) ⟨1, rfl, rfl, rfl, (by omega)⟩
  · skip
    refine j_switchIn hx 226 dX12_asks_14 (by omega) (by omega) (by omega) (by rw [h3]; rfl) rfl ?_
    refine j_aload_n hx 1 dX12_asks_226 rfl ?_
    refine g13_27 hx hG ha kf_RX12_56 dX12_asks_227 ?_
    refine j_sipush hx dX12_asks_230 rfl ?_
    refine j_iload_n hx 3 dX12_asks_233 rfl ?_
    refine j_iadd hx (r := x2 + 480) dX12_asks_234 (by omega) ?_
    have f33 := zaQ (j := (x2 + 480).toNat) hS0 (zr (k := 27) (t2 := 84) hG ha rfl) (congrArg some (axS_2 (x2 + 480).toNat (by omega))) (zlen hG (zr (k := 27) (t2 := 84) hG ha rfl) (n := 515) rfl rfl) (show 0 ≤ x2 + 480 by omega) (by omega) rfl
    have c34 := zc_1 (j := (x2 + 480).toNat) hS0 (zr (k := 27) (t2 := 84) hG ha rfl) (zn hG (zr (k := 27) (t2 := 84) hG ha rfl) rfl) (by omega) (by omega)
    refine j_iald hx hG (zr (k := 27) (t2 := 84) hG ha rfl) (by decide) rfl (zlen hG (zr (k := 27) (t2 := 84) hG ha rfl) (n := 515) rfl rfl) (by omega) (by omega) (j := (x2 + 480).toNat) rfl rfl dX12_asks_235 ?_
    refine j_iload hx 0 dX12_asks_236 rfl ?_
    refine j_icmp_ge hx 245 dX12_asks_238 rfl (by omega) (by omega) (fun h35 => ?_) (fun h35 => ?_)
    · skip
      refine j_iconst hx dX12_asks_245 ?_
      exact j_zret hx hq rfl (by decide) (by decide) dX12_asks_246 (by omega) ⟨0, rfl, rfl, rfl, (by omega)⟩
    · skip
      refine j_iconst hx dX12_asks_241 ?_
      refine j_goto hx 246 dX12_asks_242 rfl ?_
      exact j_zret hx hq rfl (by decide) (by decide) dX12_asks_246 (by omega) ⟨1, rfl, rfl, rfl, (by omega)⟩
  · skip
    refine j_switchIn hx 247 dX12_asks_14 (by omega) (by omega) (by omega) (by rw [h3]; rfl) rfl ?_
    refine j_aload_n hx 1 dX12_asks_247 rfl ?_
    refine g13_27 hx hG ha kf_RX12_56 dX12_asks_248 ?_
    refine j_sipush hx dX12_asks_251 rfl ?_
    refine j_iload_n hx 3 dX12_asks_254 rfl ?_
    refine j_iadd hx (r := x2 + 480) dX12_asks_255 (by omega) ?_
    have f36 := zaQ (j := (x2 + 480).toNat) hS0 (zr (k := 27) (t2 := 84) hG ha rfl) (congrArg some (axS_2 (x2 + 480).toNat (by omega))) (zlen hG (zr (k := 27) (t2 := 84) hG ha rfl) (n := 515) rfl rfl) (show 0 ≤ x2 + 480 by omega) (by omega) rfl
    have c37 := zc_1 (j := (x2 + 480).toNat) hS0 (zr (k := 27) (t2 := 84) hG ha rfl) (zn hG (zr (k := 27) (t2 := 84) hG ha rfl) rfl) (by omega) (by omega)
    refine j_iald hx hG (zr (k := 27) (t2 := 84) hG ha rfl) (by decide) rfl (zlen hG (zr (k := 27) (t2 := 84) hG ha rfl) (n := 515) rfl rfl) (by omega) (by omega) (j := (x2 + 480).toNat) rfl rfl dX12_asks_256 ?_
    refine j_iload hx 0 dX12_asks_257 rfl ?_
    refine j_icmp_le hx 266 dX12_asks_259 rfl (by omega) (by omega) (fun h38 => ?_) (fun h38 => ?_)
    · skip
      refine j_iconst hx dX12_asks_266 ?_
      exact j_zret hx hq rfl (by decide) (by decide) dX12_asks_267 (by omega) ⟨0, rfl, rfl, rfl, (by omega)⟩
    · skip
      refine j_iconst hx dX12_asks_262 ?_
      refine j_goto hx 267 dX12_asks_263 rfl ?_
      exact j_zret hx hq rfl (by decide) (by decide) dX12_asks_267 (by omega) ⟨1, rfl, rfl, rfl, (by omega)⟩
  · skip
    refine j_switchIn hx 268 dX12_asks_14 (by omega) (by omega) (by omega) (by rw [h3]; rfl) rfl ?_
    refine j_aload_n hx 1 dX12_asks_268 rfl ?_
    refine g13_27 hx hG ha kf_RX12_56 dX12_asks_269 ?_
    refine j_sipush hx dX12_asks_272 rfl ?_
    have f39 := zaQ (j := 486) hS0 (zr (k := 27) (t2 := 84) hG ha rfl) (congrArg some (axS_2 486 (by omega))) (zlen hG (zr (k := 27) (t2 := 84) hG ha rfl) (n := 515) rfl rfl) (show 0 ≤ 486 by omega) (by omega) rfl
    have c40 := zc_1 (j := 486) hS0 (zr (k := 27) (t2 := 84) hG ha rfl) (zn hG (zr (k := 27) (t2 := 84) hG ha rfl) rfl) (by omega) (by omega)
    refine j_iald hx hG (zr (k := 27) (t2 := 84) hG ha rfl) (by decide) rfl (zlen hG (zr (k := 27) (t2 := 84) hG ha rfl) (n := 515) rfl rfl) (by omega) (by omega) (j := 486) rfl rfl dX12_asks_275 ?_
    refine j_iload hx 0 dX12_asks_276 rfl ?_
    refine j_icmp_le hx 285 dX12_asks_278 rfl (by omega) (by omega) (fun h41 => ?_) (fun h41 => ?_)
    · skip
      refine j_iconst hx dX12_asks_285 ?_
      exact j_zret hx hq rfl (by decide) (by decide) dX12_asks_286 (by omega) ⟨0, rfl, rfl, rfl, (by omega)⟩
    · skip
      refine j_iconst hx dX12_asks_281 ?_
      refine j_goto hx 286 dX12_asks_282 rfl ?_
      exact j_zret hx hq rfl (by decide) (by decide) dX12_asks_286 (by omega) ⟨1, rfl, rfl, rfl, (by omega)⟩
  · skip
    refine j_switchOut hx 287 dX12_asks_14 (by omega) (by omega) rfl ?_
    refine j_aload_n hx 1 dX12_asks_287 rfl ?_
    refine g13_27 hx hG ha kf_RX12_56 dX12_asks_288 ?_
    refine j_sipush hx dX12_asks_291 rfl ?_
    have f42 := zaQ (j := 488) hS0 (zr (k := 27) (t2 := 84) hG ha rfl) (congrArg some (axS_4 488 (by omega))) (zlen hG (zr (k := 27) (t2 := 84) hG ha rfl) (n := 515) rfl rfl) (show 0 ≤ 488 by omega) (by omega) rfl
    refine j_iald hx hG (zr (k := 27) (t2 := 84) hG ha rfl) (by decide) rfl (zlen hG (zr (k := 27) (t2 := 84) hG ha rfl) (n := 515) rfl rfl) (by omega) (by omega) (j := 488) rfl rfl dX12_asks_294 ?_
    refine j_iload hx 0 dX12_asks_295 rfl ?_
    refine j_irem hx dX12_asks_297 (by omega) (by omega) (by omega) (fun v43 f44 f45 f46 f47 => ?_)
    refine j_aload_n hx 1 dX12_asks_298 rfl ?_
    refine g13_36 hx hG ha kf_RX12_83 dX12_asks_299 ?_
    refine j_iload_n hx 2 dX12_asks_302 rfl ?_
    have f49 := zaI (j := (x1).toNat) hS0 (zr (k := 36) (t2 := 93) hG ha rfl) rfl (zlen hG (zr (k := 36) (t2 := 93) hG ha rfl) (n := 900) rfl rfl) (show 0 ≤ x1 by omega) (by omega) rfl
    refine j_iald hx hG (zr (k := 36) (t2 := 93) hG ha rfl) (by decide) rfl (zlen hG (zr (k := 36) (t2 := 93) hG ha rfl) (n := 900) rfl rfl) (by omega) (by omega) (j := (x1).toNat) rfl rfl dX12_asks_303 ?_
    refine j_icmp_ne hx 311 dX12_asks_304 rfl (by omega) (by omega) (fun h50 => ?_) (fun h50 => ?_)
    · skip
      refine j_iconst hx dX12_asks_311 ?_
      exact j_zret hx hq rfl (by decide) (by decide) dX12_asks_312 (by omega) ⟨0, rfl, rfl, rfl, (by omega)⟩
    · skip
      refine j_iconst hx dX12_asks_307 ?_
      refine j_goto hx 312 dX12_asks_308 rfl ?_
      exact j_zret hx hq rfl (by decide) (by decide) dX12_asks_312 (by omega) ⟨1, rfl, rfl, rfl, (by omega)⟩

theorem lk_RX12_355 : LkV RX12 355 RX12 yX12_asks cX12_asks 5 (some .boolean) 3 := ⟨km_RX12_355, ki_yX12_asks, ks_RX12_yX12_asks, kn_RX12, kc_yX12_asks, rfl, by decide +kernel, by decide +kernel, by decide +kernel⟩
set_option maxHeartbeats 1200000 in
set_option maxRecDepth 20000 in
theorem c_X12_holds {E : zE} {l : Launch} (hst : l.stackTraces = false) (a : Nat) (x1 : Int) (x2 : Int) (x3 : Int) : Con E l yX12_holds cX12_holds 6 (some .boolean) { frames := 3, cells := 0, slots := 0, locals := 71 } (fun G s vs => vs = [.ref a, .int (zI x1), .int (zI x2), .int (zI x3)] ∧ zGK G ∧ zSK G s ∧ (gT G a = 13) ∧ (0 ≤ x1 ∧ x1 ≤ 5) ∧ (0 ≤ x2 ∧ x2 ≤ 2) ∧ ((-1) ≤ x3 ∧ x3 ≤ 2) ∧ (zRva (s (gP G a 34)) (s (gP G a 35)) (s (gP G a 37)))) (fun G s _ => pI (fun r G2 s2 => G2 = G ∧ zSK G s2 ∧ zFr [95] G s s2 ∧ (0 ≤ r ∧ r ≤ 1))) := by
  refine Con.mk hst (by decide) (fun G s vs h => by rw [h.1]; exact Nat.le_of_ble_eq_true rfl) ?_
  rintro X G s0 vs ⟨rfl, hG, hS0, ha, hx1, hx2, hx3, e0⟩ rfl hx hq
  show JJ X E 6 G s0 0 0 [(0, .ref a), (1, .int (zI x1)), (2, .int (zI x2)), (3, .int (zI x3))] 0 []
  have hRV := e0 x1 (by omega) (by omega)
  refine j_aload_n hx 0 dX12_holds_0 rfl ?_
  refine g13_37 hx hG ha kf_RX12_86 dX12_holds_1 ?_
  refine j_iload_n hx 1 dX12_holds_4 rfl ?_
  have f2 := zaI (j := (x1).toNat) hS0 (zr (k := 37) (t2 := 94) hG ha rfl) rfl (zlen hG (zr (k := 37) (t2 := 94) hG ha rfl) (n := 6) rfl rfl) (show 0 ≤ x1 by omega) (by omega) rfl
  refine j_iald hx hG (zr (k := 37) (t2 := 94) hG ha rfl) (by decide) rfl (zlen hG (zr (k := 37) (t2 := 94) hG ha rfl) (n := 6) rfl rfl) (by omega) (by omega) (j := (x1).toNat) rfl rfl dX12_holds_5 ?_
  refine j_if_ne hx 11 dX12_holds_6 rfl (by omega) (fun h3 => ?_) (fun h3 => ?_)
  · skip
    refine j_iconst hx dX12_holds_11 ?_
    refine j_istore hx [(4, .int (zI 0)), (0, .ref a), (1, .int (zI x1)), (2, .int (zI x2)), (3, .int (zI x3))] dX12_holds_12 (by decide) rfl ?_
    refine j_sipush hx dX12_holds_14 rfl ?_
    refine j_iload_n hx 2 dX12_holds_17 rfl ?_
    refine j_imul hx (r := 150 * x1) dX12_holds_18 rfl ?_
    have z4 : zRp ((s0 (gP G a 34))) (150 * x1) (150 * x1 - 150 * x1).toNat = 0 := by rw [show (150 * x1 - 150 * x1).toNat = 0 by omega]; rfl
    refine j_istore hx [(5, .int (zI (150 * x1))), (4, .int (zI 0)), (0, .ref a), (1, .int (zI x1)), (2, .int (zI x2)), (3, .int (zI x3))] dX12_holds_19 (by decide) rfl ?_
    have c21_1 : ∀ (m_c21_1 : Nat) (v5 : Int) (v6 : Int) (s2 : zS), 2147483648 - v6 < m_c21_1 → (0 ≤ v5 ∧ v5 ≤ 150) → (0 ≤ v6 ∧ v6 ≤ 900) → (zSK G s2) → (zFr [95] G s0 s2) → (v5 = zRp ((s0 (gP G a 34))) (150 * x1) (v6 - 150 * x1).toNat) → (150 * x1 ≤ v6 ∧ v6 ≤ 150 * x1 + (s0 (gP G a 37)) (x1).toNat) → JJ X E 6 G s2 0 0 [(0, .ref a), (1, .int (zI x1)), (2, .int (zI x2)), (3, .int (zI x3)), (4, .int (zI v5)), (5, .int (zI v6))] 21 [] := by
      intro m_c21_1
      induction m_c21_1 with
      | zero => intro v5 v6 s2 hm_c21_1 fA3 fA4 hS_s2 hF_s2 fA7 fA8; exfalso; omega
      | succ m_c21_1 ih_c21_1 => 
        intro v5 v6 s2 hm_c21_1 fA3 fA4 hS_s2 hF_s2 fA7 fA8
        refine j_iload hx 5 dX12_holds_21 rfl ?_
        refine j_sipush hx dX12_holds_23 rfl ?_
        refine j_iload_n hx 1 dX12_holds_26 rfl ?_
        refine j_imul hx (r := 150 * x1) dX12_holds_27 rfl ?_
        refine j_aload_n hx 0 dX12_holds_28 rfl ?_
        refine g13_37 hx hG ha kf_RX12_86 dX12_holds_29 ?_
        refine j_iload_n hx 1 dX12_holds_32 rfl ?_
        refine j_iald hx hG (zr (k := 37) (t2 := 94) hG ha rfl) (by decide) rfl (zlen hG (zr (k := 37) (t2 := 94) hG ha rfl) (n := 6) rfl rfl) (by omega) (by omega) (j := (x1).toNat) rfl (v := (s0 (gP G a 37) (x1).toNat)) (by rw [(zFr_g hF_s2 (zr (k := 37) (t2 := 94) hG ha rfl) (by decide))]) dX12_holds_33 ?_
        refine j_iadd hx (r := 150 * x1 + (s0 (gP G a 37) (x1).toNat)) dX12_holds_34 (by omega) ?_
        refine j_icmp_ge hx 199 dX12_holds_35 rfl (by omega) (by omega) (fun h7 => ?_) (fun h7 => ?_)
        · skip
          refine j_aload_n hx 0 dX12_holds_199 rfl ?_
          refine g13_42 hx hG ha kf_RX12_95 dX12_holds_200 ?_
          refine j_iconst hx dX12_holds_203 ?_
          have f8 := zaI (j := 0) hS_s2 (zr (k := 42) (t2 := 95) hG ha rfl) rfl (zlen hG (zr (k := 42) (t2 := 95) hG ha rfl) (n := 150) rfl rfl) (show 0 ≤ 0 by omega) (by omega) rfl
          refine j_zald hx hG (zr (k := 42) (t2 := 95) hG ha rfl) (by decide) rfl (zlen hG (zr (k := 42) (t2 := 95) hG ha rfl) (n := 150) rfl rfl) (by omega) (by omega) (j := 0) rfl rfl dX12_holds_204 ?_
          exact j_zret hx hq rfl (by decide) (by decide) dX12_holds_205 (by omega) ⟨(s2 (gP G a 42) 0), rfl, rfl, hS_s2, (zFr_t zFr_rf hF_s2 (by decide)), (by omega)⟩
        · skip
          have z9 := zRv_at hRV (q := v6) (by omega) (by omega)
          refine j_aload_n hx 0 dX12_holds_38 rfl ?_
          refine g13_34 hx hG ha kf_RX12_77 dX12_holds_39 ?_
          refine j_iload hx 5 dX12_holds_42 rfl ?_
          have f10 := zaI (j := (v6).toNat) hS0 (zr (k := 34) (t2 := 91) hG ha rfl) rfl (zlen hG (zr (k := 34) (t2 := 91) hG ha rfl) (n := 900) rfl rfl) (show 0 ≤ v6 by omega) (by omega) rfl
          refine j_iald hx hG (zr (k := 34) (t2 := 91) hG ha rfl) (by decide) rfl (zlen hG (zr (k := 34) (t2 := 91) hG ha rfl) (n := 900) rfl rfl) (by omega) (by omega) (j := (v6).toNat) rfl (v := (s0 (gP G a 34) (v6).toNat)) (by rw [(zFr_g hF_s2 (zr (k := 34) (t2 := 91) hG ha rfl) (by decide))]) dX12_holds_44 ?_
          refine j_bipush hx dX12_holds_45 rfl ?_
          have c193_9 : ∀ (v11 : Int) (s10 : zS), (0 ≤ v11 ∧ v11 ≤ 150) → (zSK G s10) → (zFr [95] G s2 s10) → (v11 = zRp ((s0 (gP G a 34))) (150 * x1) (v6 + 1 - 150 * x1).toNat) → JJ X E 6 G s10 0 0 [(0, .ref a), (1, .int (zI x1)), (2, .int (zI x2)), (3, .int (zI x3)), (4, .int (zI v11)), (5, .int (zI v6))] 193 [] := by
            intro v11 s10 fA11 hS_s10 hF_s10 fA14
            refine j_iinc hx 5 [(5, .int (zI (v6 + 1))), (0, .ref a), (1, .int (zI x1)), (2, .int (zI x2)), (3, .int (zI x3)), (4, .int (zI v11))] dX12_holds_193 rfl (by omega) (by decide) rfl ?_
            refine j_goto hx 21 dX12_holds_196 rfl ?_
            exact j_sub [1, 2, 3, 4, 5, 0] [(0, .ref a), (1, .int (zI x1)), (2, .int (zI x2)), (3, .int (zI x3)), (4, .int (zI v11)), (5, .int (zI (v6 + 1)))] rfl (ih_c21_1 v11 (v6 + 1) s10 (by omega) (by omega) (by omega) hS_s10 (zFr_t (zFr_t zFr_rf hF_s2 (by decide)) hF_s10 (by decide)) (by omega) (by omega))
          refine j_icmp_ne hx 79 dX12_holds_47 rfl (by omega) ⟨by decide, by decide⟩ (fun h12 => ?_) (fun h12 => ?_)
          · skip
            refine j_aload_n hx 0 dX12_holds_79 rfl ?_
            refine g13_34 hx hG ha kf_RX12_77 dX12_holds_80 ?_
            refine j_iload hx 5 dX12_holds_83 rfl ?_
            refine j_iald hx hG (zr (k := 34) (t2 := 91) hG ha rfl) (by decide) rfl (zlen hG (zr (k := 34) (t2 := 91) hG ha rfl) (n := 900) rfl rfl) (by omega) (by omega) (j := (v6).toNat) rfl (v := (s0 (gP G a 34) (v6).toNat)) (by rw [(zFr_g hF_s2 (zr (k := 34) (t2 := 91) hG ha rfl) (by decide))]) dX12_holds_85 ?_
            refine j_bipush hx dX12_holds_86 rfl ?_
            refine j_icmp_le hx 175 dX12_holds_88 rfl (by omega) ⟨by decide, by decide⟩ (fun h13 => ?_) (fun h13 => ?_)
            · skip
              refine j_aload_n hx 0 dX12_holds_175 rfl ?_
              refine g13_42 hx hG ha kf_RX12_95 dX12_holds_176 ?_
              refine j_iload hx 4 dX12_holds_179 rfl ?_
              refine j_aload_n hx 0 dX12_holds_181 rfl ?_
              refine j_iload hx 5 dX12_holds_182 rfl ?_
              refine j_iload_n hx 2 dX12_holds_184 rfl ?_
              refine j_iload_n hx 3 dX12_holds_185 rfl ?_
              have g14 : s2 (gP G a 34) (v6).toNat = s0 (gP G a 34) (v6).toNat := (by rw [(zFr_g hF_s2 (zr (k := 34) (t2 := 91) hG ha rfl) (by decide))])
              have g15 : s2 (gP G a 35) (v6).toNat = s0 (gP G a 35) (v6).toNat := (by rw [(zFr_g hF_s2 (zr (k := 35) (t2 := 92) hG ha rfl) (by decide))])
              refine j_callV hx hG (c_X12_asks hst a v6 x2 x3) lk_RX12_355 ha (by decide) rfl rfl rfl rfl [.int (zI v6), .int (zI x2), .int (zI x3)] ⟨rfl, hG, hS_s2, ha, (by omega), (by omega), (by omega), (by omega), (by omega)⟩ rfl rfl ⟨by decide, by decide⟩ ⟨by decide, by decide⟩ (k2 := 0) (n2 := 0) rfl rfl (Nat.le_of_ble_eq_true rfl) dX12_holds_186 (kIP (fun v16 q17 => ?_))
              refine j_zast hx hG (zr (k := 42) (t2 := 95) hG ha rfl) (by decide) rfl (zlen hG (zr (k := 42) (t2 := 95) hG ha rfl) (n := 150) rfl rfl) (by omega) (by omega) (j := (v5).toNat) rfl (znar_z (by omega)) dX12_holds_189 ?_
              obtain ⟨s15, e_s15⟩ : ∃ z, z = zU s2 (gP G a 42) (v5).toNat v16 := ⟨_, rfl⟩
              rw [← e_s15]
              have hS_s15 : zSK G s15 := by rw [e_s15]; exact zSK_A hS_s2 (zr (k := 42) (t2 := 95) hG ha rfl) rfl rfl rfl (by omega)
              refine j_iinc hx 4 [(4, .int (zI (v5 + 1))), (0, .ref a), (1, .int (zI x1)), (2, .int (zI x2)), (3, .int (zI x3)), (5, .int (zI v6))] dX12_holds_190 rfl (by omega) (by decide) rfl ?_
              exact j_sub [1, 2, 3, 4, 0, 5] [(0, .ref a), (1, .int (zI x1)), (2, .int (zI x2)), (3, .int (zI x3)), (4, .int (zI (v5 + 1))), (5, .int (zI v6))] rfl (c193_9 (v5 + 1) s15 (by omega) hS_s15 (zFr_u zFr_rf e_s15 (zr (k := 42) (t2 := 95) hG ha rfl) (by decide)) (by omega))
            · skip
              refine j_iinc hx 4 [(4, .int (zI (v5 - 1))), (0, .ref a), (1, .int (zI x1)), (2, .int (zI x2)), (3, .int (zI x3)), (5, .int (zI v6))] dX12_holds_91 rfl (by omega) (by decide) rfl ?_
              refine j_aload_n hx 1 dX12_holds_94 rfl ?_
              refine g13_42 hx hG ha kf_RX12_95 dX12_holds_95 ?_
              refine j_iload hx 0 dX12_holds_98 rfl ?_
              refine j_iconst hx dX12_holds_100 ?_
              refine j_isub hx (r := v5 - 2) dX12_holds_101 (by omega) ?_
              refine j_aload_n hx 1 dX12_holds_102 rfl ?_
              refine g13_34 hx hG ha kf_RX12_77 dX12_holds_103 ?_
              refine j_iload hx 5 dX12_holds_106 rfl ?_
              refine j_iald hx hG (zr (k := 34) (t2 := 91) hG ha rfl) (by decide) rfl (zlen hG (zr (k := 34) (t2 := 91) hG ha rfl) (n := 900) rfl rfl) (by omega) (by omega) (j := (v6).toNat) rfl (v := (s0 (gP G a 34) (v6).toNat)) (by rw [(zFr_g hF_s2 (zr (k := 34) (t2 := 91) hG ha rfl) (by decide))]) dX12_holds_108 ?_
              refine j_bipush hx dX12_holds_109 rfl ?_
              have c171_16 : ∀ (v18 : Int), (0 ≤ v18 ∧ v18 ≤ 1) → JJ X E 6 G s2 0 0 [(0, .ref a), (1, .int (zI x1)), (2, .int (zI x2)), (3, .int (zI x3)), (4, .int (zI (v5 - 1))), (5, .int (zI v6))] 171 [.int (zI v18), .int (zI (v5 - 2)), .ref (gP G a 42)] := by
                intro v18 fA17
                refine j_zast hx hG (zr (k := 42) (t2 := 95) hG ha rfl) (by decide) rfl (zlen hG (zr (k := 42) (t2 := 95) hG ha rfl) (n := 150) rfl rfl) (by omega) (by omega) (j := (v5 - 2).toNat) rfl (znar_z (by omega)) dX12_holds_171 ?_
                obtain ⟨s18, e_s18⟩ : ∃ z, z = zU s2 (gP G a 42) (v5 - 2).toNat v18 := ⟨_, rfl⟩
                rw [← e_s18]
                have hS_s18 : zSK G s18 := by rw [e_s18]; exact zSK_A hS_s2 (zr (k := 42) (t2 := 95) hG ha rfl) rfl rfl rfl (by omega)
                refine j_goto hx 193 dX12_holds_172 rfl ?_
                exact j_sub [0, 1, 2, 3, 4, 5] [(0, .ref a), (1, .int (zI x1)), (2, .int (zI x2)), (3, .int (zI x3)), (4, .int (zI (v5 - 1))), (5, .int (zI v6))] rfl (c193_9 (v5 - 1) s18 (by omega) hS_s18 (zFr_u zFr_rf e_s18 (zr (k := 42) (t2 := 95) hG ha rfl) (by decide)) (by omega))
              refine j_icmp_ne hx 144 dX12_holds_111 rfl (by omega) ⟨by decide, by decide⟩ (fun h19 => ?_) (fun h19 => ?_)
              · skip
                refine j_aload_n hx 1 dX12_holds_144 rfl ?_
                refine g13_42 hx hG ha kf_RX12_95 dX12_holds_145 ?_
                refine j_iload hx 0 dX12_holds_148 rfl ?_
                refine j_iconst hx dX12_holds_150 ?_
                refine j_isub hx (r := v5 - 2) dX12_holds_151 (by omega) ?_
                have f20 := zaI (j := (v5 - 2).toNat) hS_s2 (zr (k := 42) (t2 := 95) hG ha rfl) rfl (zlen hG (zr (k := 42) (t2 := 95) hG ha rfl) (n := 150) rfl rfl) (show 0 ≤ v5 - 2 by omega) (by omega) rfl
                refine j_zald hx hG (zr (k := 42) (t2 := 95) hG ha rfl) (by decide) rfl (zlen hG (zr (k := 42) (t2 := 95) hG ha rfl) (n := 150) rfl rfl) (by omega) (by omega) (j := (v5 - 2).toNat) rfl rfl dX12_holds_152 ?_
                have c166_19 : JJ X E 6 G s2 0 0 [(0, .ref a), (1, .int (zI x1)), (2, .int (zI x2)), (3, .int (zI x3)), (4, .int (zI (v5 - 1))), (5, .int (zI v6))] 166 [.int (zI (v5 - 2)), .ref (gP G a 42)] := by
                  refine j_iconst hx dX12_holds_166 ?_
                  refine j_goto hx 171 dX12_holds_167 rfl ?_
                  exact j_sub [0, 1, 2, 3, 4, 5] [(0, .ref a), (1, .int (zI x1)), (2, .int (zI x2)), (3, .int (zI x3)), (4, .int (zI (v5 - 1))), (5, .int (zI v6))] rfl (c171_16 1 (by omega))
                refine j_if_ne hx 166 dX12_holds_153 rfl (by omega) (fun h21 => ?_) (fun h21 => ?_)
                · skip
                  exact j_sub [1, 2, 3, 4, 0, 5] [(0, .ref a), (1, .int (zI x1)), (2, .int (zI x2)), (3, .int (zI x3)), (4, .int (zI (v5 - 1))), (5, .int (zI v6))] rfl (c166_19  )
                · skip
                  refine j_aload_n hx 1 dX12_holds_156 rfl ?_
                  refine g13_42 hx hG ha kf_RX12_95 dX12_holds_157 ?_
                  refine j_iload hx 0 dX12_holds_160 rfl ?_
                  have f22 := zaI (j := (v5 - 1).toNat) hS_s2 (zr (k := 42) (t2 := 95) hG ha rfl) rfl (zlen hG (zr (k := 42) (t2 := 95) hG ha rfl) (n := 150) rfl rfl) (show 0 ≤ v5 - 1 by omega) (by omega) rfl
                  refine j_zald hx hG (zr (k := 42) (t2 := 95) hG ha rfl) (by decide) rfl (zlen hG (zr (k := 42) (t2 := 95) hG ha rfl) (n := 150) rfl rfl) (by omega) (by omega) (j := (v5 - 1).toNat) rfl rfl dX12_holds_162 ?_
                  refine j_if_eq hx 170 dX12_holds_163 rfl (by omega) (fun h23 => ?_) (fun h23 => ?_)
                  · skip
                    refine j_iconst hx dX12_holds_170 ?_
                    exact j_sub [1, 2, 3, 4, 0, 5] [(0, .ref a), (1, .int (zI x1)), (2, .int (zI x2)), (3, .int (zI x3)), (4, .int (zI (v5 - 1))), (5, .int (zI v6))] rfl (c171_16 0 (by omega))
                  · skip
                    exact j_sub [1, 2, 3, 4, 0, 5] [(0, .ref a), (1, .int (zI x1)), (2, .int (zI x2)), (3, .int (zI x3)), (4, .int (zI (v5 - 1))), (5, .int (zI v6))] rfl (c166_19  )
              · skip
                refine j_aload_n hx 1 dX12_holds_114 rfl ?_
                refine g13_42 hx hG ha kf_RX12_95 dX12_holds_115 ?_
                refine j_iload hx 0 dX12_holds_118 rfl ?_
                refine j_iconst hx dX12_holds_120 ?_
                refine j_isub hx (r := v5 - 2) dX12_holds_121 (by omega) ?_
                have f24 := zaI (j := (v5 - 2).toNat) hS_s2 (zr (k := 42) (t2 := 95) hG ha rfl) rfl (zlen hG (zr (k := 42) (t2 := 95) hG ha rfl) (n := 150) rfl rfl) (show 0 ≤ v5 - 2 by omega) (by omega) rfl
                refine j_zald hx hG (zr (k := 42) (t2 := 95) hG ha rfl) (by decide) rfl (zlen hG (zr (k := 42) (t2 := 95) hG ha rfl) (n := 150) rfl rfl) (by omega) (by omega) (j := (v5 - 2).toNat) rfl rfl dX12_holds_122 ?_
                have c140_20 : JJ X E 6 G s2 0 0 [(0, .ref a), (1, .int (zI x1)), (2, .int (zI x2)), (3, .int (zI x3)), (4, .int (zI (v5 - 1))), (5, .int (zI v6))] 140 [.int (zI (v5 - 2)), .ref (gP G a 42)] := by
                  refine j_iconst hx dX12_holds_140 ?_
                  refine j_goto hx 171 dX12_holds_141 rfl ?_
                  exact j_sub [0, 1, 2, 3, 4, 5] [(0, .ref a), (1, .int (zI x1)), (2, .int (zI x2)), (3, .int (zI x3)), (4, .int (zI (v5 - 1))), (5, .int (zI v6))] rfl (c171_16 0 (by omega))
                refine j_if_eq hx 140 dX12_holds_123 rfl (by omega) (fun h25 => ?_) (fun h25 => ?_)
                · skip
                  exact j_sub [1, 2, 3, 4, 0, 5] [(0, .ref a), (1, .int (zI x1)), (2, .int (zI x2)), (3, .int (zI x3)), (4, .int (zI (v5 - 1))), (5, .int (zI v6))] rfl (c140_20  )
                · skip
                  refine j_aload_n hx 1 dX12_holds_126 rfl ?_
                  refine g13_42 hx hG ha kf_RX12_95 dX12_holds_127 ?_
                  refine j_iload hx 0 dX12_holds_130 rfl ?_
                  have f26 := zaI (j := (v5 - 1).toNat) hS_s2 (zr (k := 42) (t2 := 95) hG ha rfl) rfl (zlen hG (zr (k := 42) (t2 := 95) hG ha rfl) (n := 150) rfl rfl) (show 0 ≤ v5 - 1 by omega) (by omega) rfl
                  refine j_zald hx hG (zr (k := 42) (t2 := 95) hG ha rfl) (by decide) rfl (zlen hG (zr (k := 42) (t2 := 95) hG ha rfl) (n := 150) rfl rfl) (by omega) (by omega) (j := (v5 - 1).toNat) rfl rfl dX12_holds_132 ?_
                  refine j_if_eq hx 140 dX12_holds_133 rfl (by omega) (fun h27 => ?_) (fun h27 => ?_)
                  · skip
                    exact j_sub [1, 2, 3, 4, 0, 5] [(0, .ref a), (1, .int (zI x1)), (2, .int (zI x2)), (3, .int (zI x3)), (4, .int (zI (v5 - 1))), (5, .int (zI v6))] rfl (c140_20  )
                  · skip
                    refine j_iconst hx dX12_holds_136 ?_
                    refine j_goto hx 171 dX12_holds_137 rfl ?_
                    exact j_sub [1, 2, 3, 4, 0, 5] [(0, .ref a), (1, .int (zI x1)), (2, .int (zI x2)), (3, .int (zI x3)), (4, .int (zI (v5 - 1))), (5, .int (zI v6))] rfl (c171_16 1 (by omega))
          · skip
            refine j_aload_n hx 0 dX12_holds_50 rfl ?_
            refine g13_42 hx hG ha kf_RX12_95 dX12_holds_51 ?_
            refine j_iload hx 4 dX12_holds_54 rfl ?_
            refine j_iconst hx dX12_holds_56 ?_
            refine j_isub hx (r := v5 - 1) dX12_holds_57 rfl ?_
            refine j_aload_n hx 0 dX12_holds_58 rfl ?_
            refine g13_42 hx hG ha kf_RX12_95 dX12_holds_59 ?_
            refine j_iload hx 4 dX12_holds_62 rfl ?_
            refine j_iconst hx dX12_holds_64 ?_
            refine j_isub hx (r := v5 - 1) dX12_holds_65 rfl ?_
            have f28 := zaI (j := (v5 - 1).toNat) hS_s2 (zr (k := 42) (t2 := 95) hG ha rfl) rfl (zlen hG (zr (k := 42) (t2 := 95) hG ha rfl) (n := 150) rfl rfl) (show 0 ≤ v5 - 1 by omega) (by omega) rfl
            refine j_zald hx hG (zr (k := 42) (t2 := 95) hG ha rfl) (by decide) rfl (zlen hG (zr (k := 42) (t2 := 95) hG ha rfl) (n := 150) rfl rfl) (by omega) (by omega) (j := (v5 - 1).toNat) rfl rfl dX12_holds_66 ?_
            have c75_21 : ∀ (v29 : Int), (0 ≤ v29 ∧ v29 ≤ 1) → JJ X E 6 G s2 0 0 [(0, .ref a), (1, .int (zI x1)), (2, .int (zI x2)), (3, .int (zI x3)), (4, .int (zI v5)), (5, .int (zI v6))] 75 [.int (zI v29), .int (zI (v5 - 1)), .ref (gP G a 42)] := by
              intro v29 fA22
              refine j_zast hx hG (zr (k := 42) (t2 := 95) hG ha rfl) (by decide) rfl (zlen hG (zr (k := 42) (t2 := 95) hG ha rfl) (n := 150) rfl rfl) (by omega) (by omega) (j := (v5 - 1).toNat) rfl (znar_z (by omega)) dX12_holds_75 ?_
              obtain ⟨s23, e_s23⟩ : ∃ z, z = zU s2 (gP G a 42) (v5 - 1).toNat v29 := ⟨_, rfl⟩
              rw [← e_s23]
              have hS_s23 : zSK G s23 := by rw [e_s23]; exact zSK_A hS_s2 (zr (k := 42) (t2 := 95) hG ha rfl) rfl rfl rfl (by omega)
              refine j_goto hx 193 dX12_holds_76 rfl ?_
              exact j_sub [0, 1, 2, 3, 4, 5] [(0, .ref a), (1, .int (zI x1)), (2, .int (zI x2)), (3, .int (zI x3)), (4, .int (zI v5)), (5, .int (zI v6))] rfl (c193_9 v5 s23 (by omega) hS_s23 (zFr_u zFr_rf e_s23 (zr (k := 42) (t2 := 95) hG ha rfl) (by decide)) (by omega))
            refine j_if_ne hx 74 dX12_holds_67 rfl (by omega) (fun h30 => ?_) (fun h30 => ?_)
            · skip
              refine j_iconst hx dX12_holds_74 ?_
              exact j_sub [0, 1, 2, 3, 4, 5] [(0, .ref a), (1, .int (zI x1)), (2, .int (zI x2)), (3, .int (zI x3)), (4, .int (zI v5)), (5, .int (zI v6))] rfl (c75_21 0 (by omega))
            · skip
              refine j_iconst hx dX12_holds_70 ?_
              refine j_goto hx 75 dX12_holds_71 rfl ?_
              exact j_sub [0, 1, 2, 3, 4, 5] [(0, .ref a), (1, .int (zI x1)), (2, .int (zI x2)), (3, .int (zI x3)), (4, .int (zI v5)), (5, .int (zI v6))] rfl (c75_21 1 (by omega))
    exact j_sub [2, 3, 4, 5, 1, 0] [(0, .ref a), (1, .int (zI x1)), (2, .int (zI x2)), (3, .int (zI x3)), (4, .int (zI 0)), (5, .int (zI (150 * x1)))] rfl (c21_1 (2147483648 * 4) 0 (150 * x1) s0 (by omega) (by omega) (by omega) hS0 zFr_rf (by omega) (by omega))
  · skip
    refine j_iconst hx dX12_holds_9 ?_
    exact j_zret hx hq rfl (by decide) (by decide) dX12_holds_10 (by omega) ⟨0, rfl, rfl, hS0, zFr_rf, (by omega)⟩

theorem lk_RX12_358 : LkV RX12 358 RX12 yX12_holds cX12_holds 6 (some .boolean) 3 := ⟨km_RX12_358, ki_yX12_holds, ks_RX12_yX12_holds, kn_RX12, kc_yX12_holds, rfl, by decide +kernel, by decide +kernel, by decide +kernel⟩
set_option maxHeartbeats 1200000 in
set_option maxRecDepth 20000 in
theorem c_X12_would {E : zE} {l : Launch} (hst : l.stackTraces = false) (a : Nat) (x1 : Int) (x2 : Int) : Con E l yX12_would cX12_would 3 (some .boolean) { frames := 4, cells := 0, slots := 0, locals := 96 } (fun G s vs => vs = [.ref a, .int (zI x1), .int (zI x2)] ∧ zGK G ∧ zSK G s ∧ (gT G a = 13) ∧ ((-2147483648) ≤ x1 ∧ x1 ≤ 2147483647) ∧ ((-2147483648) ≤ x2 ∧ x2 ≤ 2147483647) ∧ (zRva (s (gP G a 34)) (s (gP G a 35)) (s (gP G a 37)))) (fun G s _ => pI (fun r G2 s2 => G2 = G ∧ zSK G s2 ∧ zFr [13, 71, 95] G s s2 ∧ (0 ≤ r ∧ r ≤ 1) ∧ s2 a 3 = s a 3 ∧ s2 a 4 = s a 4 ∧ s2 a 5 = s a 5 ∧ s2 a 7 = s a 7 ∧ s2 a 21 = s a 21 ∧ s2 a 22 = s a 22 ∧ s2 a 23 = s a 23 ∧ s2 a 24 = s a 24 ∧ s2 a 38 = s a 38 ∧ s2 a 51 = s a 51 ∧ s2 a 52 = s a 52)) := by
  refine Con.mk hst (by decide) (fun G s vs h => by rw [h.1]; exact Nat.le_of_ble_eq_true rfl) ?_
  rintro X G s0 vs ⟨rfl, hG, hS0, ha, hx1, hx2, e0⟩ rfl hx hq
  show JJ X E 3 G s0 0 0 [(0, .ref a), (1, .int (zI x1)), (2, .int (zI x2))] 0 []
  refine j_aload_n hx 0 dX12_would_0 rfl ?_
  refine j_iconst hx dX12_would_1 ?_
  refine p13_0 hx hG ha kf_RX12_3 dX12_would_2 ?_
  obtain ⟨s1, e_s1⟩ : ∃ z, z = zU s0 a 0 0 := ⟨_, rfl⟩
  rw [← e_s1]
  have hS_s1 : zSK G s1 := by rw [e_s1]; exact zSK_F hS0 ha rfl rfl rfl (by omega)
  refine j_aload_n hx 0 dX12_would_5 rfl ?_
  refine j_iload_n hx 1 dX12_would_6 rfl ?_
  refine j_iconst hx dX12_would_7 ?_
  have g1 : s1 a 0 = 0 := (by rw [e_s1, zU_eq])
  have g2 : s1 a 24 = s0 a 24 := (by rw [e_s1, zU_at (Or.inr (by decide))])
  have f3 := zf hS0 ha (k := 24) rfl
  have g4 : s1 a 3 = s0 a 3 := (by rw [e_s1, zU_at (Or.inr (by decide))])
  have f5 := zf hS0 ha (k := 3) rfl
  have g6 : s1 a 4 = s0 a 4 := (by rw [e_s1, zU_at (Or.inr (by decide))])
  have f7 := zf hS0 ha (k := 4) rfl
  have g8 : s1 a 5 = s0 a 5 := (by rw [e_s1, zU_at (Or.inr (by decide))])
  have f9 := zf hS0 ha (k := 5) rfl
  have g10 : s1 a 7 = s0 a 7 := (by rw [e_s1, zU_at (Or.inr (by decide))])
  have f11 := zf hS0 ha (k := 7) rfl
  have g12 : s1 a 21 = s0 a 21 := (by rw [e_s1, zU_at (Or.inr (by decide))])
  have f13 := zf hS0 ha (k := 21) rfl
  have g14 : s1 a 22 = s0 a 22 := (by rw [e_s1, zU_at (Or.inr (by decide))])
  have f15 := zf hS0 ha (k := 22) rfl
  have g16 : s1 a 23 = s0 a 23 := (by rw [e_s1, zU_at (Or.inr (by decide))])
  have f17 := zf hS0 ha (k := 23) rfl
  have g18 : s1 a 38 = s0 a 38 := (by rw [e_s1, zU_at (Or.inr (by decide))])
  have f19 := zf hS0 ha (k := 38) rfl
  have g20 : s1 a 51 = s0 a 51 := (by rw [e_s1, zU_at (Or.inr (by decide))])
  have f21 := zf hS0 ha (k := 51) rfl
  have g22 : s1 a 52 = s0 a 52 := (by rw [e_s1, zU_at (Or.inr (by decide))])
  have f23 := zf hS0 ha (k := 52) rfl
  refine j_callV hx hG (c_X12_isPlayer hst a x1 1) lk_RX12_339 ha (by decide) rfl rfl rfl rfl [.int (zI x1), .int (zI 1)] ⟨rfl, hG, hS_s1, ha, (by omega), (by omega), (((by rw [e_s1, zU_eq]) : s1 a 0 = 0).trans (by omega))⟩ rfl rfl ⟨by decide, by decide⟩ ⟨by decide, by decide⟩ (k2 := 0) (n2 := 0) rfl rfl (Nat.le_of_ble_eq_true rfl) dX12_would_8 (kIM (fun v24 s2 hS_s2 hF_s2 q25 => ?_))
  refine j_if_eq hx 29 dX12_would_11 rfl (by omega) (fun h26 => ?_) (fun h26 => ?_)
  · skip
    refine j_iconst hx dX12_would_29 ?_
    have f27 := zf hS_s2 ha (k := 3) rfl
    have f28 := zf hS_s2 ha (k := 4) rfl
    have f29 := zf hS_s2 ha (k := 5) rfl
    have f30 := zf hS_s2 ha (k := 7) rfl
    have f31 := zf hS_s2 ha (k := 21) rfl
    have f32 := zf hS_s2 ha (k := 22) rfl
    have f33 := zf hS_s2 ha (k := 23) rfl
    have f34 := zf hS_s2 ha (k := 24) rfl
    have f35 := zf hS_s2 ha (k := 38) rfl
    have f36 := zf hS_s2 ha (k := 51) rfl
    have f37 := zf hS_s2 ha (k := 52) rfl
    exact j_zret hx hq rfl (by decide) (by decide) dX12_would_30 (by omega) ⟨0, rfl, rfl, hS_s2, (zFr_t (zFr_u zFr_rf e_s1 ha (by decide)) hF_s2 (by decide)), ⟨(by omega), by omega, by omega, by omega, by omega, by omega, by omega, by omega, by omega, by omega, by omega, by omega⟩⟩
  · skip
    refine j_aload_n hx 0 dX12_would_14 rfl ?_
    refine j_iload_n hx 2 dX12_would_15 rfl ?_
    refine j_iconst hx dX12_would_16 ?_
    refine j_iconst hx dX12_would_17 ?_
    refine j_callS hx (c_X12_within hst x2 0 1) lk_RX12_314 [.int (zI x2), .int (zI 0), .int (zI 1)] ⟨rfl, hG, hS_s2, (by omega), (by omega), (by omega)⟩ rfl rfl ⟨by decide, by decide⟩ ⟨by decide, by decide⟩ (k2 := 0) (n2 := 0) rfl rfl (Nat.le_of_ble_eq_true rfl) dX12_would_18 (kIP (fun v38 q39 => ?_))
    refine j_iconst hx dX12_would_21 ?_
    refine j_iconst hx dX12_would_22 ?_
    rcases (show v38 = 0 ∨ v38 = 1 by omega) with rfl | rfl
    · skip
      have f41 := zf hS_s2 ha (k := 0) rfl
      have f42 := zf hS_s2 ha (k := 3) rfl
      have f43 := zf hS_s2 ha (k := 4) rfl
      have f44 := zf hS_s2 ha (k := 5) rfl
      have f45 := zf hS_s2 ha (k := 7) rfl
      have f46 := zf hS_s2 ha (k := 21) rfl
      have f47 := zf hS_s2 ha (k := 22) rfl
      have f48 := zf hS_s2 ha (k := 23) rfl
      have f49 := zf hS_s2 ha (k := 24) rfl
      have f50 := zf hS_s2 ha (k := 38) rfl
      have f51 := zf hS_s2 ha (k := 51) rfl
      have f52 := zf hS_s2 ha (k := 52) rfl
      refine j_callV hx hG (c_X12_may_f hst a 0 2 1) lk_RX12_240 ha (by decide) rfl rfl rfl rfl [.int (zI 0), .int (zI 2), .int (zI 1)] ⟨rfl, hG, hS_s2, ha, (by omega), (by omega), (by omega), (by omega)⟩ rfl rfl ⟨by decide, by decide⟩ ⟨by decide, by decide⟩ (k2 := 0) (n2 := 0) rfl rfl (Nat.le_of_ble_eq_true rfl) dX12_would_23 (kIM (fun v53 s3 hS_s3 hF_s3 q54 => ?_))
      refine j_if_ne hx 31 dX12_would_26 rfl (by omega) (fun h55 => absurd h55 (by omega)) (fun h55 => ?_)
      refine j_iconst hx dX12_would_29 ?_
      have f56 := zf hS_s3 ha (k := 3) rfl
      have f57 := zf hS_s3 ha (k := 4) rfl
      have f58 := zf hS_s3 ha (k := 5) rfl
      have f59 := zf hS_s3 ha (k := 7) rfl
      have f60 := zf hS_s3 ha (k := 21) rfl
      have f61 := zf hS_s3 ha (k := 22) rfl
      have f62 := zf hS_s3 ha (k := 23) rfl
      have f63 := zf hS_s3 ha (k := 24) rfl
      have f64 := zf hS_s3 ha (k := 38) rfl
      have f65 := zf hS_s3 ha (k := 51) rfl
      have f66 := zf hS_s3 ha (k := 52) rfl
      exact j_zret hx hq rfl (by decide) (by decide) dX12_would_30 (by omega) ⟨0, rfl, rfl, hS_s3, (zFr_t (zFr_t (zFr_u zFr_rf e_s1 ha (by decide)) hF_s2 (by decide)) hF_s3 (by decide)), ⟨(by omega), by omega, by omega, by omega, by omega, by omega, by omega, by omega, by omega, by omega, by omega, by omega⟩⟩
    · skip
      have f67 := zf hS_s2 ha (k := 0) rfl
      refine j_callV hx hG (c_X12_may_t hst a 1 2 1) lk_RX12_240 ha (by decide) rfl rfl rfl rfl [.int (zI 1), .int (zI 2), .int (zI 1)] ⟨rfl, hG, hS_s2, ha, (by omega), (by omega), (by omega), (by omega)⟩ rfl rfl ⟨by decide, by decide⟩ ⟨by decide, by decide⟩ (k2 := 0) (n2 := 0) rfl rfl (Nat.le_of_ble_eq_true rfl) dX12_would_23 (kIP (fun v68 q69 => ?_))
      refine j_if_ne hx 31 dX12_would_26 rfl (by omega) (fun h70 => ?_) (fun h70 => absurd h70 (by omega))
      refine j_aload_n hx 0 dX12_would_31 rfl ?_
      refine j_iload_n hx 2 dX12_would_32 rfl ?_
      refine j_if_ne hx 40 dX12_would_33 rfl (by omega) (fun h71 => ?_) (fun h71 => ?_)
      · skip
        refine j_iconst hx dX12_would_40 ?_
        refine j_iload_n hx 1 dX12_would_41 rfl ?_
        refine j_iadd hx (r := x1 + 3) dX12_would_42 (by omega) ?_
        refine j_iload_n hx 1 dX12_would_43 rfl ?_
        refine j_aload_n hx 0 dX12_would_44 rfl ?_
        refine j_callV hx hG (c_X12_whose hst a) lk_RX12_336 ha (by decide) rfl rfl rfl rfl [] ⟨rfl, hG, hS_s2, ha⟩ rfl rfl ⟨by decide, by decide⟩ ⟨by decide, by decide⟩ (k2 := 0) (n2 := 0) rfl rfl (Nat.le_of_ble_eq_true rfl) dX12_would_45 (kIP (fun v72 q73 => ?_))
        refine j_callV hx hG (c_X12_holds hst a (x1 + 3) x1 v72) lk_RX12_358 ha (by decide) rfl rfl rfl rfl [.int (zI (x1 + 3)), .int (zI x1), .int (zI v72)] ⟨rfl, hG, hS_s2, ha, (by omega), (by omega), (by omega), ((by have q1 : s2 (gP G a 34) = s0 (gP G a 34) := (by rw [hF_s2 (gP G a 34) (by rw [(zr (k := 34) (t2 := 91) hG ha rfl)]; decide), e_s1, zU_ne (zne ha (zr (k := 34) (t2 := 91) hG ha rfl) (by decide))]); have q2 : s2 (gP G a 35) = s0 (gP G a 35) := (by rw [hF_s2 (gP G a 35) (by rw [(zr (k := 35) (t2 := 92) hG ha rfl)]; decide), e_s1, zU_ne (zne ha (zr (k := 35) (t2 := 92) hG ha rfl) (by decide))]); have q3 : s2 (gP G a 37) = s0 (gP G a 37) := (by rw [hF_s2 (gP G a 37) (by rw [(zr (k := 37) (t2 := 94) hG ha rfl)]; decide), e_s1, zU_ne (zne ha (zr (k := 37) (t2 := 94) hG ha rfl) (by decide))]); rw [q1, q2, q3]; exact e0))⟩ rfl rfl ⟨by decide, by decide⟩ ⟨by decide, by decide⟩ (k2 := 0) (n2 := 0) rfl rfl (Nat.le_of_ble_eq_true rfl) dX12_would_48 (kIM (fun v74 s4 hS_s4 hF_s4 q75 => ?_))
        have g76 : s4 a 3 = s2 a 3 := (by rw [(zFr_g hF_s4 ha (by decide))])
        have f77 := zf hS_s2 ha (k := 3) rfl
        have g78 : s4 a 4 = s2 a 4 := (by rw [(zFr_g hF_s4 ha (by decide))])
        have f79 := zf hS_s2 ha (k := 4) rfl
        have g80 : s4 a 5 = s2 a 5 := (by rw [(zFr_g hF_s4 ha (by decide))])
        have f81 := zf hS_s2 ha (k := 5) rfl
        have g82 : s4 a 7 = s2 a 7 := (by rw [(zFr_g hF_s4 ha (by decide))])
        have f83 := zf hS_s2 ha (k := 7) rfl
        have g84 : s4 a 21 = s2 a 21 := (by rw [(zFr_g hF_s4 ha (by decide))])
        have f85 := zf hS_s2 ha (k := 21) rfl
        have g86 : s4 a 22 = s2 a 22 := (by rw [(zFr_g hF_s4 ha (by decide))])
        have f87 := zf hS_s2 ha (k := 22) rfl
        have g88 : s4 a 23 = s2 a 23 := (by rw [(zFr_g hF_s4 ha (by decide))])
        have f89 := zf hS_s2 ha (k := 23) rfl
        have g90 : s4 a 24 = s2 a 24 := (by rw [(zFr_g hF_s4 ha (by decide))])
        have f91 := zf hS_s2 ha (k := 24) rfl
        have g92 : s4 a 38 = s2 a 38 := (by rw [(zFr_g hF_s4 ha (by decide))])
        have f93 := zf hS_s2 ha (k := 38) rfl
        have g94 : s4 a 51 = s2 a 51 := (by rw [(zFr_g hF_s4 ha (by decide))])
        have f95 := zf hS_s2 ha (k := 51) rfl
        have g96 : s4 a 52 = s2 a 52 := (by rw [(zFr_g hF_s4 ha (by decide))])
        have f97 := zf hS_s2 ha (k := 52) rfl
        exact j_zret hx hq rfl (by decide) (by decide) dX12_would_51 (by omega) ⟨v74, rfl, rfl, hS_s4, (zFr_t (zFr_t (zFr_u zFr_rf e_s1 ha (by decide)) hF_s2 (by decide)) hF_s4 (by decide)), ⟨(by omega), by omega, by omega, by omega, by omega, by omega, by omega, by omega, by omega, by omega, by omega, by omega⟩⟩
      · skip
        refine j_iload_n hx 1 dX12_would_36 rfl ?_
        refine j_goto hx 43 dX12_would_37 rfl ?_
        refine j_iload_n hx 1 dX12_would_43 rfl ?_
        refine j_aload_n hx 0 dX12_would_44 rfl ?_
        refine j_callV hx hG (c_X12_whose hst a) lk_RX12_336 ha (by decide) rfl rfl rfl rfl [] ⟨rfl, hG, hS_s2, ha⟩ rfl rfl ⟨by decide, by decide⟩ ⟨by decide, by decide⟩ (k2 := 0) (n2 := 0) rfl rfl (Nat.le_of_ble_eq_true rfl) dX12_would_45 (kIP (fun v98 q99 => ?_))
        refine j_callV hx hG (c_X12_holds hst a x1 x1 v98) lk_RX12_358 ha (by decide) rfl rfl rfl rfl [.int (zI x1), .int (zI x1), .int (zI v98)] ⟨rfl, hG, hS_s2, ha, (by omega), (by omega), (by omega), ((by have q1 : s2 (gP G a 34) = s0 (gP G a 34) := (by rw [hF_s2 (gP G a 34) (by rw [(zr (k := 34) (t2 := 91) hG ha rfl)]; decide), e_s1, zU_ne (zne ha (zr (k := 34) (t2 := 91) hG ha rfl) (by decide))]); have q2 : s2 (gP G a 35) = s0 (gP G a 35) := (by rw [hF_s2 (gP G a 35) (by rw [(zr (k := 35) (t2 := 92) hG ha rfl)]; decide), e_s1, zU_ne (zne ha (zr (k := 35) (t2 := 92) hG ha rfl) (by decide))]); have q3 : s2 (gP G a 37) = s0 (gP G a 37) := (by rw [hF_s2 (gP G a 37) (by rw [(zr (k := 37) (t2 := 94) hG ha rfl)]; decide), e_s1, zU_ne (zne ha (zr (k := 37) (t2 := 94) hG ha rfl) (by decide))]); rw [q1, q2, q3]; exact e0))⟩ rfl rfl ⟨by decide, by decide⟩ ⟨by decide, by decide⟩ (k2 := 0) (n2 := 0) rfl rfl (Nat.le_of_ble_eq_true rfl) dX12_would_48 (kIM (fun v100 s5 hS_s5 hF_s5 q101 => ?_))
        have g102 : s5 a 3 = s2 a 3 := (by rw [(zFr_g hF_s5 ha (by decide))])
        have f103 := zf hS_s2 ha (k := 3) rfl
        have g104 : s5 a 4 = s2 a 4 := (by rw [(zFr_g hF_s5 ha (by decide))])
        have f105 := zf hS_s2 ha (k := 4) rfl
        have g106 : s5 a 5 = s2 a 5 := (by rw [(zFr_g hF_s5 ha (by decide))])
        have f107 := zf hS_s2 ha (k := 5) rfl
        have g108 : s5 a 7 = s2 a 7 := (by rw [(zFr_g hF_s5 ha (by decide))])
        have f109 := zf hS_s2 ha (k := 7) rfl
        have g110 : s5 a 21 = s2 a 21 := (by rw [(zFr_g hF_s5 ha (by decide))])
        have f111 := zf hS_s2 ha (k := 21) rfl
        have g112 : s5 a 22 = s2 a 22 := (by rw [(zFr_g hF_s5 ha (by decide))])
        have f113 := zf hS_s2 ha (k := 22) rfl
        have g114 : s5 a 23 = s2 a 23 := (by rw [(zFr_g hF_s5 ha (by decide))])
        have f115 := zf hS_s2 ha (k := 23) rfl
        have g116 : s5 a 24 = s2 a 24 := (by rw [(zFr_g hF_s5 ha (by decide))])
        have f117 := zf hS_s2 ha (k := 24) rfl
        have g118 : s5 a 38 = s2 a 38 := (by rw [(zFr_g hF_s5 ha (by decide))])
        have f119 := zf hS_s2 ha (k := 38) rfl
        have g120 : s5 a 51 = s2 a 51 := (by rw [(zFr_g hF_s5 ha (by decide))])
        have f121 := zf hS_s2 ha (k := 51) rfl
        have g122 : s5 a 52 = s2 a 52 := (by rw [(zFr_g hF_s5 ha (by decide))])
        have f123 := zf hS_s2 ha (k := 52) rfl
        exact j_zret hx hq rfl (by decide) (by decide) dX12_would_51 (by omega) ⟨v100, rfl, rfl, hS_s5, (zFr_t (zFr_t (zFr_u zFr_rf e_s1 ha (by decide)) hF_s2 (by decide)) hF_s5 (by decide)), ⟨(by omega), by omega, by omega, by omega, by omega, by omega, by omega, by omega, by omega, by omega, by omega, by omega⟩⟩

set_option maxHeartbeats 1200000 in
set_option maxRecDepth 20000 in
theorem c_X12_law {E : zE} {l : Launch} (hst : l.stackTraces = false) (a : Nat) (x1 : Int) (x2 : Int) : Con E l yX12_law cX12_law 4 (some .int) { frames := 1, cells := 0, slots := 0, locals := 23 } (fun G s vs => vs = [.ref a, .int (zI x1), .int (zI x2)] ∧ zGK G ∧ zSK G s ∧ (gT G a = 13) ∧ ((-2147483648) ≤ x1 ∧ x1 ≤ 2147483647) ∧ ((-2147483648) ≤ x2 ∧ x2 ≤ 2147483647)) (fun G s _ => pI (fun r G2 s2 => G2 = G ∧ zSK G s2 ∧ zFr [13, 71, 84, 85] G s s2 ∧ ((-2147483648) ≤ r ∧ r ≤ 2147483647) ∧ zc (s2 (gP G a 27)) = zc (s (gP G a 27)) ∧ s2 (gP G a 27) 488 = s (gP G a 27) 488 ∧ (zc (s2 (gP G a 28)) = zc (s (gP G a 28)) ∨ zc (s2 (gP G a 28)) = zc (s (gP G a 27))) ∧ (s2 (gP G a 28) 488 = s (gP G a 28) 488 ∨ s2 (gP G a 28) 488 = s (gP G a 27) 488) ∧ s2 a 3 = s a 3 ∧ s2 a 4 = s a 4 ∧ s2 a 5 = s a 5 ∧ s2 a 7 = s a 7 ∧ s2 a 21 = s a 21 ∧ s2 a 22 = s a 22 ∧ s2 a 23 = s a 23 ∧ s2 a 24 = s a 24 ∧ s2 a 38 = s a 38 ∧ s2 a 51 = s a 51 ∧ s2 a 52 = s a 52)) := by
  refine Con.mk hst (by decide) (fun G s vs h => by rw [h.1]; exact Nat.le_of_ble_eq_true rfl) ?_
  rintro X G s0 vs ⟨rfl, hG, hS0, ha, hx1, hx2⟩ rfl hx hq
  show JJ X E 4 G s0 0 0 [(0, .ref a), (1, .int (zI x1)), (2, .int (zI x2))] 0 []
  refine j_aload_n hx 0 dX12_law_0 rfl ?_
  refine j_iconst hx dX12_law_1 ?_
  refine p13_0 hx hG ha kf_RX12_3 dX12_law_2 ?_
  obtain ⟨s1, e_s1⟩ : ∃ z, z = zU s0 a 0 0 := ⟨_, rfl⟩
  rw [← e_s1]
  have hS_s1 : zSK G s1 := by rw [e_s1]; exact zSK_F hS0 ha rfl rfl rfl (by omega)
  refine j_aload_n hx 0 dX12_law_5 rfl ?_
  refine j_iload_n hx 1 dX12_law_6 rfl ?_
  refine j_iconst hx dX12_law_7 ?_
  refine j_iconst hx dX12_law_8 ?_
  refine j_callS hx (c_X12_within hst x1 0 2) lk_RX12_314 [.int (zI x1), .int (zI 0), .int (zI 2)] ⟨rfl, hG, hS_s1, (by omega), (by omega), (by omega)⟩ rfl rfl ⟨by decide, by decide⟩ ⟨by decide, by decide⟩ (k2 := 0) (n2 := 0) rfl rfl (Nat.le_of_ble_eq_true rfl) dX12_law_9 (kIP (fun v1 q2 => ?_))
  refine j_if_eq hx 28 dX12_law_12 rfl (by omega) (fun h3 => ?_) (fun h3 => ?_)
  · skip
    refine j_iconst hx dX12_law_28 ?_
    refine j_iconst hx dX12_law_29 ?_
    refine j_iconst hx dX12_law_30 ?_
    have g4 : s1 a 0 = 0 := (by rw [e_s1, zU_eq])
    have g5 : s1 a 3 = s0 a 3 := (by rw [e_s1, zU_at (Or.inr (by decide))])
    have f6 := zf hS0 ha (k := 3) rfl
    have g7 : s1 a 4 = s0 a 4 := (by rw [e_s1, zU_at (Or.inr (by decide))])
    have f8 := zf hS0 ha (k := 4) rfl
    have g9 : s1 a 5 = s0 a 5 := (by rw [e_s1, zU_at (Or.inr (by decide))])
    have f10 := zf hS0 ha (k := 5) rfl
    have g11 : s1 a 7 = s0 a 7 := (by rw [e_s1, zU_at (Or.inr (by decide))])
    have f12 := zf hS0 ha (k := 7) rfl
    have g13 : s1 a 21 = s0 a 21 := (by rw [e_s1, zU_at (Or.inr (by decide))])
    have f14 := zf hS0 ha (k := 21) rfl
    have g15 : s1 a 22 = s0 a 22 := (by rw [e_s1, zU_at (Or.inr (by decide))])
    have f16 := zf hS0 ha (k := 22) rfl
    have g17 : s1 a 23 = s0 a 23 := (by rw [e_s1, zU_at (Or.inr (by decide))])
    have f18 := zf hS0 ha (k := 23) rfl
    have g19 : s1 a 24 = s0 a 24 := (by rw [e_s1, zU_at (Or.inr (by decide))])
    have f20 := zf hS0 ha (k := 24) rfl
    have g21 : s1 a 38 = s0 a 38 := (by rw [e_s1, zU_at (Or.inr (by decide))])
    have f22 := zf hS0 ha (k := 38) rfl
    have g23 : s1 a 51 = s0 a 51 := (by rw [e_s1, zU_at (Or.inr (by decide))])
    have f24 := zf hS0 ha (k := 51) rfl
    have g25 : s1 a 52 = s0 a 52 := (by rw [e_s1, zU_at (Or.inr (by decide))])
    have f26 := zf hS0 ha (k := 52) rfl
    refine j_callV hx hG (c_X12_may_f hst a 0 1 1) lk_RX12_240 ha (by decide) rfl rfl rfl rfl [.int (zI 0), .int (zI 1), .int (zI 1)] ⟨rfl, hG, hS_s1, ha, (by omega), (by omega), (by omega), (((by rw [e_s1, zU_eq]) : s1 a 0 = 0).trans (by omega))⟩ rfl rfl ⟨by decide, by decide⟩ ⟨by decide, by decide⟩ (k2 := 0) (n2 := 0) rfl rfl (Nat.le_of_ble_eq_true rfl) dX12_law_31 (kIM (fun v27 s2 hS_s2 hF_s2 q28 => ?_))
    refine j_if_ne hx 39 dX12_law_34 rfl (by omega) (fun h29 => absurd h29 (by omega)) (fun h29 => ?_)
    refine j_iconst hx dX12_law_37 ?_
    have g30 : zc (s2 (gP G a 27)) = zc (s0 (gP G a 27)) := by rw [hF_s2 (gP G a 27) (by rw [(zr (k := 27) (t2 := 84) hG ha rfl)]; decide), e_s1, zU_ne (zne ha (zr (k := 27) (t2 := 84) hG ha rfl) (by decide))]
    have g31 : s2 (gP G a 27) 488 = s0 (gP G a 27) 488 := (by rw [(zFr_g hF_s2 (zr (k := 27) (t2 := 84) hG ha rfl) (by decide)), e_s1, zU_at (Or.inl (zne ha (zr (k := 27) (t2 := 84) hG ha rfl) (by decide)))])
    have g32 : zc (s2 (gP G a 28)) = zc (s0 (gP G a 28)) := by rw [hF_s2 (gP G a 28) (by rw [(zr (k := 28) (t2 := 85) hG ha rfl)]; decide), e_s1, zU_ne (zne ha (zr (k := 28) (t2 := 85) hG ha rfl) (by decide))]
    have g33 : s2 (gP G a 28) 488 = s0 (gP G a 28) 488 := (by rw [(zFr_g hF_s2 (zr (k := 28) (t2 := 85) hG ha rfl) (by decide)), e_s1, zU_at (Or.inl (zne ha (zr (k := 28) (t2 := 85) hG ha rfl) (by decide)))])
    have f34 := zf hS_s2 ha (k := 3) rfl
    have f35 := zf hS_s2 ha (k := 4) rfl
    have f36 := zf hS_s2 ha (k := 5) rfl
    have f37 := zf hS_s2 ha (k := 7) rfl
    have f38 := zf hS_s2 ha (k := 21) rfl
    have f39 := zf hS_s2 ha (k := 22) rfl
    have f40 := zf hS_s2 ha (k := 23) rfl
    have f41 := zf hS_s2 ha (k := 24) rfl
    have f42 := zf hS_s2 ha (k := 38) rfl
    have f43 := zf hS_s2 ha (k := 51) rfl
    have f44 := zf hS_s2 ha (k := 52) rfl
    exact j_iret hx hq rfl (by decide) (by decide) dX12_law_38 ⟨0, rfl, rfl, hS_s2, (zFr_t (zFr_u zFr_rf e_s1 ha (by decide)) hF_s2 (by decide)), ⟨(by omega), by omega, by omega, by omega, by omega, by omega, by omega, by omega, by omega, by omega, by omega, by omega, by omega, by omega, by omega, by omega⟩⟩
  · skip
    refine j_iload_n hx 2 dX12_law_15 rfl ?_
    refine j_iconst hx dX12_law_16 ?_
    refine j_iconst hx dX12_law_17 ?_
    refine j_callS hx (c_X12_within hst x2 0 2) lk_RX12_314 [.int (zI x2), .int (zI 0), .int (zI 2)] ⟨rfl, hG, hS_s1, (by omega), (by omega), (by omega)⟩ rfl rfl ⟨by decide, by decide⟩ ⟨by decide, by decide⟩ (k2 := 0) (n2 := 0) rfl rfl (Nat.le_of_ble_eq_true rfl) dX12_law_18 (kIP (fun v45 q46 => ?_))
    refine j_if_eq hx 28 dX12_law_21 rfl (by omega) (fun h47 => ?_) (fun h47 => ?_)
    · skip
      refine j_iconst hx dX12_law_28 ?_
      refine j_iconst hx dX12_law_29 ?_
      refine j_iconst hx dX12_law_30 ?_
      have g48 : s1 a 0 = 0 := (by rw [e_s1, zU_eq])
      have g49 : s1 a 3 = s0 a 3 := (by rw [e_s1, zU_at (Or.inr (by decide))])
      have f50 := zf hS0 ha (k := 3) rfl
      have g51 : s1 a 4 = s0 a 4 := (by rw [e_s1, zU_at (Or.inr (by decide))])
      have f52 := zf hS0 ha (k := 4) rfl
      have g53 : s1 a 5 = s0 a 5 := (by rw [e_s1, zU_at (Or.inr (by decide))])
      have f54 := zf hS0 ha (k := 5) rfl
      have g55 : s1 a 7 = s0 a 7 := (by rw [e_s1, zU_at (Or.inr (by decide))])
      have f56 := zf hS0 ha (k := 7) rfl
      have g57 : s1 a 21 = s0 a 21 := (by rw [e_s1, zU_at (Or.inr (by decide))])
      have f58 := zf hS0 ha (k := 21) rfl
      have g59 : s1 a 22 = s0 a 22 := (by rw [e_s1, zU_at (Or.inr (by decide))])
      have f60 := zf hS0 ha (k := 22) rfl
      have g61 : s1 a 23 = s0 a 23 := (by rw [e_s1, zU_at (Or.inr (by decide))])
      have f62 := zf hS0 ha (k := 23) rfl
      have g63 : s1 a 24 = s0 a 24 := (by rw [e_s1, zU_at (Or.inr (by decide))])
      have f64 := zf hS0 ha (k := 24) rfl
      have g65 : s1 a 38 = s0 a 38 := (by rw [e_s1, zU_at (Or.inr (by decide))])
      have f66 := zf hS0 ha (k := 38) rfl
      have g67 : s1 a 51 = s0 a 51 := (by rw [e_s1, zU_at (Or.inr (by decide))])
      have f68 := zf hS0 ha (k := 51) rfl
      have g69 : s1 a 52 = s0 a 52 := (by rw [e_s1, zU_at (Or.inr (by decide))])
      have f70 := zf hS0 ha (k := 52) rfl
      refine j_callV hx hG (c_X12_may_f hst a 0 1 1) lk_RX12_240 ha (by decide) rfl rfl rfl rfl [.int (zI 0), .int (zI 1), .int (zI 1)] ⟨rfl, hG, hS_s1, ha, (by omega), (by omega), (by omega), (((by rw [e_s1, zU_eq]) : s1 a 0 = 0).trans (by omega))⟩ rfl rfl ⟨by decide, by decide⟩ ⟨by decide, by decide⟩ (k2 := 0) (n2 := 0) rfl rfl (Nat.le_of_ble_eq_true rfl) dX12_law_31 (kIM (fun v71 s3 hS_s3 hF_s3 q72 => ?_))
      refine j_if_ne hx 39 dX12_law_34 rfl (by omega) (fun h73 => absurd h73 (by omega)) (fun h73 => ?_)
      refine j_iconst hx dX12_law_37 ?_
      have g74 : zc (s3 (gP G a 27)) = zc (s0 (gP G a 27)) := by rw [hF_s3 (gP G a 27) (by rw [(zr (k := 27) (t2 := 84) hG ha rfl)]; decide), e_s1, zU_ne (zne ha (zr (k := 27) (t2 := 84) hG ha rfl) (by decide))]
      have g75 : s3 (gP G a 27) 488 = s0 (gP G a 27) 488 := (by rw [(zFr_g hF_s3 (zr (k := 27) (t2 := 84) hG ha rfl) (by decide)), e_s1, zU_at (Or.inl (zne ha (zr (k := 27) (t2 := 84) hG ha rfl) (by decide)))])
      have g76 : zc (s3 (gP G a 28)) = zc (s0 (gP G a 28)) := by rw [hF_s3 (gP G a 28) (by rw [(zr (k := 28) (t2 := 85) hG ha rfl)]; decide), e_s1, zU_ne (zne ha (zr (k := 28) (t2 := 85) hG ha rfl) (by decide))]
      have g77 : s3 (gP G a 28) 488 = s0 (gP G a 28) 488 := (by rw [(zFr_g hF_s3 (zr (k := 28) (t2 := 85) hG ha rfl) (by decide)), e_s1, zU_at (Or.inl (zne ha (zr (k := 28) (t2 := 85) hG ha rfl) (by decide)))])
      have f78 := zf hS_s3 ha (k := 3) rfl
      have f79 := zf hS_s3 ha (k := 4) rfl
      have f80 := zf hS_s3 ha (k := 5) rfl
      have f81 := zf hS_s3 ha (k := 7) rfl
      have f82 := zf hS_s3 ha (k := 21) rfl
      have f83 := zf hS_s3 ha (k := 22) rfl
      have f84 := zf hS_s3 ha (k := 23) rfl
      have f85 := zf hS_s3 ha (k := 24) rfl
      have f86 := zf hS_s3 ha (k := 38) rfl
      have f87 := zf hS_s3 ha (k := 51) rfl
      have f88 := zf hS_s3 ha (k := 52) rfl
      exact j_iret hx hq rfl (by decide) (by decide) dX12_law_38 ⟨0, rfl, rfl, hS_s3, (zFr_t (zFr_u zFr_rf e_s1 ha (by decide)) hF_s3 (by decide)), ⟨(by omega), by omega, by omega, by omega, by omega, by omega, by omega, by omega, by omega, by omega, by omega, by omega, by omega, by omega, by omega, by omega⟩⟩
    · skip
      refine j_iconst hx dX12_law_24 ?_
      refine j_goto hx 29 dX12_law_25 rfl ?_
      refine j_iconst hx dX12_law_29 ?_
      refine j_iconst hx dX12_law_30 ?_
      have g89 : s1 a 0 = 0 := (by rw [e_s1, zU_eq])
      refine j_callV hx hG (c_X12_may_t hst a 1 1 1) lk_RX12_240 ha (by decide) rfl rfl rfl rfl [.int (zI 1), .int (zI 1), .int (zI 1)] ⟨rfl, hG, hS_s1, ha, (by omega), (by omega), (by omega), (((by rw [e_s1, zU_eq]) : s1 a 0 = 0).trans (by omega))⟩ rfl rfl ⟨by decide, by decide⟩ ⟨by decide, by decide⟩ (k2 := 0) (n2 := 0) rfl rfl (Nat.le_of_ble_eq_true rfl) dX12_law_31 (kIP (fun v90 q91 => ?_))
      refine j_if_ne hx 39 dX12_law_34 rfl (by omega) (fun h92 => ?_) (fun h92 => absurd h92 (by omega))
      refine j_aload_n hx 0 dX12_law_39 rfl ?_
      refine g13_27 hx hG ha kf_RX12_56 dX12_law_40 ?_
      refine j_sipush hx dX12_law_43 rfl ?_
      refine j_iload_n hx 1 dX12_law_46 rfl ?_
      refine j_iadd hx (r := x1 + 491) dX12_law_47 (by omega) ?_
      have f93 := zaQ (j := (x1 + 491).toNat) hS0 (zr (k := 27) (t2 := 84) hG ha rfl) (congrArg some (axS_7 (x1 + 491).toNat (by omega))) (zlen hG (zr (k := 27) (t2 := 84) hG ha rfl) (n := 515) rfl rfl) (show 0 ≤ x1 + 491 by omega) (by omega) rfl
      refine j_iald hx hG (zr (k := 27) (t2 := 84) hG ha rfl) (by decide) rfl (zlen hG (zr (k := 27) (t2 := 84) hG ha rfl) (n := 515) rfl rfl) (by omega) (by omega) (j := (x1 + 491).toNat) rfl (v := (s0 (gP G a 27) (x1 + 491).toNat)) (by rw [e_s1, zU_at (Or.inl (zne ha (zr (k := 27) (t2 := 84) hG ha rfl) (by decide)))]) dX12_law_48 ?_
      refine j_istore_n hx [(3, .int (zI ((s0 (gP G a 27) (x1 + 491).toNat)))), (0, .ref a), (1, .int (zI x1)), (2, .int (zI x2))] dX12_law_49 (by decide) rfl ?_
      refine j_aload_n hx 1 dX12_law_50 rfl ?_
      refine g13_27 hx hG ha kf_RX12_56 dX12_law_51 ?_
      refine j_sipush hx dX12_law_54 rfl ?_
      refine j_iload_n hx 2 dX12_law_57 rfl ?_
      refine j_iadd hx (r := x1 + 491) dX12_law_58 (by omega) ?_
      refine j_iload_n hx 3 dX12_law_59 rfl ?_
      refine j_iast hx hG (zr (k := 27) (t2 := 84) hG ha rfl) (by decide) rfl (zlen hG (zr (k := 27) (t2 := 84) hG ha rfl) (n := 515) rfl rfl) (by omega) (by omega) (j := (x1 + 491).toNat) rfl dX12_law_60 ?_
      obtain ⟨s4, e_s4⟩ : ∃ z, z = zU s1 (gP G a 27) (x1 + 491).toNat x2 := ⟨_, rfl⟩
      rw [← e_s4]
      have hS_s4 : zSK G s4 := by rw [e_s4]; exact zSK_a hS_s1 (zr (k := 27) (t2 := 84) hG ha rfl) rfl rfl (congrArg some (axS_7 (x1 + 491).toNat (by omega))) (by omega)
      have g95 : zc (s1 (gP G a 27)) = zc (s0 (gP G a 27)) := by rw [e_s1, zU_ne (zne ha (zr (k := 27) (t2 := 84) hG ha rfl) (by decide))]
      have z94 : zc (s4 (gP G a 27)) = zc (s1 (gP G a 27)) := by rw [e_s4]; exact zc_o (by omega)
      refine j_aload_n hx 1 dX12_law_61 rfl ?_
      have g96 : s4 (gP G a 27) 488 = s0 (gP G a 27) 488 := (by rw [e_s4, zU_at (Or.inr (by omega)), e_s1, zU_at (Or.inl (zne ha (zr (k := 27) (t2 := 84) hG ha rfl) (by decide)))])
      refine j_callV hx hG (c_X12_stays hst a) lk_RX12_207 ha (by decide) rfl rfl rfl rfl [] ⟨rfl, hG, hS_s4, ha⟩ rfl rfl ⟨by decide, by decide⟩ ⟨by decide, by decide⟩ (k2 := 0) (n2 := 0) rfl rfl (Nat.le_of_ble_eq_true rfl) dX12_law_62 (kVM (fun s5 hS_s5 hF_s5 q98 => ?_))
      refine j_iload_n hx 0 dX12_law_65 rfl ?_
      have g99 : zc (s5 (gP G a 27)) = zc (s4 (gP G a 27)) := by rw [hF_s5 (gP G a 27) (by rw [(zr (k := 27) (t2 := 84) hG ha rfl)]; decide)]
      have g100 : s5 (gP G a 27) 488 = s0 (gP G a 27) 488 := (by rw [(zFr_g hF_s5 (zr (k := 27) (t2 := 84) hG ha rfl) (by decide)), e_s4, zU_at (Or.inr (by omega)), e_s1, zU_at (Or.inl (zne ha (zr (k := 27) (t2 := 84) hG ha rfl) (by decide)))])
      have g101 : s5 a 3 = s0 a 3 := (by rw [(zFr_g hF_s5 ha (by decide)), e_s4, zU_at (Or.inl (zne (zr (k := 27) (t2 := 84) hG ha rfl) ha (by decide))), e_s1, zU_at (Or.inr (by decide))])
      have f102 := zf hS0 ha (k := 3) rfl
      have g103 : s5 a 4 = s0 a 4 := (by rw [(zFr_g hF_s5 ha (by decide)), e_s4, zU_at (Or.inl (zne (zr (k := 27) (t2 := 84) hG ha rfl) ha (by decide))), e_s1, zU_at (Or.inr (by decide))])
      have f104 := zf hS0 ha (k := 4) rfl
      have g105 : s5 a 5 = s0 a 5 := (by rw [(zFr_g hF_s5 ha (by decide)), e_s4, zU_at (Or.inl (zne (zr (k := 27) (t2 := 84) hG ha rfl) ha (by decide))), e_s1, zU_at (Or.inr (by decide))])
      have f106 := zf hS0 ha (k := 5) rfl
      have g107 : s5 a 7 = s0 a 7 := (by rw [(zFr_g hF_s5 ha (by decide)), e_s4, zU_at (Or.inl (zne (zr (k := 27) (t2 := 84) hG ha rfl) ha (by decide))), e_s1, zU_at (Or.inr (by decide))])
      have f108 := zf hS0 ha (k := 7) rfl
      have g109 : s5 a 21 = s0 a 21 := (by rw [(zFr_g hF_s5 ha (by decide)), e_s4, zU_at (Or.inl (zne (zr (k := 27) (t2 := 84) hG ha rfl) ha (by decide))), e_s1, zU_at (Or.inr (by decide))])
      have f110 := zf hS0 ha (k := 21) rfl
      have g111 : s5 a 22 = s0 a 22 := (by rw [(zFr_g hF_s5 ha (by decide)), e_s4, zU_at (Or.inl (zne (zr (k := 27) (t2 := 84) hG ha rfl) ha (by decide))), e_s1, zU_at (Or.inr (by decide))])
      have f112 := zf hS0 ha (k := 22) rfl
      have g113 : s5 a 23 = s0 a 23 := (by rw [(zFr_g hF_s5 ha (by decide)), e_s4, zU_at (Or.inl (zne (zr (k := 27) (t2 := 84) hG ha rfl) ha (by decide))), e_s1, zU_at (Or.inr (by decide))])
      have f114 := zf hS0 ha (k := 23) rfl
      have g115 : s5 a 24 = s0 a 24 := (by rw [(zFr_g hF_s5 ha (by decide)), e_s4, zU_at (Or.inl (zne (zr (k := 27) (t2 := 84) hG ha rfl) ha (by decide))), e_s1, zU_at (Or.inr (by decide))])
      have f116 := zf hS0 ha (k := 24) rfl
      have g117 : s5 a 38 = s0 a 38 := (by rw [(zFr_g hF_s5 ha (by decide)), e_s4, zU_at (Or.inl (zne (zr (k := 27) (t2 := 84) hG ha rfl) ha (by decide))), e_s1, zU_at (Or.inr (by decide))])
      have f118 := zf hS0 ha (k := 38) rfl
      have g119 : s5 a 51 = s0 a 51 := (by rw [(zFr_g hF_s5 ha (by decide)), e_s4, zU_at (Or.inl (zne (zr (k := 27) (t2 := 84) hG ha rfl) ha (by decide))), e_s1, zU_at (Or.inr (by decide))])
      have f120 := zf hS0 ha (k := 51) rfl
      have g121 : s5 a 52 = s0 a 52 := (by rw [(zFr_g hF_s5 ha (by decide)), e_s4, zU_at (Or.inl (zne (zr (k := 27) (t2 := 84) hG ha rfl) ha (by decide))), e_s1, zU_at (Or.inr (by decide))])
      have f122 := zf hS0 ha (k := 52) rfl
      exact j_iret hx hq rfl (by decide) (by decide) dX12_law_66 ⟨(s0 (gP G a 27) (x1 + 491).toNat), rfl, rfl, hS_s5, (zFr_t (zFr_u (zFr_u zFr_rf e_s1 ha (by decide)) e_s4 (zr (k := 27) (t2 := 84) hG ha rfl) (by decide)) hF_s5 (by decide)), ⟨(by omega), by omega, by omega, by omega, by omega, by omega, by omega, by omega, by omega, by omega, by omega, by omega, by omega, by omega, by omega, by omega⟩⟩

set_option maxHeartbeats 1200000 in
set_option maxRecDepth 20000 in
theorem c_X12_draws {E : zE} {l : Launch} (hst : l.stackTraces = false) (a : Nat) (x1 : Int) : Con E l yX12_draws cX12_draws 2 none { frames := 1, cells := 0, slots := 0, locals := 21 } (fun G s vs => vs = [.ref a, .int (zI x1)] ∧ zGK G ∧ zSK G s ∧ (gT G a = 13) ∧ ((-2147483648) ≤ x1 ∧ x1 ≤ 2147483647)) (fun G s _ => pV (fun G2 s2 => G2 = G ∧ zSK G s2 ∧ zFr [13, 84, 85] G s s2 ∧ zc (s2 (gP G a 27)) = zc (s (gP G a 27)) ∧ s2 (gP G a 27) 488 = s (gP G a 27) 488 ∧ (zc (s2 (gP G a 28)) = zc (s (gP G a 28)) ∨ zc (s2 (gP G a 28)) = zc (s (gP G a 27))) ∧ (s2 (gP G a 28) 488 = s (gP G a 28) 488 ∨ s2 (gP G a 28) 488 = s (gP G a 27) 488) ∧ s2 a 3 = s a 3 ∧ s2 a 4 = s a 4 ∧ s2 a 5 = s a 5 ∧ s2 a 7 = s a 7 ∧ s2 a 21 = s a 21 ∧ s2 a 22 = s a 22 ∧ s2 a 23 = s a 23 ∧ s2 a 24 = s a 24 ∧ s2 a 38 = s a 38 ∧ s2 a 51 = s a 51 ∧ s2 a 52 = s a 52)) := by
  refine Con.mk hst (by decide) (fun G s vs h => by rw [h.1]; exact Nat.le_of_ble_eq_true rfl) ?_
  rintro X G s0 vs ⟨rfl, hG, hS0, ha, hx1⟩ rfl hx hq
  show JJ X E 2 G s0 0 0 [(0, .ref a), (1, .int (zI x1))] 0 []
  refine j_aload_n hx 0 dX12_draws_0 rfl ?_
  refine j_iconst hx dX12_draws_1 ?_
  refine p13_0 hx hG ha kf_RX12_3 dX12_draws_2 ?_
  obtain ⟨s1, e_s1⟩ : ∃ z, z = zU s0 a 0 0 := ⟨_, rfl⟩
  rw [← e_s1]
  have hS_s1 : zSK G s1 := by rw [e_s1]; exact zSK_F hS0 ha rfl rfl rfl (by omega)
  refine j_aload_n hx 0 dX12_draws_5 rfl ?_
  refine g13_27 hx hG ha kf_RX12_56 dX12_draws_6 ?_
  refine j_sipush hx dX12_draws_9 rfl ?_
  refine j_iload_n hx 1 dX12_draws_12 rfl ?_
  refine j_iast hx hG (zr (k := 27) (t2 := 84) hG ha rfl) (by decide) rfl (zlen hG (zr (k := 27) (t2 := 84) hG ha rfl) (n := 515) rfl rfl) (by omega) (by omega) (j := 489) rfl dX12_draws_13 ?_
  obtain ⟨s2, e_s2⟩ : ∃ z, z = zU s1 (gP G a 27) 489 x1 := ⟨_, rfl⟩
  rw [← e_s2]
  have hS_s2 : zSK G s2 := by rw [e_s2]; exact zSK_a hS_s1 (zr (k := 27) (t2 := 84) hG ha rfl) rfl rfl (congrArg some (axS_5 489 (by omega))) (by omega)
  have g2 : zc (s1 (gP G a 27)) = zc (s0 (gP G a 27)) := by rw [e_s1, zU_ne (zne ha (zr (k := 27) (t2 := 84) hG ha rfl) (by decide))]
  have z1 : zc (s2 (gP G a 27)) = zc (s1 (gP G a 27)) := by rw [e_s2]; exact zc_o (by omega)
  refine j_aload_n hx 0 dX12_draws_14 rfl ?_
  refine g13_27 hx hG ha kf_RX12_56 dX12_draws_15 ?_
  refine j_sipush hx dX12_draws_18 rfl ?_
  refine j_iconst hx dX12_draws_21 ?_
  refine j_iast hx hG (zr (k := 27) (t2 := 84) hG ha rfl) (by decide) rfl (zlen hG (zr (k := 27) (t2 := 84) hG ha rfl) (n := 515) rfl rfl) (by omega) (by omega) (j := 490) rfl dX12_draws_22 ?_
  obtain ⟨s3, e_s3⟩ : ∃ z, z = zU s2 (gP G a 27) 490 1 := ⟨_, rfl⟩
  rw [← e_s3]
  have hS_s3 : zSK G s3 := by rw [e_s3]; exact zSK_a hS_s2 (zr (k := 27) (t2 := 84) hG ha rfl) rfl rfl (congrArg some (axS_6 490 (by omega))) (by omega)
  have z3 : zc (s3 (gP G a 27)) = zc (s2 (gP G a 27)) := by rw [e_s3]; exact zc_o (by omega)
  refine j_aload_n hx 0 dX12_draws_23 rfl ?_
  have g4 : s3 (gP G a 27) 488 = s0 (gP G a 27) 488 := (by rw [e_s3, zU_at (Or.inr (by decide)), e_s2, zU_at (Or.inr (by decide)), e_s1, zU_at (Or.inl (zne ha (zr (k := 27) (t2 := 84) hG ha rfl) (by decide)))])
  refine j_callV hx hG (c_X12_stays hst a) lk_RX12_207 ha (by decide) rfl rfl rfl rfl [] ⟨rfl, hG, hS_s3, ha⟩ rfl rfl ⟨by decide, by decide⟩ ⟨by decide, by decide⟩ (k2 := 0) (n2 := 0) rfl rfl (Nat.le_of_ble_eq_true rfl) dX12_draws_24 (kVM (fun s4 hS_s4 hF_s4 q6 => ?_))
  have g7 : zc (s4 (gP G a 27)) = zc (s3 (gP G a 27)) := by rw [hF_s4 (gP G a 27) (by rw [(zr (k := 27) (t2 := 84) hG ha rfl)]; decide)]
  have g8 : s4 (gP G a 27) 488 = s0 (gP G a 27) 488 := (by rw [(zFr_g hF_s4 (zr (k := 27) (t2 := 84) hG ha rfl) (by decide)), e_s3, zU_at (Or.inr (by decide)), e_s2, zU_at (Or.inr (by decide)), e_s1, zU_at (Or.inl (zne ha (zr (k := 27) (t2 := 84) hG ha rfl) (by decide)))])
  have g9 : s4 a 3 = s0 a 3 := (by rw [(zFr_g hF_s4 ha (by decide)), e_s3, zU_at (Or.inl (zne (zr (k := 27) (t2 := 84) hG ha rfl) ha (by decide))), e_s2, zU_at (Or.inl (zne (zr (k := 27) (t2 := 84) hG ha rfl) ha (by decide))), e_s1, zU_at (Or.inr (by decide))])
  have f10 := zf hS0 ha (k := 3) rfl
  have g11 : s4 a 4 = s0 a 4 := (by rw [(zFr_g hF_s4 ha (by decide)), e_s3, zU_at (Or.inl (zne (zr (k := 27) (t2 := 84) hG ha rfl) ha (by decide))), e_s2, zU_at (Or.inl (zne (zr (k := 27) (t2 := 84) hG ha rfl) ha (by decide))), e_s1, zU_at (Or.inr (by decide))])
  have f12 := zf hS0 ha (k := 4) rfl
  have g13 : s4 a 5 = s0 a 5 := (by rw [(zFr_g hF_s4 ha (by decide)), e_s3, zU_at (Or.inl (zne (zr (k := 27) (t2 := 84) hG ha rfl) ha (by decide))), e_s2, zU_at (Or.inl (zne (zr (k := 27) (t2 := 84) hG ha rfl) ha (by decide))), e_s1, zU_at (Or.inr (by decide))])
  have f14 := zf hS0 ha (k := 5) rfl
  have g15 : s4 a 7 = s0 a 7 := (by rw [(zFr_g hF_s4 ha (by decide)), e_s3, zU_at (Or.inl (zne (zr (k := 27) (t2 := 84) hG ha rfl) ha (by decide))), e_s2, zU_at (Or.inl (zne (zr (k := 27) (t2 := 84) hG ha rfl) ha (by decide))), e_s1, zU_at (Or.inr (by decide))])
  have f16 := zf hS0 ha (k := 7) rfl
  have g17 : s4 a 21 = s0 a 21 := (by rw [(zFr_g hF_s4 ha (by decide)), e_s3, zU_at (Or.inl (zne (zr (k := 27) (t2 := 84) hG ha rfl) ha (by decide))), e_s2, zU_at (Or.inl (zne (zr (k := 27) (t2 := 84) hG ha rfl) ha (by decide))), e_s1, zU_at (Or.inr (by decide))])
  have f18 := zf hS0 ha (k := 21) rfl
  have g19 : s4 a 22 = s0 a 22 := (by rw [(zFr_g hF_s4 ha (by decide)), e_s3, zU_at (Or.inl (zne (zr (k := 27) (t2 := 84) hG ha rfl) ha (by decide))), e_s2, zU_at (Or.inl (zne (zr (k := 27) (t2 := 84) hG ha rfl) ha (by decide))), e_s1, zU_at (Or.inr (by decide))])
  have f20 := zf hS0 ha (k := 22) rfl
  have g21 : s4 a 23 = s0 a 23 := (by rw [(zFr_g hF_s4 ha (by decide)), e_s3, zU_at (Or.inl (zne (zr (k := 27) (t2 := 84) hG ha rfl) ha (by decide))), e_s2, zU_at (Or.inl (zne (zr (k := 27) (t2 := 84) hG ha rfl) ha (by decide))), e_s1, zU_at (Or.inr (by decide))])
  have f22 := zf hS0 ha (k := 23) rfl
  have g23 : s4 a 24 = s0 a 24 := (by rw [(zFr_g hF_s4 ha (by decide)), e_s3, zU_at (Or.inl (zne (zr (k := 27) (t2 := 84) hG ha rfl) ha (by decide))), e_s2, zU_at (Or.inl (zne (zr (k := 27) (t2 := 84) hG ha rfl) ha (by decide))), e_s1, zU_at (Or.inr (by decide))])
  have f24 := zf hS0 ha (k := 24) rfl
  have g25 : s4 a 38 = s0 a 38 := (by rw [(zFr_g hF_s4 ha (by decide)), e_s3, zU_at (Or.inl (zne (zr (k := 27) (t2 := 84) hG ha rfl) ha (by decide))), e_s2, zU_at (Or.inl (zne (zr (k := 27) (t2 := 84) hG ha rfl) ha (by decide))), e_s1, zU_at (Or.inr (by decide))])
  have f26 := zf hS0 ha (k := 38) rfl
  have g27 : s4 a 51 = s0 a 51 := (by rw [(zFr_g hF_s4 ha (by decide)), e_s3, zU_at (Or.inl (zne (zr (k := 27) (t2 := 84) hG ha rfl) ha (by decide))), e_s2, zU_at (Or.inl (zne (zr (k := 27) (t2 := 84) hG ha rfl) ha (by decide))), e_s1, zU_at (Or.inr (by decide))])
  have f28 := zf hS0 ha (k := 51) rfl
  have g29 : s4 a 52 = s0 a 52 := (by rw [(zFr_g hF_s4 ha (by decide)), e_s3, zU_at (Or.inl (zne (zr (k := 27) (t2 := 84) hG ha rfl) ha (by decide))), e_s2, zU_at (Or.inl (zne (zr (k := 27) (t2 := 84) hG ha rfl) ha (by decide))), e_s1, zU_at (Or.inr (by decide))])
  have f30 := zf hS0 ha (k := 52) rfl
  exact j_vret hx hq rfl (by decide) (by decide) dX12_draws_27 ⟨rfl, rfl, hS_s4, (zFr_t (zFr_u (zFr_u (zFr_u zFr_rf e_s1 ha (by decide)) e_s2 (zr (k := 27) (t2 := 84) hG ha rfl) (by decide)) e_s3 (zr (k := 27) (t2 := 84) hG ha rfl) (by decide)) hF_s4 (by decide)), ⟨by omega, by omega, by omega, by omega, by omega, by omega, by omega, by omega, by omega, by omega, by omega, by omega, by omega, by omega, by omega⟩⟩

set_option maxHeartbeats 1200000 in
set_option maxRecDepth 20000 in
theorem c_X12_still {E : zE} {l : Launch} (hst : l.stackTraces = false) (a : Nat) : Con E l yX12_still cX12_still 2 (some .int) { frames := 1, cells := 0, slots := 0, locals := 21 } (fun G s vs => vs = [.ref a] ∧ zGK G ∧ zSK G s ∧ (gT G a = 13)) (fun G s _ => pI (fun r G2 s2 => G2 = G ∧ zSK G s2 ∧ zFr [13, 84, 85] G s s2 ∧ ((-2147483648) ≤ r ∧ r ≤ 2147483647) ∧ zc (s2 (gP G a 27)) = zc (s (gP G a 27)) ∧ s2 (gP G a 27) 488 = s (gP G a 27) 488 ∧ (zc (s2 (gP G a 28)) = zc (s (gP G a 28)) ∨ zc (s2 (gP G a 28)) = zc (s (gP G a 27))) ∧ (s2 (gP G a 28) 488 = s (gP G a 28) 488 ∨ s2 (gP G a 28) 488 = s (gP G a 27) 488) ∧ s2 a 3 = s a 3 ∧ s2 a 4 = s a 4 ∧ s2 a 5 = s a 5 ∧ s2 a 7 = s a 7 ∧ s2 a 21 = s a 21 ∧ s2 a 22 = s a 22 ∧ s2 a 23 = s a 23 ∧ s2 a 24 = s a 24 ∧ s2 a 38 = s a 38 ∧ s2 a 51 = s a 51 ∧ s2 a 52 = s a 52)) := by
  refine Con.mk hst (by decide) (fun G s vs h => by rw [h.1]; exact Nat.le_of_ble_eq_true rfl) ?_
  rintro X G s0 vs ⟨rfl, hG, hS0, ha⟩ rfl hx hq
  show JJ X E 2 G s0 0 0 [(0, .ref a)] 0 []
  refine j_aload_n hx 0 dX12_still_0 rfl ?_
  refine j_iconst hx dX12_still_1 ?_
  refine p13_0 hx hG ha kf_RX12_3 dX12_still_2 ?_
  obtain ⟨s1, e_s1⟩ : ∃ z, z = zU s0 a 0 0 := ⟨_, rfl⟩
  rw [← e_s1]
  have hS_s1 : zSK G s1 := by rw [e_s1]; exact zSK_F hS0 ha rfl rfl rfl (by omega)
  refine j_aload_n hx 0 dX12_still_5 rfl ?_
  refine g13_27 hx hG ha kf_RX12_56 dX12_still_6 ?_
  refine j_sipush hx dX12_still_9 rfl ?_
  have f1 := zaQ (j := 490) hS0 (zr (k := 27) (t2 := 84) hG ha rfl) (congrArg some (axS_6 490 (by omega))) (zlen hG (zr (k := 27) (t2 := 84) hG ha rfl) (n := 515) rfl rfl) (show 0 ≤ 490 by omega) (by omega) rfl
  refine j_iald hx hG (zr (k := 27) (t2 := 84) hG ha rfl) (by decide) rfl (zlen hG (zr (k := 27) (t2 := 84) hG ha rfl) (n := 515) rfl rfl) (by omega) (by omega) (j := 490) rfl (v := (s0 (gP G a 27) 490)) (by rw [e_s1, zU_at (Or.inl (zne ha (zr (k := 27) (t2 := 84) hG ha rfl) (by decide)))]) dX12_still_12 ?_
  refine j_istore_n hx [(1, .int (zI ((s0 (gP G a 27) 490)))), (0, .ref a)] dX12_still_13 (by decide) rfl ?_
  refine j_aload_n hx 1 dX12_still_14 rfl ?_
  refine g13_27 hx hG ha kf_RX12_56 dX12_still_15 ?_
  refine j_sipush hx dX12_still_18 rfl ?_
  refine j_iconst hx dX12_still_21 ?_
  refine j_iast hx hG (zr (k := 27) (t2 := 84) hG ha rfl) (by decide) rfl (zlen hG (zr (k := 27) (t2 := 84) hG ha rfl) (n := 515) rfl rfl) (by omega) (by omega) (j := 490) rfl dX12_still_22 ?_
  obtain ⟨s2, e_s2⟩ : ∃ z, z = zU s1 (gP G a 27) 490 0 := ⟨_, rfl⟩
  rw [← e_s2]
  have hS_s2 : zSK G s2 := by rw [e_s2]; exact zSK_a hS_s1 (zr (k := 27) (t2 := 84) hG ha rfl) rfl rfl (congrArg some (axS_6 490 (by omega))) (by omega)
  have g3 : zc (s1 (gP G a 27)) = zc (s0 (gP G a 27)) := by rw [e_s1, zU_ne (zne ha (zr (k := 27) (t2 := 84) hG ha rfl) (by decide))]
  have z2 : zc (s2 (gP G a 27)) = zc (s1 (gP G a 27)) := by rw [e_s2]; exact zc_o (by omega)
  refine j_aload_n hx 1 dX12_still_23 rfl ?_
  have g4 : s2 (gP G a 27) 488 = s0 (gP G a 27) 488 := (by rw [e_s2, zU_at (Or.inr (by decide)), e_s1, zU_at (Or.inl (zne ha (zr (k := 27) (t2 := 84) hG ha rfl) (by decide)))])
  refine j_callV hx hG (c_X12_stays hst a) lk_RX12_207 ha (by decide) rfl rfl rfl rfl [] ⟨rfl, hG, hS_s2, ha⟩ rfl rfl ⟨by decide, by decide⟩ ⟨by decide, by decide⟩ (k2 := 0) (n2 := 0) rfl rfl (Nat.le_of_ble_eq_true rfl) dX12_still_24 (kVM (fun s3 hS_s3 hF_s3 q6 => ?_))
  refine j_iload_n hx 0 dX12_still_27 rfl ?_
  have g7 : zc (s3 (gP G a 27)) = zc (s2 (gP G a 27)) := by rw [hF_s3 (gP G a 27) (by rw [(zr (k := 27) (t2 := 84) hG ha rfl)]; decide)]
  have g8 : s3 (gP G a 27) 488 = s0 (gP G a 27) 488 := (by rw [(zFr_g hF_s3 (zr (k := 27) (t2 := 84) hG ha rfl) (by decide)), e_s2, zU_at (Or.inr (by decide)), e_s1, zU_at (Or.inl (zne ha (zr (k := 27) (t2 := 84) hG ha rfl) (by decide)))])
  have g9 : s3 a 3 = s0 a 3 := (by rw [(zFr_g hF_s3 ha (by decide)), e_s2, zU_at (Or.inl (zne (zr (k := 27) (t2 := 84) hG ha rfl) ha (by decide))), e_s1, zU_at (Or.inr (by decide))])
  have f10 := zf hS0 ha (k := 3) rfl
  have g11 : s3 a 4 = s0 a 4 := (by rw [(zFr_g hF_s3 ha (by decide)), e_s2, zU_at (Or.inl (zne (zr (k := 27) (t2 := 84) hG ha rfl) ha (by decide))), e_s1, zU_at (Or.inr (by decide))])
  have f12 := zf hS0 ha (k := 4) rfl
  have g13 : s3 a 5 = s0 a 5 := (by rw [(zFr_g hF_s3 ha (by decide)), e_s2, zU_at (Or.inl (zne (zr (k := 27) (t2 := 84) hG ha rfl) ha (by decide))), e_s1, zU_at (Or.inr (by decide))])
  have f14 := zf hS0 ha (k := 5) rfl
  have g15 : s3 a 7 = s0 a 7 := (by rw [(zFr_g hF_s3 ha (by decide)), e_s2, zU_at (Or.inl (zne (zr (k := 27) (t2 := 84) hG ha rfl) ha (by decide))), e_s1, zU_at (Or.inr (by decide))])
  have f16 := zf hS0 ha (k := 7) rfl
  have g17 : s3 a 21 = s0 a 21 := (by rw [(zFr_g hF_s3 ha (by decide)), e_s2, zU_at (Or.inl (zne (zr (k := 27) (t2 := 84) hG ha rfl) ha (by decide))), e_s1, zU_at (Or.inr (by decide))])
  have f18 := zf hS0 ha (k := 21) rfl
  have g19 : s3 a 22 = s0 a 22 := (by rw [(zFr_g hF_s3 ha (by decide)), e_s2, zU_at (Or.inl (zne (zr (k := 27) (t2 := 84) hG ha rfl) ha (by decide))), e_s1, zU_at (Or.inr (by decide))])
  have f20 := zf hS0 ha (k := 22) rfl
  have g21 : s3 a 23 = s0 a 23 := (by rw [(zFr_g hF_s3 ha (by decide)), e_s2, zU_at (Or.inl (zne (zr (k := 27) (t2 := 84) hG ha rfl) ha (by decide))), e_s1, zU_at (Or.inr (by decide))])
  have f22 := zf hS0 ha (k := 23) rfl
  have g23 : s3 a 24 = s0 a 24 := (by rw [(zFr_g hF_s3 ha (by decide)), e_s2, zU_at (Or.inl (zne (zr (k := 27) (t2 := 84) hG ha rfl) ha (by decide))), e_s1, zU_at (Or.inr (by decide))])
  have f24 := zf hS0 ha (k := 24) rfl
  have g25 : s3 a 38 = s0 a 38 := (by rw [(zFr_g hF_s3 ha (by decide)), e_s2, zU_at (Or.inl (zne (zr (k := 27) (t2 := 84) hG ha rfl) ha (by decide))), e_s1, zU_at (Or.inr (by decide))])
  have f26 := zf hS0 ha (k := 38) rfl
  have g27 : s3 a 51 = s0 a 51 := (by rw [(zFr_g hF_s3 ha (by decide)), e_s2, zU_at (Or.inl (zne (zr (k := 27) (t2 := 84) hG ha rfl) ha (by decide))), e_s1, zU_at (Or.inr (by decide))])
  have f28 := zf hS0 ha (k := 51) rfl
  have g29 : s3 a 52 = s0 a 52 := (by rw [(zFr_g hF_s3 ha (by decide)), e_s2, zU_at (Or.inl (zne (zr (k := 27) (t2 := 84) hG ha rfl) ha (by decide))), e_s1, zU_at (Or.inr (by decide))])
  have f30 := zf hS0 ha (k := 52) rfl
  exact j_iret hx hq rfl (by decide) (by decide) dX12_still_28 ⟨(s0 (gP G a 27) 490), rfl, rfl, hS_s3, (zFr_t (zFr_u (zFr_u zFr_rf e_s1 ha (by decide)) e_s2 (zr (k := 27) (t2 := 84) hG ha rfl) (by decide)) hF_s3 (by decide)), ⟨(by omega), by omega, by omega, by omega, by omega, by omega, by omega, by omega, by omega, by omega, by omega, by omega, by omega, by omega, by omega, by omega⟩⟩
