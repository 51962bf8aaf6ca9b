set_option maxHeartbeats 4000000 in
set_option maxRecDepth 20000 in
theorem c_X12_keepsRow_92 {E : zE} {l : Launch} (hst : l.stackTraces = false) (a : Nat) (x1 : Int) (b2 : Nat) (x3 : Int) (x4 : Int) : Con E l yX12_keepsRow cX12_keepsRow 6 (some .int) { frames := 0, cells := 0, slots := 0, locals := 0 } (fun G s vs => vs = [.ref a, .int (zI x1), .ref b2, .int (zI x3), .int (zI x4)] ∧ zGK G ∧ zSK G s ∧ (gT G a = 13) ∧ (0 ≤ x1 ∧ x1 ≤ 39663) ∧ (gT G b2 = 92) ∧ (0 ≤ x3 ∧ x3 ≤ 900) ∧ (1 ≤ x4 ∧ x4 ≤ 1) ∧ (x1 + x3 ≤ 39663)) (fun G s _ => pI (fun r G2 s2 => G2 = G ∧ zSK G s2 ∧ zFr [106] G s s2 ∧ (0 ≤ r ∧ r ≤ 39663) ∧ r = x1 + x3)) := by
  refine Con.mk hst (by decide) (fun G s vs h => by rw [h.1]; exact Nat.le_of_ble_eq_true rfl) ?_
  rintro X G s0 vs ⟨rfl, hG, hS0, ha, hx1, hb2, hx3, hx4, e0⟩ rfl hx hq
  show JJ X E 6 G s0 0 0 [(0, .ref a), (1, .int (zI x1)), (2, .ref b2), (3, .int (zI x3)), (4, .int (zI x4))] 0 []
  refine j_iconst hx dX12_keepsRow_0 ?_
  refine j_istore hx [(5, .int (zI 0)), (0, .ref a), (1, .int (zI x1)), (2, .ref b2), (3, .int (zI x3)), (4, .int (zI x4))] dX12_keepsRow_1 (by decide) rfl ?_
  have c3_1 : ∀ (m_c3_1 : Nat) (v1 : Int) (s2 : zS), 2147483648 - v1 < m_c3_1 → (0 ≤ v1 ∧ v1 ≤ 900) → (zSK G s2) → (zFr [106] G s0 s2) → JJ X E 6 G s2 0 0 [(0, .ref a), (1, .int (zI x1)), (2, .ref b2), (3, .int (zI x3)), (4, .int (zI x4)), (5, .int (zI v1))] 3 [] := by
    intro m_c3_1
    induction m_c3_1 with
    | zero => intro v1 s2 hm_c3_1 fA3 hS_s2 hF_s2; exfalso; omega
    | succ m_c3_1 ih_c3_1 => 
      intro v1 s2 hm_c3_1 fA3 hS_s2 hF_s2
      refine j_iload hx 5 dX12_keepsRow_3 rfl ?_
      refine j_iload_n hx 3 dX12_keepsRow_5 rfl ?_
      refine j_icmp_ge hx 49 dX12_keepsRow_6 rfl (by omega) (by omega) (fun h2 => ?_) (fun h2 => ?_)
      · skip
        refine j_iload_n hx 1 dX12_keepsRow_49 rfl ?_
        refine j_iload_n hx 3 dX12_keepsRow_50 rfl ?_
        refine j_iadd hx (r := x1 + x3) dX12_keepsRow_51 rfl ?_
        exact j_iret hx hq rfl (by decide) (by decide) dX12_keepsRow_52 ⟨x1 + x3, rfl, rfl, hS_s2, (zFr_t zFr_rf hF_s2 (by decide)), ⟨(by omega), by omega⟩⟩
      · skip
        refine j_iload hx 4 dX12_keepsRow_9 rfl ?_
        refine j_if_eq hx 30 dX12_keepsRow_11 rfl (by omega) (fun h3 => absurd h3 (by omega)) (fun h3 => ?_)
        refine j_aload_n hx 0 dX12_keepsRow_14 rfl ?_
        refine g13_57 hx hG ha kf_RX12_125 dX12_keepsRow_15 ?_
        refine j_iload_n hx 1 dX12_keepsRow_18 rfl ?_
        refine j_iload hx 5 dX12_keepsRow_19 rfl ?_
        refine j_iadd hx (r := x1 + v1) dX12_keepsRow_21 rfl ?_
        refine j_aload_n hx 2 dX12_keepsRow_22 rfl ?_
        refine j_iload hx 5 dX12_keepsRow_23 rfl ?_
        have f4 := zaI (j := (v1).toNat) hS0 hb2 rfl (zlen hG hb2 (n := 900) rfl rfl) (show 0 ≤ v1 by omega) (by omega) rfl
        refine j_iald hx hG hb2 (by decide) rfl (zlen hG hb2 (n := 900) rfl rfl) (by omega) (by omega) (j := (v1).toNat) rfl (v := (s0 b2 (v1).toNat)) (by rw [(zFr_g hF_s2 hb2 (by decide))]) dX12_keepsRow_25 ?_
        refine j_iast hx hG (zr (k := 57) (t2 := 106) hG ha rfl) (by decide) rfl (zlen hG (zr (k := 57) (t2 := 106) hG ha rfl) (n := 39663) rfl rfl) (by omega) (by omega) (j := (x1 + v1).toNat) rfl dX12_keepsRow_26 ?_
        obtain ⟨s6, e_s6⟩ : ∃ z, z = zU s2 (gP G a 57) (x1 + v1).toNat ((s0 b2 (v1).toNat)) := ⟨_, rfl⟩
        rw [← e_s6]
        have hS_s6 : zSK G s6 := by rw [e_s6]; exact zSK_A hS_s2 (zr (k := 57) (t2 := 106) hG ha rfl) rfl rfl rfl (by omega)
        refine j_goto hx 43 dX12_keepsRow_27 rfl ?_
        refine j_iinc hx 5 [(5, .int (zI (v1 + 1))), (0, .ref a), (1, .int (zI x1)), (2, .ref b2), (3, .int (zI x3)), (4, .int (zI x4))] dX12_keepsRow_43 rfl (by omega) (by decide) rfl ?_
        refine j_goto hx 3 dX12_keepsRow_46 rfl ?_
        exact j_sub [1, 2, 3, 4, 5, 0] [(0, .ref a), (1, .int (zI x1)), (2, .ref b2), (3, .int (zI x3)), (4, .int (zI x4)), (5, .int (zI (v1 + 1)))] rfl (ih_c3_1 (v1 + 1) s6 (by omega) (by omega) hS_s6 (zFr_u (zFr_t zFr_rf hF_s2 (by decide)) e_s6 (zr (k := 57) (t2 := 106) hG ha rfl) (by decide)))
  exact j_sub [1, 2, 3, 4, 5, 0] [(0, .ref a), (1, .int (zI x1)), (2, .ref b2), (3, .int (zI x3)), (4, .int (zI x4)), (5, .int (zI 0))] rfl (c3_1 (2147483648 * 4) 0 s0 (by omega) (by omega) hS0 zFr_rf)

set_option maxHeartbeats 4000000 in
set_option maxRecDepth 20000 in
theorem c_X12_keepsRow_93 {E : zE} {l : Launch} (hst : l.stackTraces = false) (a : Nat) (x1 : Int) (b2 : Nat) (x3 : Int) (x4 : Int) : Con E l yX12_keepsRow cX12_keepsRow 6 (some .int) { frames := 0, cells := 0, slots := 0, locals := 0 } (fun G s vs => vs = [.ref a, .int (zI x1), .ref b2, .int (zI x3), .int (zI x4)] ∧ zGK G ∧ zSK G s ∧ (gT G a = 13) ∧ (0 ≤ x1 ∧ x1 ≤ 39663) ∧ (gT G b2 = 93) ∧ (0 ≤ x3 ∧ x3 ≤ 900) ∧ (1 ≤ x4 ∧ x4 ≤ 1) ∧ (x1 + x3 ≤ 39663)) (fun G s _ => pI (fun r G2 s2 => G2 = G ∧ zSK G s2 ∧ zFr [106] G s s2 ∧ (0 ≤ r ∧ r ≤ 39663) ∧ r = x1 + x3)) := by
  refine Con.mk hst (by decide) (fun G s vs h => by rw [h.1]; exact Nat.le_of_ble_eq_true rfl) ?_
  rintro X G s0 vs ⟨rfl, hG, hS0, ha, hx1, hb2, hx3, hx4, e0⟩ rfl hx hq
  show JJ X E 6 G s0 0 0 [(0, .ref a), (1, .int (zI x1)), (2, .ref b2), (3, .int (zI x3)), (4, .int (zI x4))] 0 []
  refine j_iconst hx dX12_keepsRow_0 ?_
  refine j_istore hx [(5, .int (zI 0)), (0, .ref a), (1, .int (zI x1)), (2, .ref b2), (3, .int (zI x3)), (4, .int (zI x4))] dX12_keepsRow_1 (by decide) rfl ?_
  have c3_1 : ∀ (m_c3_1 : Nat) (v1 : Int) (s2 : zS), 2147483648 - v1 < m_c3_1 → (0 ≤ v1 ∧ v1 ≤ 900) → (zSK G s2) → (zFr [106] G s0 s2) → JJ X E 6 G s2 0 0 [(0, .ref a), (1, .int (zI x1)), (2, .ref b2), (3, .int (zI x3)), (4, .int (zI x4)), (5, .int (zI v1))] 3 [] := by
    intro m_c3_1
    induction m_c3_1 with
    | zero => intro v1 s2 hm_c3_1 fA3 hS_s2 hF_s2; exfalso; omega
    | succ m_c3_1 ih_c3_1 => 
      intro v1 s2 hm_c3_1 fA3 hS_s2 hF_s2
      refine j_iload hx 5 dX12_keepsRow_3 rfl ?_
      refine j_iload_n hx 3 dX12_keepsRow_5 rfl ?_
      refine j_icmp_ge hx 49 dX12_keepsRow_6 rfl (by omega) (by omega) (fun h2 => ?_) (fun h2 => ?_)
      · skip
        refine j_iload_n hx 1 dX12_keepsRow_49 rfl ?_
        refine j_iload_n hx 3 dX12_keepsRow_50 rfl ?_
        refine j_iadd hx (r := x1 + x3) dX12_keepsRow_51 rfl ?_
        exact j_iret hx hq rfl (by decide) (by decide) dX12_keepsRow_52 ⟨x1 + x3, rfl, rfl, hS_s2, (zFr_t zFr_rf hF_s2 (by decide)), ⟨(by omega), by omega⟩⟩
      · skip
        refine j_iload hx 4 dX12_keepsRow_9 rfl ?_
        refine j_if_eq hx 30 dX12_keepsRow_11 rfl (by omega) (fun h3 => absurd h3 (by omega)) (fun h3 => ?_)
        refine j_aload_n hx 0 dX12_keepsRow_14 rfl ?_
        refine g13_57 hx hG ha kf_RX12_125 dX12_keepsRow_15 ?_
        refine j_iload_n hx 1 dX12_keepsRow_18 rfl ?_
        refine j_iload hx 5 dX12_keepsRow_19 rfl ?_
        refine j_iadd hx (r := x1 + v1) dX12_keepsRow_21 rfl ?_
        refine j_aload_n hx 2 dX12_keepsRow_22 rfl ?_
        refine j_iload hx 5 dX12_keepsRow_23 rfl ?_
        have f4 := zaI (j := (v1).toNat) hS0 hb2 rfl (zlen hG hb2 (n := 900) rfl rfl) (show 0 ≤ v1 by omega) (by omega) rfl
        refine j_iald hx hG hb2 (by decide) rfl (zlen hG hb2 (n := 900) rfl rfl) (by omega) (by omega) (j := (v1).toNat) rfl (v := (s0 b2 (v1).toNat)) (by rw [(zFr_g hF_s2 hb2 (by decide))]) dX12_keepsRow_25 ?_
        refine j_iast hx hG (zr (k := 57) (t2 := 106) hG ha rfl) (by decide) rfl (zlen hG (zr (k := 57) (t2 := 106) hG ha rfl) (n := 39663) rfl rfl) (by omega) (by omega) (j := (x1 + v1).toNat) rfl dX12_keepsRow_26 ?_
        obtain ⟨s6, e_s6⟩ : ∃ z, z = zU s2 (gP G a 57) (x1 + v1).toNat ((s0 b2 (v1).toNat)) := ⟨_, rfl⟩
        rw [← e_s6]
        have hS_s6 : zSK G s6 := by rw [e_s6]; exact zSK_A hS_s2 (zr (k := 57) (t2 := 106) hG ha rfl) rfl rfl rfl (by omega)
        refine j_goto hx 43 dX12_keepsRow_27 rfl ?_
        refine j_iinc hx 5 [(5, .int (zI (v1 + 1))), (0, .ref a), (1, .int (zI x1)), (2, .ref b2), (3, .int (zI x3)), (4, .int (zI x4))] dX12_keepsRow_43 rfl (by omega) (by decide) rfl ?_
        refine j_goto hx 3 dX12_keepsRow_46 rfl ?_
        exact j_sub [1, 2, 3, 4, 5, 0] [(0, .ref a), (1, .int (zI x1)), (2, .ref b2), (3, .int (zI x3)), (4, .int (zI x4)), (5, .int (zI (v1 + 1)))] rfl (ih_c3_1 (v1 + 1) s6 (by omega) (by omega) hS_s6 (zFr_u (zFr_t zFr_rf hF_s2 (by decide)) e_s6 (zr (k := 57) (t2 := 106) hG ha rfl) (by decide)))
  exact j_sub [1, 2, 3, 4, 5, 0] [(0, .ref a), (1, .int (zI x1)), (2, .ref b2), (3, .int (zI x3)), (4, .int (zI x4)), (5, .int (zI 0))] rfl (c3_1 (2147483648 * 4) 0 s0 (by omega) (by omega) hS0 zFr_rf)

set_option maxHeartbeats 4000000 in
set_option maxRecDepth 20000 in
theorem c_X12_keepsRow_94 {E : zE} {l : Launch} (hst : l.stackTraces = false) (a : Nat) (x1 : Int) (b2 : Nat) (x3 : Int) (x4 : Int) : Con E l yX12_keepsRow cX12_keepsRow 6 (some .int) { frames := 0, cells := 0, slots := 0, locals := 0 } (fun G s vs => vs = [.ref a, .int (zI x1), .ref b2, .int (zI x3), .int (zI x4)] ∧ zGK G ∧ zSK G s ∧ (gT G a = 13) ∧ (0 ≤ x1 ∧ x1 ≤ 39663) ∧ (gT G b2 = 94) ∧ (0 ≤ x3 ∧ x3 ≤ 6) ∧ (1 ≤ x4 ∧ x4 ≤ 1) ∧ (x1 + x3 ≤ 39663)) (fun G s _ => pI (fun r G2 s2 => G2 = G ∧ zSK G s2 ∧ zFr [106] G s s2 ∧ (0 ≤ r ∧ r ≤ 39663) ∧ r = x1 + x3)) := by
  refine Con.mk hst (by decide) (fun G s vs h => by rw [h.1]; exact Nat.le_of_ble_eq_true rfl) ?_
  rintro X G s0 vs ⟨rfl, hG, hS0, ha, hx1, hb2, hx3, hx4, e0⟩ rfl hx hq
  show JJ X E 6 G s0 0 0 [(0, .ref a), (1, .int (zI x1)), (2, .ref b2), (3, .int (zI x3)), (4, .int (zI x4))] 0 []
  refine j_iconst hx dX12_keepsRow_0 ?_
  refine j_istore hx [(5, .int (zI 0)), (0, .ref a), (1, .int (zI x1)), (2, .ref b2), (3, .int (zI x3)), (4, .int (zI x4))] dX12_keepsRow_1 (by decide) rfl ?_
  have c3_1 : ∀ (m_c3_1 : Nat) (v1 : Int) (s2 : zS), 2147483648 - v1 < m_c3_1 → (0 ≤ v1 ∧ v1 ≤ 6) → (zSK G s2) → (zFr [106] G s0 s2) → JJ X E 6 G s2 0 0 [(0, .ref a), (1, .int (zI x1)), (2, .ref b2), (3, .int (zI x3)), (4, .int (zI x4)), (5, .int (zI v1))] 3 [] := by
    intro m_c3_1
    induction m_c3_1 with
    | zero => intro v1 s2 hm_c3_1 fA3 hS_s2 hF_s2; exfalso; omega
    | succ m_c3_1 ih_c3_1 => 
      intro v1 s2 hm_c3_1 fA3 hS_s2 hF_s2
      refine j_iload hx 5 dX12_keepsRow_3 rfl ?_
      refine j_iload_n hx 3 dX12_keepsRow_5 rfl ?_
      refine j_icmp_ge hx 49 dX12_keepsRow_6 rfl (by omega) (by omega) (fun h2 => ?_) (fun h2 => ?_)
      · skip
        refine j_iload_n hx 1 dX12_keepsRow_49 rfl ?_
        refine j_iload_n hx 3 dX12_keepsRow_50 rfl ?_
        refine j_iadd hx (r := x1 + x3) dX12_keepsRow_51 rfl ?_
        exact j_iret hx hq rfl (by decide) (by decide) dX12_keepsRow_52 ⟨x1 + x3, rfl, rfl, hS_s2, (zFr_t zFr_rf hF_s2 (by decide)), ⟨(by omega), by omega⟩⟩
      · skip
        refine j_iload hx 4 dX12_keepsRow_9 rfl ?_
        refine j_if_eq hx 30 dX12_keepsRow_11 rfl (by omega) (fun h3 => absurd h3 (by omega)) (fun h3 => ?_)
        refine j_aload_n hx 0 dX12_keepsRow_14 rfl ?_
        refine g13_57 hx hG ha kf_RX12_125 dX12_keepsRow_15 ?_
        refine j_iload_n hx 1 dX12_keepsRow_18 rfl ?_
        refine j_iload hx 5 dX12_keepsRow_19 rfl ?_
        refine j_iadd hx (r := x1 + v1) dX12_keepsRow_21 rfl ?_
        refine j_aload_n hx 2 dX12_keepsRow_22 rfl ?_
        refine j_iload hx 5 dX12_keepsRow_23 rfl ?_
        have f4 := zaI (j := (v1).toNat) hS0 hb2 rfl (zlen hG hb2 (n := 6) rfl rfl) (show 0 ≤ v1 by omega) (by omega) rfl
        refine j_iald hx hG hb2 (by decide) rfl (zlen hG hb2 (n := 6) rfl rfl) (by omega) (by omega) (j := (v1).toNat) rfl (v := (s0 b2 (v1).toNat)) (by rw [(zFr_g hF_s2 hb2 (by decide))]) dX12_keepsRow_25 ?_
        refine j_iast hx hG (zr (k := 57) (t2 := 106) hG ha rfl) (by decide) rfl (zlen hG (zr (k := 57) (t2 := 106) hG ha rfl) (n := 39663) rfl rfl) (by omega) (by omega) (j := (x1 + v1).toNat) rfl dX12_keepsRow_26 ?_
        obtain ⟨s6, e_s6⟩ : ∃ z, z = zU s2 (gP G a 57) (x1 + v1).toNat ((s0 b2 (v1).toNat)) := ⟨_, rfl⟩
        rw [← e_s6]
        have hS_s6 : zSK G s6 := by rw [e_s6]; exact zSK_A hS_s2 (zr (k := 57) (t2 := 106) hG ha rfl) rfl rfl rfl (by omega)
        refine j_goto hx 43 dX12_keepsRow_27 rfl ?_
        refine j_iinc hx 5 [(5, .int (zI (v1 + 1))), (0, .ref a), (1, .int (zI x1)), (2, .ref b2), (3, .int (zI x3)), (4, .int (zI x4))] dX12_keepsRow_43 rfl (by omega) (by decide) rfl ?_
        refine j_goto hx 3 dX12_keepsRow_46 rfl ?_
        exact j_sub [1, 2, 3, 4, 5, 0] [(0, .ref a), (1, .int (zI x1)), (2, .ref b2), (3, .int (zI x3)), (4, .int (zI x4)), (5, .int (zI (v1 + 1)))] rfl (ih_c3_1 (v1 + 1) s6 (by omega) (by omega) hS_s6 (zFr_u (zFr_t zFr_rf hF_s2 (by decide)) e_s6 (zr (k := 57) (t2 := 106) hG ha rfl) (by decide)))
  exact j_sub [1, 2, 3, 4, 5, 0] [(0, .ref a), (1, .int (zI x1)), (2, .ref b2), (3, .int (zI x3)), (4, .int (zI x4)), (5, .int (zI 0))] rfl (c3_1 (2147483648 * 4) 0 s0 (by omega) (by omega) hS0 zFr_rf)

theorem lk_RX12_498 : LkV RX12 498 RX12 yX12_keepsRow cX12_keepsRow 6 (some .int) 4 := ⟨km_RX12_498, ki_yX12_keepsRow, ks_RX12_yX12_keepsRow, kn_RX12, kc_yX12_keepsRow, rfl, by decide +kernel, by decide +kernel, by decide +kernel⟩
set_option maxHeartbeats 4000000 in
set_option maxRecDepth 20000 in
theorem c_X12_keepsAll {E : zE} {l : Launch} (hst : l.stackTraces = false) (a : Nat) (x1 : Int) (x2 : Int) : Con E l yX12_keepsAll cX12_keepsAll 4 none { frames := 1, cells := 0, slots := 0, locals := 25 } (fun G s vs => vs = [.ref a, .int (zI x1), .int (zI x2)] ∧ zGK G ∧ zSK G s ∧ (gT G a = 13) ∧ (0 ≤ x1 ∧ x1 ≤ 0) ∧ (1 ≤ x2 ∧ x2 ≤ 1)) (fun G s _ => pV (fun G2 s2 => G2 = G ∧ zSK G s2 ∧ zFr [106] G s s2 ∧ True)) := by
  refine Con.mk hst (by decide) (fun G s vs h => by rw [h.1]; exact Nat.le_of_ble_eq_true rfl) ?_
  rintro X G s0 vs ⟨rfl, hG, hS0, ha, hx1, hx2⟩ rfl hx hq
  show JJ X E 4 G s0 0 0 [(0, .ref a), (1, .int (zI x1)), (2, .int (zI x2))] 0 []
  refine j_aload_n hx 0 dX12_keepsAll_0 rfl ?_
  refine j_sipush hx dX12_keepsAll_1 rfl ?_
  refine j_iload_n hx 1 dX12_keepsAll_4 rfl ?_
  refine j_imul hx (r := 13221 * x1) dX12_keepsAll_5 rfl ?_
  refine j_aload_n hx 0 dX12_keepsAll_6 rfl ?_
  refine g13_27 hx hG ha kf_RX12_56 dX12_keepsAll_7 ?_
  refine j_sipush hx dX12_keepsAll_10 rfl ?_
  refine j_iload_n hx 2 dX12_keepsAll_13 rfl ?_
  refine j_callV hx hG (c_X12_keepsRow_84 hst a (13221 * x1) (gP G a 27) 515 x2) lk_RX12_498 ha (by decide) rfl rfl rfl rfl [.int (zI (13221 * x1)), .ref (gP G a 27), .int (zI 515), .int (zI x2)] ⟨rfl, hG, hS0, ha, (by omega), (zr (k := 27) (t2 := 84) hG ha rfl), (by omega), (by omega), (by omega)⟩ rfl rfl ⟨by decide, by decide⟩ ⟨by decide, by decide⟩ (k2 := 0) (n2 := 0) rfl rfl (Nat.le_of_ble_eq_true rfl) dX12_keepsAll_14 (kIM (fun v1 s1 hS_s1 hF_s1 q2 => ?_))
  refine j_istore_n hx [(3, .int (zI v1)), (0, .ref a), (1, .int (zI x1)), (2, .int (zI x2))] dX12_keepsAll_17 (by decide) rfl ?_
  refine j_aload_n hx 1 dX12_keepsAll_18 rfl ?_
  refine j_iload_n hx 0 dX12_keepsAll_19 rfl ?_
  refine j_aload_n hx 1 dX12_keepsAll_20 rfl ?_
  refine g13_29 hx hG ha kf_RX12_62 dX12_keepsAll_21 ?_
  refine j_sipush hx dX12_keepsAll_24 rfl ?_
  refine j_iload_n hx 3 dX12_keepsAll_27 rfl ?_
  refine j_callV hx hG (c_X12_keepsRow_86 hst a v1 (gP G a 29) 10000 x2) lk_RX12_498 ha (by decide) rfl rfl rfl rfl [.int (zI v1), .ref (gP G a 29), .int (zI 10000), .int (zI x2)] ⟨rfl, hG, hS_s1, ha, (by omega), (zr (k := 29) (t2 := 86) hG ha rfl), (by omega), (by omega), (by omega)⟩ rfl rfl ⟨by decide, by decide⟩ ⟨by decide, by decide⟩ (k2 := 0) (n2 := 0) rfl rfl (Nat.le_of_ble_eq_true rfl) dX12_keepsAll_28 (kIM (fun v3 s2 hS_s2 hF_s2 q4 => ?_))
  refine j_istore_n hx [(3, .int (zI v3)), (0, .ref a), (1, .int (zI x1)), (2, .int (zI x2))] dX12_keepsAll_31 (by decide) rfl ?_
  refine j_aload_n hx 1 dX12_keepsAll_32 rfl ?_
  refine j_iload_n hx 0 dX12_keepsAll_33 rfl ?_
  refine j_aload_n hx 1 dX12_keepsAll_34 rfl ?_
  refine g13_34 hx hG ha kf_RX12_77 dX12_keepsAll_35 ?_
  refine j_sipush hx dX12_keepsAll_38 rfl ?_
  refine j_iload_n hx 3 dX12_keepsAll_41 rfl ?_
  refine j_callV hx hG (c_X12_keepsRow_91 hst a v3 (gP G a 34) 900 x2) lk_RX12_498 ha (by decide) rfl rfl rfl rfl [.int (zI v3), .ref (gP G a 34), .int (zI 900), .int (zI x2)] ⟨rfl, hG, hS_s2, ha, (by omega), (zr (k := 34) (t2 := 91) hG ha rfl), (by omega), (by omega), (by omega)⟩ rfl rfl ⟨by decide, by decide⟩ ⟨by decide, by decide⟩ (k2 := 0) (n2 := 0) rfl rfl (Nat.le_of_ble_eq_true rfl) dX12_keepsAll_42 (kIM (fun v5 s3 hS_s3 hF_s3 q6 => ?_))
  refine j_istore_n hx [(3, .int (zI v5)), (0, .ref a), (1, .int (zI x1)), (2, .int (zI x2))] dX12_keepsAll_45 (by decide) rfl ?_
  refine j_aload_n hx 1 dX12_keepsAll_46 rfl ?_
  refine j_iload_n hx 0 dX12_keepsAll_47 rfl ?_
  refine j_aload_n hx 1 dX12_keepsAll_48 rfl ?_
  refine g13_35 hx hG ha kf_RX12_80 dX12_keepsAll_49 ?_
  refine j_sipush hx dX12_keepsAll_52 rfl ?_
  refine j_iload_n hx 3 dX12_keepsAll_55 rfl ?_
  refine j_callV hx hG (c_X12_keepsRow_92 hst a v5 (gP G a 35) 900 x2) lk_RX12_498 ha (by decide) rfl rfl rfl rfl [.int (zI v5), .ref (gP G a 35), .int (zI 900), .int (zI x2)] ⟨rfl, hG, hS_s3, ha, (by omega), (zr (k := 35) (t2 := 92) hG ha rfl), (by omega), (by omega), (by omega)⟩ rfl rfl ⟨by decide, by decide⟩ ⟨by decide, by decide⟩ (k2 := 0) (n2 := 0) rfl rfl (Nat.le_of_ble_eq_true rfl) dX12_keepsAll_56 (kIM (fun v7 s4 hS_s4 hF_s4 q8 => ?_))
  refine j_istore_n hx [(3, .int (zI v7)), (0, .ref a), (1, .int (zI x1)), (2, .int (zI x2))] dX12_keepsAll_59 (by decide) rfl ?_
  refine j_aload_n hx 1 dX12_keepsAll_60 rfl ?_
  refine j_iload_n hx 0 dX12_keepsAll_61 rfl ?_
  refine j_aload_n hx 1 dX12_keepsAll_62 rfl ?_
  refine g13_36 hx hG ha kf_RX12_83 dX12_keepsAll_63 ?_
  refine j_sipush hx dX12_keepsAll_66 rfl ?_
  refine j_iload_n hx 3 dX12_keepsAll_69 rfl ?_
  refine j_callV hx hG (c_X12_keepsRow_93 hst a v7 (gP G a 36) 900 x2) lk_RX12_498 ha (by decide) rfl rfl rfl rfl [.int (zI v7), .ref (gP G a 36), .int (zI 900), .int (zI x2)] ⟨rfl, hG, hS_s4, ha, (by omega), (zr (k := 36) (t2 := 93) hG ha rfl), (by omega), (by omega), (by omega)⟩ rfl rfl ⟨by decide, by decide⟩ ⟨by decide, by decide⟩ (k2 := 0) (n2 := 0) rfl rfl (Nat.le_of_ble_eq_true rfl) dX12_keepsAll_70 (kIM (fun v9 s5 hS_s5 hF_s5 q10 => ?_))
  refine j_istore_n hx [(3, .int (zI v9)), (0, .ref a), (1, .int (zI x1)), (2, .int (zI x2))] dX12_keepsAll_73 (by decide) rfl ?_
  refine j_aload_n hx 1 dX12_keepsAll_74 rfl ?_
  refine j_iload_n hx 0 dX12_keepsAll_75 rfl ?_
  refine j_aload_n hx 1 dX12_keepsAll_76 rfl ?_
  refine g13_37 hx hG ha kf_RX12_86 dX12_keepsAll_77 ?_
  refine j_bipush hx dX12_keepsAll_80 rfl ?_
  refine j_iload_n hx 3 dX12_keepsAll_82 rfl ?_
  refine j_callV hx hG (c_X12_keepsRow_94 hst a v9 (gP G a 37) 6 x2) lk_RX12_498 ha (by decide) rfl rfl rfl rfl [.int (zI v9), .ref (gP G a 37), .int (zI 6), .int (zI x2)] ⟨rfl, hG, hS_s5, ha, (by omega), (zr (k := 37) (t2 := 94) hG ha rfl), (by omega), (by omega), (by omega)⟩ rfl rfl ⟨by decide, by decide⟩ ⟨by decide, by decide⟩ (k2 := 0) (n2 := 0) rfl rfl (Nat.le_of_ble_eq_true rfl) dX12_keepsAll_83 (kIM (fun v11 s6 hS_s6 hF_s6 q12 => ?_))
  refine j_pop hx dX12_keepsAll_86 rfl ?_
  exact j_vret hx hq rfl (by decide) (by decide) dX12_keepsAll_87 ⟨rfl, rfl, hS_s6, (zFr_t (zFr_t (zFr_t (zFr_t (zFr_t (zFr_t zFr_rf hF_s1 (by decide)) hF_s2 (by decide)) hF_s3 (by decide)) hF_s4 (by decide)) hF_s5 (by decide)) hF_s6 (by decide)), trivial⟩

theorem lk_RX12_502 : LkV RX12 502 RX12 yX12_keepsAll cX12_keepsAll 4 none 2 := ⟨km_RX12_502, ki_yX12_keepsAll, ks_RX12_yX12_keepsAll, kn_RX12, kc_yX12_keepsAll, rfl, by decide +kernel, by decide +kernel, by decide +kernel⟩
set_option maxHeartbeats 4000000 in
set_option maxRecDepth 20000 in
theorem c_X12_image {E : zE} {l : Launch} (hst : l.stackTraces = false) (a : Nat) : Con E l yX12_image cX12_image 1 (some .int) { frames := 2, cells := 0, slots := 0, locals := 48 } (fun G s vs => vs = [.ref a] ∧ zGK G ∧ zSK G s ∧ (gT G a = 13) ∧ (zS0m G s)) (fun G s _ => pI (fun r G2 s2 => G2 = G ∧ zSK G s2 ∧ zFr [13, 106] G s s2 ∧ (1 ≤ r ∧ r ≤ 1) ∧ s2 a 0 = 0)) := by
  refine Con.mk hst (by decide) (fun G s vs h => by rw [h.1]; exact Nat.le_of_ble_eq_true rfl) ?_
  rintro X G s0 vs ⟨rfl, hG, hS0, ha, hF0⟩ rfl hx hq
  show JJ X E 1 G s0 0 0 [(0, .ref a)] 0 []
  refine j_aload_n hx 0 dX12_image_0 rfl ?_
  refine j_iconst hx dX12_image_1 ?_
  refine p13_0 hx hG ha kf_RX12_3 dX12_image_2 ?_
  obtain ⟨s1, e_s1⟩ : ∃ z, z = zU s0 a 0 0 := ⟨_, rfl⟩
  rw [← e_s1]
  have hS_s1 : zSK G s1 := by rw [e_s1]; exact zSK_F hS0 ha rfl rfl rfl (by omega)
  refine j_aload_n hx 0 dX12_image_5 rfl ?_
  have f1 := z0fm hF0 ha (by decide) (k := 58) rfl
  refine g13_58 hx hG ha kf_RX12_201 (v := (s0 a 58)) (by rw [e_s1, zU_at (Or.inr (by decide))]) dX12_image_6 ?_
  refine j_iconst hx dX12_image_9 ?_
  refine j_icmp_ne hx 15 dX12_image_10 rfl (by omega) ⟨by decide, by decide⟩ (fun h2 => ?_) (fun h2 => absurd h2 (by omega))
  refine j_aload_n hx 0 dX12_image_15 rfl ?_
  refine j_aload_n hx 0 dX12_image_16 rfl ?_
  refine g13_58 hx hG ha kf_RX12_201 (v := (s0 a 58)) (by rw [e_s1, zU_at (Or.inr (by decide))]) dX12_image_17 ?_
  refine j_iconst hx dX12_image_20 ?_
  refine j_callV hx hG (c_X12_keepsAll hst a ((s0 a 58)) 1) lk_RX12_502 ha (by decide) rfl rfl rfl rfl [.int (zI ((s0 a 58))), .int (zI 1)] ⟨rfl, hG, hS_s1, ha, (by omega), (by omega)⟩ rfl rfl ⟨by decide, by decide⟩ ⟨by decide, by decide⟩ (k2 := 0) (n2 := 0) rfl rfl (Nat.le_of_ble_eq_true rfl) dX12_image_21 (kVM (fun s2 hS_s2 hF_s2 q4 => ?_))
  refine j_aload_n hx 0 dX12_image_24 rfl ?_
  refine j_dup hx dX12_image_25 rfl ?_
  refine g13_58 hx hG ha kf_RX12_201 (v := (s0 a 58)) (by rw [(zFr_g hF_s2 ha (by decide)), e_s1, zU_at (Or.inr (by decide))]) dX12_image_26 ?_
  refine j_iconst hx dX12_image_29 ?_
  refine j_iadd hx (r := (s0 a 58) + 1) dX12_image_30 (by omega) ?_
  refine p13_58 hx hG ha kf_RX12_201 dX12_image_31 ?_
  obtain ⟨s3, e_s3⟩ : ∃ z, z = zU s2 a 58 ((s0 a 58) + 1) := ⟨_, rfl⟩
  rw [← e_s3]
  have hS_s3 : zSK G s3 := by rw [e_s3]; exact zSK_F hS_s2 ha rfl rfl rfl (by omega)
  refine j_aload_n hx 0 dX12_image_34 rfl ?_
  refine g13_58 hx hG ha kf_RX12_201 (v := (s0 a 58) + 1) (by rw [e_s3, zU_eq]) dX12_image_35 ?_
  have g5 : s3 a 0 = 0 := (by rw [e_s3, zU_at (Or.inr (by decide)), (zFr_g hF_s2 ha (by decide)), e_s1, zU_eq])
  exact j_iret hx hq rfl (by decide) (by decide) dX12_image_38 ⟨(s0 a 58) + 1, rfl, rfl, hS_s3, (zFr_u (zFr_t (zFr_u zFr_rf e_s1 ha (by decide)) hF_s2 (by decide)) e_s3 ha (by decide)), ⟨(by omega), by omega⟩⟩

set_option maxHeartbeats 4000000 in
set_option maxRecDepth 20000 in
theorem c_X12_restore {E : zE} {l : Launch} (hst : l.stackTraces = false) (a : Nat) : Con E l yX12_restore cX12_restore 1 (some .int) { frames := 0, cells := 0, slots := 0, locals := 0 } (fun G s vs => vs = [.ref a] ∧ zGK G ∧ zSK G s ∧ (gT G a = 13) ∧ (zS0m G s)) (fun G s _ => pI (fun r G2 s2 => G2 = G ∧ zSK G s2 ∧ zFr [13, 85, 87, 106] G s s2 ∧ ((-1) ≤ r ∧ r ≤ (-1)) ∧ s2 a 0 = 0)) := by
  refine Con.mk hst (by decide) (fun G s vs h => by rw [h.1]; exact Nat.le_of_ble_eq_true rfl) ?_
  rintro X G s0 vs ⟨rfl, hG, hS0, ha, hF0⟩ rfl hx hq
  show JJ X E 1 G s0 0 0 [(0, .ref a)] 0 []
  refine j_aload_n hx 0 dX12_restore_0 rfl ?_
  refine j_iconst hx dX12_restore_1 ?_
  refine p13_0 hx hG ha kf_RX12_3 dX12_restore_2 ?_
  obtain ⟨s1, e_s1⟩ : ∃ z, z = zU s0 a 0 0 := ⟨_, rfl⟩
  rw [← e_s1]
  have hS_s1 : zSK G s1 := by rw [e_s1]; exact zSK_F hS0 ha rfl rfl rfl (by omega)
  refine j_aload_n hx 0 dX12_restore_5 rfl ?_
  have f1 := z0fm hF0 ha (by decide) (k := 58) rfl
  refine g13_58 hx hG ha kf_RX12_201 (v := (s0 a 58)) (by rw [e_s1, zU_at (Or.inr (by decide))]) dX12_restore_6 ?_
  refine j_if_ne hx 14 dX12_restore_9 rfl (by omega) (fun h2 => absurd h2 (by omega)) (fun h2 => ?_)
  refine j_iconst hx dX12_restore_12 ?_
  have g3 : s1 a 0 = 0 := (by rw [e_s1, zU_eq])
  exact j_iret hx hq rfl (by decide) (by decide) dX12_restore_13 ⟨(-1), rfl, rfl, hS_s1, (zFr_u zFr_rf e_s1 ha (by decide)), ⟨(by omega), by omega⟩⟩

set_option maxHeartbeats 4000000 in
set_option maxRecDepth 20000 in
theorem c_X12_status {E : zE} {l : Launch} (hst : l.stackTraces = false) (a : Nat) (x1 : Int) : Con E l yX12_status cX12_status 2 (some .int) { frames := 1, cells := 0, slots := 0, locals := 22 } (fun G s vs => vs = [.ref a, .int (zI x1)] ∧ zGK G ∧ zSK G s ∧ (gT G a = 13) ∧ ((-2147483648) ≤ x1 ∧ x1 ≤ 2147483647) ∧ (zS0m G s)) (fun G s _ => pI (fun r G2 s2 => G2 = G ∧ zSK G s2 ∧ zFr [13] G s s2 ∧ ((-1) ≤ r ∧ r ≤ 0) ∧ (s2 a 0 = 0 ∧ (((x1 = 0 ∨ x1 = 1) → r = 0) ∧ (¬ (x1 = 0 ∨ x1 = 1) → r = -1))))) := by
  refine Con.mk hst (by decide) (fun G s vs h => by rw [h.1]; exact Nat.le_of_ble_eq_true rfl) ?_
  rintro X G s0 vs ⟨rfl, hG, hS0, ha, hx1, hF0⟩ rfl hx hq
  show JJ X E 2 G s0 0 0 [(0, .ref a), (1, .int (zI x1))] 0 []
  refine j_aload_n hx 0 dX12_status_0 rfl ?_
  refine j_iconst hx dX12_status_1 ?_
  refine p13_0 hx hG ha kf_RX12_3 dX12_status_2 ?_
  obtain ⟨s1, e_s1⟩ : ∃ z, z = zU s0 a 0 0 := ⟨_, rfl⟩
  rw [← e_s1]
  have hS_s1 : zSK G s1 := by rw [e_s1]; exact zSK_F hS0 ha rfl rfl rfl (by omega)
  refine j_iload_n hx 1 dX12_status_5 rfl ?_
  refine j_iconst hx dX12_status_6 ?_
  refine j_iconst hx dX12_status_7 ?_
  refine j_callS hx (c_X12_within hst x1 0 1) lk_RX12_314 [.int (zI x1), .int (zI 0), .int (zI 1)] ⟨rfl, hG, hS_s1, (by omega), (by omega), (by omega)⟩ rfl rfl ⟨by decide, by decide⟩ ⟨by decide, by decide⟩ (k2 := 0) (n2 := 0) rfl rfl (Nat.le_of_ble_eq_true rfl) dX12_status_8 (kIP (fun v1 q2 => ?_))
  refine j_if_eq hx 23 dX12_status_11 rfl (by omega) (fun h3 => ?_) (fun h3 => ?_)
  · skip
    refine j_iconst hx dX12_status_23 ?_
    have g4 : s1 a 0 = 0 := (by rw [e_s1, zU_eq])
    exact j_iret hx hq rfl (by decide) (by decide) dX12_status_24 ⟨(-1), rfl, rfl, hS_s1, (zFr_u zFr_rf e_s1 ha (by decide)), ⟨(by omega), by omega⟩⟩
  · skip
    refine j_aload_n hx 0 dX12_status_14 rfl ?_
    refine g13_1 hx hG ha kf_RX12_7 dX12_status_15 ?_
    refine j_iload_n hx 1 dX12_status_18 rfl ?_
    have f5 := z0am (j := (x1).toNat) hF0 (zr (k := 1) (t2 := 71) hG ha rfl) (by decide) rfl (zlen hG (zr (k := 1) (t2 := 71) hG ha rfl) (n := 2) rfl rfl) (show 0 ≤ x1 by omega) (by omega) rfl
    refine j_iald hx hG (zr (k := 1) (t2 := 71) hG ha rfl) (by decide) rfl (zlen hG (zr (k := 1) (t2 := 71) hG ha rfl) (n := 2) rfl rfl) (by omega) (by omega) (j := (x1).toNat) rfl (v := (s0 (gP G a 1) (x1).toNat)) (by rw [e_s1, zU_at (Or.inl (zne ha (zr (k := 1) (t2 := 71) hG ha rfl) (by decide)))]) dX12_status_19 ?_
    refine j_goto hx 24 dX12_status_20 rfl ?_
    have g6 : s1 a 0 = 0 := (by rw [e_s1, zU_eq])
    exact j_iret hx hq rfl (by decide) (by decide) dX12_status_24 ⟨(s0 (gP G a 1) (x1).toNat), rfl, rfl, hS_s1, (zFr_u zFr_rf e_s1 ha (by decide)), ⟨(by omega), by omega⟩⟩

set_option maxHeartbeats 4000000 in
set_option maxRecDepth 20000 in
theorem c_X12_count {E : zE} {l : Launch} (hst : l.stackTraces = false) (a : Nat) (x1 : Int) : Con E l yX12_count cX12_count 2 (some .int) { frames := 0, cells := 0, slots := 0, locals := 0 } (fun G s vs => vs = [.ref a, .int (zI x1)] ∧ zGK G ∧ zSK G s ∧ (gT G a = 13) ∧ ((-2147483648) ≤ x1 ∧ x1 ≤ 2147483647) ∧ (zS0m G s)) (fun G s _ => pI (fun r G2 s2 => G2 = G ∧ zSK G s2 ∧ zFr [13] G s s2 ∧ ((-1) ≤ r ∧ r ≤ 0) ∧ (s2 a 0 = 0 ∧ ((0 ≤ x1 ∧ x1 ≤ 3 → r = 0) ∧ (¬ (0 ≤ x1 ∧ x1 ≤ 3) → r = -1))))) := by
  refine Con.mk hst (by decide) (fun G s vs h => by rw [h.1]; exact Nat.le_of_ble_eq_true rfl) ?_
  rintro X G s0 vs ⟨rfl, hG, hS0, ha, hx1, hF0⟩ rfl hx hq
  show JJ X E 2 G s0 0 0 [(0, .ref a), (1, .int (zI x1))] 0 []
  refine j_aload_n hx 0 dX12_count_0 rfl ?_
  refine j_iconst hx dX12_count_1 ?_
  refine p13_0 hx hG ha kf_RX12_3 dX12_count_2 ?_
  obtain ⟨s1, e_s1⟩ : ∃ z, z = zU s0 a 0 0 := ⟨_, rfl⟩
  rw [← e_s1]
  have hS_s1 : zSK G s1 := by rw [e_s1]; exact zSK_F hS0 ha rfl rfl rfl (by omega)
  refine j_iload_n hx 1 dX12_count_5 rfl ?_
  refine j_if_ne hx 16 dX12_count_6 rfl (by omega) (fun h1 => ?_) (fun h1 => ?_)
  · skip
    refine j_iload_n hx 1 dX12_count_16 rfl ?_
    refine j_iconst hx dX12_count_17 ?_
    refine j_icmp_ne hx 28 dX12_count_18 rfl (by omega) ⟨by decide, by decide⟩ (fun h2 => ?_) (fun h2 => ?_)
    · skip
      refine j_iload_n hx 1 dX12_count_28 rfl ?_
      refine j_iconst hx dX12_count_29 ?_
      refine j_icmp_ne hx 40 dX12_count_30 rfl (by omega) ⟨by decide, by decide⟩ (fun h3 => ?_) (fun h3 => ?_)
      · skip
        refine j_iload_n hx 1 dX12_count_40 rfl ?_
        refine j_iconst hx dX12_count_41 ?_
        refine j_icmp_ne hx 65 dX12_count_42 rfl (by omega) ⟨by decide, by decide⟩ (fun h4 => ?_) (fun h4 => ?_)
        · skip
          refine j_iconst hx dX12_count_65 ?_
          have g5 : s1 a 0 = 0 := (by rw [e_s1, zU_eq])
          exact j_iret hx hq rfl (by decide) (by decide) dX12_count_66 ⟨(-1), rfl, rfl, hS_s1, (zFr_u zFr_rf e_s1 ha (by decide)), ⟨(by omega), by omega⟩⟩
        · skip
          refine j_aload_n hx 0 dX12_count_45 rfl ?_
          refine g13_27 hx hG ha kf_RX12_56 dX12_count_46 ?_
          refine j_sipush hx dX12_count_49 rfl ?_
          have f6 := z0am (j := 488) hF0 (zr (k := 27) (t2 := 84) hG ha rfl) (by decide) rfl (zlen hG (zr (k := 27) (t2 := 84) hG ha rfl) (n := 515) rfl rfl) (show 0 ≤ 488 by omega) (by omega) rfl
          refine j_iald hx hG (zr (k := 27) (t2 := 84) hG ha rfl) (by decide) rfl (zlen hG (zr (k := 27) (t2 := 84) hG ha rfl) (n := 515) rfl rfl) (by omega) (by omega) (j := 488) rfl (v := (s0 (gP G a 27) 488)) (by rw [e_s1, zU_at (Or.inl (zne ha (zr (k := 27) (t2 := 84) hG ha rfl) (by decide)))]) dX12_count_52 ?_
          refine j_aload_n hx 0 dX12_count_53 rfl ?_
          refine g13_28 hx hG ha kf_RX12_59 dX12_count_54 ?_
          refine j_sipush hx dX12_count_57 rfl ?_
          have f7 := z0am (j := 488) hF0 (zr (k := 28) (t2 := 85) hG ha rfl) (by decide) rfl (zlen hG (zr (k := 28) (t2 := 85) hG ha rfl) (n := 515) rfl rfl) (show 0 ≤ 488 by omega) (by omega) rfl
          refine j_iald hx hG (zr (k := 28) (t2 := 85) hG ha rfl) (by decide) rfl (zlen hG (zr (k := 28) (t2 := 85) hG ha rfl) (n := 515) rfl rfl) (by omega) (by omega) (j := 488) rfl (v := (s0 (gP G a 28) 488)) (by rw [e_s1, zU_at (Or.inl (zne ha (zr (k := 28) (t2 := 85) hG ha rfl) (by decide)))]) dX12_count_60 ?_
          refine j_isub hx (r := (s0 (gP G a 27) 488) - (s0 (gP G a 28) 488)) dX12_count_61 (by omega) ?_
          refine j_goto hx 66 dX12_count_62 rfl ?_
          have g8 : s1 a 0 = 0 := (by rw [e_s1, zU_eq])
          exact j_iret hx hq rfl (by decide) (by decide) dX12_count_66 ⟨(s0 (gP G a 27) 488) - (s0 (gP G a 28) 488), rfl, rfl, hS_s1, (zFr_u zFr_rf e_s1 ha (by decide)), ⟨(by omega), by omega⟩⟩
      · skip
        refine j_aload_n hx 0 dX12_count_33 rfl ?_
        have f9 := z0fm hF0 ha (by decide) (k := 41) rfl
        refine g13_41 hx hG ha kf_RX12_198 (v := (s0 a 41)) (by rw [e_s1, zU_at (Or.inr (by decide))]) dX12_count_34 ?_
        refine j_goto hx 66 dX12_count_37 rfl ?_
        have g10 : s1 a 0 = 0 := (by rw [e_s1, zU_eq])
        exact j_iret hx hq rfl (by decide) (by decide) dX12_count_66 ⟨(s0 a 41), rfl, rfl, hS_s1, (zFr_u zFr_rf e_s1 ha (by decide)), ⟨(by omega), by omega⟩⟩
    · skip
      refine j_aload_n hx 0 dX12_count_21 rfl ?_
      have f11 := z0fm hF0 ha (by decide) (k := 2) rfl
      refine g13_2 hx hG ha kf_RX12_134 (v := (s0 a 2)) (by rw [e_s1, zU_at (Or.inr (by decide))]) dX12_count_22 ?_
      refine j_goto hx 66 dX12_count_25 rfl ?_
      have g12 : s1 a 0 = 0 := (by rw [e_s1, zU_eq])
      exact j_iret hx hq rfl (by decide) (by decide) dX12_count_66 ⟨(s0 a 2), rfl, rfl, hS_s1, (zFr_u zFr_rf e_s1 ha (by decide)), ⟨(by omega), by omega⟩⟩
  · skip
    refine j_aload_n hx 0 dX12_count_9 rfl ?_
    have f13 := z0fm hF0 ha (by decide) (k := 58) rfl
    refine g13_58 hx hG ha kf_RX12_201 (v := (s0 a 58)) (by rw [e_s1, zU_at (Or.inr (by decide))]) dX12_count_10 ?_
    refine j_goto hx 66 dX12_count_13 rfl ?_
    have g14 : s1 a 0 = 0 := (by rw [e_s1, zU_eq])
    exact j_iret hx hq rfl (by decide) (by decide) dX12_count_66 ⟨(s0 a 58), rfl, rfl, hS_s1, (zFr_u zFr_rf e_s1 ha (by decide)), ⟨(by omega), by omega⟩⟩

set_option maxHeartbeats 4000000 in
set_option maxRecDepth 20000 in
theorem c_X12_thrown {E : zE} {l : Launch} (hst : l.stackTraces = false) (a : Nat) : Con E l yX12_thrown cX12_thrown 1 (some .int) { frames := 0, cells := 0, slots := 0, locals := 0 } (fun G s vs => vs = [.ref a] ∧ zGK G ∧ zSK G s ∧ (gT G a = 13)) (fun G s _ => pI (fun r G2 s2 => G2 = G ∧ s2 = s ∧ ((-2147483648) ≤ r ∧ r ≤ 2147483647) ∧ r = s a 0)) := by
  refine Con.mk hst (by decide) (fun G s vs h => by rw [h.1]; exact Nat.le_of_ble_eq_true rfl) ?_
  rintro X G s0 vs ⟨rfl, hG, hS0, ha⟩ rfl hx hq
  show JJ X E 1 G s0 0 0 [(0, .ref a)] 0 []
  refine j_aload_n hx 0 dX12_thrown_0 rfl ?_
  have f1 := zf hS0 ha (k := 0) rfl
  refine g13_0 hx hG ha kf_RX12_3 rfl dX12_thrown_1 ?_
  exact j_iret hx hq rfl (by decide) (by decide) dX12_thrown_4 ⟨(s0 a 0), rfl, rfl, rfl, ⟨(by omega), by omega⟩⟩
