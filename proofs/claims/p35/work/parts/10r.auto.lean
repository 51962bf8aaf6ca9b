theorem zI_S (k : Nat) (hk : k < 515) : axI k = axS k := by
  rcases (show k ≤ 419 ∨ (420 ≤ k ∧ k ≤ 479) ∨ (480 ≤ k ∧ k ≤ 486) ∨ k = 487 ∨ k = 488 ∨ k = 489 ∨ k = 490 ∨ (491 ≤ k ∧ k ≤ 493) ∨ (494 ≤ k ∧ k ≤ 514) by omega) with h | h | h | h | h | h | h | h | h
  · rw [axI_0 k (by omega), axS_0 k (by omega)]
  · rw [axI_1 k (by omega), axS_1 k (by omega)]
  · rw [axI_2 k (by omega), axS_2 k (by omega)]
  · rw [axI_3 k (by omega), axS_3 k (by omega)]
  · rw [axI_4 k (by omega), axS_4 k (by omega)]
  · rw [axI_5 k (by omega), axS_5 k (by omega)]
  · rw [axI_6 k (by omega), axS_6 k (by omega)]
  · rw [axI_7 k (by omega), axS_7 k (by omega)]
  · rw [axI_8 k (by omega), axS_8 k (by omega)]

set_option maxHeartbeats 1200000 in
set_option maxRecDepth 20000 in
theorem c_X12_keepsRow_84k {E : zE} {l : Launch} (hst : l.stackTraces = false) (a : Nat) (x1 : Int) (b2 : Nat) (x3 : Int) (x4 : Int) : Con E l yX12_keepsRow cX12_keepsRow 6 (some .int) { frames := 0, cells := 0, slots := 0, locals := 0 } (fun G s vs => vs = [.ref a, .int (zI x1), .ref b2, .int (zI x3), .int (zI x4)] ∧ zGK G ∧ zSK G s ∧ (gT G a = 13) ∧ (0 ≤ x1 ∧ x1 ≤ 26442) ∧ (gT G b2 = 84) ∧ (515 ≤ x3 ∧ x3 ≤ 515) ∧ (1 ≤ x4 ∧ x4 ≤ 1) ∧ (x1 = 0 ∨ x1 = 13221 ∨ x1 = 26442)) (fun G s _ => pI (fun r G2 s2 => G2 = G ∧ zSK G s2 ∧ zFr [106] G s s2 ∧ (515 ≤ r ∧ r ≤ 26957) ∧ r = x1 + 515 ∧ zPt (s2 (gP G a 57)) (s (gP G a 57)) (s b2) x1 515)) := by
  refine Con.mk hst (by decide) (fun G s vs h => by rw [h.1]; exact Nat.le_of_ble_eq_true rfl) ?_
  rintro X G s0 vs ⟨rfl, hG, hS0, ha, hx1, hb2, hx3, hx4, e0⟩ rfl hx hq
  obtain rfl : x3 = 515 := by omega
  obtain rfl : x4 = 1 := by omega
  show JJ X E 6 G s0 0 0 [(0, .ref a), (1, .int (zI x1)), (2, .ref b2), (3, .int (zI 515)), (4, .int (zI 1))] 0 []
  refine j_iconst hx dX12_keepsRow_0 ?_
  refine j_istore hx [(5, .int (zI 0)), (0, .ref a), (1, .int (zI x1)), (2, .ref b2), (3, .int (zI 515)), (4, .int (zI 1))] dX12_keepsRow_1 (by decide) rfl ?_
  have c3_1 : ∀ (m_c3_1 : Nat) (v1 : Int) (s2 : zS), 2147483648 - v1 < m_c3_1 → (0 ≤ v1 ∧ v1 ≤ 515) → (zSK G s2) → (zFr [106] G s0 s2) → (zPt (s2 (gP G a 57)) (s0 (gP G a 57)) (s0 b2) x1 (v1)) → JJ X E 6 G s2 0 0 [(0, .ref a), (1, .int (zI x1)), (2, .ref b2), (3, .int (zI 515)), (4, .int (zI 1)), (5, .int (zI v1))] 3 [] := by
    intro m_c3_1
    induction m_c3_1 with
    | zero => intro v1 s2 hm_c3_1 fA3 hS_s2 hF_s2 hE1; exfalso; omega
    | succ m_c3_1 ih_c3_1 => 
      intro v1 s2 hm_c3_1 fA3 hS_s2 hF_s2 hE1
      refine j_iload hx 5 dX12_keepsRow_3 rfl ?_
      refine j_iload_n hx 3 dX12_keepsRow_5 rfl ?_
      refine j_icmp_ge hx 49 dX12_keepsRow_6 rfl (by omega) ⟨by decide, by decide⟩ (fun h2 => ?_) (fun h2 => ?_)
      · skip
        have hP3 : zPt (s2 (gP G a 57)) (s0 (gP G a 57)) (s0 b2) x1 515 := zPt_n hE1 (by omega)
        refine j_iload_n hx 1 dX12_keepsRow_49 rfl ?_
        refine j_iload_n hx 3 dX12_keepsRow_50 rfl ?_
        refine j_iadd hx (r := x1 + 515) dX12_keepsRow_51 rfl ?_
        exact j_iret hx hq rfl (by decide) (by decide) dX12_keepsRow_52 ⟨x1 + 515, rfl, rfl, hS_s2, (zFr_t zFr_rf hF_s2 (by decide)), ⟨(by omega), by omega, (zPt_nn hP3 (by omega) (by omega))⟩⟩
      · skip
        refine j_iload hx 4 dX12_keepsRow_9 rfl ?_
        refine j_if_eq hx 30 dX12_keepsRow_11 rfl ⟨by decide, by decide⟩ (fun h4 => absurd h4 (by omega)) (fun h4 => ?_)
        refine j_aload_n hx 0 dX12_keepsRow_14 rfl ?_
        refine g13_57 hx hG ha kf_RX12_125 dX12_keepsRow_15 ?_
        refine j_iload_n hx 1 dX12_keepsRow_18 rfl ?_
        refine j_iload hx 5 dX12_keepsRow_19 rfl ?_
        refine j_iadd hx (r := x1 + v1) dX12_keepsRow_21 rfl ?_
        refine j_aload_n hx 2 dX12_keepsRow_22 rfl ?_
        refine j_iload hx 5 dX12_keepsRow_23 rfl ?_
        have f5 := zah (j := (v1).toNat) hS0 hb2 (fun k => ⟨_, rfl, (axS_h _).1, (axS_h _).2.1⟩) (zlen hG hb2 (n := 515) rfl rfl) (show 0 ≤ v1 by omega) (by omega) rfl
        refine j_iald hx hG hb2 (by decide) rfl (zlen hG hb2 (n := 515) rfl rfl) (by omega) (by omega) (j := (v1).toNat) rfl (v := (s0 b2 (v1).toNat)) (by rw [(zFr_g hF_s2 hb2 (by decide))]) dX12_keepsRow_25 ?_
        refine j_iast hx hG (zr (k := 57) (t2 := 106) hG ha rfl) (by decide) rfl (zlen hG (zr (k := 57) (t2 := 106) hG ha rfl) (n := 39663) rfl rfl) (by omega) (by omega) (j := (x1 + v1).toNat) rfl dX12_keepsRow_26 ?_
        obtain ⟨s7, e_s7⟩ : ∃ z, z = zU s2 (gP G a 57) (x1 + v1).toNat ((s0 b2 (v1).toNat)) := ⟨_, rfl⟩
        rw [← e_s7]
        have hS_s7 : zSK G s7 := by rw [e_s7]; exact zSK_cq hS_s2 hS0 (zr (k := 57) (t2 := 106) hG ha rfl) hb2 (fun _ => rfl) rfl (j2 := (v1).toNat) (by exact congrArg some (show axI ((x1 + v1).toNat % 13221) = axS (v1).toNat by rw [show (x1 + v1).toNat % 13221 = (v1).toNat by omega]; exact zI_S _ (by omega))) (by have := (zlen hG hb2 (n := 515) rfl rfl); omega) rfl
        refine j_goto hx 43 dX12_keepsRow_27 rfl ?_
        refine j_iinc hx 5 [(5, .int (zI (v1 + 1))), (0, .ref a), (1, .int (zI x1)), (2, .ref b2), (3, .int (zI 515)), (4, .int (zI 1))] dX12_keepsRow_43 rfl (by omega) (by decide) rfl ?_
        refine j_goto hx 3 dX12_keepsRow_46 rfl ?_
        exact j_sub [1, 2, 3, 4, 5, 0] [(0, .ref a), (1, .int (zI x1)), (2, .ref b2), (3, .int (zI 515)), (4, .int (zI 1)), (5, .int (zI (v1 + 1)))] rfl (ih_c3_1 (v1 + 1) s7 (by omega) (by omega) hS_s7 (zFr_u (zFr_t zFr_rf hF_s2 (by decide)) e_s7 (zr (k := 57) (t2 := 106) hG ha rfl) (by decide)) (zPt_s hE1 e_s7 (by omega) (by omega) (by omega) rfl))
  exact j_sub [1, 2, 3, 4, 5, 0] [(0, .ref a), (1, .int (zI x1)), (2, .ref b2), (3, .int (zI 515)), (4, .int (zI 1)), (5, .int (zI 0))] rfl (c3_1 (2147483648 * 4) 0 s0 (by omega) (by omega) hS0 zFr_rf (zPt_0 rfl (by omega)))

set_option maxHeartbeats 1200000 in
set_option maxRecDepth 20000 in
theorem c_X12_keepsRow_86k {E : zE} {l : Launch} (hst : l.stackTraces = false) (a : Nat) (x1 : Int) (b2 : Nat) (x3 : Int) (x4 : Int) : Con E l yX12_keepsRow cX12_keepsRow 6 (some .int) { frames := 0, cells := 0, slots := 0, locals := 0 } (fun G s vs => vs = [.ref a, .int (zI x1), .ref b2, .int (zI x3), .int (zI x4)] ∧ zGK G ∧ zSK G s ∧ (gT G a = 13) ∧ (515 ≤ x1 ∧ x1 ≤ 26957) ∧ (gT G b2 = 86) ∧ (10000 ≤ x3 ∧ x3 ≤ 10000) ∧ (1 ≤ x4 ∧ x4 ≤ 1) ∧ (x1 = 515 ∨ x1 = 13736 ∨ x1 = 26957)) (fun G s _ => pI (fun r G2 s2 => G2 = G ∧ zSK G s2 ∧ zFr [106] G s s2 ∧ (10515 ≤ r ∧ r ≤ 36957) ∧ r = x1 + 10000 ∧ zPt (s2 (gP G a 57)) (s (gP G a 57)) (s b2) x1 10000)) := by
  refine Con.mk hst (by decide) (fun G s vs h => by rw [h.1]; exact Nat.le_of_ble_eq_true rfl) ?_
  rintro X G s0 vs ⟨rfl, hG, hS0, ha, hx1, hb2, hx3, hx4, e0⟩ rfl hx hq
  obtain rfl : x3 = 10000 := by omega
  obtain rfl : x4 = 1 := by omega
  show JJ X E 6 G s0 0 0 [(0, .ref a), (1, .int (zI x1)), (2, .ref b2), (3, .int (zI 10000)), (4, .int (zI 1))] 0 []
  refine j_iconst hx dX12_keepsRow_0 ?_
  refine j_istore hx [(5, .int (zI 0)), (0, .ref a), (1, .int (zI x1)), (2, .ref b2), (3, .int (zI 10000)), (4, .int (zI 1))] dX12_keepsRow_1 (by decide) rfl ?_
  have c3_1 : ∀ (m_c3_1 : Nat) (v1 : Int) (s2 : zS), 2147483648 - v1 < m_c3_1 → (0 ≤ v1 ∧ v1 ≤ 10000) → (zSK G s2) → (zFr [106] G s0 s2) → (zPt (s2 (gP G a 57)) (s0 (gP G a 57)) (s0 b2) x1 (v1)) → JJ X E 6 G s2 0 0 [(0, .ref a), (1, .int (zI x1)), (2, .ref b2), (3, .int (zI 10000)), (4, .int (zI 1)), (5, .int (zI v1))] 3 [] := by
    intro m_c3_1
    induction m_c3_1 with
    | zero => intro v1 s2 hm_c3_1 fA3 hS_s2 hF_s2 hE1; exfalso; omega
    | succ m_c3_1 ih_c3_1 => 
      intro v1 s2 hm_c3_1 fA3 hS_s2 hF_s2 hE1
      refine j_iload hx 5 dX12_keepsRow_3 rfl ?_
      refine j_iload_n hx 3 dX12_keepsRow_5 rfl ?_
      refine j_icmp_ge hx 49 dX12_keepsRow_6 rfl (by omega) ⟨by decide, by decide⟩ (fun h2 => ?_) (fun h2 => ?_)
      · skip
        have hP3 : zPt (s2 (gP G a 57)) (s0 (gP G a 57)) (s0 b2) x1 10000 := zPt_n hE1 (by omega)
        refine j_iload_n hx 1 dX12_keepsRow_49 rfl ?_
        refine j_iload_n hx 3 dX12_keepsRow_50 rfl ?_
        refine j_iadd hx (r := x1 + 10000) dX12_keepsRow_51 rfl ?_
        exact j_iret hx hq rfl (by decide) (by decide) dX12_keepsRow_52 ⟨x1 + 10000, rfl, rfl, hS_s2, (zFr_t zFr_rf hF_s2 (by decide)), ⟨(by omega), by omega, (zPt_nn hP3 (by omega) (by omega))⟩⟩
      · skip
        refine j_iload hx 4 dX12_keepsRow_9 rfl ?_
        refine j_if_eq hx 30 dX12_keepsRow_11 rfl ⟨by decide, by decide⟩ (fun h4 => absurd h4 (by omega)) (fun h4 => ?_)
        refine j_aload_n hx 0 dX12_keepsRow_14 rfl ?_
        refine g13_57 hx hG ha kf_RX12_125 dX12_keepsRow_15 ?_
        refine j_iload_n hx 1 dX12_keepsRow_18 rfl ?_
        refine j_iload hx 5 dX12_keepsRow_19 rfl ?_
        refine j_iadd hx (r := x1 + v1) dX12_keepsRow_21 rfl ?_
        refine j_aload_n hx 2 dX12_keepsRow_22 rfl ?_
        refine j_iload hx 5 dX12_keepsRow_23 rfl ?_
        have f5 := zaI (j := (v1).toNat) hS0 hb2 rfl (zlen hG hb2 (n := 10000) rfl rfl) (show 0 ≤ v1 by omega) (by omega) rfl
        refine j_iald hx hG hb2 (by decide) rfl (zlen hG hb2 (n := 10000) rfl rfl) (by omega) (by omega) (j := (v1).toNat) rfl (v := (s0 b2 (v1).toNat)) (by rw [(zFr_g hF_s2 hb2 (by decide))]) dX12_keepsRow_25 ?_
        refine j_iast hx hG (zr (k := 57) (t2 := 106) hG ha rfl) (by decide) rfl (zlen hG (zr (k := 57) (t2 := 106) hG ha rfl) (n := 39663) rfl rfl) (by omega) (by omega) (j := (x1 + v1).toNat) rfl dX12_keepsRow_26 ?_
        obtain ⟨s7, e_s7⟩ : ∃ z, z = zU s2 (gP G a 57) (x1 + v1).toNat ((s0 b2 (v1).toNat)) := ⟨_, rfl⟩
        rw [← e_s7]
        have hS_s7 : zSK G s7 := by rw [e_s7]; exact zSK_a hS_s2 (zr (k := 57) (t2 := 106) hG ha rfl) rfl rfl (congrArg some (axI_9 ((x1 + v1).toNat % 13221) (by omega))) (by omega)
        refine j_goto hx 43 dX12_keepsRow_27 rfl ?_
        refine j_iinc hx 5 [(5, .int (zI (v1 + 1))), (0, .ref a), (1, .int (zI x1)), (2, .ref b2), (3, .int (zI 10000)), (4, .int (zI 1))] dX12_keepsRow_43 rfl (by omega) (by decide) rfl ?_
        refine j_goto hx 3 dX12_keepsRow_46 rfl ?_
        exact j_sub [1, 2, 3, 4, 5, 0] [(0, .ref a), (1, .int (zI x1)), (2, .ref b2), (3, .int (zI 10000)), (4, .int (zI 1)), (5, .int (zI (v1 + 1)))] rfl (ih_c3_1 (v1 + 1) s7 (by omega) (by omega) hS_s7 (zFr_u (zFr_t zFr_rf hF_s2 (by decide)) e_s7 (zr (k := 57) (t2 := 106) hG ha rfl) (by decide)) (zPt_s hE1 e_s7 (by omega) (by omega) (by omega) rfl))
  exact j_sub [1, 2, 3, 4, 5, 0] [(0, .ref a), (1, .int (zI x1)), (2, .ref b2), (3, .int (zI 10000)), (4, .int (zI 1)), (5, .int (zI 0))] rfl (c3_1 (2147483648 * 4) 0 s0 (by omega) (by omega) hS0 zFr_rf (zPt_0 rfl (by omega)))

set_option maxHeartbeats 1200000 in
set_option maxRecDepth 20000 in
theorem c_X12_keepsRow_91k {E : zE} {l : Launch} (hst : l.stackTraces = false) (a : Nat) (x1 : Int) (b2 : Nat) (x3 : Int) (x4 : Int) : Con E l yX12_keepsRow cX12_keepsRow 6 (some .int) { frames := 0, cells := 0, slots := 0, locals := 0 } (fun G s vs => vs = [.ref a, .int (zI x1), .ref b2, .int (zI x3), .int (zI x4)] ∧ zGK G ∧ zSK G s ∧ (gT G a = 13) ∧ (10515 ≤ x1 ∧ x1 ≤ 36957) ∧ (gT G b2 = 91) ∧ (900 ≤ x3 ∧ x3 ≤ 900) ∧ (1 ≤ x4 ∧ x4 ≤ 1) ∧ (x1 = 10515 ∨ x1 = 23736 ∨ x1 = 36957)) (fun G s _ => pI (fun r G2 s2 => G2 = G ∧ zSK G s2 ∧ zFr [106] G s s2 ∧ (11415 ≤ r ∧ r ≤ 37857) ∧ r = x1 + 900 ∧ zPt (s2 (gP G a 57)) (s (gP G a 57)) (s b2) x1 900)) := by
  refine Con.mk hst (by decide) (fun G s vs h => by rw [h.1]; exact Nat.le_of_ble_eq_true rfl) ?_
  rintro X G s0 vs ⟨rfl, hG, hS0, ha, hx1, hb2, hx3, hx4, e0⟩ rfl hx hq
  obtain rfl : x3 = 900 := by omega
  obtain rfl : x4 = 1 := by omega
  show JJ X E 6 G s0 0 0 [(0, .ref a), (1, .int (zI x1)), (2, .ref b2), (3, .int (zI 900)), (4, .int (zI 1))] 0 []
  refine j_iconst hx dX12_keepsRow_0 ?_
  refine j_istore hx [(5, .int (zI 0)), (0, .ref a), (1, .int (zI x1)), (2, .ref b2), (3, .int (zI 900)), (4, .int (zI 1))] dX12_keepsRow_1 (by decide) rfl ?_
  have c3_1 : ∀ (m_c3_1 : Nat) (v1 : Int) (s2 : zS), 2147483648 - v1 < m_c3_1 → (0 ≤ v1 ∧ v1 ≤ 900) → (zSK G s2) → (zFr [106] G s0 s2) → (zPt (s2 (gP G a 57)) (s0 (gP G a 57)) (s0 b2) x1 (v1)) → JJ X E 6 G s2 0 0 [(0, .ref a), (1, .int (zI x1)), (2, .ref b2), (3, .int (zI 900)), (4, .int (zI 1)), (5, .int (zI v1))] 3 [] := by
    intro m_c3_1
    induction m_c3_1 with
    | zero => intro v1 s2 hm_c3_1 fA3 hS_s2 hF_s2 hE1; exfalso; omega
    | succ m_c3_1 ih_c3_1 => 
      intro v1 s2 hm_c3_1 fA3 hS_s2 hF_s2 hE1
      refine j_iload hx 5 dX12_keepsRow_3 rfl ?_
      refine j_iload_n hx 3 dX12_keepsRow_5 rfl ?_
      refine j_icmp_ge hx 49 dX12_keepsRow_6 rfl (by omega) ⟨by decide, by decide⟩ (fun h2 => ?_) (fun h2 => ?_)
      · skip
        have hP3 : zPt (s2 (gP G a 57)) (s0 (gP G a 57)) (s0 b2) x1 900 := zPt_n hE1 (by omega)
        refine j_iload_n hx 1 dX12_keepsRow_49 rfl ?_
        refine j_iload_n hx 3 dX12_keepsRow_50 rfl ?_
        refine j_iadd hx (r := x1 + 900) dX12_keepsRow_51 rfl ?_
        exact j_iret hx hq rfl (by decide) (by decide) dX12_keepsRow_52 ⟨x1 + 900, rfl, rfl, hS_s2, (zFr_t zFr_rf hF_s2 (by decide)), ⟨(by omega), by omega, (zPt_nn hP3 (by omega) (by omega))⟩⟩
      · skip
        refine j_iload hx 4 dX12_keepsRow_9 rfl ?_
        refine j_if_eq hx 30 dX12_keepsRow_11 rfl ⟨by decide, by decide⟩ (fun h4 => absurd h4 (by omega)) (fun h4 => ?_)
        refine j_aload_n hx 0 dX12_keepsRow_14 rfl ?_
        refine g13_57 hx hG ha kf_RX12_125 dX12_keepsRow_15 ?_
        refine j_iload_n hx 1 dX12_keepsRow_18 rfl ?_
        refine j_iload hx 5 dX12_keepsRow_19 rfl ?_
        refine j_iadd hx (r := x1 + v1) dX12_keepsRow_21 rfl ?_
        refine j_aload_n hx 2 dX12_keepsRow_22 rfl ?_
        refine j_iload hx 5 dX12_keepsRow_23 rfl ?_
        have f5 := zaI (j := (v1).toNat) hS0 hb2 rfl (zlen hG hb2 (n := 900) rfl rfl) (show 0 ≤ v1 by omega) (by omega) rfl
        refine j_iald hx hG hb2 (by decide) rfl (zlen hG hb2 (n := 900) rfl rfl) (by omega) (by omega) (j := (v1).toNat) rfl (v := (s0 b2 (v1).toNat)) (by rw [(zFr_g hF_s2 hb2 (by decide))]) dX12_keepsRow_25 ?_
        refine j_iast hx hG (zr (k := 57) (t2 := 106) hG ha rfl) (by decide) rfl (zlen hG (zr (k := 57) (t2 := 106) hG ha rfl) (n := 39663) rfl rfl) (by omega) (by omega) (j := (x1 + v1).toNat) rfl dX12_keepsRow_26 ?_
        obtain ⟨s7, e_s7⟩ : ∃ z, z = zU s2 (gP G a 57) (x1 + v1).toNat ((s0 b2 (v1).toNat)) := ⟨_, rfl⟩
        rw [← e_s7]
        have hS_s7 : zSK G s7 := by rw [e_s7]; exact zSK_a hS_s2 (zr (k := 57) (t2 := 106) hG ha rfl) rfl rfl (congrArg some (axI_10 ((x1 + v1).toNat % 13221) (by omega))) (by omega)
        refine j_goto hx 43 dX12_keepsRow_27 rfl ?_
        refine j_iinc hx 5 [(5, .int (zI (v1 + 1))), (0, .ref a), (1, .int (zI x1)), (2, .ref b2), (3, .int (zI 900)), (4, .int (zI 1))] dX12_keepsRow_43 rfl (by omega) (by decide) rfl ?_
        refine j_goto hx 3 dX12_keepsRow_46 rfl ?_
        exact j_sub [1, 2, 3, 4, 5, 0] [(0, .ref a), (1, .int (zI x1)), (2, .ref b2), (3, .int (zI 900)), (4, .int (zI 1)), (5, .int (zI (v1 + 1)))] rfl (ih_c3_1 (v1 + 1) s7 (by omega) (by omega) hS_s7 (zFr_u (zFr_t zFr_rf hF_s2 (by decide)) e_s7 (zr (k := 57) (t2 := 106) hG ha rfl) (by decide)) (zPt_s hE1 e_s7 (by omega) (by omega) (by omega) rfl))
  exact j_sub [1, 2, 3, 4, 5, 0] [(0, .ref a), (1, .int (zI x1)), (2, .ref b2), (3, .int (zI 900)), (4, .int (zI 1)), (5, .int (zI 0))] rfl (c3_1 (2147483648 * 4) 0 s0 (by omega) (by omega) hS0 zFr_rf (zPt_0 rfl (by omega)))

set_option maxHeartbeats 1200000 in
set_option maxRecDepth 20000 in
theorem c_X12_keepsRow_92k {E : zE} {l : Launch} (hst : l.stackTraces = false) (a : Nat) (x1 : Int) (b2 : Nat) (x3 : Int) (x4 : Int) : Con E l yX12_keepsRow cX12_keepsRow 6 (some .int) { frames := 0, cells := 0, slots := 0, locals := 0 } (fun G s vs => vs = [.ref a, .int (zI x1), .ref b2, .int (zI x3), .int (zI x4)] ∧ zGK G ∧ zSK G s ∧ (gT G a = 13) ∧ (11415 ≤ x1 ∧ x1 ≤ 37857) ∧ (gT G b2 = 92) ∧ (900 ≤ x3 ∧ x3 ≤ 900) ∧ (1 ≤ x4 ∧ x4 ≤ 1) ∧ (x1 = 11415 ∨ x1 = 24636 ∨ x1 = 37857)) (fun G s _ => pI (fun r G2 s2 => G2 = G ∧ zSK G s2 ∧ zFr [106] G s s2 ∧ (12315 ≤ r ∧ r ≤ 38757) ∧ r = x1 + 900 ∧ zPt (s2 (gP G a 57)) (s (gP G a 57)) (s b2) x1 900)) := by
  refine Con.mk hst (by decide) (fun G s vs h => by rw [h.1]; exact Nat.le_of_ble_eq_true rfl) ?_
  rintro X G s0 vs ⟨rfl, hG, hS0, ha, hx1, hb2, hx3, hx4, e0⟩ rfl hx hq
  obtain rfl : x3 = 900 := by omega
  obtain rfl : x4 = 1 := by omega
  show JJ X E 6 G s0 0 0 [(0, .ref a), (1, .int (zI x1)), (2, .ref b2), (3, .int (zI 900)), (4, .int (zI 1))] 0 []
  refine j_iconst hx dX12_keepsRow_0 ?_
  refine j_istore hx [(5, .int (zI 0)), (0, .ref a), (1, .int (zI x1)), (2, .ref b2), (3, .int (zI 900)), (4, .int (zI 1))] dX12_keepsRow_1 (by decide) rfl ?_
  have c3_1 : ∀ (m_c3_1 : Nat) (v1 : Int) (s2 : zS), 2147483648 - v1 < m_c3_1 → (0 ≤ v1 ∧ v1 ≤ 900) → (zSK G s2) → (zFr [106] G s0 s2) → (zPt (s2 (gP G a 57)) (s0 (gP G a 57)) (s0 b2) x1 (v1)) → JJ X E 6 G s2 0 0 [(0, .ref a), (1, .int (zI x1)), (2, .ref b2), (3, .int (zI 900)), (4, .int (zI 1)), (5, .int (zI v1))] 3 [] := by
    intro m_c3_1
    induction m_c3_1 with
    | zero => intro v1 s2 hm_c3_1 fA3 hS_s2 hF_s2 hE1; exfalso; omega
    | succ m_c3_1 ih_c3_1 => 
      intro v1 s2 hm_c3_1 fA3 hS_s2 hF_s2 hE1
      refine j_iload hx 5 dX12_keepsRow_3 rfl ?_
      refine j_iload_n hx 3 dX12_keepsRow_5 rfl ?_
      refine j_icmp_ge hx 49 dX12_keepsRow_6 rfl (by omega) ⟨by decide, by decide⟩ (fun h2 => ?_) (fun h2 => ?_)
      · skip
        have hP3 : zPt (s2 (gP G a 57)) (s0 (gP G a 57)) (s0 b2) x1 900 := zPt_n hE1 (by omega)
        refine j_iload_n hx 1 dX12_keepsRow_49 rfl ?_
        refine j_iload_n hx 3 dX12_keepsRow_50 rfl ?_
        refine j_iadd hx (r := x1 + 900) dX12_keepsRow_51 rfl ?_
        exact j_iret hx hq rfl (by decide) (by decide) dX12_keepsRow_52 ⟨x1 + 900, rfl, rfl, hS_s2, (zFr_t zFr_rf hF_s2 (by decide)), ⟨(by omega), by omega, (zPt_nn hP3 (by omega) (by omega))⟩⟩
      · skip
        refine j_iload hx 4 dX12_keepsRow_9 rfl ?_
        refine j_if_eq hx 30 dX12_keepsRow_11 rfl ⟨by decide, by decide⟩ (fun h4 => absurd h4 (by omega)) (fun h4 => ?_)
        refine j_aload_n hx 0 dX12_keepsRow_14 rfl ?_
        refine g13_57 hx hG ha kf_RX12_125 dX12_keepsRow_15 ?_
        refine j_iload_n hx 1 dX12_keepsRow_18 rfl ?_
        refine j_iload hx 5 dX12_keepsRow_19 rfl ?_
        refine j_iadd hx (r := x1 + v1) dX12_keepsRow_21 rfl ?_
        refine j_aload_n hx 2 dX12_keepsRow_22 rfl ?_
        refine j_iload hx 5 dX12_keepsRow_23 rfl ?_
        have f5 := zaI (j := (v1).toNat) hS0 hb2 rfl (zlen hG hb2 (n := 900) rfl rfl) (show 0 ≤ v1 by omega) (by omega) rfl
        refine j_iald hx hG hb2 (by decide) rfl (zlen hG hb2 (n := 900) rfl rfl) (by omega) (by omega) (j := (v1).toNat) rfl (v := (s0 b2 (v1).toNat)) (by rw [(zFr_g hF_s2 hb2 (by decide))]) dX12_keepsRow_25 ?_
        refine j_iast hx hG (zr (k := 57) (t2 := 106) hG ha rfl) (by decide) rfl (zlen hG (zr (k := 57) (t2 := 106) hG ha rfl) (n := 39663) rfl rfl) (by omega) (by omega) (j := (x1 + v1).toNat) rfl dX12_keepsRow_26 ?_
        obtain ⟨s7, e_s7⟩ : ∃ z, z = zU s2 (gP G a 57) (x1 + v1).toNat ((s0 b2 (v1).toNat)) := ⟨_, rfl⟩
        rw [← e_s7]
        have hS_s7 : zSK G s7 := by rw [e_s7]; exact zSK_a hS_s2 (zr (k := 57) (t2 := 106) hG ha rfl) rfl rfl (congrArg some (axI_11 ((x1 + v1).toNat % 13221) (by omega))) (by omega)
        refine j_goto hx 43 dX12_keepsRow_27 rfl ?_
        refine j_iinc hx 5 [(5, .int (zI (v1 + 1))), (0, .ref a), (1, .int (zI x1)), (2, .ref b2), (3, .int (zI 900)), (4, .int (zI 1))] dX12_keepsRow_43 rfl (by omega) (by decide) rfl ?_
        refine j_goto hx 3 dX12_keepsRow_46 rfl ?_
        exact j_sub [1, 2, 3, 4, 5, 0] [(0, .ref a), (1, .int (zI x1)), (2, .ref b2), (3, .int (zI 900)), (4, .int (zI 1)), (5, .int (zI (v1 + 1)))] rfl (ih_c3_1 (v1 + 1) s7 (by omega) (by omega) hS_s7 (zFr_u (zFr_t zFr_rf hF_s2 (by decide)) e_s7 (zr (k := 57) (t2 := 106) hG ha rfl) (by decide)) (zPt_s hE1 e_s7 (by omega) (by omega) (by omega) rfl))
  exact j_sub [1, 2, 3, 4, 5, 0] [(0, .ref a), (1, .int (zI x1)), (2, .ref b2), (3, .int (zI 900)), (4, .int (zI 1)), (5, .int (zI 0))] rfl (c3_1 (2147483648 * 4) 0 s0 (by omega) (by omega) hS0 zFr_rf (zPt_0 rfl (by omega)))

set_option maxHeartbeats 1200000 in
set_option maxRecDepth 20000 in
theorem c_X12_keepsRow_93k {E : zE} {l : Launch} (hst : l.stackTraces = false) (a : Nat) (x1 : Int) (b2 : Nat) (x3 : Int) (x4 : Int) : Con E l yX12_keepsRow cX12_keepsRow 6 (some .int) { frames := 0, cells := 0, slots := 0, locals := 0 } (fun G s vs => vs = [.ref a, .int (zI x1), .ref b2, .int (zI x3), .int (zI x4)] ∧ zGK G ∧ zSK G s ∧ (gT G a = 13) ∧ (12315 ≤ x1 ∧ x1 ≤ 38757) ∧ (gT G b2 = 93) ∧ (900 ≤ x3 ∧ x3 ≤ 900) ∧ (1 ≤ x4 ∧ x4 ≤ 1) ∧ (x1 = 12315 ∨ x1 = 25536 ∨ x1 = 38757)) (fun G s _ => pI (fun r G2 s2 => G2 = G ∧ zSK G s2 ∧ zFr [106] G s s2 ∧ (13215 ≤ r ∧ r ≤ 39657) ∧ r = x1 + 900 ∧ zPt (s2 (gP G a 57)) (s (gP G a 57)) (s b2) x1 900)) := by
  refine Con.mk hst (by decide) (fun G s vs h => by rw [h.1]; exact Nat.le_of_ble_eq_true rfl) ?_
  rintro X G s0 vs ⟨rfl, hG, hS0, ha, hx1, hb2, hx3, hx4, e0⟩ rfl hx hq
  obtain rfl : x3 = 900 := by omega
  obtain rfl : x4 = 1 := by omega
  show JJ X E 6 G s0 0 0 [(0, .ref a), (1, .int (zI x1)), (2, .ref b2), (3, .int (zI 900)), (4, .int (zI 1))] 0 []
  refine j_iconst hx dX12_keepsRow_0 ?_
  refine j_istore hx [(5, .int (zI 0)), (0, .ref a), (1, .int (zI x1)), (2, .ref b2), (3, .int (zI 900)), (4, .int (zI 1))] dX12_keepsRow_1 (by decide) rfl ?_
  have c3_1 : ∀ (m_c3_1 : Nat) (v1 : Int) (s2 : zS), 2147483648 - v1 < m_c3_1 → (0 ≤ v1 ∧ v1 ≤ 900) → (zSK G s2) → (zFr [106] G s0 s2) → (zPt (s2 (gP G a 57)) (s0 (gP G a 57)) (s0 b2) x1 (v1)) → JJ X E 6 G s2 0 0 [(0, .ref a), (1, .int (zI x1)), (2, .ref b2), (3, .int (zI 900)), (4, .int (zI 1)), (5, .int (zI v1))] 3 [] := by
    intro m_c3_1
    induction m_c3_1 with
    | zero => intro v1 s2 hm_c3_1 fA3 hS_s2 hF_s2 hE1; exfalso; omega
    | succ m_c3_1 ih_c3_1 => 
      intro v1 s2 hm_c3_1 fA3 hS_s2 hF_s2 hE1
      refine j_iload hx 5 dX12_keepsRow_3 rfl ?_
      refine j_iload_n hx 3 dX12_keepsRow_5 rfl ?_
      refine j_icmp_ge hx 49 dX12_keepsRow_6 rfl (by omega) ⟨by decide, by decide⟩ (fun h2 => ?_) (fun h2 => ?_)
      · skip
        have hP3 : zPt (s2 (gP G a 57)) (s0 (gP G a 57)) (s0 b2) x1 900 := zPt_n hE1 (by omega)
        refine j_iload_n hx 1 dX12_keepsRow_49 rfl ?_
        refine j_iload_n hx 3 dX12_keepsRow_50 rfl ?_
        refine j_iadd hx (r := x1 + 900) dX12_keepsRow_51 rfl ?_
        exact j_iret hx hq rfl (by decide) (by decide) dX12_keepsRow_52 ⟨x1 + 900, rfl, rfl, hS_s2, (zFr_t zFr_rf hF_s2 (by decide)), ⟨(by omega), by omega, (zPt_nn hP3 (by omega) (by omega))⟩⟩
      · skip
        refine j_iload hx 4 dX12_keepsRow_9 rfl ?_
        refine j_if_eq hx 30 dX12_keepsRow_11 rfl ⟨by decide, by decide⟩ (fun h4 => absurd h4 (by omega)) (fun h4 => ?_)
        refine j_aload_n hx 0 dX12_keepsRow_14 rfl ?_
        refine g13_57 hx hG ha kf_RX12_125 dX12_keepsRow_15 ?_
        refine j_iload_n hx 1 dX12_keepsRow_18 rfl ?_
        refine j_iload hx 5 dX12_keepsRow_19 rfl ?_
        refine j_iadd hx (r := x1 + v1) dX12_keepsRow_21 rfl ?_
        refine j_aload_n hx 2 dX12_keepsRow_22 rfl ?_
        refine j_iload hx 5 dX12_keepsRow_23 rfl ?_
        have f5 := zaI (j := (v1).toNat) hS0 hb2 rfl (zlen hG hb2 (n := 900) rfl rfl) (show 0 ≤ v1 by omega) (by omega) rfl
        refine j_iald hx hG hb2 (by decide) rfl (zlen hG hb2 (n := 900) rfl rfl) (by omega) (by omega) (j := (v1).toNat) rfl (v := (s0 b2 (v1).toNat)) (by rw [(zFr_g hF_s2 hb2 (by decide))]) dX12_keepsRow_25 ?_
        refine j_iast hx hG (zr (k := 57) (t2 := 106) hG ha rfl) (by decide) rfl (zlen hG (zr (k := 57) (t2 := 106) hG ha rfl) (n := 39663) rfl rfl) (by omega) (by omega) (j := (x1 + v1).toNat) rfl dX12_keepsRow_26 ?_
        obtain ⟨s7, e_s7⟩ : ∃ z, z = zU s2 (gP G a 57) (x1 + v1).toNat ((s0 b2 (v1).toNat)) := ⟨_, rfl⟩
        rw [← e_s7]
        have hS_s7 : zSK G s7 := by rw [e_s7]; exact zSK_a hS_s2 (zr (k := 57) (t2 := 106) hG ha rfl) rfl rfl (congrArg some (axI_11 ((x1 + v1).toNat % 13221) (by omega))) (by omega)
        refine j_goto hx 43 dX12_keepsRow_27 rfl ?_
        refine j_iinc hx 5 [(5, .int (zI (v1 + 1))), (0, .ref a), (1, .int (zI x1)), (2, .ref b2), (3, .int (zI 900)), (4, .int (zI 1))] dX12_keepsRow_43 rfl (by omega) (by decide) rfl ?_
        refine j_goto hx 3 dX12_keepsRow_46 rfl ?_
        exact j_sub [1, 2, 3, 4, 5, 0] [(0, .ref a), (1, .int (zI x1)), (2, .ref b2), (3, .int (zI 900)), (4, .int (zI 1)), (5, .int (zI (v1 + 1)))] rfl (ih_c3_1 (v1 + 1) s7 (by omega) (by omega) hS_s7 (zFr_u (zFr_t zFr_rf hF_s2 (by decide)) e_s7 (zr (k := 57) (t2 := 106) hG ha rfl) (by decide)) (zPt_s hE1 e_s7 (by omega) (by omega) (by omega) rfl))
  exact j_sub [1, 2, 3, 4, 5, 0] [(0, .ref a), (1, .int (zI x1)), (2, .ref b2), (3, .int (zI 900)), (4, .int (zI 1)), (5, .int (zI 0))] rfl (c3_1 (2147483648 * 4) 0 s0 (by omega) (by omega) hS0 zFr_rf (zPt_0 rfl (by omega)))

set_option maxHeartbeats 1200000 in
set_option maxRecDepth 20000 in
theorem c_X12_keepsRow_94k {E : zE} {l : Launch} (hst : l.stackTraces = false) (a : Nat) (x1 : Int) (b2 : Nat) (x3 : Int) (x4 : Int) : Con E l yX12_keepsRow cX12_keepsRow 6 (some .int) { frames := 0, cells := 0, slots := 0, locals := 0 } (fun G s vs => vs = [.ref a, .int (zI x1), .ref b2, .int (zI x3), .int (zI x4)] ∧ zGK G ∧ zSK G s ∧ (gT G a = 13) ∧ (13215 ≤ x1 ∧ x1 ≤ 39657) ∧ (gT G b2 = 94) ∧ (6 ≤ x3 ∧ x3 ≤ 6) ∧ (1 ≤ x4 ∧ x4 ≤ 1) ∧ (x1 = 13215 ∨ x1 = 26436 ∨ x1 = 39657)) (fun G s _ => pI (fun r G2 s2 => G2 = G ∧ zSK G s2 ∧ zFr [106] G s s2 ∧ (13221 ≤ r ∧ r ≤ 39663) ∧ r = x1 + 6 ∧ zPt (s2 (gP G a 57)) (s (gP G a 57)) (s b2) x1 6)) := by
  refine Con.mk hst (by decide) (fun G s vs h => by rw [h.1]; exact Nat.le_of_ble_eq_true rfl) ?_
  rintro X G s0 vs ⟨rfl, hG, hS0, ha, hx1, hb2, hx3, hx4, e0⟩ rfl hx hq
  obtain rfl : x3 = 6 := by omega
  obtain rfl : x4 = 1 := by omega
  show JJ X E 6 G s0 0 0 [(0, .ref a), (1, .int (zI x1)), (2, .ref b2), (3, .int (zI 6)), (4, .int (zI 1))] 0 []
  refine j_iconst hx dX12_keepsRow_0 ?_
  refine j_istore hx [(5, .int (zI 0)), (0, .ref a), (1, .int (zI x1)), (2, .ref b2), (3, .int (zI 6)), (4, .int (zI 1))] dX12_keepsRow_1 (by decide) rfl ?_
  have c3_1 : ∀ (m_c3_1 : Nat) (v1 : Int) (s2 : zS), 2147483648 - v1 < m_c3_1 → (0 ≤ v1 ∧ v1 ≤ 6) → (zSK G s2) → (zFr [106] G s0 s2) → (zPt (s2 (gP G a 57)) (s0 (gP G a 57)) (s0 b2) x1 (v1)) → JJ X E 6 G s2 0 0 [(0, .ref a), (1, .int (zI x1)), (2, .ref b2), (3, .int (zI 6)), (4, .int (zI 1)), (5, .int (zI v1))] 3 [] := by
    intro m_c3_1
    induction m_c3_1 with
    | zero => intro v1 s2 hm_c3_1 fA3 hS_s2 hF_s2 hE1; exfalso; omega
    | succ m_c3_1 ih_c3_1 => 
      intro v1 s2 hm_c3_1 fA3 hS_s2 hF_s2 hE1
      refine j_iload hx 5 dX12_keepsRow_3 rfl ?_
      refine j_iload_n hx 3 dX12_keepsRow_5 rfl ?_
      refine j_icmp_ge hx 49 dX12_keepsRow_6 rfl (by omega) ⟨by decide, by decide⟩ (fun h2 => ?_) (fun h2 => ?_)
      · skip
        have hP3 : zPt (s2 (gP G a 57)) (s0 (gP G a 57)) (s0 b2) x1 6 := zPt_n hE1 (by omega)
        refine j_iload_n hx 1 dX12_keepsRow_49 rfl ?_
        refine j_iload_n hx 3 dX12_keepsRow_50 rfl ?_
        refine j_iadd hx (r := x1 + 6) dX12_keepsRow_51 rfl ?_
        exact j_iret hx hq rfl (by decide) (by decide) dX12_keepsRow_52 ⟨x1 + 6, rfl, rfl, hS_s2, (zFr_t zFr_rf hF_s2 (by decide)), ⟨(by omega), by omega, (zPt_nn hP3 (by omega) (by omega))⟩⟩
      · skip
        refine j_iload hx 4 dX12_keepsRow_9 rfl ?_
        refine j_if_eq hx 30 dX12_keepsRow_11 rfl ⟨by decide, by decide⟩ (fun h4 => absurd h4 (by omega)) (fun h4 => ?_)
        refine j_aload_n hx 0 dX12_keepsRow_14 rfl ?_
        refine g13_57 hx hG ha kf_RX12_125 dX12_keepsRow_15 ?_
        refine j_iload_n hx 1 dX12_keepsRow_18 rfl ?_
        refine j_iload hx 5 dX12_keepsRow_19 rfl ?_
        refine j_iadd hx (r := x1 + v1) dX12_keepsRow_21 rfl ?_
        refine j_aload_n hx 2 dX12_keepsRow_22 rfl ?_
        refine j_iload hx 5 dX12_keepsRow_23 rfl ?_
        have f5 := zaI (j := (v1).toNat) hS0 hb2 rfl (zlen hG hb2 (n := 6) rfl rfl) (show 0 ≤ v1 by omega) (by omega) rfl
        refine j_iald hx hG hb2 (by decide) rfl (zlen hG hb2 (n := 6) rfl rfl) (by omega) (by omega) (j := (v1).toNat) rfl (v := (s0 b2 (v1).toNat)) (by rw [(zFr_g hF_s2 hb2 (by decide))]) dX12_keepsRow_25 ?_
        refine j_iast hx hG (zr (k := 57) (t2 := 106) hG ha rfl) (by decide) rfl (zlen hG (zr (k := 57) (t2 := 106) hG ha rfl) (n := 39663) rfl rfl) (by omega) (by omega) (j := (x1 + v1).toNat) rfl dX12_keepsRow_26 ?_
        obtain ⟨s7, e_s7⟩ : ∃ z, z = zU s2 (gP G a 57) (x1 + v1).toNat ((s0 b2 (v1).toNat)) := ⟨_, rfl⟩
        rw [← e_s7]
        have hS_s7 : zSK G s7 := by rw [e_s7]; exact zSK_a hS_s2 (zr (k := 57) (t2 := 106) hG ha rfl) rfl rfl (congrArg some (axI_12 ((x1 + v1).toNat % 13221) (by omega))) (by omega)
        refine j_goto hx 43 dX12_keepsRow_27 rfl ?_
        refine j_iinc hx 5 [(5, .int (zI (v1 + 1))), (0, .ref a), (1, .int (zI x1)), (2, .ref b2), (3, .int (zI 6)), (4, .int (zI 1))] dX12_keepsRow_43 rfl (by omega) (by decide) rfl ?_
        refine j_goto hx 3 dX12_keepsRow_46 rfl ?_
        exact j_sub [1, 2, 3, 4, 5, 0] [(0, .ref a), (1, .int (zI x1)), (2, .ref b2), (3, .int (zI 6)), (4, .int (zI 1)), (5, .int (zI (v1 + 1)))] rfl (ih_c3_1 (v1 + 1) s7 (by omega) (by omega) hS_s7 (zFr_u (zFr_t zFr_rf hF_s2 (by decide)) e_s7 (zr (k := 57) (t2 := 106) hG ha rfl) (by decide)) (zPt_s hE1 e_s7 (by omega) (by omega) (by omega) rfl))
  exact j_sub [1, 2, 3, 4, 5, 0] [(0, .ref a), (1, .int (zI x1)), (2, .ref b2), (3, .int (zI 6)), (4, .int (zI 1)), (5, .int (zI 0))] rfl (c3_1 (2147483648 * 4) 0 s0 (by omega) (by omega) hS0 zFr_rf (zPt_0 rfl (by omega)))

theorem lk_RX12_498 : LkV RX12 498 RX12 yX12_keepsRow cX12_keepsRow 6 (some .int) 4 := ⟨km_RX12_498, ki_yX12_keepsRow, ks_RX12_yX12_keepsRow, kn_RX12, kc_yX12_keepsRow, rfl, by decide +kernel, by decide +kernel, by decide +kernel⟩
set_option maxHeartbeats 1200000 in
set_option maxRecDepth 20000 in
theorem c_X12_keepsAll_k {E : zE} {l : Launch} (hst : l.stackTraces = false) (a : Nat) (x1 : Int) (x2 : Int) : Con E l yX12_keepsAll cX12_keepsAll 4 none { frames := 1, cells := 0, slots := 0, locals := 25 } (fun G s vs => vs = [.ref a, .int (zI x1), .int (zI x2)] ∧ zGK G ∧ zSK G s ∧ (gT G a = 13) ∧ (0 ≤ x1 ∧ x1 ≤ 2) ∧ (1 ≤ x2 ∧ x2 ≤ 1) ∧ (zIm (s (gP G a 57))) ∧ (zc (s (gP G a 27)) ≤ 60) ∧ (zRva (s (gP G a 34)) (s (gP G a 35)) (s (gP G a 37)))) (fun G s _ => pV (fun G2 s2 => G2 = G ∧ zSK G s2 ∧ zFr [106] G s s2 ∧ zIm (s2 (gP G a 57)) ∧ (s2 (gP G a 57) 488 = s (gP G a 57) 488 ∨ s2 (gP G a 57) 488 = s (gP G a 27) 488) ∧ (s2 (gP G a 57) 13709 = s (gP G a 57) 13709 ∨ s2 (gP G a 57) 13709 = s (gP G a 27) 488) ∧ (s2 (gP G a 57) 26930 = s (gP G a 57) 26930 ∨ s2 (gP G a 57) 26930 = s (gP G a 27) 488))) := by
  refine Con.mk hst (by decide) (fun G s vs h => by rw [h.1]; exact Nat.le_of_ble_eq_true rfl) ?_
  rintro X G s0 vs ⟨rfl, hG, hS0, ha, hx1, hx2, e0, e1, e2⟩ rfl hx hq
  obtain rfl : x2 = 1 := by omega
  show JJ X E 4 G s0 0 0 [(0, .ref a), (1, .int (zI x1)), (2, .int (zI 1))] 0 []
  refine j_aload_n hx 0 dX12_keepsAll_0 rfl ?_
  refine j_sipush hx dX12_keepsAll_1 rfl ?_
  refine j_iload_n hx 1 dX12_keepsAll_4 rfl ?_
  refine j_imul hx (r := 13221 * x1) dX12_keepsAll_5 rfl ?_
  refine j_aload_n hx 0 dX12_keepsAll_6 rfl ?_
  refine g13_27 hx hG ha kf_RX12_56 dX12_keepsAll_7 ?_
  refine j_sipush hx dX12_keepsAll_10 rfl ?_
  refine j_iload_n hx 2 dX12_keepsAll_13 rfl ?_
  refine j_callV hx hG (c_X12_keepsRow_84k hst a (13221 * x1) (gP G a 27) 515 1) lk_RX12_498 ha (by decide) rfl rfl rfl rfl [.int (zI (13221 * x1)), .ref (gP G a 27), .int (zI 515), .int (zI 1)] ⟨rfl, hG, hS0, ha, (by omega), (zr (k := 27) (t2 := 84) hG ha rfl), (by omega), (by omega), (by omega)⟩ rfl rfl ⟨by decide, by decide⟩ ⟨by decide, by decide⟩ (k2 := 0) (n2 := 0) rfl rfl (Nat.le_of_ble_eq_true rfl) dX12_keepsAll_14 (kIM (fun v1 s1 hS_s1 hF_s1 q2 => ?_))
  refine j_istore_n hx [(3, .int (zI v1)), (0, .ref a), (1, .int (zI x1)), (2, .int (zI 1))] dX12_keepsAll_17 (by decide) rfl ?_
  refine j_aload_n hx 1 dX12_keepsAll_18 rfl ?_
  refine j_iload_n hx 0 dX12_keepsAll_19 rfl ?_
  refine j_aload_n hx 1 dX12_keepsAll_20 rfl ?_
  refine g13_29 hx hG ha kf_RX12_62 dX12_keepsAll_21 ?_
  refine j_sipush hx dX12_keepsAll_24 rfl ?_
  refine j_iload_n hx 3 dX12_keepsAll_27 rfl ?_
  refine j_callV hx hG (c_X12_keepsRow_86k hst a v1 (gP G a 29) 10000 1) lk_RX12_498 ha (by decide) rfl rfl rfl rfl [.int (zI v1), .ref (gP G a 29), .int (zI 10000), .int (zI 1)] ⟨rfl, hG, hS_s1, ha, (by omega), (zr (k := 29) (t2 := 86) hG ha rfl), (by omega), (by omega), (by omega)⟩ rfl rfl ⟨by decide, by decide⟩ ⟨by decide, by decide⟩ (k2 := 0) (n2 := 0) rfl rfl (Nat.le_of_ble_eq_true rfl) dX12_keepsAll_28 (kIM (fun v3 s2 hS_s2 hF_s2 q4 => ?_))
  refine j_istore_n hx [(3, .int (zI v3)), (0, .ref a), (1, .int (zI x1)), (2, .int (zI 1))] dX12_keepsAll_31 (by decide) rfl ?_
  refine j_aload_n hx 1 dX12_keepsAll_32 rfl ?_
  refine j_iload_n hx 0 dX12_keepsAll_33 rfl ?_
  refine j_aload_n hx 1 dX12_keepsAll_34 rfl ?_
  refine g13_34 hx hG ha kf_RX12_77 dX12_keepsAll_35 ?_
  refine j_sipush hx dX12_keepsAll_38 rfl ?_
  refine j_iload_n hx 3 dX12_keepsAll_41 rfl ?_
  refine j_callV hx hG (c_X12_keepsRow_91k hst a v3 (gP G a 34) 900 1) lk_RX12_498 ha (by decide) rfl rfl rfl rfl [.int (zI v3), .ref (gP G a 34), .int (zI 900), .int (zI 1)] ⟨rfl, hG, hS_s2, ha, (by omega), (zr (k := 34) (t2 := 91) hG ha rfl), (by omega), (by omega), (by omega)⟩ rfl rfl ⟨by decide, by decide⟩ ⟨by decide, by decide⟩ (k2 := 0) (n2 := 0) rfl rfl (Nat.le_of_ble_eq_true rfl) dX12_keepsAll_42 (kIM (fun v5 s3 hS_s3 hF_s3 q6 => ?_))
  refine j_istore_n hx [(3, .int (zI v5)), (0, .ref a), (1, .int (zI x1)), (2, .int (zI 1))] dX12_keepsAll_45 (by decide) rfl ?_
  refine j_aload_n hx 1 dX12_keepsAll_46 rfl ?_
  refine j_iload_n hx 0 dX12_keepsAll_47 rfl ?_
  refine j_aload_n hx 1 dX12_keepsAll_48 rfl ?_
  refine g13_35 hx hG ha kf_RX12_80 dX12_keepsAll_49 ?_
  refine j_sipush hx dX12_keepsAll_52 rfl ?_
  refine j_iload_n hx 3 dX12_keepsAll_55 rfl ?_
  refine j_callV hx hG (c_X12_keepsRow_92k hst a v5 (gP G a 35) 900 1) lk_RX12_498 ha (by decide) rfl rfl rfl rfl [.int (zI v5), .ref (gP G a 35), .int (zI 900), .int (zI 1)] ⟨rfl, hG, hS_s3, ha, (by omega), (zr (k := 35) (t2 := 92) hG ha rfl), (by omega), (by omega), (by omega)⟩ rfl rfl ⟨by decide, by decide⟩ ⟨by decide, by decide⟩ (k2 := 0) (n2 := 0) rfl rfl (Nat.le_of_ble_eq_true rfl) dX12_keepsAll_56 (kIM (fun v7 s4 hS_s4 hF_s4 q8 => ?_))
  refine j_istore_n hx [(3, .int (zI v7)), (0, .ref a), (1, .int (zI x1)), (2, .int (zI 1))] dX12_keepsAll_59 (by decide) rfl ?_
  refine j_aload_n hx 1 dX12_keepsAll_60 rfl ?_
  refine j_iload_n hx 0 dX12_keepsAll_61 rfl ?_
  refine j_aload_n hx 1 dX12_keepsAll_62 rfl ?_
  refine g13_36 hx hG ha kf_RX12_83 dX12_keepsAll_63 ?_
  refine j_sipush hx dX12_keepsAll_66 rfl ?_
  refine j_iload_n hx 3 dX12_keepsAll_69 rfl ?_
  refine j_callV hx hG (c_X12_keepsRow_93k hst a v7 (gP G a 36) 900 1) lk_RX12_498 ha (by decide) rfl rfl rfl rfl [.int (zI v7), .ref (gP G a 36), .int (zI 900), .int (zI 1)] ⟨rfl, hG, hS_s4, ha, (by omega), (zr (k := 36) (t2 := 93) hG ha rfl), (by omega), (by omega), (by omega)⟩ rfl rfl ⟨by decide, by decide⟩ ⟨by decide, by decide⟩ (k2 := 0) (n2 := 0) rfl rfl (Nat.le_of_ble_eq_true rfl) dX12_keepsAll_70 (kIM (fun v9 s5 hS_s5 hF_s5 q10 => ?_))
  refine j_istore_n hx [(3, .int (zI v9)), (0, .ref a), (1, .int (zI x1)), (2, .int (zI 1))] dX12_keepsAll_73 (by decide) rfl ?_
  refine j_aload_n hx 1 dX12_keepsAll_74 rfl ?_
  refine j_iload_n hx 0 dX12_keepsAll_75 rfl ?_
  refine j_aload_n hx 1 dX12_keepsAll_76 rfl ?_
  refine g13_37 hx hG ha kf_RX12_86 dX12_keepsAll_77 ?_
  refine j_bipush hx dX12_keepsAll_80 rfl ?_
  refine j_iload_n hx 3 dX12_keepsAll_82 rfl ?_
  refine j_callV hx hG (c_X12_keepsRow_94k hst a v9 (gP G a 37) 6 1) lk_RX12_498 ha (by decide) rfl rfl rfl rfl [.int (zI v9), .ref (gP G a 37), .int (zI 6), .int (zI 1)] ⟨rfl, hG, hS_s5, ha, (by omega), (zr (k := 37) (t2 := 94) hG ha rfl), (by omega), (by omega), (by omega)⟩ rfl rfl ⟨by decide, by decide⟩ ⟨by decide, by decide⟩ (k2 := 0) (n2 := 0) rfl rfl (Nat.le_of_ble_eq_true rfl) dX12_keepsAll_83 (kIM (fun v11 s6 hS_s6 hF_s6 q12 => ?_))
  have hI13 := zIm_put e0 q2.2.2 q4.2.2 q6.2.2 q8.2.2 q10.2.2 q12.2.2 (by omega) (by omega) (by omega) (by have q1 : s2 (gP G a 34) = s0 (gP G a 34) := (by rw [hF_s2 (gP G a 34) (by rw [(zr (k := 34) (t2 := 91) hG ha rfl)]; decide), hF_s1 (gP G a 34) (by rw [(zr (k := 34) (t2 := 91) hG ha rfl)]; decide)]); have q2 : s3 (gP G a 35) = s0 (gP G a 35) := (by rw [hF_s3 (gP G a 35) (by rw [(zr (k := 35) (t2 := 92) hG ha rfl)]; decide), hF_s2 (gP G a 35) (by rw [(zr (k := 35) (t2 := 92) hG ha rfl)]; decide), hF_s1 (gP G a 35) (by rw [(zr (k := 35) (t2 := 92) hG ha rfl)]; decide)]); have q3 : s5 (gP G a 37) = s0 (gP G a 37) := (by rw [hF_s5 (gP G a 37) (by rw [(zr (k := 37) (t2 := 94) hG ha rfl)]; decide), hF_s4 (gP G a 37) (by rw [(zr (k := 37) (t2 := 94) hG ha rfl)]; decide), hF_s3 (gP G a 37) (by rw [(zr (k := 37) (t2 := 94) hG ha rfl)]; decide), hF_s2 (gP G a 37) (by rw [(zr (k := 37) (t2 := 94) hG ha rfl)]; decide), hF_s1 (gP G a 37) (by rw [(zr (k := 37) (t2 := 94) hG ha rfl)]; decide)]); rw [q1, q2, q3]; exact e2) (fun j hj => (za hS_s5 (zr (k := 37) (t2 := 94) hG ha rfl) (lo := 0) (hi := 150) rfl (by rw [zn hG (zr (k := 37) (t2 := 94) hG ha rfl) (n := 6) rfl]; exact hj)).2)
  have z14 := hI13.2
  refine j_pop hx dX12_keepsAll_86 rfl ?_
  exact j_vret hx hq rfl (by decide) (by decide) dX12_keepsAll_87 ⟨rfl, rfl, hS_s6, (zFr_t (zFr_t (zFr_t (zFr_t (zFr_t (zFr_t zFr_rf hF_s1 (by decide)) hF_s2 (by decide)) hF_s3 (by decide)) hF_s4 (by decide)) hF_s5 (by decide)) hF_s6 (by decide)), ⟨hI13.1, by omega, by omega, by omega⟩⟩

theorem lk_RX12_502 : LkV RX12 502 RX12 yX12_keepsAll cX12_keepsAll 4 none 2 := ⟨km_RX12_502, ki_yX12_keepsAll, ks_RX12_yX12_keepsAll, kn_RX12, kc_yX12_keepsAll, rfl, by decide +kernel, by decide +kernel, by decide +kernel⟩
set_option maxHeartbeats 1200000 in
set_option maxRecDepth 20000 in
theorem c_X12_image {E : zE} {l : Launch} (hst : l.stackTraces = false) (a : Nat) : Con E l yX12_image cX12_image 1 (some .int) { frames := 2, cells := 0, slots := 0, locals := 48 } (fun G s vs => vs = [.ref a] ∧ zGK G ∧ zSK G s ∧ (gT G a = 13) ∧ (zIm (s (gP G a 57))) ∧ (zc (s (gP G a 27)) ≤ 60) ∧ (zRva (s (gP G a 34)) (s (gP G a 35)) (s (gP G a 37)))) (fun G s _ => pI (fun r G2 s2 => G2 = G ∧ zSK G s2 ∧ zFr [13, 106] G s s2 ∧ ((-2147483648) ≤ r ∧ r ≤ 2147483647) ∧ zIm (s2 (gP G a 57)) ∧ (s2 (gP G a 57) 488 = s (gP G a 57) 488 ∨ s2 (gP G a 57) 488 = s (gP G a 27) 488) ∧ (s2 (gP G a 57) 13709 = s (gP G a 57) 13709 ∨ s2 (gP G a 57) 13709 = s (gP G a 27) 488) ∧ (s2 (gP G a 57) 26930 = s (gP G a 57) 26930 ∨ s2 (gP G a 57) 26930 = s (gP G a 27) 488) ∧ s2 a 3 = s a 3 ∧ s2 a 4 = s a 4 ∧ s2 a 5 = s a 5 ∧ s2 a 7 = s a 7 ∧ s2 a 21 = s a 21 ∧ s2 a 22 = s a 22 ∧ s2 a 23 = s a 23 ∧ s2 a 24 = s a 24 ∧ s2 a 38 = s a 38 ∧ s2 a 51 = s a 51 ∧ s2 a 52 = s a 52)) := by
  refine Con.mk hst (by decide) (fun G s vs h => by rw [h.1]; exact Nat.le_of_ble_eq_true rfl) ?_
  rintro X G s0 vs ⟨rfl, hG, hS0, ha, e0, e1, e2⟩ rfl hx hq
  show JJ X E 1 G s0 0 0 [(0, .ref a)] 0 []
  refine j_aload_n hx 0 dX12_image_0 rfl ?_
  refine j_iconst hx dX12_image_1 ?_
  refine p13_0 hx hG ha kf_RX12_3 dX12_image_2 ?_
  obtain ⟨s1, e_s1⟩ : ∃ z, z = zU s0 a 0 0 := ⟨_, rfl⟩
  rw [← e_s1]
  have hS_s1 : zSK G s1 := by rw [e_s1]; exact zSK_F hS0 ha rfl rfl rfl (by omega)
  refine j_aload_n hx 0 dX12_image_5 rfl ?_
  have f1 := zf hS0 ha (k := 58) rfl
  refine g13_58 hx hG ha kf_RX12_201 (v := (s0 a 58)) (by rw [e_s1, zU_at (Or.inr (by decide))]) dX12_image_6 ?_
  refine j_iconst hx dX12_image_9 ?_
  refine j_icmp_ne hx 15 dX12_image_10 rfl (by omega) ⟨by decide, by decide⟩ (fun h2 => ?_) (fun h2 => ?_)
  · skip
    refine j_aload_n hx 0 dX12_image_15 rfl ?_
    refine j_aload_n hx 0 dX12_image_16 rfl ?_
    refine g13_58 hx hG ha kf_RX12_201 (v := (s0 a 58)) (by rw [e_s1, zU_at (Or.inr (by decide))]) dX12_image_17 ?_
    refine j_iconst hx dX12_image_20 ?_
    have g3 : zc (s1 (gP G a 27)) = zc (s0 (gP G a 27)) := by rw [e_s1, zU_ne (zne ha (zr (k := 27) (t2 := 84) hG ha rfl) (by decide))]
    have g4 : s1 (gP G a 57) 488 = s0 (gP G a 57) 488 := (by rw [e_s1, zU_at (Or.inl (zne ha (zr (k := 57) (t2 := 106) hG ha rfl) (by decide)))])
    have g5 : s1 (gP G a 27) 488 = s0 (gP G a 27) 488 := (by rw [e_s1, zU_at (Or.inl (zne ha (zr (k := 27) (t2 := 84) hG ha rfl) (by decide)))])
    have g6 : s1 (gP G a 57) 13709 = s0 (gP G a 57) 13709 := (by rw [e_s1, zU_at (Or.inl (zne ha (zr (k := 57) (t2 := 106) hG ha rfl) (by decide)))])
    have g7 : s1 (gP G a 57) 26930 = s0 (gP G a 57) 26930 := (by rw [e_s1, zU_at (Or.inl (zne ha (zr (k := 57) (t2 := 106) hG ha rfl) (by decide)))])
    refine j_callV hx hG (c_X12_keepsAll_k hst a ((s0 a 58)) 1) lk_RX12_502 ha (by decide) rfl rfl rfl rfl [.int (zI ((s0 a 58))), .int (zI 1)] ⟨rfl, hG, hS_s1, ha, (by omega), (by omega), ((by have q1 : s1 (gP G a 57) = s0 (gP G a 57) := (by rw [e_s1, zU_ne (zne ha (zr (k := 57) (t2 := 106) hG ha rfl) (by decide))]); rw [q1]; exact e0)), (by omega), ((by have q1 : s1 (gP G a 34) = s0 (gP G a 34) := (by rw [e_s1, zU_ne (zne ha (zr (k := 34) (t2 := 91) hG ha rfl) (by decide))]); have q2 : s1 (gP G a 35) = s0 (gP G a 35) := (by rw [e_s1, zU_ne (zne ha (zr (k := 35) (t2 := 92) hG ha rfl) (by decide))]); have q3 : s1 (gP G a 37) = s0 (gP G a 37) := (by rw [e_s1, zU_ne (zne ha (zr (k := 37) (t2 := 94) hG ha rfl) (by decide))]); rw [q1, q2, q3]; exact e2))⟩ rfl rfl ⟨by decide, by decide⟩ ⟨by decide, by decide⟩ (k2 := 0) (n2 := 0) rfl rfl (Nat.le_of_ble_eq_true rfl) dX12_image_21 (kVM (fun s2 hS_s2 hF_s2 q9 => ?_))
    refine j_aload_n hx 0 dX12_image_24 rfl ?_
    refine j_dup hx dX12_image_25 rfl ?_
    refine g13_58 hx hG ha kf_RX12_201 (v := (s0 a 58)) (by rw [(zFr_g hF_s2 ha (by decide)), e_s1, zU_at (Or.inr (by decide))]) dX12_image_26 ?_
    refine j_iconst hx dX12_image_29 ?_
    refine j_iadd hx (r := (s0 a 58) + 1) dX12_image_30 (by omega) ?_
    refine p13_58 hx hG ha kf_RX12_201 dX12_image_31 ?_
    obtain ⟨s3, e_s3⟩ : ∃ z, z = zU s2 a 58 ((s0 a 58) + 1) := ⟨_, rfl⟩
    rw [← e_s3]
    have hS_s3 : zSK G s3 := by rw [e_s3]; exact zSK_F hS_s2 ha rfl rfl rfl (by omega)
    refine j_aload_n hx 0 dX12_image_34 rfl ?_
    refine g13_58 hx hG ha kf_RX12_201 (v := (s0 a 58) + 1) (by rw [e_s3, zU_eq]) dX12_image_35 ?_
    have g10 : s3 (gP G a 57) 488 = s2 (gP G a 57) 488 := (by rw [e_s3, zU_at (Or.inl (zne ha (zr (k := 57) (t2 := 106) hG ha rfl) (by decide)))])
    have g11 : s3 (gP G a 57) 13709 = s2 (gP G a 57) 13709 := (by rw [e_s3, zU_at (Or.inl (zne ha (zr (k := 57) (t2 := 106) hG ha rfl) (by decide)))])
    have g12 : s3 (gP G a 57) 26930 = s2 (gP G a 57) 26930 := (by rw [e_s3, zU_at (Or.inl (zne ha (zr (k := 57) (t2 := 106) hG ha rfl) (by decide)))])
    have g13 : s3 a 3 = s0 a 3 := (by rw [e_s3, zU_at (Or.inr (by decide)), (zFr_g hF_s2 ha (by decide)), e_s1, zU_at (Or.inr (by decide))])
    have f14 := zf hS0 ha (k := 3) rfl
    have g15 : s3 a 4 = s0 a 4 := (by rw [e_s3, zU_at (Or.inr (by decide)), (zFr_g hF_s2 ha (by decide)), e_s1, zU_at (Or.inr (by decide))])
    have f16 := zf hS0 ha (k := 4) rfl
    have g17 : s3 a 5 = s0 a 5 := (by rw [e_s3, zU_at (Or.inr (by decide)), (zFr_g hF_s2 ha (by decide)), e_s1, zU_at (Or.inr (by decide))])
    have f18 := zf hS0 ha (k := 5) rfl
    have g19 : s3 a 7 = s0 a 7 := (by rw [e_s3, zU_at (Or.inr (by decide)), (zFr_g hF_s2 ha (by decide)), e_s1, zU_at (Or.inr (by decide))])
    have f20 := zf hS0 ha (k := 7) rfl
    have g21 : s3 a 21 = s0 a 21 := (by rw [e_s3, zU_at (Or.inr (by decide)), (zFr_g hF_s2 ha (by decide)), e_s1, zU_at (Or.inr (by decide))])
    have f22 := zf hS0 ha (k := 21) rfl
    have g23 : s3 a 22 = s0 a 22 := (by rw [e_s3, zU_at (Or.inr (by decide)), (zFr_g hF_s2 ha (by decide)), e_s1, zU_at (Or.inr (by decide))])
    have f24 := zf hS0 ha (k := 22) rfl
    have g25 : s3 a 23 = s0 a 23 := (by rw [e_s3, zU_at (Or.inr (by decide)), (zFr_g hF_s2 ha (by decide)), e_s1, zU_at (Or.inr (by decide))])
    have f26 := zf hS0 ha (k := 23) rfl
    have g27 : s3 a 24 = s0 a 24 := (by rw [e_s3, zU_at (Or.inr (by decide)), (zFr_g hF_s2 ha (by decide)), e_s1, zU_at (Or.inr (by decide))])
    have f28 := zf hS0 ha (k := 24) rfl
    have g29 : s3 a 38 = s0 a 38 := (by rw [e_s3, zU_at (Or.inr (by decide)), (zFr_g hF_s2 ha (by decide)), e_s1, zU_at (Or.inr (by decide))])
    have f30 := zf hS0 ha (k := 38) rfl
    have g31 : s3 a 51 = s0 a 51 := (by rw [e_s3, zU_at (Or.inr (by decide)), (zFr_g hF_s2 ha (by decide)), e_s1, zU_at (Or.inr (by decide))])
    have f32 := zf hS0 ha (k := 51) rfl
    have g33 : s3 a 52 = s0 a 52 := (by rw [e_s3, zU_at (Or.inr (by decide)), (zFr_g hF_s2 ha (by decide)), e_s1, zU_at (Or.inr (by decide))])
    have f34 := zf hS0 ha (k := 52) rfl
    exact j_iret hx hq rfl (by decide) (by decide) dX12_image_38 ⟨(s0 a 58) + 1, rfl, rfl, hS_s3, (zFr_u (zFr_t (zFr_u zFr_rf e_s1 ha (by decide)) hF_s2 (by decide)) e_s3 ha (by decide)), ⟨(by omega), (by have q1 : s3 (gP G a 57) = s2 (gP G a 57) := (by rw [e_s3, zU_ne (zne ha (zr (k := 57) (t2 := 106) hG ha rfl) (by decide))]); rw [q1]; exact q9.1), by omega, by omega, by omega, by omega, by omega, by omega, by omega, by omega, by omega, by omega, by omega, by omega, by omega, by omega⟩⟩
  · skip
    refine j_iconst hx dX12_image_13 ?_
    have g35 : s1 (gP G a 57) 488 = s0 (gP G a 57) 488 := (by rw [e_s1, zU_at (Or.inl (zne ha (zr (k := 57) (t2 := 106) hG ha rfl) (by decide)))])
    have g36 : s1 (gP G a 57) 13709 = s0 (gP G a 57) 13709 := (by rw [e_s1, zU_at (Or.inl (zne ha (zr (k := 57) (t2 := 106) hG ha rfl) (by decide)))])
    have g37 : s1 (gP G a 57) 26930 = s0 (gP G a 57) 26930 := (by rw [e_s1, zU_at (Or.inl (zne ha (zr (k := 57) (t2 := 106) hG ha rfl) (by decide)))])
    have g38 : s1 a 3 = s0 a 3 := (by rw [e_s1, zU_at (Or.inr (by decide))])
    have f39 := zf hS0 ha (k := 3) rfl
    have g40 : s1 a 4 = s0 a 4 := (by rw [e_s1, zU_at (Or.inr (by decide))])
    have f41 := zf hS0 ha (k := 4) rfl
    have g42 : s1 a 5 = s0 a 5 := (by rw [e_s1, zU_at (Or.inr (by decide))])
    have f43 := zf hS0 ha (k := 5) rfl
    have g44 : s1 a 7 = s0 a 7 := (by rw [e_s1, zU_at (Or.inr (by decide))])
    have f45 := zf hS0 ha (k := 7) rfl
    have g46 : s1 a 21 = s0 a 21 := (by rw [e_s1, zU_at (Or.inr (by decide))])
    have f47 := zf hS0 ha (k := 21) rfl
    have g48 : s1 a 22 = s0 a 22 := (by rw [e_s1, zU_at (Or.inr (by decide))])
    have f49 := zf hS0 ha (k := 22) rfl
    have g50 : s1 a 23 = s0 a 23 := (by rw [e_s1, zU_at (Or.inr (by decide))])
    have f51 := zf hS0 ha (k := 23) rfl
    have g52 : s1 a 24 = s0 a 24 := (by rw [e_s1, zU_at (Or.inr (by decide))])
    have f53 := zf hS0 ha (k := 24) rfl
    have g54 : s1 a 38 = s0 a 38 := (by rw [e_s1, zU_at (Or.inr (by decide))])
    have f55 := zf hS0 ha (k := 38) rfl
    have g56 : s1 a 51 = s0 a 51 := (by rw [e_s1, zU_at (Or.inr (by decide))])
    have f57 := zf hS0 ha (k := 51) rfl
    have g58 : s1 a 52 = s0 a 52 := (by rw [e_s1, zU_at (Or.inr (by decide))])
    have f59 := zf hS0 ha (k := 52) rfl
    exact j_iret hx hq rfl (by decide) (by decide) dX12_image_14 ⟨(-1), rfl, rfl, hS_s1, (zFr_u zFr_rf e_s1 ha (by decide)), ⟨(by omega), (by have q1 : s1 (gP G a 57) = s0 (gP G a 57) := (by rw [e_s1, zU_ne (zne ha (zr (k := 57) (t2 := 106) hG ha rfl) (by decide))]); rw [q1]; exact e0), by omega, by omega, by omega, by omega, by omega, by omega, by omega, by omega, by omega, by omega, by omega, by omega, by omega, by omega⟩⟩

set_option maxHeartbeats 1200000 in
set_option maxRecDepth 20000 in
theorem c_X12_keepsRow_84r {E : zE} {l : Launch} (hst : l.stackTraces = false) (a : Nat) (x1 : Int) (b2 : Nat) (x3 : Int) (x4 : Int) : Con E l yX12_keepsRow cX12_keepsRow 6 (some .int) { frames := 0, cells := 0, slots := 0, locals := 0 } (fun G s vs => vs = [.ref a, .int (zI x1), .ref b2, .int (zI x3), .int (zI x4)] ∧ zGK G ∧ zSK G s ∧ (gT G a = 13) ∧ (0 ≤ x1 ∧ x1 ≤ 26442) ∧ (gT G b2 = 84) ∧ (515 ≤ x3 ∧ x3 ≤ 515) ∧ (0 ≤ x4 ∧ x4 ≤ 0) ∧ (x1 = 0 ∨ x1 = 13221 ∨ x1 = 26442)) (fun G s _ => pI (fun r G2 s2 => G2 = G ∧ zSK G s2 ∧ zFr [84] G s s2 ∧ (515 ≤ r ∧ r ≤ 26957) ∧ r = x1 + 515 ∧ zPg (s2 b2) (s b2) (s (gP G a 57)) x1 515)) := by
  refine Con.mk hst (by decide) (fun G s vs h => by rw [h.1]; exact Nat.le_of_ble_eq_true rfl) ?_
  rintro X G s0 vs ⟨rfl, hG, hS0, ha, hx1, hb2, hx3, hx4, e0⟩ rfl hx hq
  obtain rfl : x3 = 515 := by omega
  obtain rfl : x4 = 0 := by omega
  show JJ X E 6 G s0 0 0 [(0, .ref a), (1, .int (zI x1)), (2, .ref b2), (3, .int (zI 515)), (4, .int (zI 0))] 0 []
  refine j_iconst hx dX12_keepsRow_0 ?_
  refine j_istore hx [(5, .int (zI 0)), (0, .ref a), (1, .int (zI x1)), (2, .ref b2), (3, .int (zI 515)), (4, .int (zI 0))] dX12_keepsRow_1 (by decide) rfl ?_
  have c3_1 : ∀ (m_c3_1 : Nat) (v1 : Int) (s2 : zS), 2147483648 - v1 < m_c3_1 → (0 ≤ v1 ∧ v1 ≤ 515) → (zSK G s2) → (zFr [84] G s0 s2) → (zPg (s2 b2) (s0 b2) (s0 (gP G a 57)) x1 (v1)) → JJ X E 6 G s2 0 0 [(0, .ref a), (1, .int (zI x1)), (2, .ref b2), (3, .int (zI 515)), (4, .int (zI 0)), (5, .int (zI v1))] 3 [] := by
    intro m_c3_1
    induction m_c3_1 with
    | zero => intro v1 s2 hm_c3_1 fA3 hS_s2 hF_s2 hE1; exfalso; omega
    | succ m_c3_1 ih_c3_1 => 
      intro v1 s2 hm_c3_1 fA3 hS_s2 hF_s2 hE1
      refine j_iload hx 5 dX12_keepsRow_3 rfl ?_
      refine j_iload_n hx 3 dX12_keepsRow_5 rfl ?_
      refine j_icmp_ge hx 49 dX12_keepsRow_6 rfl (by omega) ⟨by decide, by decide⟩ (fun h2 => ?_) (fun h2 => ?_)
      · skip
        have hP3 : zPg (s2 b2) (s0 b2) (s0 (gP G a 57)) x1 515 := zPg_n hE1 (by omega)
        refine j_iload_n hx 1 dX12_keepsRow_49 rfl ?_
        refine j_iload_n hx 3 dX12_keepsRow_50 rfl ?_
        refine j_iadd hx (r := x1 + 515) dX12_keepsRow_51 rfl ?_
        exact j_iret hx hq rfl (by decide) (by decide) dX12_keepsRow_52 ⟨x1 + 515, rfl, rfl, hS_s2, (zFr_t zFr_rf hF_s2 (by decide)), ⟨(by omega), by omega, (zPg_nn hP3 (by omega) (by omega))⟩⟩
      · skip
        refine j_iload hx 4 dX12_keepsRow_9 rfl ?_
        refine j_if_eq hx 30 dX12_keepsRow_11 rfl ⟨by decide, by decide⟩ (fun h4 => ?_) (fun h4 => absurd h4 (by omega))
        refine j_aload_n hx 2 dX12_keepsRow_30 rfl ?_
        refine j_iload hx 5 dX12_keepsRow_31 rfl ?_
        refine j_aload_n hx 0 dX12_keepsRow_33 rfl ?_
        refine g13_57 hx hG ha kf_RX12_125 dX12_keepsRow_34 ?_
        refine j_iload_n hx 1 dX12_keepsRow_37 rfl ?_
        refine j_iload hx 5 dX12_keepsRow_38 rfl ?_
        refine j_iadd hx (r := x1 + v1) dX12_keepsRow_40 rfl ?_
        have f5 := zah (j := (x1 + v1).toNat) hS0 (zr (k := 57) (t2 := 106) hG ha rfl) (fun k => ⟨_, rfl, (axI_h _).1, (axI_h _).2.1⟩) (zlen hG (zr (k := 57) (t2 := 106) hG ha rfl) (n := 39663) rfl rfl) (show 0 ≤ x1 + v1 by omega) (by omega) rfl
        refine j_iald hx hG (zr (k := 57) (t2 := 106) hG ha rfl) (by decide) rfl (zlen hG (zr (k := 57) (t2 := 106) hG ha rfl) (n := 39663) rfl rfl) (by omega) (by omega) (j := (x1 + v1).toNat) rfl (v := (s0 (gP G a 57) (x1 + v1).toNat)) (by rw [(zFr_g hF_s2 (zr (k := 57) (t2 := 106) hG ha rfl) (by decide))]) dX12_keepsRow_41 ?_
        refine j_iast hx hG hb2 (by decide) rfl (zlen hG hb2 (n := 515) rfl rfl) (by omega) (by omega) (j := (v1).toNat) rfl dX12_keepsRow_42 ?_
        obtain ⟨s7, e_s7⟩ : ∃ z, z = zU s2 b2 (v1).toNat ((s0 (gP G a 57) (x1 + v1).toNat)) := ⟨_, rfl⟩
        rw [← e_s7]
        have hS_s7 : zSK G s7 := by rw [e_s7]; exact zSK_cq hS_s2 hS0 hb2 (zr (k := 57) (t2 := 106) hG ha rfl) (fun _ => rfl) rfl (j2 := (x1 + v1).toNat) (by exact congrArg some (show axS (v1).toNat = axI ((x1 + v1).toNat % 13221) by rw [show (x1 + v1).toNat % 13221 = (v1).toNat by omega]; exact (zI_S _ (by omega)).symm)) (by have := (zlen hG (zr (k := 57) (t2 := 106) hG ha rfl) (n := 39663) rfl rfl); omega) rfl
        refine j_iinc hx 5 [(5, .int (zI (v1 + 1))), (0, .ref a), (1, .int (zI x1)), (2, .ref b2), (3, .int (zI 515)), (4, .int (zI 0))] dX12_keepsRow_43 rfl (by omega) (by decide) rfl ?_
        refine j_goto hx 3 dX12_keepsRow_46 rfl ?_
        exact j_sub [1, 2, 3, 4, 5, 0] [(0, .ref a), (1, .int (zI x1)), (2, .ref b2), (3, .int (zI 515)), (4, .int (zI 0)), (5, .int (zI (v1 + 1)))] rfl (ih_c3_1 (v1 + 1) s7 (by omega) (by omega) hS_s7 (zFr_u (zFr_t zFr_rf hF_s2 (by decide)) e_s7 hb2 (by decide)) (zPg_s hE1 e_s7 (by omega) (by omega) rfl))
  exact j_sub [1, 2, 3, 4, 5, 0] [(0, .ref a), (1, .int (zI x1)), (2, .ref b2), (3, .int (zI 515)), (4, .int (zI 0)), (5, .int (zI 0))] rfl (c3_1 (2147483648 * 4) 0 s0 (by omega) (by omega) hS0 zFr_rf (zPg_0 rfl (by omega)))

set_option maxHeartbeats 1200000 in
set_option maxRecDepth 20000 in
theorem c_X12_keepsRow_86r {E : zE} {l : Launch} (hst : l.stackTraces = false) (a : Nat) (x1 : Int) (b2 : Nat) (x3 : Int) (x4 : Int) : Con E l yX12_keepsRow cX12_keepsRow 6 (some .int) { frames := 0, cells := 0, slots := 0, locals := 0 } (fun G s vs => vs = [.ref a, .int (zI x1), .ref b2, .int (zI x3), .int (zI x4)] ∧ zGK G ∧ zSK G s ∧ (gT G a = 13) ∧ (515 ≤ x1 ∧ x1 ≤ 26957) ∧ (gT G b2 = 86) ∧ (10000 ≤ x3 ∧ x3 ≤ 10000) ∧ (0 ≤ x4 ∧ x4 ≤ 0) ∧ (x1 = 515 ∨ x1 = 13736 ∨ x1 = 26957)) (fun G s _ => pI (fun r G2 s2 => G2 = G ∧ zSK G s2 ∧ zFr [86] G s s2 ∧ (10515 ≤ r ∧ r ≤ 36957) ∧ r = x1 + 10000 ∧ zPg (s2 b2) (s b2) (s (gP G a 57)) x1 10000)) := by
  refine Con.mk hst (by decide) (fun G s vs h => by rw [h.1]; exact Nat.le_of_ble_eq_true rfl) ?_
  rintro X G s0 vs ⟨rfl, hG, hS0, ha, hx1, hb2, hx3, hx4, e0⟩ rfl hx hq
  obtain rfl : x3 = 10000 := by omega
  obtain rfl : x4 = 0 := by omega
  show JJ X E 6 G s0 0 0 [(0, .ref a), (1, .int (zI x1)), (2, .ref b2), (3, .int (zI 10000)), (4, .int (zI 0))] 0 []
  refine j_iconst hx dX12_keepsRow_0 ?_
  refine j_istore hx [(5, .int (zI 0)), (0, .ref a), (1, .int (zI x1)), (2, .ref b2), (3, .int (zI 10000)), (4, .int (zI 0))] dX12_keepsRow_1 (by decide) rfl ?_
  have c3_1 : ∀ (m_c3_1 : Nat) (v1 : Int) (s2 : zS), 2147483648 - v1 < m_c3_1 → (0 ≤ v1 ∧ v1 ≤ 10000) → (zSK G s2) → (zFr [86] G s0 s2) → (zPg (s2 b2) (s0 b2) (s0 (gP G a 57)) x1 (v1)) → JJ X E 6 G s2 0 0 [(0, .ref a), (1, .int (zI x1)), (2, .ref b2), (3, .int (zI 10000)), (4, .int (zI 0)), (5, .int (zI v1))] 3 [] := by
    intro m_c3_1
    induction m_c3_1 with
    | zero => intro v1 s2 hm_c3_1 fA3 hS_s2 hF_s2 hE1; exfalso; omega
    | succ m_c3_1 ih_c3_1 => 
      intro v1 s2 hm_c3_1 fA3 hS_s2 hF_s2 hE1
      refine j_iload hx 5 dX12_keepsRow_3 rfl ?_
      refine j_iload_n hx 3 dX12_keepsRow_5 rfl ?_
      refine j_icmp_ge hx 49 dX12_keepsRow_6 rfl (by omega) ⟨by decide, by decide⟩ (fun h2 => ?_) (fun h2 => ?_)
      · skip
        have hP3 : zPg (s2 b2) (s0 b2) (s0 (gP G a 57)) x1 10000 := zPg_n hE1 (by omega)
        refine j_iload_n hx 1 dX12_keepsRow_49 rfl ?_
        refine j_iload_n hx 3 dX12_keepsRow_50 rfl ?_
        refine j_iadd hx (r := x1 + 10000) dX12_keepsRow_51 rfl ?_
        exact j_iret hx hq rfl (by decide) (by decide) dX12_keepsRow_52 ⟨x1 + 10000, rfl, rfl, hS_s2, (zFr_t zFr_rf hF_s2 (by decide)), ⟨(by omega), by omega, (zPg_nn hP3 (by omega) (by omega))⟩⟩
      · skip
        refine j_iload hx 4 dX12_keepsRow_9 rfl ?_
        refine j_if_eq hx 30 dX12_keepsRow_11 rfl ⟨by decide, by decide⟩ (fun h4 => ?_) (fun h4 => absurd h4 (by omega))
        refine j_aload_n hx 2 dX12_keepsRow_30 rfl ?_
        refine j_iload hx 5 dX12_keepsRow_31 rfl ?_
        refine j_aload_n hx 0 dX12_keepsRow_33 rfl ?_
        refine g13_57 hx hG ha kf_RX12_125 dX12_keepsRow_34 ?_
        refine j_iload_n hx 1 dX12_keepsRow_37 rfl ?_
        refine j_iload hx 5 dX12_keepsRow_38 rfl ?_
        refine j_iadd hx (r := x1 + v1) dX12_keepsRow_40 rfl ?_
        have f5 := zaQ (j := (x1 + v1).toNat) hS0 (zr (k := 57) (t2 := 106) hG ha rfl) (congrArg some (axI_9 ((x1 + v1).toNat % 13221) (by omega))) (zlen hG (zr (k := 57) (t2 := 106) hG ha rfl) (n := 39663) rfl rfl) (show 0 ≤ x1 + v1 by omega) (by omega) rfl
        refine j_iald hx hG (zr (k := 57) (t2 := 106) hG ha rfl) (by decide) rfl (zlen hG (zr (k := 57) (t2 := 106) hG ha rfl) (n := 39663) rfl rfl) (by omega) (by omega) (j := (x1 + v1).toNat) rfl (v := (s0 (gP G a 57) (x1 + v1).toNat)) (by rw [(zFr_g hF_s2 (zr (k := 57) (t2 := 106) hG ha rfl) (by decide))]) dX12_keepsRow_41 ?_
        refine j_iast hx hG hb2 (by decide) rfl (zlen hG hb2 (n := 10000) rfl rfl) (by omega) (by omega) (j := (v1).toNat) rfl dX12_keepsRow_42 ?_
        obtain ⟨s7, e_s7⟩ : ∃ z, z = zU s2 b2 (v1).toNat ((s0 (gP G a 57) (x1 + v1).toNat)) := ⟨_, rfl⟩
        rw [← e_s7]
        have hS_s7 : zSK G s7 := by rw [e_s7]; exact zSK_A hS_s2 hb2 rfl rfl rfl (by omega)
        refine j_iinc hx 5 [(5, .int (zI (v1 + 1))), (0, .ref a), (1, .int (zI x1)), (2, .ref b2), (3, .int (zI 10000)), (4, .int (zI 0))] dX12_keepsRow_43 rfl (by omega) (by decide) rfl ?_
        refine j_goto hx 3 dX12_keepsRow_46 rfl ?_
        exact j_sub [1, 2, 3, 4, 5, 0] [(0, .ref a), (1, .int (zI x1)), (2, .ref b2), (3, .int (zI 10000)), (4, .int (zI 0)), (5, .int (zI (v1 + 1)))] rfl (ih_c3_1 (v1 + 1) s7 (by omega) (by omega) hS_s7 (zFr_u (zFr_t zFr_rf hF_s2 (by decide)) e_s7 hb2 (by decide)) (zPg_s hE1 e_s7 (by omega) (by omega) rfl))
  exact j_sub [1, 2, 3, 4, 5, 0] [(0, .ref a), (1, .int (zI x1)), (2, .ref b2), (3, .int (zI 10000)), (4, .int (zI 0)), (5, .int (zI 0))] rfl (c3_1 (2147483648 * 4) 0 s0 (by omega) (by omega) hS0 zFr_rf (zPg_0 rfl (by omega)))

set_option maxHeartbeats 1200000 in
set_option maxRecDepth 20000 in
theorem c_X12_keepsRow_91r {E : zE} {l : Launch} (hst : l.stackTraces = false) (a : Nat) (x1 : Int) (b2 : Nat) (x3 : Int) (x4 : Int) : Con E l yX12_keepsRow cX12_keepsRow 6 (some .int) { frames := 0, cells := 0, slots := 0, locals := 0 } (fun G s vs => vs = [.ref a, .int (zI x1), .ref b2, .int (zI x3), .int (zI x4)] ∧ zGK G ∧ zSK G s ∧ (gT G a = 13) ∧ (10515 ≤ x1 ∧ x1 ≤ 36957) ∧ (gT G b2 = 91) ∧ (900 ≤ x3 ∧ x3 ≤ 900) ∧ (0 ≤ x4 ∧ x4 ≤ 0) ∧ (x1 = 10515 ∨ x1 = 23736 ∨ x1 = 36957)) (fun G s _ => pI (fun r G2 s2 => G2 = G ∧ zSK G s2 ∧ zFr [91] G s s2 ∧ (11415 ≤ r ∧ r ≤ 37857) ∧ r = x1 + 900 ∧ zPg (s2 b2) (s b2) (s (gP G a 57)) x1 900)) := by
  refine Con.mk hst (by decide) (fun G s vs h => by rw [h.1]; exact Nat.le_of_ble_eq_true rfl) ?_
  rintro X G s0 vs ⟨rfl, hG, hS0, ha, hx1, hb2, hx3, hx4, e0⟩ rfl hx hq
  obtain rfl : x3 = 900 := by omega
  obtain rfl : x4 = 0 := by omega
  show JJ X E 6 G s0 0 0 [(0, .ref a), (1, .int (zI x1)), (2, .ref b2), (3, .int (zI 900)), (4, .int (zI 0))] 0 []
  refine j_iconst hx dX12_keepsRow_0 ?_
  refine j_istore hx [(5, .int (zI 0)), (0, .ref a), (1, .int (zI x1)), (2, .ref b2), (3, .int (zI 900)), (4, .int (zI 0))] dX12_keepsRow_1 (by decide) rfl ?_
  have c3_1 : ∀ (m_c3_1 : Nat) (v1 : Int) (s2 : zS), 2147483648 - v1 < m_c3_1 → (0 ≤ v1 ∧ v1 ≤ 900) → (zSK G s2) → (zFr [91] G s0 s2) → (zPg (s2 b2) (s0 b2) (s0 (gP G a 57)) x1 (v1)) → JJ X E 6 G s2 0 0 [(0, .ref a), (1, .int (zI x1)), (2, .ref b2), (3, .int (zI 900)), (4, .int (zI 0)), (5, .int (zI v1))] 3 [] := by
    intro m_c3_1
    induction m_c3_1 with
    | zero => intro v1 s2 hm_c3_1 fA3 hS_s2 hF_s2 hE1; exfalso; omega
    | succ m_c3_1 ih_c3_1 => 
      intro v1 s2 hm_c3_1 fA3 hS_s2 hF_s2 hE1
      refine j_iload hx 5 dX12_keepsRow_3 rfl ?_
      refine j_iload_n hx 3 dX12_keepsRow_5 rfl ?_
      refine j_icmp_ge hx 49 dX12_keepsRow_6 rfl (by omega) ⟨by decide, by decide⟩ (fun h2 => ?_) (fun h2 => ?_)
      · skip
        have hP3 : zPg (s2 b2) (s0 b2) (s0 (gP G a 57)) x1 900 := zPg_n hE1 (by omega)
        refine j_iload_n hx 1 dX12_keepsRow_49 rfl ?_
        refine j_iload_n hx 3 dX12_keepsRow_50 rfl ?_
        refine j_iadd hx (r := x1 + 900) dX12_keepsRow_51 rfl ?_
        exact j_iret hx hq rfl (by decide) (by decide) dX12_keepsRow_52 ⟨x1 + 900, rfl, rfl, hS_s2, (zFr_t zFr_rf hF_s2 (by decide)), ⟨(by omega), by omega, (zPg_nn hP3 (by omega) (by omega))⟩⟩
      · skip
        refine j_iload hx 4 dX12_keepsRow_9 rfl ?_
        refine j_if_eq hx 30 dX12_keepsRow_11 rfl ⟨by decide, by decide⟩ (fun h4 => ?_) (fun h4 => absurd h4 (by omega))
        refine j_aload_n hx 2 dX12_keepsRow_30 rfl ?_
        refine j_iload hx 5 dX12_keepsRow_31 rfl ?_
        refine j_aload_n hx 0 dX12_keepsRow_33 rfl ?_
        refine g13_57 hx hG ha kf_RX12_125 dX12_keepsRow_34 ?_
        refine j_iload_n hx 1 dX12_keepsRow_37 rfl ?_
        refine j_iload hx 5 dX12_keepsRow_38 rfl ?_
        refine j_iadd hx (r := x1 + v1) dX12_keepsRow_40 rfl ?_
        have f5 := zaQ (j := (x1 + v1).toNat) hS0 (zr (k := 57) (t2 := 106) hG ha rfl) (congrArg some (axI_10 ((x1 + v1).toNat % 13221) (by omega))) (zlen hG (zr (k := 57) (t2 := 106) hG ha rfl) (n := 39663) rfl rfl) (show 0 ≤ x1 + v1 by omega) (by omega) rfl
        refine j_iald hx hG (zr (k := 57) (t2 := 106) hG ha rfl) (by decide) rfl (zlen hG (zr (k := 57) (t2 := 106) hG ha rfl) (n := 39663) rfl rfl) (by omega) (by omega) (j := (x1 + v1).toNat) rfl (v := (s0 (gP G a 57) (x1 + v1).toNat)) (by rw [(zFr_g hF_s2 (zr (k := 57) (t2 := 106) hG ha rfl) (by decide))]) dX12_keepsRow_41 ?_
        refine j_iast hx hG hb2 (by decide) rfl (zlen hG hb2 (n := 900) rfl rfl) (by omega) (by omega) (j := (v1).toNat) rfl dX12_keepsRow_42 ?_
        obtain ⟨s7, e_s7⟩ : ∃ z, z = zU s2 b2 (v1).toNat ((s0 (gP G a 57) (x1 + v1).toNat)) := ⟨_, rfl⟩
        rw [← e_s7]
        have hS_s7 : zSK G s7 := by rw [e_s7]; exact zSK_A hS_s2 hb2 rfl rfl rfl (by omega)
        refine j_iinc hx 5 [(5, .int (zI (v1 + 1))), (0, .ref a), (1, .int (zI x1)), (2, .ref b2), (3, .int (zI 900)), (4, .int (zI 0))] dX12_keepsRow_43 rfl (by omega) (by decide) rfl ?_
        refine j_goto hx 3 dX12_keepsRow_46 rfl ?_
        exact j_sub [1, 2, 3, 4, 5, 0] [(0, .ref a), (1, .int (zI x1)), (2, .ref b2), (3, .int (zI 900)), (4, .int (zI 0)), (5, .int (zI (v1 + 1)))] rfl (ih_c3_1 (v1 + 1) s7 (by omega) (by omega) hS_s7 (zFr_u (zFr_t zFr_rf hF_s2 (by decide)) e_s7 hb2 (by decide)) (zPg_s hE1 e_s7 (by omega) (by omega) rfl))
  exact j_sub [1, 2, 3, 4, 5, 0] [(0, .ref a), (1, .int (zI x1)), (2, .ref b2), (3, .int (zI 900)), (4, .int (zI 0)), (5, .int (zI 0))] rfl (c3_1 (2147483648 * 4) 0 s0 (by omega) (by omega) hS0 zFr_rf (zPg_0 rfl (by omega)))

set_option maxHeartbeats 1200000 in
set_option maxRecDepth 20000 in
theorem c_X12_keepsRow_92r {E : zE} {l : Launch} (hst : l.stackTraces = false) (a : Nat) (x1 : Int) (b2 : Nat) (x3 : Int) (x4 : Int) : Con E l yX12_keepsRow cX12_keepsRow 6 (some .int) { frames := 0, cells := 0, slots := 0, locals := 0 } (fun G s vs => vs = [.ref a, .int (zI x1), .ref b2, .int (zI x3), .int (zI x4)] ∧ zGK G ∧ zSK G s ∧ (gT G a = 13) ∧ (11415 ≤ x1 ∧ x1 ≤ 37857) ∧ (gT G b2 = 92) ∧ (900 ≤ x3 ∧ x3 ≤ 900) ∧ (0 ≤ x4 ∧ x4 ≤ 0) ∧ (x1 = 11415 ∨ x1 = 24636 ∨ x1 = 37857)) (fun G s _ => pI (fun r G2 s2 => G2 = G ∧ zSK G s2 ∧ zFr [92] G s s2 ∧ (12315 ≤ r ∧ r ≤ 38757) ∧ r = x1 + 900 ∧ zPg (s2 b2) (s b2) (s (gP G a 57)) x1 900)) := by
  refine Con.mk hst (by decide) (fun G s vs h => by rw [h.1]; exact Nat.le_of_ble_eq_true rfl) ?_
  rintro X G s0 vs ⟨rfl, hG, hS0, ha, hx1, hb2, hx3, hx4, e0⟩ rfl hx hq
  obtain rfl : x3 = 900 := by omega
  obtain rfl : x4 = 0 := by omega
  show JJ X E 6 G s0 0 0 [(0, .ref a), (1, .int (zI x1)), (2, .ref b2), (3, .int (zI 900)), (4, .int (zI 0))] 0 []
  refine j_iconst hx dX12_keepsRow_0 ?_
  refine j_istore hx [(5, .int (zI 0)), (0, .ref a), (1, .int (zI x1)), (2, .ref b2), (3, .int (zI 900)), (4, .int (zI 0))] dX12_keepsRow_1 (by decide) rfl ?_
  have c3_1 : ∀ (m_c3_1 : Nat) (v1 : Int) (s2 : zS), 2147483648 - v1 < m_c3_1 → (0 ≤ v1 ∧ v1 ≤ 900) → (zSK G s2) → (zFr [92] G s0 s2) → (zPg (s2 b2) (s0 b2) (s0 (gP G a 57)) x1 (v1)) → JJ X E 6 G s2 0 0 [(0, .ref a), (1, .int (zI x1)), (2, .ref b2), (3, .int (zI 900)), (4, .int (zI 0)), (5, .int (zI v1))] 3 [] := by
    intro m_c3_1
    induction m_c3_1 with
    | zero => intro v1 s2 hm_c3_1 fA3 hS_s2 hF_s2 hE1; exfalso; omega
    | succ m_c3_1 ih_c3_1 => 
      intro v1 s2 hm_c3_1 fA3 hS_s2 hF_s2 hE1
      refine j_iload hx 5 dX12_keepsRow_3 rfl ?_
      refine j_iload_n hx 3 dX12_keepsRow_5 rfl ?_
      refine j_icmp_ge hx 49 dX12_keepsRow_6 rfl (by omega) ⟨by decide, by decide⟩ (fun h2 => ?_) (fun h2 => ?_)
      · skip
        have hP3 : zPg (s2 b2) (s0 b2) (s0 (gP G a 57)) x1 900 := zPg_n hE1 (by omega)
        refine j_iload_n hx 1 dX12_keepsRow_49 rfl ?_
        refine j_iload_n hx 3 dX12_keepsRow_50 rfl ?_
        refine j_iadd hx (r := x1 + 900) dX12_keepsRow_51 rfl ?_
        exact j_iret hx hq rfl (by decide) (by decide) dX12_keepsRow_52 ⟨x1 + 900, rfl, rfl, hS_s2, (zFr_t zFr_rf hF_s2 (by decide)), ⟨(by omega), by omega, (zPg_nn hP3 (by omega) (by omega))⟩⟩
      · skip
        refine j_iload hx 4 dX12_keepsRow_9 rfl ?_
        refine j_if_eq hx 30 dX12_keepsRow_11 rfl ⟨by decide, by decide⟩ (fun h4 => ?_) (fun h4 => absurd h4 (by omega))
        refine j_aload_n hx 2 dX12_keepsRow_30 rfl ?_
        refine j_iload hx 5 dX12_keepsRow_31 rfl ?_
        refine j_aload_n hx 0 dX12_keepsRow_33 rfl ?_
        refine g13_57 hx hG ha kf_RX12_125 dX12_keepsRow_34 ?_
        refine j_iload_n hx 1 dX12_keepsRow_37 rfl ?_
        refine j_iload hx 5 dX12_keepsRow_38 rfl ?_
        refine j_iadd hx (r := x1 + v1) dX12_keepsRow_40 rfl ?_
        have f5 := zaQ (j := (x1 + v1).toNat) hS0 (zr (k := 57) (t2 := 106) hG ha rfl) (congrArg some (axI_11 ((x1 + v1).toNat % 13221) (by omega))) (zlen hG (zr (k := 57) (t2 := 106) hG ha rfl) (n := 39663) rfl rfl) (show 0 ≤ x1 + v1 by omega) (by omega) rfl
        refine j_iald hx hG (zr (k := 57) (t2 := 106) hG ha rfl) (by decide) rfl (zlen hG (zr (k := 57) (t2 := 106) hG ha rfl) (n := 39663) rfl rfl) (by omega) (by omega) (j := (x1 + v1).toNat) rfl (v := (s0 (gP G a 57) (x1 + v1).toNat)) (by rw [(zFr_g hF_s2 (zr (k := 57) (t2 := 106) hG ha rfl) (by decide))]) dX12_keepsRow_41 ?_
        refine j_iast hx hG hb2 (by decide) rfl (zlen hG hb2 (n := 900) rfl rfl) (by omega) (by omega) (j := (v1).toNat) rfl dX12_keepsRow_42 ?_
        obtain ⟨s7, e_s7⟩ : ∃ z, z = zU s2 b2 (v1).toNat ((s0 (gP G a 57) (x1 + v1).toNat)) := ⟨_, rfl⟩
        rw [← e_s7]
        have hS_s7 : zSK G s7 := by rw [e_s7]; exact zSK_A hS_s2 hb2 rfl rfl rfl (by omega)
        refine j_iinc hx 5 [(5, .int (zI (v1 + 1))), (0, .ref a), (1, .int (zI x1)), (2, .ref b2), (3, .int (zI 900)), (4, .int (zI 0))] dX12_keepsRow_43 rfl (by omega) (by decide) rfl ?_
        refine j_goto hx 3 dX12_keepsRow_46 rfl ?_
        exact j_sub [1, 2, 3, 4, 5, 0] [(0, .ref a), (1, .int (zI x1)), (2, .ref b2), (3, .int (zI 900)), (4, .int (zI 0)), (5, .int (zI (v1 + 1)))] rfl (ih_c3_1 (v1 + 1) s7 (by omega) (by omega) hS_s7 (zFr_u (zFr_t zFr_rf hF_s2 (by decide)) e_s7 hb2 (by decide)) (zPg_s hE1 e_s7 (by omega) (by omega) rfl))
  exact j_sub [1, 2, 3, 4, 5, 0] [(0, .ref a), (1, .int (zI x1)), (2, .ref b2), (3, .int (zI 900)), (4, .int (zI 0)), (5, .int (zI 0))] rfl (c3_1 (2147483648 * 4) 0 s0 (by omega) (by omega) hS0 zFr_rf (zPg_0 rfl (by omega)))

set_option maxHeartbeats 1200000 in
set_option maxRecDepth 20000 in
theorem c_X12_keepsRow_93r {E : zE} {l : Launch} (hst : l.stackTraces = false) (a : Nat) (x1 : Int) (b2 : Nat) (x3 : Int) (x4 : Int) : Con E l yX12_keepsRow cX12_keepsRow 6 (some .int) { frames := 0, cells := 0, slots := 0, locals := 0 } (fun G s vs => vs = [.ref a, .int (zI x1), .ref b2, .int (zI x3), .int (zI x4)] ∧ zGK G ∧ zSK G s ∧ (gT G a = 13) ∧ (12315 ≤ x1 ∧ x1 ≤ 38757) ∧ (gT G b2 = 93) ∧ (900 ≤ x3 ∧ x3 ≤ 900) ∧ (0 ≤ x4 ∧ x4 ≤ 0) ∧ (x1 = 12315 ∨ x1 = 25536 ∨ x1 = 38757)) (fun G s _ => pI (fun r G2 s2 => G2 = G ∧ zSK G s2 ∧ zFr [93] G s s2 ∧ (13215 ≤ r ∧ r ≤ 39657) ∧ r = x1 + 900 ∧ zPg (s2 b2) (s b2) (s (gP G a 57)) x1 900)) := by
  refine Con.mk hst (by decide) (fun G s vs h => by rw [h.1]; exact Nat.le_of_ble_eq_true rfl) ?_
  rintro X G s0 vs ⟨rfl, hG, hS0, ha, hx1, hb2, hx3, hx4, e0⟩ rfl hx hq
  obtain rfl : x3 = 900 := by omega
  obtain rfl : x4 = 0 := by omega
  show JJ X E 6 G s0 0 0 [(0, .ref a), (1, .int (zI x1)), (2, .ref b2), (3, .int (zI 900)), (4, .int (zI 0))] 0 []
  refine j_iconst hx dX12_keepsRow_0 ?_
  refine j_istore hx [(5, .int (zI 0)), (0, .ref a), (1, .int (zI x1)), (2, .ref b2), (3, .int (zI 900)), (4, .int (zI 0))] dX12_keepsRow_1 (by decide) rfl ?_
  have c3_1 : ∀ (m_c3_1 : Nat) (v1 : Int) (s2 : zS), 2147483648 - v1 < m_c3_1 → (0 ≤ v1 ∧ v1 ≤ 900) → (zSK G s2) → (zFr [93] G s0 s2) → (zPg (s2 b2) (s0 b2) (s0 (gP G a 57)) x1 (v1)) → JJ X E 6 G s2 0 0 [(0, .ref a), (1, .int (zI x1)), (2, .ref b2), (3, .int (zI 900)), (4, .int (zI 0)), (5, .int (zI v1))] 3 [] := by
    intro m_c3_1
    induction m_c3_1 with
    | zero => intro v1 s2 hm_c3_1 fA3 hS_s2 hF_s2 hE1; exfalso; omega
    | succ m_c3_1 ih_c3_1 => 
      intro v1 s2 hm_c3_1 fA3 hS_s2 hF_s2 hE1
      refine j_iload hx 5 dX12_keepsRow_3 rfl ?_
      refine j_iload_n hx 3 dX12_keepsRow_5 rfl ?_
      refine j_icmp_ge hx 49 dX12_keepsRow_6 rfl (by omega) ⟨by decide, by decide⟩ (fun h2 => ?_) (fun h2 => ?_)
      · skip
        have hP3 : zPg (s2 b2) (s0 b2) (s0 (gP G a 57)) x1 900 := zPg_n hE1 (by omega)
        refine j_iload_n hx 1 dX12_keepsRow_49 rfl ?_
        refine j_iload_n hx 3 dX12_keepsRow_50 rfl ?_
        refine j_iadd hx (r := x1 + 900) dX12_keepsRow_51 rfl ?_
        exact j_iret hx hq rfl (by decide) (by decide) dX12_keepsRow_52 ⟨x1 + 900, rfl, rfl, hS_s2, (zFr_t zFr_rf hF_s2 (by decide)), ⟨(by omega), by omega, (zPg_nn hP3 (by omega) (by omega))⟩⟩
      · skip
        refine j_iload hx 4 dX12_keepsRow_9 rfl ?_
        refine j_if_eq hx 30 dX12_keepsRow_11 rfl ⟨by decide, by decide⟩ (fun h4 => ?_) (fun h4 => absurd h4 (by omega))
        refine j_aload_n hx 2 dX12_keepsRow_30 rfl ?_
        refine j_iload hx 5 dX12_keepsRow_31 rfl ?_
        refine j_aload_n hx 0 dX12_keepsRow_33 rfl ?_
        refine g13_57 hx hG ha kf_RX12_125 dX12_keepsRow_34 ?_
        refine j_iload_n hx 1 dX12_keepsRow_37 rfl ?_
        refine j_iload hx 5 dX12_keepsRow_38 rfl ?_
        refine j_iadd hx (r := x1 + v1) dX12_keepsRow_40 rfl ?_
        have f5 := zaQ (j := (x1 + v1).toNat) hS0 (zr (k := 57) (t2 := 106) hG ha rfl) (congrArg some (axI_11 ((x1 + v1).toNat % 13221) (by omega))) (zlen hG (zr (k := 57) (t2 := 106) hG ha rfl) (n := 39663) rfl rfl) (show 0 ≤ x1 + v1 by omega) (by omega) rfl
        refine j_iald hx hG (zr (k := 57) (t2 := 106) hG ha rfl) (by decide) rfl (zlen hG (zr (k := 57) (t2 := 106) hG ha rfl) (n := 39663) rfl rfl) (by omega) (by omega) (j := (x1 + v1).toNat) rfl (v := (s0 (gP G a 57) (x1 + v1).toNat)) (by rw [(zFr_g hF_s2 (zr (k := 57) (t2 := 106) hG ha rfl) (by decide))]) dX12_keepsRow_41 ?_
        refine j_iast hx hG hb2 (by decide) rfl (zlen hG hb2 (n := 900) rfl rfl) (by omega) (by omega) (j := (v1).toNat) rfl dX12_keepsRow_42 ?_
        obtain ⟨s7, e_s7⟩ : ∃ z, z = zU s2 b2 (v1).toNat ((s0 (gP G a 57) (x1 + v1).toNat)) := ⟨_, rfl⟩
        rw [← e_s7]
        have hS_s7 : zSK G s7 := by rw [e_s7]; exact zSK_A hS_s2 hb2 rfl rfl rfl (by omega)
        refine j_iinc hx 5 [(5, .int (zI (v1 + 1))), (0, .ref a), (1, .int (zI x1)), (2, .ref b2), (3, .int (zI 900)), (4, .int (zI 0))] dX12_keepsRow_43 rfl (by omega) (by decide) rfl ?_
        refine j_goto hx 3 dX12_keepsRow_46 rfl ?_
        exact j_sub [1, 2, 3, 4, 5, 0] [(0, .ref a), (1, .int (zI x1)), (2, .ref b2), (3, .int (zI 900)), (4, .int (zI 0)), (5, .int (zI (v1 + 1)))] rfl (ih_c3_1 (v1 + 1) s7 (by omega) (by omega) hS_s7 (zFr_u (zFr_t zFr_rf hF_s2 (by decide)) e_s7 hb2 (by decide)) (zPg_s hE1 e_s7 (by omega) (by omega) rfl))
  exact j_sub [1, 2, 3, 4, 5, 0] [(0, .ref a), (1, .int (zI x1)), (2, .ref b2), (3, .int (zI 900)), (4, .int (zI 0)), (5, .int (zI 0))] rfl (c3_1 (2147483648 * 4) 0 s0 (by omega) (by omega) hS0 zFr_rf (zPg_0 rfl (by omega)))

set_option maxHeartbeats 1200000 in
set_option maxRecDepth 20000 in
theorem c_X12_keepsRow_94r {E : zE} {l : Launch} (hst : l.stackTraces = false) (a : Nat) (x1 : Int) (b2 : Nat) (x3 : Int) (x4 : Int) : Con E l yX12_keepsRow cX12_keepsRow 6 (some .int) { frames := 0, cells := 0, slots := 0, locals := 0 } (fun G s vs => vs = [.ref a, .int (zI x1), .ref b2, .int (zI x3), .int (zI x4)] ∧ zGK G ∧ zSK G s ∧ (gT G a = 13) ∧ (13215 ≤ x1 ∧ x1 ≤ 39657) ∧ (gT G b2 = 94) ∧ (6 ≤ x3 ∧ x3 ≤ 6) ∧ (0 ≤ x4 ∧ x4 ≤ 0) ∧ (x1 = 13215 ∨ x1 = 26436 ∨ x1 = 39657)) (fun G s _ => pI (fun r G2 s2 => G2 = G ∧ zSK G s2 ∧ zFr [94] G s s2 ∧ (13221 ≤ r ∧ r ≤ 39663) ∧ r = x1 + 6 ∧ zPg (s2 b2) (s b2) (s (gP G a 57)) x1 6)) := by
  refine Con.mk hst (by decide) (fun G s vs h => by rw [h.1]; exact Nat.le_of_ble_eq_true rfl) ?_
  rintro X G s0 vs ⟨rfl, hG, hS0, ha, hx1, hb2, hx3, hx4, e0⟩ rfl hx hq
  obtain rfl : x3 = 6 := by omega
  obtain rfl : x4 = 0 := by omega
  show JJ X E 6 G s0 0 0 [(0, .ref a), (1, .int (zI x1)), (2, .ref b2), (3, .int (zI 6)), (4, .int (zI 0))] 0 []
  refine j_iconst hx dX12_keepsRow_0 ?_
  refine j_istore hx [(5, .int (zI 0)), (0, .ref a), (1, .int (zI x1)), (2, .ref b2), (3, .int (zI 6)), (4, .int (zI 0))] dX12_keepsRow_1 (by decide) rfl ?_
  have c3_1 : ∀ (m_c3_1 : Nat) (v1 : Int) (s2 : zS), 2147483648 - v1 < m_c3_1 → (0 ≤ v1 ∧ v1 ≤ 6) → (zSK G s2) → (zFr [94] G s0 s2) → (zPg (s2 b2) (s0 b2) (s0 (gP G a 57)) x1 (v1)) → JJ X E 6 G s2 0 0 [(0, .ref a), (1, .int (zI x1)), (2, .ref b2), (3, .int (zI 6)), (4, .int (zI 0)), (5, .int (zI v1))] 3 [] := by
    intro m_c3_1
    induction m_c3_1 with
    | zero => intro v1 s2 hm_c3_1 fA3 hS_s2 hF_s2 hE1; exfalso; omega
    | succ m_c3_1 ih_c3_1 => 
      intro v1 s2 hm_c3_1 fA3 hS_s2 hF_s2 hE1
      refine j_iload hx 5 dX12_keepsRow_3 rfl ?_
      refine j_iload_n hx 3 dX12_keepsRow_5 rfl ?_
      refine j_icmp_ge hx 49 dX12_keepsRow_6 rfl (by omega) ⟨by decide, by decide⟩ (fun h2 => ?_) (fun h2 => ?_)
      · skip
        have hP3 : zPg (s2 b2) (s0 b2) (s0 (gP G a 57)) x1 6 := zPg_n hE1 (by omega)
        refine j_iload_n hx 1 dX12_keepsRow_49 rfl ?_
        refine j_iload_n hx 3 dX12_keepsRow_50 rfl ?_
        refine j_iadd hx (r := x1 + 6) dX12_keepsRow_51 rfl ?_
        exact j_iret hx hq rfl (by decide) (by decide) dX12_keepsRow_52 ⟨x1 + 6, rfl, rfl, hS_s2, (zFr_t zFr_rf hF_s2 (by decide)), ⟨(by omega), by omega, (zPg_nn hP3 (by omega) (by omega))⟩⟩
      · skip
        refine j_iload hx 4 dX12_keepsRow_9 rfl ?_
        refine j_if_eq hx 30 dX12_keepsRow_11 rfl ⟨by decide, by decide⟩ (fun h4 => ?_) (fun h4 => absurd h4 (by omega))
        refine j_aload_n hx 2 dX12_keepsRow_30 rfl ?_
        refine j_iload hx 5 dX12_keepsRow_31 rfl ?_
        refine j_aload_n hx 0 dX12_keepsRow_33 rfl ?_
        refine g13_57 hx hG ha kf_RX12_125 dX12_keepsRow_34 ?_
        refine j_iload_n hx 1 dX12_keepsRow_37 rfl ?_
        refine j_iload hx 5 dX12_keepsRow_38 rfl ?_
        refine j_iadd hx (r := x1 + v1) dX12_keepsRow_40 rfl ?_
        have f5 := zaQ (j := (x1 + v1).toNat) hS0 (zr (k := 57) (t2 := 106) hG ha rfl) (congrArg some (axI_12 ((x1 + v1).toNat % 13221) (by omega))) (zlen hG (zr (k := 57) (t2 := 106) hG ha rfl) (n := 39663) rfl rfl) (show 0 ≤ x1 + v1 by omega) (by omega) rfl
        refine j_iald hx hG (zr (k := 57) (t2 := 106) hG ha rfl) (by decide) rfl (zlen hG (zr (k := 57) (t2 := 106) hG ha rfl) (n := 39663) rfl rfl) (by omega) (by omega) (j := (x1 + v1).toNat) rfl (v := (s0 (gP G a 57) (x1 + v1).toNat)) (by rw [(zFr_g hF_s2 (zr (k := 57) (t2 := 106) hG ha rfl) (by decide))]) dX12_keepsRow_41 ?_
        refine j_iast hx hG hb2 (by decide) rfl (zlen hG hb2 (n := 6) rfl rfl) (by omega) (by omega) (j := (v1).toNat) rfl dX12_keepsRow_42 ?_
        obtain ⟨s7, e_s7⟩ : ∃ z, z = zU s2 b2 (v1).toNat ((s0 (gP G a 57) (x1 + v1).toNat)) := ⟨_, rfl⟩
        rw [← e_s7]
        have hS_s7 : zSK G s7 := by rw [e_s7]; exact zSK_A hS_s2 hb2 rfl rfl rfl (by omega)
        refine j_iinc hx 5 [(5, .int (zI (v1 + 1))), (0, .ref a), (1, .int (zI x1)), (2, .ref b2), (3, .int (zI 6)), (4, .int (zI 0))] dX12_keepsRow_43 rfl (by omega) (by decide) rfl ?_
        refine j_goto hx 3 dX12_keepsRow_46 rfl ?_
        exact j_sub [1, 2, 3, 4, 5, 0] [(0, .ref a), (1, .int (zI x1)), (2, .ref b2), (3, .int (zI 6)), (4, .int (zI 0)), (5, .int (zI (v1 + 1)))] rfl (ih_c3_1 (v1 + 1) s7 (by omega) (by omega) hS_s7 (zFr_u (zFr_t zFr_rf hF_s2 (by decide)) e_s7 hb2 (by decide)) (zPg_s hE1 e_s7 (by omega) (by omega) rfl))
  exact j_sub [1, 2, 3, 4, 5, 0] [(0, .ref a), (1, .int (zI x1)), (2, .ref b2), (3, .int (zI 6)), (4, .int (zI 0)), (5, .int (zI 0))] rfl (c3_1 (2147483648 * 4) 0 s0 (by omega) (by omega) hS0 zFr_rf (zPg_0 rfl (by omega)))

set_option maxHeartbeats 1200000 in
set_option maxRecDepth 20000 in
theorem c_X12_keepsAll_r {E : zE} {l : Launch} (hst : l.stackTraces = false) (a : Nat) (x1 : Int) (x2 : Int) : Con E l yX12_keepsAll cX12_keepsAll 4 none { frames := 1, cells := 0, slots := 0, locals := 25 } (fun G s vs => vs = [.ref a, .int (zI x1), .int (zI x2)] ∧ zGK G ∧ zSK G s ∧ (gT G a = 13) ∧ (0 ≤ x1 ∧ x1 ≤ 2) ∧ (0 ≤ x2 ∧ x2 ≤ 0) ∧ (zIm (s (gP G a 57)))) (fun G s _ => pV (fun G2 s2 => G2 = G ∧ zSK G s2 ∧ zFr [84, 86, 91, 92, 93, 94] G s s2 ∧ zc (s2 (gP G a 27)) ≤ 60 ∧ zRva (s2 (gP G a 34)) (s2 (gP G a 35)) (s2 (gP G a 37)) ∧ (s2 (gP G a 27) 488 = s (gP G a 57) 488 ∨ s2 (gP G a 27) 488 = s (gP G a 57) 13709 ∨ s2 (gP G a 27) 488 = s (gP G a 57) 26930))) := by
  refine Con.mk hst (by decide) (fun G s vs h => by rw [h.1]; exact Nat.le_of_ble_eq_true rfl) ?_
  rintro X G s0 vs ⟨rfl, hG, hS0, ha, hx1, hx2, e0⟩ rfl hx hq
  obtain rfl : x2 = 0 := by omega
  show JJ X E 4 G s0 0 0 [(0, .ref a), (1, .int (zI x1)), (2, .int (zI 0))] 0 []
  refine j_aload_n hx 0 dX12_keepsAll_0 rfl ?_
  refine j_sipush hx dX12_keepsAll_1 rfl ?_
  refine j_iload_n hx 1 dX12_keepsAll_4 rfl ?_
  refine j_imul hx (r := 13221 * x1) dX12_keepsAll_5 rfl ?_
  refine j_aload_n hx 0 dX12_keepsAll_6 rfl ?_
  refine g13_27 hx hG ha kf_RX12_56 dX12_keepsAll_7 ?_
  refine j_sipush hx dX12_keepsAll_10 rfl ?_
  refine j_iload_n hx 2 dX12_keepsAll_13 rfl ?_
  refine j_callV hx hG (c_X12_keepsRow_84r hst a (13221 * x1) (gP G a 27) 515 0) lk_RX12_498 ha (by decide) rfl rfl rfl rfl [.int (zI (13221 * x1)), .ref (gP G a 27), .int (zI 515), .int (zI 0)] ⟨rfl, hG, hS0, ha, (by omega), (zr (k := 27) (t2 := 84) hG ha rfl), (by omega), (by omega), (by omega)⟩ rfl rfl ⟨by decide, by decide⟩ ⟨by decide, by decide⟩ (k2 := 0) (n2 := 0) rfl rfl (Nat.le_of_ble_eq_true rfl) dX12_keepsAll_14 (kIM (fun v1 s1 hS_s1 hF_s1 q2 => ?_))
  refine j_istore_n hx [(3, .int (zI v1)), (0, .ref a), (1, .int (zI x1)), (2, .int (zI 0))] dX12_keepsAll_17 (by decide) rfl ?_
  refine j_aload_n hx 1 dX12_keepsAll_18 rfl ?_
  refine j_iload_n hx 0 dX12_keepsAll_19 rfl ?_
  refine j_aload_n hx 1 dX12_keepsAll_20 rfl ?_
  refine g13_29 hx hG ha kf_RX12_62 dX12_keepsAll_21 ?_
  refine j_sipush hx dX12_keepsAll_24 rfl ?_
  refine j_iload_n hx 3 dX12_keepsAll_27 rfl ?_
  refine j_callV hx hG (c_X12_keepsRow_86r hst a v1 (gP G a 29) 10000 0) lk_RX12_498 ha (by decide) rfl rfl rfl rfl [.int (zI v1), .ref (gP G a 29), .int (zI 10000), .int (zI 0)] ⟨rfl, hG, hS_s1, ha, (by omega), (zr (k := 29) (t2 := 86) hG ha rfl), (by omega), (by omega), (by omega)⟩ rfl rfl ⟨by decide, by decide⟩ ⟨by decide, by decide⟩ (k2 := 0) (n2 := 0) rfl rfl (Nat.le_of_ble_eq_true rfl) dX12_keepsAll_28 (kIM (fun v3 s2 hS_s2 hF_s2 q4 => ?_))
  refine j_istore_n hx [(3, .int (zI v3)), (0, .ref a), (1, .int (zI x1)), (2, .int (zI 0))] dX12_keepsAll_31 (by decide) rfl ?_
  refine j_aload_n hx 1 dX12_keepsAll_32 rfl ?_
  refine j_iload_n hx 0 dX12_keepsAll_33 rfl ?_
  refine j_aload_n hx 1 dX12_keepsAll_34 rfl ?_
  refine g13_34 hx hG ha kf_RX12_77 dX12_keepsAll_35 ?_
  refine j_sipush hx dX12_keepsAll_38 rfl ?_
  refine j_iload_n hx 3 dX12_keepsAll_41 rfl ?_
  refine j_callV hx hG (c_X12_keepsRow_91r hst a v3 (gP G a 34) 900 0) lk_RX12_498 ha (by decide) rfl rfl rfl rfl [.int (zI v3), .ref (gP G a 34), .int (zI 900), .int (zI 0)] ⟨rfl, hG, hS_s2, ha, (by omega), (zr (k := 34) (t2 := 91) hG ha rfl), (by omega), (by omega), (by omega)⟩ rfl rfl ⟨by decide, by decide⟩ ⟨by decide, by decide⟩ (k2 := 0) (n2 := 0) rfl rfl (Nat.le_of_ble_eq_true rfl) dX12_keepsAll_42 (kIM (fun v5 s3 hS_s3 hF_s3 q6 => ?_))
  refine j_istore_n hx [(3, .int (zI v5)), (0, .ref a), (1, .int (zI x1)), (2, .int (zI 0))] dX12_keepsAll_45 (by decide) rfl ?_
  refine j_aload_n hx 1 dX12_keepsAll_46 rfl ?_
  refine j_iload_n hx 0 dX12_keepsAll_47 rfl ?_
  refine j_aload_n hx 1 dX12_keepsAll_48 rfl ?_
  refine g13_35 hx hG ha kf_RX12_80 dX12_keepsAll_49 ?_
  refine j_sipush hx dX12_keepsAll_52 rfl ?_
  refine j_iload_n hx 3 dX12_keepsAll_55 rfl ?_
  refine j_callV hx hG (c_X12_keepsRow_92r hst a v5 (gP G a 35) 900 0) lk_RX12_498 ha (by decide) rfl rfl rfl rfl [.int (zI v5), .ref (gP G a 35), .int (zI 900), .int (zI 0)] ⟨rfl, hG, hS_s3, ha, (by omega), (zr (k := 35) (t2 := 92) hG ha rfl), (by omega), (by omega), (by omega)⟩ rfl rfl ⟨by decide, by decide⟩ ⟨by decide, by decide⟩ (k2 := 0) (n2 := 0) rfl rfl (Nat.le_of_ble_eq_true rfl) dX12_keepsAll_56 (kIM (fun v7 s4 hS_s4 hF_s4 q8 => ?_))
  refine j_istore_n hx [(3, .int (zI v7)), (0, .ref a), (1, .int (zI x1)), (2, .int (zI 0))] dX12_keepsAll_59 (by decide) rfl ?_
  refine j_aload_n hx 1 dX12_keepsAll_60 rfl ?_
  refine j_iload_n hx 0 dX12_keepsAll_61 rfl ?_
  refine j_aload_n hx 1 dX12_keepsAll_62 rfl ?_
  refine g13_36 hx hG ha kf_RX12_83 dX12_keepsAll_63 ?_
  refine j_sipush hx dX12_keepsAll_66 rfl ?_
  refine j_iload_n hx 3 dX12_keepsAll_69 rfl ?_
  refine j_callV hx hG (c_X12_keepsRow_93r hst a v7 (gP G a 36) 900 0) lk_RX12_498 ha (by decide) rfl rfl rfl rfl [.int (zI v7), .ref (gP G a 36), .int (zI 900), .int (zI 0)] ⟨rfl, hG, hS_s4, ha, (by omega), (zr (k := 36) (t2 := 93) hG ha rfl), (by omega), (by omega), (by omega)⟩ rfl rfl ⟨by decide, by decide⟩ ⟨by decide, by decide⟩ (k2 := 0) (n2 := 0) rfl rfl (Nat.le_of_ble_eq_true rfl) dX12_keepsAll_70 (kIM (fun v9 s5 hS_s5 hF_s5 q10 => ?_))
  refine j_istore_n hx [(3, .int (zI v9)), (0, .ref a), (1, .int (zI x1)), (2, .int (zI 0))] dX12_keepsAll_73 (by decide) rfl ?_
  refine j_aload_n hx 1 dX12_keepsAll_74 rfl ?_
  refine j_iload_n hx 0 dX12_keepsAll_75 rfl ?_
  refine j_aload_n hx 1 dX12_keepsAll_76 rfl ?_
  refine g13_37 hx hG ha kf_RX12_86 dX12_keepsAll_77 ?_
  refine j_bipush hx dX12_keepsAll_80 rfl ?_
  refine j_iload_n hx 3 dX12_keepsAll_82 rfl ?_
  refine j_callV hx hG (c_X12_keepsRow_94r hst a v9 (gP G a 37) 6 0) lk_RX12_498 ha (by decide) rfl rfl rfl rfl [.int (zI v9), .ref (gP G a 37), .int (zI 6), .int (zI 0)] ⟨rfl, hG, hS_s5, ha, (by omega), (zr (k := 37) (t2 := 94) hG ha rfl), (by omega), (by omega), (by omega)⟩ rfl rfl ⟨by decide, by decide⟩ ⟨by decide, by decide⟩ (k2 := 0) (n2 := 0) rfl rfl (Nat.le_of_ble_eq_true rfl) dX12_keepsAll_83 (kIM (fun v11 s6 hS_s6 hF_s6 q12 => ?_))
  have hI13 := zIm_get e0 q2.2.2 q6.2.2 q8.2.2 q12.2.2 (by rw [hF_s2 (gP G a 57) (by rw [(zr (k := 57) (t2 := 106) hG ha rfl)]; decide), hF_s1 (gP G a 57) (by rw [(zr (k := 57) (t2 := 106) hG ha rfl)]; decide)]) (by rw [hF_s3 (gP G a 57) (by rw [(zr (k := 57) (t2 := 106) hG ha rfl)]; decide), hF_s2 (gP G a 57) (by rw [(zr (k := 57) (t2 := 106) hG ha rfl)]; decide), hF_s1 (gP G a 57) (by rw [(zr (k := 57) (t2 := 106) hG ha rfl)]; decide)]) (by rw [hF_s5 (gP G a 57) (by rw [(zr (k := 57) (t2 := 106) hG ha rfl)]; decide), hF_s4 (gP G a 57) (by rw [(zr (k := 57) (t2 := 106) hG ha rfl)]; decide), hF_s3 (gP G a 57) (by rw [(zr (k := 57) (t2 := 106) hG ha rfl)]; decide), hF_s2 (gP G a 57) (by rw [(zr (k := 57) (t2 := 106) hG ha rfl)]; decide), hF_s1 (gP G a 57) (by rw [(zr (k := 57) (t2 := 106) hG ha rfl)]; decide)]) (by omega) (by omega)
  have z14 := hI13.1
  have z15 := hI13.2.2
  refine j_pop hx dX12_keepsAll_86 rfl ?_
  have g16 : zc (s6 (gP G a 27)) = zc (s1 (gP G a 27)) := by rw [hF_s6 (gP G a 27) (by rw [(zr (k := 27) (t2 := 84) hG ha rfl)]; decide), hF_s5 (gP G a 27) (by rw [(zr (k := 27) (t2 := 84) hG ha rfl)]; decide), hF_s4 (gP G a 27) (by rw [(zr (k := 27) (t2 := 84) hG ha rfl)]; decide), hF_s3 (gP G a 27) (by rw [(zr (k := 27) (t2 := 84) hG ha rfl)]; decide), hF_s2 (gP G a 27) (by rw [(zr (k := 27) (t2 := 84) hG ha rfl)]; decide)]
  have g17 : s6 (gP G a 27) 488 = s1 (gP G a 27) 488 := (by rw [(zFr_g hF_s6 (zr (k := 27) (t2 := 84) hG ha rfl) (by decide)), (zFr_g hF_s5 (zr (k := 27) (t2 := 84) hG ha rfl) (by decide)), (zFr_g hF_s4 (zr (k := 27) (t2 := 84) hG ha rfl) (by decide)), (zFr_g hF_s3 (zr (k := 27) (t2 := 84) hG ha rfl) (by decide)), (zFr_g hF_s2 (zr (k := 27) (t2 := 84) hG ha rfl) (by decide))])
  exact j_vret hx hq rfl (by decide) (by decide) dX12_keepsAll_87 ⟨rfl, rfl, hS_s6, (zFr_t (zFr_t (zFr_t (zFr_t (zFr_t (zFr_t zFr_rf hF_s1 (by decide)) hF_s2 (by decide)) hF_s3 (by decide)) hF_s4 (by decide)) hF_s5 (by decide)) hF_s6 (by decide)), ⟨by omega, (by have q1 : s6 (gP G a 34) = s3 (gP G a 34) := (by rw [hF_s6 (gP G a 34) (by rw [(zr (k := 34) (t2 := 91) hG ha rfl)]; decide), hF_s5 (gP G a 34) (by rw [(zr (k := 34) (t2 := 91) hG ha rfl)]; decide), hF_s4 (gP G a 34) (by rw [(zr (k := 34) (t2 := 91) hG ha rfl)]; decide)]); have q2 : s6 (gP G a 35) = s4 (gP G a 35) := (by rw [hF_s6 (gP G a 35) (by rw [(zr (k := 35) (t2 := 92) hG ha rfl)]; decide), hF_s5 (gP G a 35) (by rw [(zr (k := 35) (t2 := 92) hG ha rfl)]; decide)]); rw [q1, q2]; exact hI13.2.1), by omega⟩⟩

set_option maxHeartbeats 1200000 in
set_option maxRecDepth 20000 in
theorem c_X12_restore {E : zE} {l : Launch} (hst : l.stackTraces = false) (a : Nat) : Con E l yX12_restore cX12_restore 1 (some .int) { frames := 2, cells := 0, slots := 0, locals := 48 } (fun G s vs => vs = [.ref a] ∧ zGK G ∧ zSK G s ∧ (gT G a = 13) ∧ (zIm (s (gP G a 57))) ∧ (zc (s (gP G a 27)) ≤ 60) ∧ (zRva (s (gP G a 34)) (s (gP G a 35)) (s (gP G a 37)))) (fun G s _ => pI (fun r G2 s2 => G2 = G ∧ zSK G s2 ∧ zFr [13, 84, 85, 86, 87, 91, 92, 93, 94] G s s2 ∧ ((-2147483648) ≤ r ∧ r ≤ 2147483647) ∧ zc (s2 (gP G a 27)) ≤ 60 ∧ zRva (s2 (gP G a 34)) (s2 (gP G a 35)) (s2 (gP G a 37)) ∧ (s2 (gP G a 27) 488 = s (gP G a 57) 488 ∨ s2 (gP G a 27) 488 = s (gP G a 57) 13709 ∨ s2 (gP G a 27) 488 = s (gP G a 57) 26930 ∨ s2 (gP G a 27) 488 = s (gP G a 27) 488) ∧ (zc (s2 (gP G a 28)) = zc (s (gP G a 28)) ∨ zc (s2 (gP G a 28)) = zc (s2 (gP G a 27))) ∧ (s2 (gP G a 28) 488 = s (gP G a 28) 488 ∨ s2 (gP G a 28) 488 = s2 (gP G a 27) 488) ∧ s2 a 3 = s a 3 ∧ s2 a 4 = s a 4 ∧ s2 a 5 = s a 5 ∧ s2 a 7 = s a 7 ∧ s2 a 21 = s a 21 ∧ s2 a 22 = s a 22 ∧ s2 a 23 = s a 23 ∧ s2 a 24 = s a 24 ∧ s2 a 38 = s a 38 ∧ s2 a 51 = s a 51 ∧ s2 a 52 = s a 52)) := by
  refine Con.mk hst (by decide) (fun G s vs h => by rw [h.1]; exact Nat.le_of_ble_eq_true rfl) ?_
  rintro X G s0 vs ⟨rfl, hG, hS0, ha, e0, e1, e2⟩ rfl hx hq
  show JJ X E 1 G s0 0 0 [(0, .ref a)] 0 []
  refine j_aload_n hx 0 dX12_restore_0 rfl ?_
  refine j_iconst hx dX12_restore_1 ?_
  refine p13_0 hx hG ha kf_RX12_3 dX12_restore_2 ?_
  obtain ⟨s1, e_s1⟩ : ∃ z, z = zU s0 a 0 0 := ⟨_, rfl⟩
  rw [← e_s1]
  have hS_s1 : zSK G s1 := by rw [e_s1]; exact zSK_F hS0 ha rfl rfl rfl (by omega)
  refine j_aload_n hx 0 dX12_restore_5 rfl ?_
  have f1 := zf hS0 ha (k := 58) rfl
  refine g13_58 hx hG ha kf_RX12_201 (v := (s0 a 58)) (by rw [e_s1, zU_at (Or.inr (by decide))]) dX12_restore_6 ?_
  refine j_if_ne hx 14 dX12_restore_9 rfl (by omega) (fun h2 => ?_) (fun h2 => ?_)
  · skip
    refine j_aload_n hx 0 dX12_restore_14 rfl ?_
    refine j_dup hx dX12_restore_15 rfl ?_
    refine g13_58 hx hG ha kf_RX12_201 (v := (s0 a 58)) (by rw [e_s1, zU_at (Or.inr (by decide))]) dX12_restore_16 ?_
    refine j_iconst hx dX12_restore_19 ?_
    refine j_isub hx (r := (s0 a 58) - 1) dX12_restore_20 (by omega) ?_
    refine p13_58 hx hG ha kf_RX12_201 dX12_restore_21 ?_
    obtain ⟨s2, e_s2⟩ : ∃ z, z = zU s1 a 58 ((s0 a 58) - 1) := ⟨_, rfl⟩
    rw [← e_s2]
    have hS_s2 : zSK G s2 := by rw [e_s2]; exact zSK_F hS_s1 ha rfl rfl rfl (by omega)
    refine j_aload_n hx 0 dX12_restore_24 rfl ?_
    refine j_aload_n hx 0 dX12_restore_25 rfl ?_
    refine g13_58 hx hG ha kf_RX12_201 (v := (s0 a 58) - 1) (by rw [e_s2, zU_eq]) dX12_restore_26 ?_
    refine j_iconst hx dX12_restore_29 ?_
    have g3 : s2 (gP G a 57) 488 = s0 (gP G a 57) 488 := (by rw [e_s2, zU_at (Or.inl (zne ha (zr (k := 57) (t2 := 106) hG ha rfl) (by decide))), e_s1, zU_at (Or.inl (zne ha (zr (k := 57) (t2 := 106) hG ha rfl) (by decide)))])
    have g4 : s2 (gP G a 57) 13709 = s0 (gP G a 57) 13709 := (by rw [e_s2, zU_at (Or.inl (zne ha (zr (k := 57) (t2 := 106) hG ha rfl) (by decide))), e_s1, zU_at (Or.inl (zne ha (zr (k := 57) (t2 := 106) hG ha rfl) (by decide)))])
    have g5 : s2 (gP G a 57) 26930 = s0 (gP G a 57) 26930 := (by rw [e_s2, zU_at (Or.inl (zne ha (zr (k := 57) (t2 := 106) hG ha rfl) (by decide))), e_s1, zU_at (Or.inl (zne ha (zr (k := 57) (t2 := 106) hG ha rfl) (by decide)))])
    refine j_callV hx hG (c_X12_keepsAll_r hst a ((s0 a 58) - 1) 0) lk_RX12_502 ha (by decide) rfl rfl rfl rfl [.int (zI ((s0 a 58) - 1)), .int (zI 0)] ⟨rfl, hG, hS_s2, ha, (by omega), (by omega), ((by have q1 : s2 (gP G a 57) = s0 (gP G a 57) := (by rw [e_s2, zU_ne (zne ha (zr (k := 57) (t2 := 106) hG ha rfl) (by decide)), e_s1, zU_ne (zne ha (zr (k := 57) (t2 := 106) hG ha rfl) (by decide))]); rw [q1]; exact e0))⟩ rfl rfl ⟨by decide, by decide⟩ ⟨by decide, by decide⟩ (k2 := 0) (n2 := 0) rfl rfl (Nat.le_of_ble_eq_true rfl) dX12_restore_30 (kVM (fun s3 hS_s3 hF_s3 q7 => ?_))
    refine j_aload_n hx 0 dX12_restore_33 rfl ?_
    refine j_callV hx hG (c_X12_forgets hst a) lk_RX12_204 ha (by decide) rfl rfl rfl rfl [] ⟨rfl, hG, hS_s3, ha⟩ rfl rfl ⟨by decide, by decide⟩ ⟨by decide, by decide⟩ (k2 := 0) (n2 := 0) rfl rfl (Nat.le_of_ble_eq_true rfl) dX12_restore_34 (kVM (fun s4 hS_s4 hF_s4 q9 => ?_))
    refine j_aload_n hx 0 dX12_restore_37 rfl ?_
    have g10 : zc (s4 (gP G a 27)) = zc (s3 (gP G a 27)) := by rw [hF_s4 (gP G a 27) (by rw [(zr (k := 27) (t2 := 84) hG ha rfl)]; decide)]
    have g11 : s4 (gP G a 27) 488 = s3 (gP G a 27) 488 := (by rw [(zFr_g hF_s4 (zr (k := 27) (t2 := 84) hG ha rfl) (by decide))])
    refine j_callV hx hG (c_X12_stays hst a) lk_RX12_207 ha (by decide) rfl rfl rfl rfl [] ⟨rfl, hG, hS_s4, ha⟩ rfl rfl ⟨by decide, by decide⟩ ⟨by decide, by decide⟩ (k2 := 0) (n2 := 0) rfl rfl (Nat.le_of_ble_eq_true rfl) dX12_restore_38 (kVM (fun s5 hS_s5 hF_s5 q13 => ?_))
    refine j_aload_n hx 0 dX12_restore_41 rfl ?_
    refine g13_58 hx hG ha kf_RX12_201 (v := (s0 a 58) - 1) (by rw [(zFr_g hF_s5 ha (by decide)), (zFr_g hF_s4 ha (by decide)), (zFr_g hF_s3 ha (by decide)), e_s2, zU_eq]) dX12_restore_42 ?_
    have g14 : zc (s5 (gP G a 27)) = zc (s3 (gP G a 27)) := by rw [hF_s5 (gP G a 27) (by rw [(zr (k := 27) (t2 := 84) hG ha rfl)]; decide), hF_s4 (gP G a 27) (by rw [(zr (k := 27) (t2 := 84) hG ha rfl)]; decide)]
    have g15 : s5 (gP G a 27) 488 = s3 (gP G a 27) 488 := (by rw [(zFr_g hF_s5 (zr (k := 27) (t2 := 84) hG ha rfl) (by decide)), (zFr_g hF_s4 (zr (k := 27) (t2 := 84) hG ha rfl) (by decide))])
    have g16 : s5 a 3 = s0 a 3 := (by rw [(zFr_g hF_s5 ha (by decide)), (zFr_g hF_s4 ha (by decide)), (zFr_g hF_s3 ha (by decide)), e_s2, zU_at (Or.inr (by decide)), e_s1, zU_at (Or.inr (by decide))])
    have f17 := zf hS0 ha (k := 3) rfl
    have g18 : s5 a 4 = s0 a 4 := (by rw [(zFr_g hF_s5 ha (by decide)), (zFr_g hF_s4 ha (by decide)), (zFr_g hF_s3 ha (by decide)), e_s2, zU_at (Or.inr (by decide)), e_s1, zU_at (Or.inr (by decide))])
    have f19 := zf hS0 ha (k := 4) rfl
    have g20 : s5 a 5 = s0 a 5 := (by rw [(zFr_g hF_s5 ha (by decide)), (zFr_g hF_s4 ha (by decide)), (zFr_g hF_s3 ha (by decide)), e_s2, zU_at (Or.inr (by decide)), e_s1, zU_at (Or.inr (by decide))])
    have f21 := zf hS0 ha (k := 5) rfl
    have g22 : s5 a 7 = s0 a 7 := (by rw [(zFr_g hF_s5 ha (by decide)), (zFr_g hF_s4 ha (by decide)), (zFr_g hF_s3 ha (by decide)), e_s2, zU_at (Or.inr (by decide)), e_s1, zU_at (Or.inr (by decide))])
    have f23 := zf hS0 ha (k := 7) rfl
    have g24 : s5 a 21 = s0 a 21 := (by rw [(zFr_g hF_s5 ha (by decide)), (zFr_g hF_s4 ha (by decide)), (zFr_g hF_s3 ha (by decide)), e_s2, zU_at (Or.inr (by decide)), e_s1, zU_at (Or.inr (by decide))])
    have f25 := zf hS0 ha (k := 21) rfl
    have g26 : s5 a 22 = s0 a 22 := (by rw [(zFr_g hF_s5 ha (by decide)), (zFr_g hF_s4 ha (by decide)), (zFr_g hF_s3 ha (by decide)), e_s2, zU_at (Or.inr (by decide)), e_s1, zU_at (Or.inr (by decide))])
    have f27 := zf hS0 ha (k := 22) rfl
    have g28 : s5 a 23 = s0 a 23 := (by rw [(zFr_g hF_s5 ha (by decide)), (zFr_g hF_s4 ha (by decide)), (zFr_g hF_s3 ha (by decide)), e_s2, zU_at (Or.inr (by decide)), e_s1, zU_at (Or.inr (by decide))])
    have f29 := zf hS0 ha (k := 23) rfl
    have g30 : s5 a 24 = s0 a 24 := (by rw [(zFr_g hF_s5 ha (by decide)), (zFr_g hF_s4 ha (by decide)), (zFr_g hF_s3 ha (by decide)), e_s2, zU_at (Or.inr (by decide)), e_s1, zU_at (Or.inr (by decide))])
    have f31 := zf hS0 ha (k := 24) rfl
    have g32 : s5 a 38 = s0 a 38 := (by rw [(zFr_g hF_s5 ha (by decide)), (zFr_g hF_s4 ha (by decide)), (zFr_g hF_s3 ha (by decide)), e_s2, zU_at (Or.inr (by decide)), e_s1, zU_at (Or.inr (by decide))])
    have f33 := zf hS0 ha (k := 38) rfl
    have g34 : s5 a 51 = s0 a 51 := (by rw [(zFr_g hF_s5 ha (by decide)), (zFr_g hF_s4 ha (by decide)), (zFr_g hF_s3 ha (by decide)), e_s2, zU_at (Or.inr (by decide)), e_s1, zU_at (Or.inr (by decide))])
    have f35 := zf hS0 ha (k := 51) rfl
    have g36 : s5 a 52 = s0 a 52 := (by rw [(zFr_g hF_s5 ha (by decide)), (zFr_g hF_s4 ha (by decide)), (zFr_g hF_s3 ha (by decide)), e_s2, zU_at (Or.inr (by decide)), e_s1, zU_at (Or.inr (by decide))])
    have f37 := zf hS0 ha (k := 52) rfl
    exact j_iret hx hq rfl (by decide) (by decide) dX12_restore_45 ⟨(s0 a 58) - 1, rfl, rfl, hS_s5, (zFr_t (zFr_t (zFr_t (zFr_u (zFr_u zFr_rf e_s1 ha (by decide)) e_s2 ha (by decide)) hF_s3 (by decide)) hF_s4 (by decide)) hF_s5 (by decide)), ⟨(by omega), by omega, (by have q1 : s5 (gP G a 34) = s3 (gP G a 34) := (by rw [hF_s5 (gP G a 34) (by rw [(zr (k := 34) (t2 := 91) hG ha rfl)]; decide), hF_s4 (gP G a 34) (by rw [(zr (k := 34) (t2 := 91) hG ha rfl)]; decide)]); have q2 : s5 (gP G a 35) = s3 (gP G a 35) := (by rw [hF_s5 (gP G a 35) (by rw [(zr (k := 35) (t2 := 92) hG ha rfl)]; decide), hF_s4 (gP G a 35) (by rw [(zr (k := 35) (t2 := 92) hG ha rfl)]; decide)]); have q3 : s5 (gP G a 37) = s3 (gP G a 37) := (by rw [hF_s5 (gP G a 37) (by rw [(zr (k := 37) (t2 := 94) hG ha rfl)]; decide), hF_s4 (gP G a 37) (by rw [(zr (k := 37) (t2 := 94) hG ha rfl)]; decide)]); rw [q1, q2, q3]; exact q7.2.1), by omega, by omega, by omega, by omega, by omega, by omega, by omega, by omega, by omega, by omega, by omega, by omega, by omega, by omega⟩⟩
  · skip
    refine j_iconst hx dX12_restore_12 ?_
    have g38 : zc (s1 (gP G a 27)) = zc (s0 (gP G a 27)) := by rw [e_s1, zU_ne (zne ha (zr (k := 27) (t2 := 84) hG ha rfl) (by decide))]
    have g39 : s1 (gP G a 27) 488 = s0 (gP G a 27) 488 := (by rw [e_s1, zU_at (Or.inl (zne ha (zr (k := 27) (t2 := 84) hG ha rfl) (by decide)))])
    have g40 : zc (s1 (gP G a 28)) = zc (s0 (gP G a 28)) := by rw [e_s1, zU_ne (zne ha (zr (k := 28) (t2 := 85) hG ha rfl) (by decide))]
    have g41 : s1 (gP G a 28) 488 = s0 (gP G a 28) 488 := (by rw [e_s1, zU_at (Or.inl (zne ha (zr (k := 28) (t2 := 85) hG ha rfl) (by decide)))])
    have g42 : s1 a 3 = s0 a 3 := (by rw [e_s1, zU_at (Or.inr (by decide))])
    have f43 := zf hS0 ha (k := 3) rfl
    have g44 : s1 a 4 = s0 a 4 := (by rw [e_s1, zU_at (Or.inr (by decide))])
    have f45 := zf hS0 ha (k := 4) rfl
    have g46 : s1 a 5 = s0 a 5 := (by rw [e_s1, zU_at (Or.inr (by decide))])
    have f47 := zf hS0 ha (k := 5) rfl
    have g48 : s1 a 7 = s0 a 7 := (by rw [e_s1, zU_at (Or.inr (by decide))])
    have f49 := zf hS0 ha (k := 7) rfl
    have g50 : s1 a 21 = s0 a 21 := (by rw [e_s1, zU_at (Or.inr (by decide))])
    have f51 := zf hS0 ha (k := 21) rfl
    have g52 : s1 a 22 = s0 a 22 := (by rw [e_s1, zU_at (Or.inr (by decide))])
    have f53 := zf hS0 ha (k := 22) rfl
    have g54 : s1 a 23 = s0 a 23 := (by rw [e_s1, zU_at (Or.inr (by decide))])
    have f55 := zf hS0 ha (k := 23) rfl
    have g56 : s1 a 24 = s0 a 24 := (by rw [e_s1, zU_at (Or.inr (by decide))])
    have f57 := zf hS0 ha (k := 24) rfl
    have g58 : s1 a 38 = s0 a 38 := (by rw [e_s1, zU_at (Or.inr (by decide))])
    have f59 := zf hS0 ha (k := 38) rfl
    have g60 : s1 a 51 = s0 a 51 := (by rw [e_s1, zU_at (Or.inr (by decide))])
    have f61 := zf hS0 ha (k := 51) rfl
    have g62 : s1 a 52 = s0 a 52 := (by rw [e_s1, zU_at (Or.inr (by decide))])
    have f63 := zf hS0 ha (k := 52) rfl
    exact j_iret hx hq rfl (by decide) (by decide) dX12_restore_13 ⟨(-1), rfl, rfl, hS_s1, (zFr_u zFr_rf e_s1 ha (by decide)), ⟨(by omega), by omega, (by have q1 : s1 (gP G a 34) = s0 (gP G a 34) := (by rw [e_s1, zU_ne (zne ha (zr (k := 34) (t2 := 91) hG ha rfl) (by decide))]); have q2 : s1 (gP G a 35) = s0 (gP G a 35) := (by rw [e_s1, zU_ne (zne ha (zr (k := 35) (t2 := 92) hG ha rfl) (by decide))]); have q3 : s1 (gP G a 37) = s0 (gP G a 37) := (by rw [e_s1, zU_ne (zne ha (zr (k := 37) (t2 := 94) hG ha rfl) (by decide))]); rw [q1, q2, q3]; exact e2), by omega, by omega, by omega, by omega, by omega, by omega, by omega, by omega, by omega, by omega, by omega, by omega, by omega, by omega⟩⟩

set_option maxHeartbeats 1200000 in
set_option maxRecDepth 20000 in
theorem c_X12_status {E : zE} {l : Launch} (hst : l.stackTraces = false) (a : Nat) (x1 : Int) : Con E l yX12_status cX12_status 2 (some .int) { frames := 1, cells := 0, slots := 0, locals := 22 } (fun G s vs => vs = [.ref a, .int (zI x1)] ∧ zGK G ∧ zSK G s ∧ (gT G a = 13) ∧ ((-2147483648) ≤ x1 ∧ x1 ≤ 2147483647)) (fun G s _ => pI (fun r G2 s2 => G2 = G ∧ zSK G s2 ∧ zFr [13] G s s2 ∧ ((-2147483648) ≤ r ∧ r ≤ 2147483647) ∧ s2 a 3 = s a 3 ∧ s2 a 4 = s a 4 ∧ s2 a 5 = s a 5 ∧ s2 a 7 = s a 7 ∧ s2 a 21 = s a 21 ∧ s2 a 22 = s a 22 ∧ s2 a 23 = s a 23 ∧ s2 a 24 = s a 24 ∧ s2 a 38 = s a 38 ∧ s2 a 51 = s a 51 ∧ s2 a 52 = s a 52)) := by
  refine Con.mk hst (by decide) (fun G s vs h => by rw [h.1]; exact Nat.le_of_ble_eq_true rfl) ?_
  rintro X G s0 vs ⟨rfl, hG, hS0, ha, hx1⟩ rfl hx hq
  show JJ X E 2 G s0 0 0 [(0, .ref a), (1, .int (zI x1))] 0 []
  refine j_aload_n hx 0 dX12_status_0 rfl ?_
  refine j_iconst hx dX12_status_1 ?_
  refine p13_0 hx hG ha kf_RX12_3 dX12_status_2 ?_
  obtain ⟨s1, e_s1⟩ : ∃ z, z = zU s0 a 0 0 := ⟨_, rfl⟩
  rw [← e_s1]
  have hS_s1 : zSK G s1 := by rw [e_s1]; exact zSK_F hS0 ha rfl rfl rfl (by omega)
  refine j_iload_n hx 1 dX12_status_5 rfl ?_
  refine j_iconst hx dX12_status_6 ?_
  refine j_iconst hx dX12_status_7 ?_
  refine j_callS hx (c_X12_within hst x1 0 1) lk_RX12_314 [.int (zI x1), .int (zI 0), .int (zI 1)] ⟨rfl, hG, hS_s1, (by omega), (by omega), (by omega)⟩ rfl rfl ⟨by decide, by decide⟩ ⟨by decide, by decide⟩ (k2 := 0) (n2 := 0) rfl rfl (Nat.le_of_ble_eq_true rfl) dX12_status_8 (kIP (fun v1 q2 => ?_))
  refine j_if_eq hx 23 dX12_status_11 rfl (by omega) (fun h3 => ?_) (fun h3 => ?_)
  · skip
    refine j_iconst hx dX12_status_23 ?_
    have g4 : s1 a 3 = s0 a 3 := (by rw [e_s1, zU_at (Or.inr (by decide))])
    have f5 := zf hS0 ha (k := 3) rfl
    have g6 : s1 a 4 = s0 a 4 := (by rw [e_s1, zU_at (Or.inr (by decide))])
    have f7 := zf hS0 ha (k := 4) rfl
    have g8 : s1 a 5 = s0 a 5 := (by rw [e_s1, zU_at (Or.inr (by decide))])
    have f9 := zf hS0 ha (k := 5) rfl
    have g10 : s1 a 7 = s0 a 7 := (by rw [e_s1, zU_at (Or.inr (by decide))])
    have f11 := zf hS0 ha (k := 7) rfl
    have g12 : s1 a 21 = s0 a 21 := (by rw [e_s1, zU_at (Or.inr (by decide))])
    have f13 := zf hS0 ha (k := 21) rfl
    have g14 : s1 a 22 = s0 a 22 := (by rw [e_s1, zU_at (Or.inr (by decide))])
    have f15 := zf hS0 ha (k := 22) rfl
    have g16 : s1 a 23 = s0 a 23 := (by rw [e_s1, zU_at (Or.inr (by decide))])
    have f17 := zf hS0 ha (k := 23) rfl
    have g18 : s1 a 24 = s0 a 24 := (by rw [e_s1, zU_at (Or.inr (by decide))])
    have f19 := zf hS0 ha (k := 24) rfl
    have g20 : s1 a 38 = s0 a 38 := (by rw [e_s1, zU_at (Or.inr (by decide))])
    have f21 := zf hS0 ha (k := 38) rfl
    have g22 : s1 a 51 = s0 a 51 := (by rw [e_s1, zU_at (Or.inr (by decide))])
    have f23 := zf hS0 ha (k := 51) rfl
    have g24 : s1 a 52 = s0 a 52 := (by rw [e_s1, zU_at (Or.inr (by decide))])
    have f25 := zf hS0 ha (k := 52) rfl
    exact j_iret hx hq rfl (by decide) (by decide) dX12_status_24 ⟨(-1), rfl, rfl, hS_s1, (zFr_u zFr_rf e_s1 ha (by decide)), ⟨(by omega), by omega, by omega, by omega, by omega, by omega, by omega, by omega, by omega, by omega, by omega, by omega⟩⟩
  · skip
    refine j_aload_n hx 0 dX12_status_14 rfl ?_
    refine g13_1 hx hG ha kf_RX12_7 dX12_status_15 ?_
    refine j_iload_n hx 1 dX12_status_18 rfl ?_
    have f26 := zaI (j := (x1).toNat) hS0 (zr (k := 1) (t2 := 71) hG ha rfl) rfl (zlen hG (zr (k := 1) (t2 := 71) hG ha rfl) (n := 2) rfl rfl) (show 0 ≤ x1 by omega) (by omega) rfl
    refine j_iald hx hG (zr (k := 1) (t2 := 71) hG ha rfl) (by decide) rfl (zlen hG (zr (k := 1) (t2 := 71) hG ha rfl) (n := 2) rfl rfl) (by omega) (by omega) (j := (x1).toNat) rfl (v := (s0 (gP G a 1) (x1).toNat)) (by rw [e_s1, zU_at (Or.inl (zne ha (zr (k := 1) (t2 := 71) hG ha rfl) (by decide)))]) dX12_status_19 ?_
    refine j_goto hx 24 dX12_status_20 rfl ?_
    have g27 : s1 a 3 = s0 a 3 := (by rw [e_s1, zU_at (Or.inr (by decide))])
    have f28 := zf hS0 ha (k := 3) rfl
    have g29 : s1 a 4 = s0 a 4 := (by rw [e_s1, zU_at (Or.inr (by decide))])
    have f30 := zf hS0 ha (k := 4) rfl
    have g31 : s1 a 5 = s0 a 5 := (by rw [e_s1, zU_at (Or.inr (by decide))])
    have f32 := zf hS0 ha (k := 5) rfl
    have g33 : s1 a 7 = s0 a 7 := (by rw [e_s1, zU_at (Or.inr (by decide))])
    have f34 := zf hS0 ha (k := 7) rfl
    have g35 : s1 a 21 = s0 a 21 := (by rw [e_s1, zU_at (Or.inr (by decide))])
    have f36 := zf hS0 ha (k := 21) rfl
    have g37 : s1 a 22 = s0 a 22 := (by rw [e_s1, zU_at (Or.inr (by decide))])
    have f38 := zf hS0 ha (k := 22) rfl
    have g39 : s1 a 23 = s0 a 23 := (by rw [e_s1, zU_at (Or.inr (by decide))])
    have f40 := zf hS0 ha (k := 23) rfl
    have g41 : s1 a 24 = s0 a 24 := (by rw [e_s1, zU_at (Or.inr (by decide))])
    have f42 := zf hS0 ha (k := 24) rfl
    have g43 : s1 a 38 = s0 a 38 := (by rw [e_s1, zU_at (Or.inr (by decide))])
    have f44 := zf hS0 ha (k := 38) rfl
    have g45 : s1 a 51 = s0 a 51 := (by rw [e_s1, zU_at (Or.inr (by decide))])
    have f46 := zf hS0 ha (k := 51) rfl
    have g47 : s1 a 52 = s0 a 52 := (by rw [e_s1, zU_at (Or.inr (by decide))])
    have f48 := zf hS0 ha (k := 52) rfl
    exact j_iret hx hq rfl (by decide) (by decide) dX12_status_24 ⟨(s0 (gP G a 1) (x1).toNat), rfl, rfl, hS_s1, (zFr_u zFr_rf e_s1 ha (by decide)), ⟨(by omega), by omega, by omega, by omega, by omega, by omega, by omega, by omega, by omega, by omega, by omega, by omega⟩⟩

set_option maxHeartbeats 1200000 in
set_option maxRecDepth 20000 in
theorem c_X12_count {E : zE} {l : Launch} (hst : l.stackTraces = false) (a : Nat) (x1 : Int) : Con E l yX12_count cX12_count 2 (some .int) { frames := 0, cells := 0, slots := 0, locals := 0 } (fun G s vs => vs = [.ref a, .int (zI x1)] ∧ zGK G ∧ zSK G s ∧ (gT G a = 13) ∧ ((-2147483648) ≤ x1 ∧ x1 ≤ 2147483647)) (fun G s _ => pI (fun r G2 s2 => G2 = G ∧ zSK G s2 ∧ zFr [13] G s s2 ∧ ((-2147483648) ≤ r ∧ r ≤ 2147483647) ∧ s2 a 3 = s a 3 ∧ s2 a 4 = s a 4 ∧ s2 a 5 = s a 5 ∧ s2 a 7 = s a 7 ∧ s2 a 21 = s a 21 ∧ s2 a 22 = s a 22 ∧ s2 a 23 = s a 23 ∧ s2 a 24 = s a 24 ∧ s2 a 38 = s a 38 ∧ s2 a 51 = s a 51 ∧ s2 a 52 = s a 52)) := by
  refine Con.mk hst (by decide) (fun G s vs h => by rw [h.1]; exact Nat.le_of_ble_eq_true rfl) ?_
  rintro X G s0 vs ⟨rfl, hG, hS0, ha, hx1⟩ rfl hx hq
  show JJ X E 2 G s0 0 0 [(0, .ref a), (1, .int (zI x1))] 0 []
  refine j_aload_n hx 0 dX12_count_0 rfl ?_
  refine j_iconst hx dX12_count_1 ?_
  refine p13_0 hx hG ha kf_RX12_3 dX12_count_2 ?_
  obtain ⟨s1, e_s1⟩ : ∃ z, z = zU s0 a 0 0 := ⟨_, rfl⟩
  rw [← e_s1]
  have hS_s1 : zSK G s1 := by rw [e_s1]; exact zSK_F hS0 ha rfl rfl rfl (by omega)
  refine j_iload_n hx 1 dX12_count_5 rfl ?_
  refine j_if_ne hx 16 dX12_count_6 rfl (by omega) (fun h1 => ?_) (fun h1 => ?_)
  · skip
    refine j_iload_n hx 1 dX12_count_16 rfl ?_
    refine j_iconst hx dX12_count_17 ?_
    refine j_icmp_ne hx 28 dX12_count_18 rfl (by omega) ⟨by decide, by decide⟩ (fun h2 => ?_) (fun h2 => ?_)
    · skip
      refine j_iload_n hx 1 dX12_count_28 rfl ?_
      refine j_iconst hx dX12_count_29 ?_
      refine j_icmp_ne hx 40 dX12_count_30 rfl (by omega) ⟨by decide, by decide⟩ (fun h3 => ?_) (fun h3 => ?_)
      · skip
        refine j_iload_n hx 1 dX12_count_40 rfl ?_
        refine j_iconst hx dX12_count_41 ?_
        refine j_icmp_ne hx 65 dX12_count_42 rfl (by omega) ⟨by decide, by decide⟩ (fun h4 => ?_) (fun h4 => ?_)
        · skip
          refine j_iconst hx dX12_count_65 ?_
          have g5 : s1 a 3 = s0 a 3 := (by rw [e_s1, zU_at (Or.inr (by decide))])
          have f6 := zf hS0 ha (k := 3) rfl
          have g7 : s1 a 4 = s0 a 4 := (by rw [e_s1, zU_at (Or.inr (by decide))])
          have f8 := zf hS0 ha (k := 4) rfl
          have g9 : s1 a 5 = s0 a 5 := (by rw [e_s1, zU_at (Or.inr (by decide))])
          have f10 := zf hS0 ha (k := 5) rfl
          have g11 : s1 a 7 = s0 a 7 := (by rw [e_s1, zU_at (Or.inr (by decide))])
          have f12 := zf hS0 ha (k := 7) rfl
          have g13 : s1 a 21 = s0 a 21 := (by rw [e_s1, zU_at (Or.inr (by decide))])
          have f14 := zf hS0 ha (k := 21) rfl
          have g15 : s1 a 22 = s0 a 22 := (by rw [e_s1, zU_at (Or.inr (by decide))])
          have f16 := zf hS0 ha (k := 22) rfl
          have g17 : s1 a 23 = s0 a 23 := (by rw [e_s1, zU_at (Or.inr (by decide))])
          have f18 := zf hS0 ha (k := 23) rfl
          have g19 : s1 a 24 = s0 a 24 := (by rw [e_s1, zU_at (Or.inr (by decide))])
          have f20 := zf hS0 ha (k := 24) rfl
          have g21 : s1 a 38 = s0 a 38 := (by rw [e_s1, zU_at (Or.inr (by decide))])
          have f22 := zf hS0 ha (k := 38) rfl
          have g23 : s1 a 51 = s0 a 51 := (by rw [e_s1, zU_at (Or.inr (by decide))])
          have f24 := zf hS0 ha (k := 51) rfl
          have g25 : s1 a 52 = s0 a 52 := (by rw [e_s1, zU_at (Or.inr (by decide))])
          have f26 := zf hS0 ha (k := 52) rfl
          exact j_iret hx hq rfl (by decide) (by decide) dX12_count_66 ⟨(-1), rfl, rfl, hS_s1, (zFr_u zFr_rf e_s1 ha (by decide)), ⟨(by omega), by omega, by omega, by omega, by omega, by omega, by omega, by omega, by omega, by omega, by omega, by omega⟩⟩
        · skip
          refine j_aload_n hx 0 dX12_count_45 rfl ?_
          refine g13_27 hx hG ha kf_RX12_56 dX12_count_46 ?_
          refine j_sipush hx dX12_count_49 rfl ?_
          have f27 := zaQ (j := 488) hS0 (zr (k := 27) (t2 := 84) hG ha rfl) (congrArg some (axS_4 488 (by omega))) (zlen hG (zr (k := 27) (t2 := 84) hG ha rfl) (n := 515) rfl rfl) (show 0 ≤ 488 by omega) (by omega) rfl
          refine j_iald hx hG (zr (k := 27) (t2 := 84) hG ha rfl) (by decide) rfl (zlen hG (zr (k := 27) (t2 := 84) hG ha rfl) (n := 515) rfl rfl) (by omega) (by omega) (j := 488) rfl (v := (s0 (gP G a 27) 488)) (by rw [e_s1, zU_at (Or.inl (zne ha (zr (k := 27) (t2 := 84) hG ha rfl) (by decide)))]) dX12_count_52 ?_
          refine j_aload_n hx 0 dX12_count_53 rfl ?_
          refine g13_28 hx hG ha kf_RX12_59 dX12_count_54 ?_
          refine j_sipush hx dX12_count_57 rfl ?_
          have f28 := zaQ (j := 488) hS0 (zr (k := 28) (t2 := 85) hG ha rfl) (congrArg some (axS_4 488 (by omega))) (zlen hG (zr (k := 28) (t2 := 85) hG ha rfl) (n := 515) rfl rfl) (show 0 ≤ 488 by omega) (by omega) rfl
          refine j_iald hx hG (zr (k := 28) (t2 := 85) hG ha rfl) (by decide) rfl (zlen hG (zr (k := 28) (t2 := 85) hG ha rfl) (n := 515) rfl rfl) (by omega) (by omega) (j := 488) rfl (v := (s0 (gP G a 28) 488)) (by rw [e_s1, zU_at (Or.inl (zne ha (zr (k := 28) (t2 := 85) hG ha rfl) (by decide)))]) dX12_count_60 ?_
          refine j_isub hx (r := (s0 (gP G a 27) 488) - (s0 (gP G a 28) 488)) dX12_count_61 (by omega) ?_
          refine j_goto hx 66 dX12_count_62 rfl ?_
          have g29 : s1 a 3 = s0 a 3 := (by rw [e_s1, zU_at (Or.inr (by decide))])
          have f30 := zf hS0 ha (k := 3) rfl
          have g31 : s1 a 4 = s0 a 4 := (by rw [e_s1, zU_at (Or.inr (by decide))])
          have f32 := zf hS0 ha (k := 4) rfl
          have g33 : s1 a 5 = s0 a 5 := (by rw [e_s1, zU_at (Or.inr (by decide))])
          have f34 := zf hS0 ha (k := 5) rfl
          have g35 : s1 a 7 = s0 a 7 := (by rw [e_s1, zU_at (Or.inr (by decide))])
          have f36 := zf hS0 ha (k := 7) rfl
          have g37 : s1 a 21 = s0 a 21 := (by rw [e_s1, zU_at (Or.inr (by decide))])
          have f38 := zf hS0 ha (k := 21) rfl
          have g39 : s1 a 22 = s0 a 22 := (by rw [e_s1, zU_at (Or.inr (by decide))])
          have f40 := zf hS0 ha (k := 22) rfl
          have g41 : s1 a 23 = s0 a 23 := (by rw [e_s1, zU_at (Or.inr (by decide))])
          have f42 := zf hS0 ha (k := 23) rfl
          have g43 : s1 a 24 = s0 a 24 := (by rw [e_s1, zU_at (Or.inr (by decide))])
          have f44 := zf hS0 ha (k := 24) rfl
          have g45 : s1 a 38 = s0 a 38 := (by rw [e_s1, zU_at (Or.inr (by decide))])
          have f46 := zf hS0 ha (k := 38) rfl
          have g47 : s1 a 51 = s0 a 51 := (by rw [e_s1, zU_at (Or.inr (by decide))])
          have f48 := zf hS0 ha (k := 51) rfl
          have g49 : s1 a 52 = s0 a 52 := (by rw [e_s1, zU_at (Or.inr (by decide))])
          have f50 := zf hS0 ha (k := 52) rfl
          exact j_iret hx hq rfl (by decide) (by decide) dX12_count_66 ⟨(s0 (gP G a 27) 488) - (s0 (gP G a 28) 488), rfl, rfl, hS_s1, (zFr_u zFr_rf e_s1 ha (by decide)), ⟨(by omega), by omega, by omega, by omega, by omega, by omega, by omega, by omega, by omega, by omega, by omega, by omega⟩⟩
      · skip
        refine j_aload_n hx 0 dX12_count_33 rfl ?_
        have f51 := zf hS0 ha (k := 41) rfl
        refine g13_41 hx hG ha kf_RX12_198 (v := (s0 a 41)) (by rw [e_s1, zU_at (Or.inr (by decide))]) dX12_count_34 ?_
        refine j_goto hx 66 dX12_count_37 rfl ?_
        have g52 : s1 a 3 = s0 a 3 := (by rw [e_s1, zU_at (Or.inr (by decide))])
        have f53 := zf hS0 ha (k := 3) rfl
        have g54 : s1 a 4 = s0 a 4 := (by rw [e_s1, zU_at (Or.inr (by decide))])
        have f55 := zf hS0 ha (k := 4) rfl
        have g56 : s1 a 5 = s0 a 5 := (by rw [e_s1, zU_at (Or.inr (by decide))])
        have f57 := zf hS0 ha (k := 5) rfl
        have g58 : s1 a 7 = s0 a 7 := (by rw [e_s1, zU_at (Or.inr (by decide))])
        have f59 := zf hS0 ha (k := 7) rfl
        have g60 : s1 a 21 = s0 a 21 := (by rw [e_s1, zU_at (Or.inr (by decide))])
        have f61 := zf hS0 ha (k := 21) rfl
        have g62 : s1 a 22 = s0 a 22 := (by rw [e_s1, zU_at (Or.inr (by decide))])
        have f63 := zf hS0 ha (k := 22) rfl
        have g64 : s1 a 23 = s0 a 23 := (by rw [e_s1, zU_at (Or.inr (by decide))])
        have f65 := zf hS0 ha (k := 23) rfl
        have g66 : s1 a 24 = s0 a 24 := (by rw [e_s1, zU_at (Or.inr (by decide))])
        have f67 := zf hS0 ha (k := 24) rfl
        have g68 : s1 a 38 = s0 a 38 := (by rw [e_s1, zU_at (Or.inr (by decide))])
        have f69 := zf hS0 ha (k := 38) rfl
        have g70 : s1 a 51 = s0 a 51 := (by rw [e_s1, zU_at (Or.inr (by decide))])
        have f71 := zf hS0 ha (k := 51) rfl
        have g72 : s1 a 52 = s0 a 52 := (by rw [e_s1, zU_at (Or.inr (by decide))])
        have f73 := zf hS0 ha (k := 52) rfl
        exact j_iret hx hq rfl (by decide) (by decide) dX12_count_66 ⟨(s0 a 41), rfl, rfl, hS_s1, (zFr_u zFr_rf e_s1 ha (by decide)), ⟨(by omega), by omega, by omega, by omega, by omega, by omega, by omega, by omega, by omega, by omega, by omega, by omega⟩⟩
    · skip
      refine j_aload_n hx 0 dX12_count_21 rfl ?_
      have f74 := zf hS0 ha (k := 2) rfl
      refine g13_2 hx hG ha kf_RX12_134 (v := (s0 a 2)) (by rw [e_s1, zU_at (Or.inr (by decide))]) dX12_count_22 ?_
      refine j_goto hx 66 dX12_count_25 rfl ?_
      have g75 : s1 a 3 = s0 a 3 := (by rw [e_s1, zU_at (Or.inr (by decide))])
      have f76 := zf hS0 ha (k := 3) rfl
      have g77 : s1 a 4 = s0 a 4 := (by rw [e_s1, zU_at (Or.inr (by decide))])
      have f78 := zf hS0 ha (k := 4) rfl
      have g79 : s1 a 5 = s0 a 5 := (by rw [e_s1, zU_at (Or.inr (by decide))])
      have f80 := zf hS0 ha (k := 5) rfl
      have g81 : s1 a 7 = s0 a 7 := (by rw [e_s1, zU_at (Or.inr (by decide))])
      have f82 := zf hS0 ha (k := 7) rfl
      have g83 : s1 a 21 = s0 a 21 := (by rw [e_s1, zU_at (Or.inr (by decide))])
      have f84 := zf hS0 ha (k := 21) rfl
      have g85 : s1 a 22 = s0 a 22 := (by rw [e_s1, zU_at (Or.inr (by decide))])
      have f86 := zf hS0 ha (k := 22) rfl
      have g87 : s1 a 23 = s0 a 23 := (by rw [e_s1, zU_at (Or.inr (by decide))])
      have f88 := zf hS0 ha (k := 23) rfl
      have g89 : s1 a 24 = s0 a 24 := (by rw [e_s1, zU_at (Or.inr (by decide))])
      have f90 := zf hS0 ha (k := 24) rfl
      have g91 : s1 a 38 = s0 a 38 := (by rw [e_s1, zU_at (Or.inr (by decide))])
      have f92 := zf hS0 ha (k := 38) rfl
      have g93 : s1 a 51 = s0 a 51 := (by rw [e_s1, zU_at (Or.inr (by decide))])
      have f94 := zf hS0 ha (k := 51) rfl
      have g95 : s1 a 52 = s0 a 52 := (by rw [e_s1, zU_at (Or.inr (by decide))])
      have f96 := zf hS0 ha (k := 52) rfl
      exact j_iret hx hq rfl (by decide) (by decide) dX12_count_66 ⟨(s0 a 2), rfl, rfl, hS_s1, (zFr_u zFr_rf e_s1 ha (by decide)), ⟨(by omega), by omega, by omega, by omega, by omega, by omega, by omega, by omega, by omega, by omega, by omega, by omega⟩⟩
  · skip
    refine j_aload_n hx 0 dX12_count_9 rfl ?_
    have f97 := zf hS0 ha (k := 58) rfl
    refine g13_58 hx hG ha kf_RX12_201 (v := (s0 a 58)) (by rw [e_s1, zU_at (Or.inr (by decide))]) dX12_count_10 ?_
    refine j_goto hx 66 dX12_count_13 rfl ?_
    have g98 : s1 a 3 = s0 a 3 := (by rw [e_s1, zU_at (Or.inr (by decide))])
    have f99 := zf hS0 ha (k := 3) rfl
    have g100 : s1 a 4 = s0 a 4 := (by rw [e_s1, zU_at (Or.inr (by decide))])
    have f101 := zf hS0 ha (k := 4) rfl
    have g102 : s1 a 5 = s0 a 5 := (by rw [e_s1, zU_at (Or.inr (by decide))])
    have f103 := zf hS0 ha (k := 5) rfl
    have g104 : s1 a 7 = s0 a 7 := (by rw [e_s1, zU_at (Or.inr (by decide))])
    have f105 := zf hS0 ha (k := 7) rfl
    have g106 : s1 a 21 = s0 a 21 := (by rw [e_s1, zU_at (Or.inr (by decide))])
    have f107 := zf hS0 ha (k := 21) rfl
    have g108 : s1 a 22 = s0 a 22 := (by rw [e_s1, zU_at (Or.inr (by decide))])
    have f109 := zf hS0 ha (k := 22) rfl
    have g110 : s1 a 23 = s0 a 23 := (by rw [e_s1, zU_at (Or.inr (by decide))])
    have f111 := zf hS0 ha (k := 23) rfl
    have g112 : s1 a 24 = s0 a 24 := (by rw [e_s1, zU_at (Or.inr (by decide))])
    have f113 := zf hS0 ha (k := 24) rfl
    have g114 : s1 a 38 = s0 a 38 := (by rw [e_s1, zU_at (Or.inr (by decide))])
    have f115 := zf hS0 ha (k := 38) rfl
    have g116 : s1 a 51 = s0 a 51 := (by rw [e_s1, zU_at (Or.inr (by decide))])
    have f117 := zf hS0 ha (k := 51) rfl
    have g118 : s1 a 52 = s0 a 52 := (by rw [e_s1, zU_at (Or.inr (by decide))])
    have f119 := zf hS0 ha (k := 52) rfl
    exact j_iret hx hq rfl (by decide) (by decide) dX12_count_66 ⟨(s0 a 58), rfl, rfl, hS_s1, (zFr_u zFr_rf e_s1 ha (by decide)), ⟨(by omega), by omega, by omega, by omega, by omega, by omega, by omega, by omega, by omega, by omega, by omega, by omega⟩⟩

set_option maxHeartbeats 1200000 in
set_option maxRecDepth 20000 in
theorem c_X12_thrown {E : zE} {l : Launch} (hst : l.stackTraces = false) (a : Nat) : Con E l yX12_thrown cX12_thrown 1 (some .int) { frames := 0, cells := 0, slots := 0, locals := 0 } (fun G s vs => vs = [.ref a] ∧ zGK G ∧ zSK G s ∧ (gT G a = 13)) (fun G s _ => pI (fun r G2 s2 => G2 = G ∧ s2 = s ∧ (0 ≤ r ∧ r ≤ 2) ∧ r = s a 0)) := by
  refine Con.mk hst (by decide) (fun G s vs h => by rw [h.1]; exact Nat.le_of_ble_eq_true rfl) ?_
  rintro X G s0 vs ⟨rfl, hG, hS0, ha⟩ rfl hx hq
  show JJ X E 1 G s0 0 0 [(0, .ref a)] 0 []
  refine j_aload_n hx 0 dX12_thrown_0 rfl ?_
  have f1 := zf hS0 ha (k := 0) rfl
  refine g13_0 hx hG ha kf_RX12_3 rfl dX12_thrown_1 ?_
  exact j_iret hx hq rfl (by decide) (by decide) dX12_thrown_4 ⟨(s0 a 0), rfl, rfl, rfl, ⟨(by omega), by omega⟩⟩
