set_option maxHeartbeats 1200000 in
set_option maxRecDepth 20000 in
theorem c_X12_quickness_q {E : zE} {l : Launch} (hst : l.stackTraces = false) (a : Nat) : Con E l yX12_quickness cX12_quickness 3 (some .int) { frames := 0, cells := 0, slots := 0, locals := 0 } (fun G s vs => vs = [.ref a] ∧ zGK G ∧ zSK G s ∧ (gT G a = 13) ∧ (zQn (s (gP G a 17)) (s a 24)) ∧ (1 ≤ s a 24)) (fun G s _ => pI (fun r G2 s2 => G2 = G ∧ s2 = s ∧ (1 ≤ r ∧ r ≤ 27))) := by
  refine Con.mk hst (by decide) (fun G s vs h => by rw [h.1]; exact Nat.le_of_ble_eq_true rfl) ?_
  rintro X G s0 vs ⟨rfl, hG, hS0, ha, e0, e1⟩ rfl hx hq
  show JJ X E 3 G s0 0 0 [(0, .ref a)] 0 []
  refine j_iconst hx dX12_quickness_0 ?_
  refine j_istore_n hx [(1, .int (zI 0)), (0, .ref a)] dX12_quickness_1 (by decide) rfl ?_
  refine j_iconst hx dX12_quickness_2 ?_
  refine j_istore_n hx [(2, .int (zI 0)), (1, .int (zI 0)), (0, .ref a)] dX12_quickness_3 (by decide) rfl ?_
  have c4_1 : ∀ (m_c4_1 : Nat) (v1 : Int) (v2 : Int), 2147483648 - v2 < m_c4_1 → (0 ≤ v1 ∧ v1 ≤ 27) → (0 ≤ v2 ∧ v2 ≤ 3) → (v1 ≤ 9 * v2) → (v2 ≤ v1) → (v2 ≤ s0 a 24) → JJ X E 3 G s0 0 0 [(0, .ref a), (1, .int (zI v1)), (2, .int (zI v2))] 4 [] := by
    intro m_c4_1
    induction m_c4_1 with
    | zero => intro v1 v2 hm_c4_1 fA2 fA3 fA4 fA5 fA6; exfalso; omega
    | succ m_c4_1 ih_c4_1 => 
      intro v1 v2 hm_c4_1 fA2 fA3 fA4 fA5 fA6
      refine j_iload_n hx 2 dX12_quickness_4 rfl ?_
      refine j_aload_n hx 0 dX12_quickness_5 rfl ?_
      have f3 := zf hS0 ha (k := 24) rfl
      refine g13_24 hx hG ha kf_RX12_189 rfl dX12_quickness_6 ?_
      refine j_icmp_ge hx 29 dX12_quickness_9 rfl (by omega) (by omega) (fun h4 => ?_) (fun h4 => ?_)
      · skip
        refine j_iload_n hx 1 dX12_quickness_29 rfl ?_
        exact j_iret hx hq rfl (by decide) (by decide) dX12_quickness_30 ⟨v1, rfl, rfl, rfl, (by omega)⟩
      · skip
        refine j_iload_n hx 1 dX12_quickness_12 rfl ?_
        refine j_aload_n hx 0 dX12_quickness_13 rfl ?_
        refine g13_17 hx hG ha kf_RX12_44 dX12_quickness_14 ?_
        refine j_iconst hx dX12_quickness_17 ?_
        refine j_iload_n hx 2 dX12_quickness_18 rfl ?_
        refine j_imul hx (r := 4 * v2) dX12_quickness_19 rfl ?_
        have z5 := e0 v2 (by omega) (by omega)
        have f6 := zaI (j := (4 * v2).toNat) hS0 (zr (k := 17) (t2 := 80) hG ha rfl) rfl (zlen hG (zr (k := 17) (t2 := 80) hG ha rfl) (n := 12) rfl rfl) (show 0 ≤ 4 * v2 by omega) (by omega) rfl
        refine j_iald hx hG (zr (k := 17) (t2 := 80) hG ha rfl) (by decide) rfl (zlen hG (zr (k := 17) (t2 := 80) hG ha rfl) (n := 12) rfl rfl) (by omega) (by omega) (j := (4 * v2).toNat) rfl rfl dX12_quickness_20 ?_
        refine j_iadd hx (r := v1 + (s0 (gP G a 17) (4 * v2).toNat)) dX12_quickness_21 (by omega) ?_
        refine j_istore_n hx [(1, .int (zI (v1 + (s0 (gP G a 17) (4 * v2).toNat)))), (0, .ref a), (2, .int (zI v2))] dX12_quickness_22 (by decide) rfl ?_
        refine j_iinc hx 2 [(2, .int (zI (v2 + 1))), (1, .int (zI (v1 + (s0 (gP G a 17) (4 * v2).toNat)))), (0, .ref a)] dX12_quickness_23 rfl (by omega) (by decide) rfl ?_
        refine j_goto hx 4 dX12_quickness_26 rfl ?_
        exact j_sub [2, 1, 0] [(0, .ref a), (1, .int (zI (v1 + (s0 (gP G a 17) (4 * v2).toNat)))), (2, .int (zI (v2 + 1)))] rfl (ih_c4_1 (v1 + (s0 (gP G a 17) (4 * v2).toNat)) (v2 + 1) (by omega) (by omega) (by omega) (by omega) (by omega) (by omega))
  exact j_sub [2, 1, 0] [(0, .ref a), (1, .int (zI 0)), (2, .int (zI 0))] rfl (c4_1 (2147483648 * 4) 0 0 (by omega) (by omega) (by omega) (by omega) (by omega) (by omega))

set_option maxHeartbeats 1200000 in
set_option maxRecDepth 20000 in
theorem c_X12_longDivisor {E : zE} {l : Launch} (hst : l.stackTraces = false) (y0 : Int) (y1 : Int) : Con E l yX12_longDivisor cX12_longDivisor 10 (some .long) { frames := 0, cells := 0, slots := 0, locals := 0 } (fun G s vs => vs = [.long (zL y0), .long (zL y1)] ∧ zGK G ∧ zSK G s ∧ ((-9223372036854775808) ≤ y0 ∧ y0 ≤ 9223372036854775807) ∧ ((-9223372036854775808) ≤ y1 ∧ y1 ≤ 9223372036854775807) ∧ (y0 ≠ 0 ∨ y1 ≠ 0)) (fun G s _ => pL (fun r G2 s2 => G2 = G ∧ s2 = s ∧ ((-9223372036854775808) ≤ r ∧ r ≤ 9223372036854775807) ∧ r ≠ 0)) := by
  refine Con.mk hst (by decide) (fun G s vs h => by rw [h.1]; exact Nat.le_of_ble_eq_true rfl) ?_
  rintro X G s0 vs ⟨rfl, hG, hS0, hy0, hy1, e0⟩ rfl hx hq
  show JJ X E 10 G s0 0 0 [(0, .long (zL y0)), (2, .long (zL y1))] 0 []
  refine j_lload_n hx 0 dX12_longDivisor_0 rfl ?_
  refine j_lstore hx [(4, .long (zL y0)), (0, .long (zL y0)), (2, .long (zL y1))] dX12_longDivisor_1 (by decide) rfl ?_
  refine j_lload_n hx 2 dX12_longDivisor_3 rfl ?_
  refine j_lstore hx [(6, .long (zL y1)), (4, .long (zL y0)), (0, .long (zL y0)), (2, .long (zL y1))] dX12_longDivisor_4 (by decide) rfl ?_
  have c6_1 : ∀ (m_c6_1 : Nat) (w1 : Int) (w2 : Int), max w2 (0 - w2) < m_c6_1 → ((-9223372036854775808) ≤ w1 ∧ w1 ≤ 9223372036854775807) → ((-9223372036854775808) ≤ w2 ∧ w2 ≤ 9223372036854775807) → (w1 ≠ 0 ∨ w2 ≠ 0) → JJ X E 10 G s0 0 0 [(4, .long (zL w1)), (6, .long (zL w2))] 6 [] := by
    intro m_c6_1
    induction m_c6_1 with
    | zero => intro w1 w2 hm_c6_1 fA2 fA3 fA4; exfalso; omega
    | succ m_c6_1 ih_c6_1 => 
      intro w1 w2 hm_c6_1 fA2 fA3 fA4
      refine j_lload hx 1 dX12_longDivisor_6 rfl ?_
      refine j_lconst hx dX12_longDivisor_8 ?_
      show JJ X E 10 G s0 0 0 [(4, .long (zL w1)), (6, .long (zL w2))] 9 [.long (zL 0), .long (zL w2)]
      refine j_lcmp hx dX12_longDivisor_9 (by omega) (by omega) (fun v3 f4 f5 f6 => ?_)
      have f7 : -1 ≤ v3 ∧ v3 ≤ 1 := by omega
      refine j_if_eq hx 31 dX12_longDivisor_10 rfl (by omega) (fun h8 => ?_) (fun h8 => ?_)
      · skip
        refine j_lload hx 0 dX12_longDivisor_31 rfl ?_
        exact j_lret hx hq rfl (by decide) (by decide) dX12_longDivisor_33 ⟨w1, rfl, rfl, rfl, ⟨(by omega), by omega⟩⟩
      · skip
        refine j_lload hx 0 dX12_longDivisor_13 rfl ?_
        refine j_lload hx 1 dX12_longDivisor_15 rfl ?_
        refine j_lremE hx dX12_longDivisor_17 (by omega) (by omega) (fun w9 f10 f11 f12 => ?_)
        refine j_lstore hx [(8, .long (zL w9)), (4, .long (zL w1)), (6, .long (zL w2))] dX12_longDivisor_18 (by decide) rfl ?_
        refine j_lload hx 2 dX12_longDivisor_20 rfl ?_
        refine j_lstore hx [(4, .long (zL w2)), (8, .long (zL w9)), (6, .long (zL w2))] dX12_longDivisor_22 (by decide) rfl ?_
        refine j_lload hx 1 dX12_longDivisor_24 rfl ?_
        refine j_lstore hx [(6, .long (zL w9)), (4, .long (zL w2)), (8, .long (zL w9))] dX12_longDivisor_26 (by decide) rfl ?_
        refine j_goto hx 6 dX12_longDivisor_28 rfl ?_
        exact j_sub [1, 0] [(4, .long (zL w2)), (6, .long (zL w9))] rfl (ih_c6_1 w2 w9 (by omega) (by omega) (by omega) (by omega))
  exact j_sub [1, 0] [(4, .long (zL y0)), (6, .long (zL y1))] rfl (c6_1 (9223372036854775809) y0 y1 (by omega) (by omega) (by omega) (by omega))

theorem lk_RX12_491 : LkS RX12 491 yX12_longDivisor cX12_longDivisor 10 (some .long) 2 := ⟨km_RX12_491, kst_yX12_longDivisor, kn_RX12, kc_yX12_longDivisor, by decide +kernel, by decide +kernel, by decide +kernel⟩
set_option maxHeartbeats 1200000 in
set_option maxRecDepth 20000 in
theorem c_X12_odds {E : zE} {l : Launch} (hst : l.stackTraces = false) (a : Nat) (x1 : Int) (x2 : Int) (x3 : Int) : Con E l yX12_odds cX12_odds 9 (some .long) { frames := 17, cells := 0, slots := 0, locals := 442 } (fun G s vs => vs = [.ref a, .int (zI x1), .int (zI x2), .int (zI x3)] ∧ zGK G ∧ zSK G s ∧ (gT G a = 13) ∧ ((-2147483648) ≤ x1 ∧ x1 ≤ 2147483647) ∧ ((-2147483648) ≤ x2 ∧ x2 ≤ 2147483647) ∧ ((-2147483648) ≤ x3 ∧ x3 ≤ 2147483647) ∧ (zc (s (gP G a 27)) ≤ 60) ∧ (s (gP G a 27) 488 ≤ 520000) ∧ (zDp (s (gP G a 55))) ∧ (zQn (s (gP G a 17)) (s a 24))) (fun G s _ => pL (fun r G2 s2 => G2 = G ∧ zSK G s2 ∧ zFr [13, 71, 84, 87, 99, 100, 104] G s s2 ∧ ((-9223372036854775808) ≤ r ∧ r ≤ 9223372036854775807) ∧ zc (s2 (gP G a 27)) = zc (s (gP G a 27)) ∧ s2 (gP G a 27) 488 = s (gP G a 27) 488 ∧ zDp (s2 (gP G a 55)) ∧ s2 a 3 = s a 3 ∧ s2 a 4 = s a 4 ∧ s2 a 5 = s a 5 ∧ s2 a 7 = s a 7 ∧ s2 a 21 = s a 21 ∧ s2 a 22 = s a 22 ∧ s2 a 23 = s a 23 ∧ s2 a 24 = s a 24 ∧ s2 a 38 = s a 38 ∧ s2 a 51 = s a 51 ∧ s2 a 52 = s a 52)) := by
  refine Con.mk hst (by decide) (fun G s vs h => by rw [h.1]; exact Nat.le_of_ble_eq_true rfl) ?_
  rintro X G s0 vs ⟨rfl, hG, hS0, ha, hx1, hx2, hx3, e0, e1, e2, e3⟩ rfl hx hq
  show JJ X E 9 G s0 0 0 [(0, .ref a), (1, .int (zI x1)), (2, .int (zI x2)), (3, .int (zI x3))] 0 []
  refine j_aload_n hx 0 dX12_odds_0 rfl ?_
  refine j_iconst hx dX12_odds_1 ?_
  refine p13_0 hx hG ha kf_RX12_3 dX12_odds_2 ?_
  obtain ⟨s1, e_s1⟩ : ∃ z, z = zU s0 a 0 0 := ⟨_, rfl⟩
  rw [← e_s1]
  have hS_s1 : zSK G s1 := by rw [e_s1]; exact zSK_F hS0 ha rfl rfl rfl (by omega)
  refine j_aload_n hx 0 dX12_odds_5 rfl ?_
  refine j_iload_n hx 1 dX12_odds_6 rfl ?_
  refine j_iconst hx dX12_odds_7 ?_
  have g1 : s1 a 0 = 0 := (by rw [e_s1, zU_eq])
  have g2 : s1 a 24 = s0 a 24 := (by rw [e_s1, zU_at (Or.inr (by decide))])
  have f3 := zf hS0 ha (k := 24) rfl
  have g4 : s1 a 3 = s0 a 3 := (by rw [e_s1, zU_at (Or.inr (by decide))])
  have f5 := zf hS0 ha (k := 3) rfl
  have g6 : s1 a 4 = s0 a 4 := (by rw [e_s1, zU_at (Or.inr (by decide))])
  have f7 := zf hS0 ha (k := 4) rfl
  have g8 : s1 a 5 = s0 a 5 := (by rw [e_s1, zU_at (Or.inr (by decide))])
  have f9 := zf hS0 ha (k := 5) rfl
  have g10 : s1 a 7 = s0 a 7 := (by rw [e_s1, zU_at (Or.inr (by decide))])
  have f11 := zf hS0 ha (k := 7) rfl
  have g12 : s1 a 21 = s0 a 21 := (by rw [e_s1, zU_at (Or.inr (by decide))])
  have f13 := zf hS0 ha (k := 21) rfl
  have g14 : s1 a 22 = s0 a 22 := (by rw [e_s1, zU_at (Or.inr (by decide))])
  have f15 := zf hS0 ha (k := 22) rfl
  have g16 : s1 a 23 = s0 a 23 := (by rw [e_s1, zU_at (Or.inr (by decide))])
  have f17 := zf hS0 ha (k := 23) rfl
  have g18 : s1 a 38 = s0 a 38 := (by rw [e_s1, zU_at (Or.inr (by decide))])
  have f19 := zf hS0 ha (k := 38) rfl
  have g20 : s1 a 51 = s0 a 51 := (by rw [e_s1, zU_at (Or.inr (by decide))])
  have f21 := zf hS0 ha (k := 51) rfl
  have g22 : s1 a 52 = s0 a 52 := (by rw [e_s1, zU_at (Or.inr (by decide))])
  have f23 := zf hS0 ha (k := 52) rfl
  refine j_callV hx hG (c_X12_isPlayer hst a x1 1) lk_RX12_339 ha (by decide) rfl rfl rfl rfl [.int (zI x1), .int (zI 1)] ⟨rfl, hG, hS_s1, ha, (by omega), (by omega), (((by rw [e_s1, zU_eq]) : s1 a 0 = 0).trans (by omega))⟩ rfl rfl ⟨by decide, by decide⟩ ⟨by decide, by decide⟩ (k2 := 0) (n2 := 0) rfl rfl (Nat.le_of_ble_eq_true rfl) dX12_odds_8 (kIM (fun v24 s2 hS_s2 hF_s2 q25 => ?_))
  refine j_if_eq hx 47 dX12_odds_11 rfl (by omega) (fun h26 => ?_) (fun h26 => ?_)
  · skip
    refine j_lconst hx dX12_odds_47 ?_
    show JJ X E 9 G s2 0 0 [(0, .ref a), (1, .int (zI x1)), (2, .int (zI x2)), (3, .int (zI x3))] 48 [.long (zL 0)]
    have g27 : zc (s2 (gP G a 27)) = zc (s0 (gP G a 27)) := by rw [hF_s2 (gP G a 27) (by rw [(zr (k := 27) (t2 := 84) hG ha rfl)]; decide), e_s1, zU_ne (zne ha (zr (k := 27) (t2 := 84) hG ha rfl) (by decide))]
    have g28 : s2 (gP G a 27) 488 = s0 (gP G a 27) 488 := (by rw [(zFr_g hF_s2 (zr (k := 27) (t2 := 84) hG ha rfl) (by decide)), e_s1, zU_at (Or.inl (zne ha (zr (k := 27) (t2 := 84) hG ha rfl) (by decide)))])
    have f29 := zf hS_s2 ha (k := 3) rfl
    have f30 := zf hS_s2 ha (k := 4) rfl
    have f31 := zf hS_s2 ha (k := 5) rfl
    have f32 := zf hS_s2 ha (k := 7) rfl
    have f33 := zf hS_s2 ha (k := 21) rfl
    have f34 := zf hS_s2 ha (k := 22) rfl
    have f35 := zf hS_s2 ha (k := 23) rfl
    have f36 := zf hS_s2 ha (k := 24) rfl
    have f37 := zf hS_s2 ha (k := 38) rfl
    have f38 := zf hS_s2 ha (k := 51) rfl
    have f39 := zf hS_s2 ha (k := 52) rfl
    exact j_lret hx hq rfl (by decide) (by decide) dX12_odds_48 ⟨0, rfl, rfl, hS_s2, (zFr_t (zFr_u zFr_rf e_s1 ha (by decide)) hF_s2 (by decide)), ⟨(by omega), by omega, by omega, (by have q1 : s2 (gP G a 55) = s0 (gP G a 55) := (by rw [hF_s2 (gP G a 55) (by rw [(zr (k := 55) (t2 := 104) hG ha rfl)]; decide), e_s1, zU_ne (zne ha (zr (k := 55) (t2 := 104) hG ha rfl) (by decide))]); rw [q1]; exact e2), by omega, by omega, by omega, by omega, by omega, by omega, by omega, by omega, by omega, by omega, by omega⟩⟩
  · skip
    refine j_aload_n hx 0 dX12_odds_14 rfl ?_
    refine j_iload_n hx 2 dX12_odds_15 rfl ?_
    refine j_iconst hx dX12_odds_16 ?_
    refine j_bipush hx dX12_odds_17 rfl ?_
    refine j_callS hx (c_X12_within hst x2 0 12) lk_RX12_314 [.int (zI x2), .int (zI 0), .int (zI 12)] ⟨rfl, hG, hS_s2, (by omega), (by omega), (by omega)⟩ rfl rfl ⟨by decide, by decide⟩ ⟨by decide, by decide⟩ (k2 := 0) (n2 := 0) rfl rfl (Nat.le_of_ble_eq_true rfl) dX12_odds_19 (kIP (fun v40 q41 => ?_))
    refine j_if_eq hx 38 dX12_odds_22 rfl (by omega) (fun h42 => ?_) (fun h42 => ?_)
    · skip
      refine j_iconst hx dX12_odds_38 ?_
      refine j_iconst hx dX12_odds_39 ?_
      refine j_iconst hx dX12_odds_40 ?_
      have f43 := zf hS_s2 ha (k := 0) rfl
      have f44 := zf hS_s2 ha (k := 3) rfl
      have f45 := zf hS_s2 ha (k := 4) rfl
      have f46 := zf hS_s2 ha (k := 5) rfl
      have f47 := zf hS_s2 ha (k := 7) rfl
      have f48 := zf hS_s2 ha (k := 21) rfl
      have f49 := zf hS_s2 ha (k := 22) rfl
      have f50 := zf hS_s2 ha (k := 23) rfl
      have f51 := zf hS_s2 ha (k := 24) rfl
      have f52 := zf hS_s2 ha (k := 38) rfl
      have f53 := zf hS_s2 ha (k := 51) rfl
      have f54 := zf hS_s2 ha (k := 52) rfl
      refine j_callV hx hG (c_X12_may_f hst a 0 2 1) lk_RX12_240 ha (by decide) rfl rfl rfl rfl [.int (zI 0), .int (zI 2), .int (zI 1)] ⟨rfl, hG, hS_s2, ha, (by omega), (by omega), (by omega), (by omega)⟩ rfl rfl ⟨by decide, by decide⟩ ⟨by decide, by decide⟩ (k2 := 0) (n2 := 0) rfl rfl (Nat.le_of_ble_eq_true rfl) dX12_odds_41 (kIM (fun v55 s3 hS_s3 hF_s3 q56 => ?_))
      refine j_if_ne hx 49 dX12_odds_44 rfl (by omega) (fun h57 => absurd h57 (by omega)) (fun h57 => ?_)
      refine j_lconst hx dX12_odds_47 ?_
      show JJ X E 9 G s3 0 0 [(0, .ref a), (1, .int (zI x1)), (2, .int (zI x2)), (3, .int (zI x3))] 48 [.long (zL 0)]
      have g58 : zc (s3 (gP G a 27)) = zc (s0 (gP G a 27)) := by rw [hF_s3 (gP G a 27) (by rw [(zr (k := 27) (t2 := 84) hG ha rfl)]; decide), hF_s2 (gP G a 27) (by rw [(zr (k := 27) (t2 := 84) hG ha rfl)]; decide), e_s1, zU_ne (zne ha (zr (k := 27) (t2 := 84) hG ha rfl) (by decide))]
      have g59 : s3 (gP G a 27) 488 = s0 (gP G a 27) 488 := (by rw [(zFr_g hF_s3 (zr (k := 27) (t2 := 84) hG ha rfl) (by decide)), (zFr_g hF_s2 (zr (k := 27) (t2 := 84) hG ha rfl) (by decide)), e_s1, zU_at (Or.inl (zne ha (zr (k := 27) (t2 := 84) hG ha rfl) (by decide)))])
      have f60 := zf hS_s3 ha (k := 3) rfl
      have f61 := zf hS_s3 ha (k := 4) rfl
      have f62 := zf hS_s3 ha (k := 5) rfl
      have f63 := zf hS_s3 ha (k := 7) rfl
      have f64 := zf hS_s3 ha (k := 21) rfl
      have f65 := zf hS_s3 ha (k := 22) rfl
      have f66 := zf hS_s3 ha (k := 23) rfl
      have f67 := zf hS_s3 ha (k := 24) rfl
      have f68 := zf hS_s3 ha (k := 38) rfl
      have f69 := zf hS_s3 ha (k := 51) rfl
      have f70 := zf hS_s3 ha (k := 52) rfl
      exact j_lret hx hq rfl (by decide) (by decide) dX12_odds_48 ⟨0, rfl, rfl, hS_s3, (zFr_t (zFr_t (zFr_u zFr_rf e_s1 ha (by decide)) hF_s2 (by decide)) hF_s3 (by decide)), ⟨(by omega), by omega, by omega, (by have q1 : s3 (gP G a 55) = s0 (gP G a 55) := (by rw [hF_s3 (gP G a 55) (by rw [(zr (k := 55) (t2 := 104) hG ha rfl)]; decide), hF_s2 (gP G a 55) (by rw [(zr (k := 55) (t2 := 104) hG ha rfl)]; decide), e_s1, zU_ne (zne ha (zr (k := 55) (t2 := 104) hG ha rfl) (by decide))]); rw [q1]; exact e2), by omega, by omega, by omega, by omega, by omega, by omega, by omega, by omega, by omega, by omega, by omega⟩⟩
    · skip
      refine j_iload_n hx 3 dX12_odds_25 rfl ?_
      refine j_iconst hx dX12_odds_26 ?_
      refine j_iconst hx dX12_odds_27 ?_
      refine j_callS hx (c_X12_within hst x3 0 1) lk_RX12_314 [.int (zI x3), .int (zI 0), .int (zI 1)] ⟨rfl, hG, hS_s2, (by omega), (by omega), (by omega)⟩ rfl rfl ⟨by decide, by decide⟩ ⟨by decide, by decide⟩ (k2 := 0) (n2 := 0) rfl rfl (Nat.le_of_ble_eq_true rfl) dX12_odds_28 (kIP (fun v71 q72 => ?_))
      refine j_if_eq hx 38 dX12_odds_31 rfl (by omega) (fun h73 => ?_) (fun h73 => ?_)
      · skip
        refine j_iconst hx dX12_odds_38 ?_
        refine j_iconst hx dX12_odds_39 ?_
        refine j_iconst hx dX12_odds_40 ?_
        have f74 := zf hS_s2 ha (k := 0) rfl
        have f75 := zf hS_s2 ha (k := 3) rfl
        have f76 := zf hS_s2 ha (k := 4) rfl
        have f77 := zf hS_s2 ha (k := 5) rfl
        have f78 := zf hS_s2 ha (k := 7) rfl
        have f79 := zf hS_s2 ha (k := 21) rfl
        have f80 := zf hS_s2 ha (k := 22) rfl
        have f81 := zf hS_s2 ha (k := 23) rfl
        have f82 := zf hS_s2 ha (k := 24) rfl
        have f83 := zf hS_s2 ha (k := 38) rfl
        have f84 := zf hS_s2 ha (k := 51) rfl
        have f85 := zf hS_s2 ha (k := 52) rfl
        refine j_callV hx hG (c_X12_may_f hst a 0 2 1) lk_RX12_240 ha (by decide) rfl rfl rfl rfl [.int (zI 0), .int (zI 2), .int (zI 1)] ⟨rfl, hG, hS_s2, ha, (by omega), (by omega), (by omega), (by omega)⟩ rfl rfl ⟨by decide, by decide⟩ ⟨by decide, by decide⟩ (k2 := 0) (n2 := 0) rfl rfl (Nat.le_of_ble_eq_true rfl) dX12_odds_41 (kIM (fun v86 s4 hS_s4 hF_s4 q87 => ?_))
        refine j_if_ne hx 49 dX12_odds_44 rfl (by omega) (fun h88 => absurd h88 (by omega)) (fun h88 => ?_)
        refine j_lconst hx dX12_odds_47 ?_
        show JJ X E 9 G s4 0 0 [(0, .ref a), (1, .int (zI x1)), (2, .int (zI x2)), (3, .int (zI x3))] 48 [.long (zL 0)]
        have g89 : zc (s4 (gP G a 27)) = zc (s0 (gP G a 27)) := by rw [hF_s4 (gP G a 27) (by rw [(zr (k := 27) (t2 := 84) hG ha rfl)]; decide), hF_s2 (gP G a 27) (by rw [(zr (k := 27) (t2 := 84) hG ha rfl)]; decide), e_s1, zU_ne (zne ha (zr (k := 27) (t2 := 84) hG ha rfl) (by decide))]
        have g90 : s4 (gP G a 27) 488 = s0 (gP G a 27) 488 := (by rw [(zFr_g hF_s4 (zr (k := 27) (t2 := 84) hG ha rfl) (by decide)), (zFr_g hF_s2 (zr (k := 27) (t2 := 84) hG ha rfl) (by decide)), e_s1, zU_at (Or.inl (zne ha (zr (k := 27) (t2 := 84) hG ha rfl) (by decide)))])
        have f91 := zf hS_s4 ha (k := 3) rfl
        have f92 := zf hS_s4 ha (k := 4) rfl
        have f93 := zf hS_s4 ha (k := 5) rfl
        have f94 := zf hS_s4 ha (k := 7) rfl
        have f95 := zf hS_s4 ha (k := 21) rfl
        have f96 := zf hS_s4 ha (k := 22) rfl
        have f97 := zf hS_s4 ha (k := 23) rfl
        have f98 := zf hS_s4 ha (k := 24) rfl
        have f99 := zf hS_s4 ha (k := 38) rfl
        have f100 := zf hS_s4 ha (k := 51) rfl
        have f101 := zf hS_s4 ha (k := 52) rfl
        exact j_lret hx hq rfl (by decide) (by decide) dX12_odds_48 ⟨0, rfl, rfl, hS_s4, (zFr_t (zFr_t (zFr_u zFr_rf e_s1 ha (by decide)) hF_s2 (by decide)) hF_s4 (by decide)), ⟨(by omega), by omega, by omega, (by have q1 : s4 (gP G a 55) = s0 (gP G a 55) := (by rw [hF_s4 (gP G a 55) (by rw [(zr (k := 55) (t2 := 104) hG ha rfl)]; decide), hF_s2 (gP G a 55) (by rw [(zr (k := 55) (t2 := 104) hG ha rfl)]; decide), e_s1, zU_ne (zne ha (zr (k := 55) (t2 := 104) hG ha rfl) (by decide))]); rw [q1]; exact e2), by omega, by omega, by omega, by omega, by omega, by omega, by omega, by omega, by omega, by omega, by omega⟩⟩
      · skip
        refine j_iconst hx dX12_odds_34 ?_
        refine j_goto hx 39 dX12_odds_35 rfl ?_
        refine j_iconst hx dX12_odds_39 ?_
        refine j_iconst hx dX12_odds_40 ?_
        have f102 := zf hS_s2 ha (k := 0) rfl
        refine j_callV hx hG (c_X12_may_t hst a 1 2 1) lk_RX12_240 ha (by decide) rfl rfl rfl rfl [.int (zI 1), .int (zI 2), .int (zI 1)] ⟨rfl, hG, hS_s2, ha, (by omega), (by omega), (by omega), (by omega)⟩ rfl rfl ⟨by decide, by decide⟩ ⟨by decide, by decide⟩ (k2 := 0) (n2 := 0) rfl rfl (Nat.le_of_ble_eq_true rfl) dX12_odds_41 (kIP (fun v103 q104 => ?_))
        refine j_if_ne hx 49 dX12_odds_44 rfl (by omega) (fun h105 => ?_) (fun h105 => absurd h105 (by omega))
        refine j_aload_n hx 0 dX12_odds_49 rfl ?_
        have g106 : zc (s2 (gP G a 27)) = zc (s0 (gP G a 27)) := by rw [hF_s2 (gP G a 27) (by rw [(zr (k := 27) (t2 := 84) hG ha rfl)]; decide), e_s1, zU_ne (zne ha (zr (k := 27) (t2 := 84) hG ha rfl) (by decide))]
        have g107 : s2 (gP G a 27) 488 = s0 (gP G a 27) 488 := (by rw [(zFr_g hF_s2 (zr (k := 27) (t2 := 84) hG ha rfl) (by decide)), e_s1, zU_at (Or.inl (zne ha (zr (k := 27) (t2 := 84) hG ha rfl) (by decide)))])
        refine j_callV hx hG (c_X12_keeps hst a) lk_RX12_444 ha (by decide) rfl rfl rfl rfl [] ⟨rfl, hG, hS_s2, ha⟩ rfl rfl ⟨by decide, by decide⟩ ⟨by decide, by decide⟩ (k2 := 0) (n2 := 0) rfl rfl (Nat.le_of_ble_eq_true rfl) dX12_odds_50 (kVM (fun s5 hS_s5 hF_s5 q109 => ?_))
        refine j_aload_n hx 0 dX12_odds_53 rfl ?_
        refine j_iload_n hx 1 dX12_odds_54 rfl ?_
        refine j_iload_n hx 2 dX12_odds_55 rfl ?_
        refine j_iconst hx dX12_odds_56 ?_
        have g110 : zc (s5 (gP G a 27)) = zc (s0 (gP G a 27)) := by rw [hF_s5 (gP G a 27) (by rw [(zr (k := 27) (t2 := 84) hG ha rfl)]; decide), hF_s2 (gP G a 27) (by rw [(zr (k := 27) (t2 := 84) hG ha rfl)]; decide), e_s1, zU_ne (zne ha (zr (k := 27) (t2 := 84) hG ha rfl) (by decide))]
        have g111 : s5 (gP G a 27) 488 = s0 (gP G a 27) 488 := (by rw [(zFr_g hF_s5 (zr (k := 27) (t2 := 84) hG ha rfl) (by decide)), (zFr_g hF_s2 (zr (k := 27) (t2 := 84) hG ha rfl) (by decide)), e_s1, zU_at (Or.inl (zne ha (zr (k := 27) (t2 := 84) hG ha rfl) (by decide)))])
        have g112 : s5 a 0 = s2 a 0 := (by rw [(zFr_g hF_s5 ha (by decide))])
        have g113 : s5 a 3 = s2 a 3 := (by rw [(zFr_g hF_s5 ha (by decide))])
        have f114 := zf hS_s2 ha (k := 3) rfl
        have g115 : s5 a 4 = s2 a 4 := (by rw [(zFr_g hF_s5 ha (by decide))])
        have f116 := zf hS_s2 ha (k := 4) rfl
        have g117 : s5 a 5 = s2 a 5 := (by rw [(zFr_g hF_s5 ha (by decide))])
        have f118 := zf hS_s2 ha (k := 5) rfl
        have g119 : s5 a 7 = s2 a 7 := (by rw [(zFr_g hF_s5 ha (by decide))])
        have f120 := zf hS_s2 ha (k := 7) rfl
        have g121 : s5 a 21 = s2 a 21 := (by rw [(zFr_g hF_s5 ha (by decide))])
        have f122 := zf hS_s2 ha (k := 21) rfl
        have g123 : s5 a 22 = s2 a 22 := (by rw [(zFr_g hF_s5 ha (by decide))])
        have f124 := zf hS_s2 ha (k := 22) rfl
        have g125 : s5 a 23 = s2 a 23 := (by rw [(zFr_g hF_s5 ha (by decide))])
        have f126 := zf hS_s2 ha (k := 23) rfl
        have g127 : s5 a 24 = s2 a 24 := (by rw [(zFr_g hF_s5 ha (by decide))])
        have f128 := zf hS_s2 ha (k := 24) rfl
        have g129 : s5 a 38 = s2 a 38 := (by rw [(zFr_g hF_s5 ha (by decide))])
        have f130 := zf hS_s2 ha (k := 38) rfl
        have g131 : s5 a 51 = s2 a 51 := (by rw [(zFr_g hF_s5 ha (by decide))])
        have f132 := zf hS_s2 ha (k := 51) rfl
        have g133 : s5 a 52 = s2 a 52 := (by rw [(zFr_g hF_s5 ha (by decide))])
        have f134 := zf hS_s2 ha (k := 52) rfl
        refine j_callV hx hG (c_X12_waysOf_0 hst a x1 x2 0) lk_RX12_487 ha (by decide) rfl rfl rfl rfl [.int (zI x1), .int (zI x2), .int (zI 0)] ⟨rfl, hG, hS_s5, ha, (by omega), (by omega), (by omega), (by omega), (by omega), ((by have q1 : s5 (gP G a 55) = s0 (gP G a 55) := (by rw [hF_s5 (gP G a 55) (by rw [(zr (k := 55) (t2 := 104) hG ha rfl)]; decide), hF_s2 (gP G a 55) (by rw [(zr (k := 55) (t2 := 104) hG ha rfl)]; decide), e_s1, zU_ne (zne ha (zr (k := 55) (t2 := 104) hG ha rfl) (by decide))]); rw [q1]; exact e2))⟩ rfl rfl ⟨by decide, by decide⟩ ⟨by decide, by decide⟩ (k2 := 0) (n2 := 0) rfl rfl (Nat.le_of_ble_eq_true rfl) dX12_odds_57 (kLM (fun v135 s6 hS_s6 hF_s6 q136 => ?_))
        refine j_lstore hx [(4, .long (zL v135)), (0, .ref a), (1, .int (zI x1)), (2, .int (zI x2)), (3, .int (zI x3))] dX12_odds_60 (by decide) rfl ?_
        refine j_aload_n hx 1 dX12_odds_62 rfl ?_
        have g137 : zc (s6 (gP G a 46)) = zc (s5 (gP G a 46)) := by rw [hF_s6 (gP G a 46) (by rw [(zr (k := 46) (t2 := 99) hG ha rfl)]; decide)]
        have g138 : s6 (gP G a 46) 488 = s5 (gP G a 46) 488 := (by rw [(zFr_g hF_s6 (zr (k := 46) (t2 := 99) hG ha rfl) (by decide))])
        refine j_callV hx hG (c_X12_back hst a) lk_RX12_450 ha (by decide) rfl rfl rfl rfl [] ⟨rfl, hG, hS_s6, ha⟩ rfl rfl ⟨by decide, by decide⟩ ⟨by decide, by decide⟩ (k2 := 0) (n2 := 0) rfl rfl (Nat.le_of_ble_eq_true rfl) dX12_odds_63 (kVM (fun s7 hS_s7 hF_s7 q140 => ?_))
        refine j_lconst hx dX12_odds_66 ?_
        show JJ X E 9 G s7 0 0 [(4, .long (zL v135)), (0, .ref a), (1, .int (zI x1)), (2, .int (zI x2)), (3, .int (zI x3))] 67 [.long (zL 1)]
        refine j_lstore hx [(6, .long (zL 1)), (4, .long (zL v135)), (0, .ref a), (1, .int (zI x1)), (2, .int (zI x2)), (3, .int (zI x3))] dX12_odds_67 (by decide) rfl ?_
        refine j_iconst hx dX12_odds_69 ?_
        refine j_istore hx [(8, .int (zI 0)), (6, .long (zL 1)), (4, .long (zL v135)), (0, .ref a), (1, .int (zI x1)), (2, .int (zI x2)), (3, .int (zI x3))] dX12_odds_70 (by decide) rfl ?_
        refine j_iload hx 0 dX12_odds_72 rfl ?_
        refine j_iload_n hx 5 dX12_odds_74 rfl ?_
        refine j_icmp_ge hx 94 dX12_odds_75 rfl ⟨by decide, by decide⟩ (by omega) (fun h141 => ?_) (fun h141 => ?_)
        · skip
          refine j_iload_n hx 6 dX12_odds_94 rfl ?_
          refine j_if_ne hx 103 dX12_odds_95 rfl (by omega) (fun h142 => ?_) (fun h142 => ?_)
          · skip
            refine j_lload hx 1 dX12_odds_103 rfl ?_
            refine j_lload hx 2 dX12_odds_105 rfl ?_
            refine j_lload hx 1 dX12_odds_107 rfl ?_
            refine j_callS hx (c_X12_longDivisor hst v135 1) lk_RX12_491 [.long (zL v135), .long (zL 1)] ⟨rfl, hG, hS_s7, (by omega), (by omega), (by omega)⟩ rfl rfl ⟨by decide, by decide⟩ ⟨by decide, by decide⟩ (k2 := 0) (n2 := 0) rfl rfl (Nat.le_of_ble_eq_true rfl) dX12_odds_109 (kLP (fun v143 q144 => ?_))
            refine j_ldiv hx dX12_odds_112 (by omega) (by omega) (fun w145 f146 f147 => ?_)
            have g148 : s7 a 3 = s6 a 3 := (by rw [(zFr_g hF_s7 ha (by decide))])
            have f149 := zf hS_s6 ha (k := 3) rfl
            have g150 : s7 a 4 = s6 a 4 := (by rw [(zFr_g hF_s7 ha (by decide))])
            have f151 := zf hS_s6 ha (k := 4) rfl
            have g152 : s7 a 5 = s6 a 5 := (by rw [(zFr_g hF_s7 ha (by decide))])
            have f153 := zf hS_s6 ha (k := 5) rfl
            have g154 : s7 a 7 = s6 a 7 := (by rw [(zFr_g hF_s7 ha (by decide))])
            have f155 := zf hS_s6 ha (k := 7) rfl
            have g156 : s7 a 21 = s6 a 21 := (by rw [(zFr_g hF_s7 ha (by decide))])
            have f157 := zf hS_s6 ha (k := 21) rfl
            have g158 : s7 a 22 = s6 a 22 := (by rw [(zFr_g hF_s7 ha (by decide))])
            have f159 := zf hS_s6 ha (k := 22) rfl
            have g160 : s7 a 23 = s6 a 23 := (by rw [(zFr_g hF_s7 ha (by decide))])
            have f161 := zf hS_s6 ha (k := 23) rfl
            have g162 : s7 a 24 = s6 a 24 := (by rw [(zFr_g hF_s7 ha (by decide))])
            have f163 := zf hS_s6 ha (k := 24) rfl
            have g164 : s7 a 38 = s6 a 38 := (by rw [(zFr_g hF_s7 ha (by decide))])
            have f165 := zf hS_s6 ha (k := 38) rfl
            have g166 : s7 a 51 = s6 a 51 := (by rw [(zFr_g hF_s7 ha (by decide))])
            have f167 := zf hS_s6 ha (k := 51) rfl
            have g168 : s7 a 52 = s6 a 52 := (by rw [(zFr_g hF_s7 ha (by decide))])
            have f169 := zf hS_s6 ha (k := 52) rfl
            exact j_lret hx hq rfl (by decide) (by decide) dX12_odds_113 ⟨w145, rfl, rfl, hS_s7, (zFr_t (zFr_t (zFr_t (zFr_t (zFr_u zFr_rf e_s1 ha (by decide)) hF_s2 (by decide)) hF_s5 (by decide)) hF_s6 (by decide)) hF_s7 (by decide)), ⟨(by omega), by omega, by omega, (by have q1 : s7 (gP G a 55) = s6 (gP G a 55) := (by rw [hF_s7 (gP G a 55) (by rw [(zr (k := 55) (t2 := 104) hG ha rfl)]; decide)]); rw [q1]; exact q136.2.2.2.1), by omega, by omega, by omega, by omega, by omega, by omega, by omega, by omega, by omega, by omega, by omega⟩⟩
          · skip
            refine j_lload hx 2 dX12_odds_98 rfl ?_
            refine j_goto hx 105 dX12_odds_100 rfl ?_
            refine j_lload hx 2 dX12_odds_105 rfl ?_
            refine j_lload hx 1 dX12_odds_107 rfl ?_
            refine j_callS hx (c_X12_longDivisor hst v135 1) lk_RX12_491 [.long (zL v135), .long (zL 1)] ⟨rfl, hG, hS_s7, (by omega), (by omega), (by omega)⟩ rfl rfl ⟨by decide, by decide⟩ ⟨by decide, by decide⟩ (k2 := 0) (n2 := 0) rfl rfl (Nat.le_of_ble_eq_true rfl) dX12_odds_109 (kLP (fun v170 q171 => ?_))
            refine j_ldiv hx dX12_odds_112 (by omega) (by omega) (fun w172 f173 f174 => ?_)
            have g175 : s7 a 3 = s6 a 3 := (by rw [(zFr_g hF_s7 ha (by decide))])
            have f176 := zf hS_s6 ha (k := 3) rfl
            have g177 : s7 a 4 = s6 a 4 := (by rw [(zFr_g hF_s7 ha (by decide))])
            have f178 := zf hS_s6 ha (k := 4) rfl
            have g179 : s7 a 5 = s6 a 5 := (by rw [(zFr_g hF_s7 ha (by decide))])
            have f180 := zf hS_s6 ha (k := 5) rfl
            have g181 : s7 a 7 = s6 a 7 := (by rw [(zFr_g hF_s7 ha (by decide))])
            have f182 := zf hS_s6 ha (k := 7) rfl
            have g183 : s7 a 21 = s6 a 21 := (by rw [(zFr_g hF_s7 ha (by decide))])
            have f184 := zf hS_s6 ha (k := 21) rfl
            have g185 : s7 a 22 = s6 a 22 := (by rw [(zFr_g hF_s7 ha (by decide))])
            have f186 := zf hS_s6 ha (k := 22) rfl
            have g187 : s7 a 23 = s6 a 23 := (by rw [(zFr_g hF_s7 ha (by decide))])
            have f188 := zf hS_s6 ha (k := 23) rfl
            have g189 : s7 a 24 = s6 a 24 := (by rw [(zFr_g hF_s7 ha (by decide))])
            have f190 := zf hS_s6 ha (k := 24) rfl
            have g191 : s7 a 38 = s6 a 38 := (by rw [(zFr_g hF_s7 ha (by decide))])
            have f192 := zf hS_s6 ha (k := 38) rfl
            have g193 : s7 a 51 = s6 a 51 := (by rw [(zFr_g hF_s7 ha (by decide))])
            have f194 := zf hS_s6 ha (k := 51) rfl
            have g195 : s7 a 52 = s6 a 52 := (by rw [(zFr_g hF_s7 ha (by decide))])
            have f196 := zf hS_s6 ha (k := 52) rfl
            exact j_lret hx hq rfl (by decide) (by decide) dX12_odds_113 ⟨w172, rfl, rfl, hS_s7, (zFr_t (zFr_t (zFr_t (zFr_t (zFr_u zFr_rf e_s1 ha (by decide)) hF_s2 (by decide)) hF_s5 (by decide)) hF_s6 (by decide)) hF_s7 (by decide)), ⟨(by omega), by omega, by omega, (by have q1 : s7 (gP G a 55) = s6 (gP G a 55) := (by rw [hF_s7 (gP G a 55) (by rw [(zr (k := 55) (t2 := 104) hG ha rfl)]; decide)]); rw [q1]; exact q136.2.2.2.1), by omega, by omega, by omega, by omega, by omega, by omega, by omega, by omega, by omega, by omega, by omega⟩⟩
        · skip
          refine j_lload hx 1 dX12_odds_78 rfl ?_
          refine j_aload_n hx 3 dX12_odds_80 rfl ?_
          have g197 : s7 a 24 = s6 a 24 := (by rw [(zFr_g hF_s7 ha (by decide))])
          have f198 := zf hS_s6 ha (k := 24) rfl
          refine j_callV hx hG (c_X12_quickness_q hst a) lk_RX12_484 ha (by decide) rfl rfl rfl rfl [] ⟨rfl, hG, hS_s7, ha, ((by have q1 : s7 (gP G a 17) = s0 (gP G a 17) := (by rw [hF_s7 (gP G a 17) (by rw [(zr (k := 17) (t2 := 80) hG ha rfl)]; decide), hF_s6 (gP G a 17) (by rw [(zr (k := 17) (t2 := 80) hG ha rfl)]; decide), hF_s5 (gP G a 17) (by rw [(zr (k := 17) (t2 := 80) hG ha rfl)]; decide), hF_s2 (gP G a 17) (by rw [(zr (k := 17) (t2 := 80) hG ha rfl)]; decide), e_s1, zU_ne (zne ha (zr (k := 17) (t2 := 80) hG ha rfl) (by decide))]); rw [q1]; exact (zQn_nn e3 (by omega)))), (by omega)⟩ rfl rfl ⟨by decide, by decide⟩ ⟨by decide, by decide⟩ (k2 := 0) (n2 := 0) rfl rfl (Nat.le_of_ble_eq_true rfl) dX12_odds_81 (kIP (fun v199 q200 => ?_))
          refine j_i2l hx dX12_odds_84 (by omega) ?_
          refine j_lmulP hx 1 27 dX12_odds_85 (by omega) (by omega) (fun w201 f202 f203 => ?_)
          refine j_lstore hx [(6, .long (zL w201)), (8, .int (zI 0)), (4, .long (zL v135)), (0, .ref a), (1, .int (zI x1)), (2, .int (zI x2)), (3, .int (zI x3))] dX12_odds_86 (by decide) rfl ?_
          refine j_iinc hx 1 [(8, .int (zI 1)), (6, .long (zL w201)), (4, .long (zL v135)), (0, .ref a), (1, .int (zI x1)), (2, .int (zI x2)), (3, .int (zI x3))] dX12_odds_88 rfl (by omega) (by decide) rfl ?_
          refine j_goto hx 72 dX12_odds_91 rfl ?_
          refine j_iload hx 0 dX12_odds_72 rfl ?_
          refine j_iload_n hx 5 dX12_odds_74 rfl ?_
          refine j_icmp_ge hx 94 dX12_odds_75 rfl ⟨by decide, by decide⟩ (by omega) (fun h204 => ?_) (fun h204 => ?_)
          · skip
            refine j_iload_n hx 6 dX12_odds_94 rfl ?_
            refine j_if_ne hx 103 dX12_odds_95 rfl (by omega) (fun h205 => ?_) (fun h205 => ?_)
            · skip
              refine j_lload hx 1 dX12_odds_103 rfl ?_
              refine j_lload hx 2 dX12_odds_105 rfl ?_
              refine j_lload hx 1 dX12_odds_107 rfl ?_
              refine j_callS hx (c_X12_longDivisor hst v135 w201) lk_RX12_491 [.long (zL v135), .long (zL w201)] ⟨rfl, hG, hS_s7, (by omega), (by omega), (by omega)⟩ rfl rfl ⟨by decide, by decide⟩ ⟨by decide, by decide⟩ (k2 := 0) (n2 := 0) rfl rfl (Nat.le_of_ble_eq_true rfl) dX12_odds_109 (kLP (fun v206 q207 => ?_))
              refine j_ldiv hx dX12_odds_112 (by omega) (by omega) (fun w208 f209 f210 => ?_)
              have g211 : s7 a 3 = s6 a 3 := (by rw [(zFr_g hF_s7 ha (by decide))])
              have f212 := zf hS_s6 ha (k := 3) rfl
              have g213 : s7 a 4 = s6 a 4 := (by rw [(zFr_g hF_s7 ha (by decide))])
              have f214 := zf hS_s6 ha (k := 4) rfl
              have g215 : s7 a 5 = s6 a 5 := (by rw [(zFr_g hF_s7 ha (by decide))])
              have f216 := zf hS_s6 ha (k := 5) rfl
              have g217 : s7 a 7 = s6 a 7 := (by rw [(zFr_g hF_s7 ha (by decide))])
              have f218 := zf hS_s6 ha (k := 7) rfl
              have g219 : s7 a 21 = s6 a 21 := (by rw [(zFr_g hF_s7 ha (by decide))])
              have f220 := zf hS_s6 ha (k := 21) rfl
              have g221 : s7 a 22 = s6 a 22 := (by rw [(zFr_g hF_s7 ha (by decide))])
              have f222 := zf hS_s6 ha (k := 22) rfl
              have g223 : s7 a 23 = s6 a 23 := (by rw [(zFr_g hF_s7 ha (by decide))])
              have f224 := zf hS_s6 ha (k := 23) rfl
              have g225 : s7 a 38 = s6 a 38 := (by rw [(zFr_g hF_s7 ha (by decide))])
              have f226 := zf hS_s6 ha (k := 38) rfl
              have g227 : s7 a 51 = s6 a 51 := (by rw [(zFr_g hF_s7 ha (by decide))])
              have f228 := zf hS_s6 ha (k := 51) rfl
              have g229 : s7 a 52 = s6 a 52 := (by rw [(zFr_g hF_s7 ha (by decide))])
              have f230 := zf hS_s6 ha (k := 52) rfl
              exact j_lret hx hq rfl (by decide) (by decide) dX12_odds_113 ⟨w208, rfl, rfl, hS_s7, (zFr_t (zFr_t (zFr_t (zFr_t (zFr_u zFr_rf e_s1 ha (by decide)) hF_s2 (by decide)) hF_s5 (by decide)) hF_s6 (by decide)) hF_s7 (by decide)), ⟨(by omega), by omega, by omega, (by have q1 : s7 (gP G a 55) = s6 (gP G a 55) := (by rw [hF_s7 (gP G a 55) (by rw [(zr (k := 55) (t2 := 104) hG ha rfl)]; decide)]); rw [q1]; exact q136.2.2.2.1), by omega, by omega, by omega, by omega, by omega, by omega, by omega, by omega, by omega, by omega, by omega⟩⟩
            · skip
              refine j_lload hx 2 dX12_odds_98 rfl ?_
              refine j_goto hx 105 dX12_odds_100 rfl ?_
              refine j_lload hx 2 dX12_odds_105 rfl ?_
              refine j_lload hx 1 dX12_odds_107 rfl ?_
              refine j_callS hx (c_X12_longDivisor hst v135 w201) lk_RX12_491 [.long (zL v135), .long (zL w201)] ⟨rfl, hG, hS_s7, (by omega), (by omega), (by omega)⟩ rfl rfl ⟨by decide, by decide⟩ ⟨by decide, by decide⟩ (k2 := 0) (n2 := 0) rfl rfl (Nat.le_of_ble_eq_true rfl) dX12_odds_109 (kLP (fun v231 q232 => ?_))
              refine j_ldiv hx dX12_odds_112 (by omega) (by omega) (fun w233 f234 f235 => ?_)
              have g236 : s7 a 3 = s6 a 3 := (by rw [(zFr_g hF_s7 ha (by decide))])
              have f237 := zf hS_s6 ha (k := 3) rfl
              have g238 : s7 a 4 = s6 a 4 := (by rw [(zFr_g hF_s7 ha (by decide))])
              have f239 := zf hS_s6 ha (k := 4) rfl
              have g240 : s7 a 5 = s6 a 5 := (by rw [(zFr_g hF_s7 ha (by decide))])
              have f241 := zf hS_s6 ha (k := 5) rfl
              have g242 : s7 a 7 = s6 a 7 := (by rw [(zFr_g hF_s7 ha (by decide))])
              have f243 := zf hS_s6 ha (k := 7) rfl
              have g244 : s7 a 21 = s6 a 21 := (by rw [(zFr_g hF_s7 ha (by decide))])
              have f245 := zf hS_s6 ha (k := 21) rfl
              have g246 : s7 a 22 = s6 a 22 := (by rw [(zFr_g hF_s7 ha (by decide))])
              have f247 := zf hS_s6 ha (k := 22) rfl
              have g248 : s7 a 23 = s6 a 23 := (by rw [(zFr_g hF_s7 ha (by decide))])
              have f249 := zf hS_s6 ha (k := 23) rfl
              have g250 : s7 a 38 = s6 a 38 := (by rw [(zFr_g hF_s7 ha (by decide))])
              have f251 := zf hS_s6 ha (k := 38) rfl
              have g252 : s7 a 51 = s6 a 51 := (by rw [(zFr_g hF_s7 ha (by decide))])
              have f253 := zf hS_s6 ha (k := 51) rfl
              have g254 : s7 a 52 = s6 a 52 := (by rw [(zFr_g hF_s7 ha (by decide))])
              have f255 := zf hS_s6 ha (k := 52) rfl
              exact j_lret hx hq rfl (by decide) (by decide) dX12_odds_113 ⟨w233, rfl, rfl, hS_s7, (zFr_t (zFr_t (zFr_t (zFr_t (zFr_u zFr_rf e_s1 ha (by decide)) hF_s2 (by decide)) hF_s5 (by decide)) hF_s6 (by decide)) hF_s7 (by decide)), ⟨(by omega), by omega, by omega, (by have q1 : s7 (gP G a 55) = s6 (gP G a 55) := (by rw [hF_s7 (gP G a 55) (by rw [(zr (k := 55) (t2 := 104) hG ha rfl)]; decide)]); rw [q1]; exact q136.2.2.2.1), by omega, by omega, by omega, by omega, by omega, by omega, by omega, by omega, by omega, by omega, by omega⟩⟩
          · skip
            refine j_lload hx 1 dX12_odds_78 rfl ?_
            refine j_aload_n hx 3 dX12_odds_80 rfl ?_
            refine j_callV hx hG (c_X12_quickness_q hst a) lk_RX12_484 ha (by decide) rfl rfl rfl rfl [] ⟨rfl, hG, hS_s7, ha, ((by have q1 : s7 (gP G a 17) = s0 (gP G a 17) := (by rw [hF_s7 (gP G a 17) (by rw [(zr (k := 17) (t2 := 80) hG ha rfl)]; decide), hF_s6 (gP G a 17) (by rw [(zr (k := 17) (t2 := 80) hG ha rfl)]; decide), hF_s5 (gP G a 17) (by rw [(zr (k := 17) (t2 := 80) hG ha rfl)]; decide), hF_s2 (gP G a 17) (by rw [(zr (k := 17) (t2 := 80) hG ha rfl)]; decide), e_s1, zU_ne (zne ha (zr (k := 17) (t2 := 80) hG ha rfl) (by decide))]); rw [q1]; exact (zQn_nn e3 (by omega)))), (by omega)⟩ rfl rfl ⟨by decide, by decide⟩ ⟨by decide, by decide⟩ (k2 := 0) (n2 := 0) rfl rfl (Nat.le_of_ble_eq_true rfl) dX12_odds_81 (kIP (fun v256 q257 => ?_))
            refine j_i2l hx dX12_odds_84 (by omega) ?_
            refine j_lmulP hx 27 27 dX12_odds_85 (by omega) (by omega) (fun w258 f259 f260 => ?_)
            refine j_lstore hx [(6, .long (zL w258)), (8, .int (zI 1)), (4, .long (zL v135)), (0, .ref a), (1, .int (zI x1)), (2, .int (zI x2)), (3, .int (zI x3))] dX12_odds_86 (by decide) rfl ?_
            refine j_iinc hx 1 [(8, .int (zI 2)), (6, .long (zL w258)), (4, .long (zL v135)), (0, .ref a), (1, .int (zI x1)), (2, .int (zI x2)), (3, .int (zI x3))] dX12_odds_88 rfl (by omega) (by decide) rfl ?_
            refine j_goto hx 72 dX12_odds_91 rfl ?_
            refine j_iload hx 0 dX12_odds_72 rfl ?_
            refine j_iload_n hx 5 dX12_odds_74 rfl ?_
            refine j_icmp_ge hx 94 dX12_odds_75 rfl ⟨by decide, by decide⟩ (by omega) (fun h261 => ?_) (fun h261 => ?_)
            · skip
              refine j_iload_n hx 6 dX12_odds_94 rfl ?_
              refine j_if_ne hx 103 dX12_odds_95 rfl (by omega) (fun h262 => ?_) (fun h262 => ?_)
              · skip
                refine j_lload hx 1 dX12_odds_103 rfl ?_
                refine j_lload hx 2 dX12_odds_105 rfl ?_
                refine j_lload hx 1 dX12_odds_107 rfl ?_
                refine j_callS hx (c_X12_longDivisor hst v135 w258) lk_RX12_491 [.long (zL v135), .long (zL w258)] ⟨rfl, hG, hS_s7, (by omega), (by omega), (by omega)⟩ rfl rfl ⟨by decide, by decide⟩ ⟨by decide, by decide⟩ (k2 := 0) (n2 := 0) rfl rfl (Nat.le_of_ble_eq_true rfl) dX12_odds_109 (kLP (fun v263 q264 => ?_))
                refine j_ldiv hx dX12_odds_112 (by omega) (by omega) (fun w265 f266 f267 => ?_)
                have g268 : s7 a 3 = s6 a 3 := (by rw [(zFr_g hF_s7 ha (by decide))])
                have f269 := zf hS_s6 ha (k := 3) rfl
                have g270 : s7 a 4 = s6 a 4 := (by rw [(zFr_g hF_s7 ha (by decide))])
                have f271 := zf hS_s6 ha (k := 4) rfl
                have g272 : s7 a 5 = s6 a 5 := (by rw [(zFr_g hF_s7 ha (by decide))])
                have f273 := zf hS_s6 ha (k := 5) rfl
                have g274 : s7 a 7 = s6 a 7 := (by rw [(zFr_g hF_s7 ha (by decide))])
                have f275 := zf hS_s6 ha (k := 7) rfl
                have g276 : s7 a 21 = s6 a 21 := (by rw [(zFr_g hF_s7 ha (by decide))])
                have f277 := zf hS_s6 ha (k := 21) rfl
                have g278 : s7 a 22 = s6 a 22 := (by rw [(zFr_g hF_s7 ha (by decide))])
                have f279 := zf hS_s6 ha (k := 22) rfl
                have g280 : s7 a 23 = s6 a 23 := (by rw [(zFr_g hF_s7 ha (by decide))])
                have f281 := zf hS_s6 ha (k := 23) rfl
                have g282 : s7 a 38 = s6 a 38 := (by rw [(zFr_g hF_s7 ha (by decide))])
                have f283 := zf hS_s6 ha (k := 38) rfl
                have g284 : s7 a 51 = s6 a 51 := (by rw [(zFr_g hF_s7 ha (by decide))])
                have f285 := zf hS_s6 ha (k := 51) rfl
                have g286 : s7 a 52 = s6 a 52 := (by rw [(zFr_g hF_s7 ha (by decide))])
                have f287 := zf hS_s6 ha (k := 52) rfl
                exact j_lret hx hq rfl (by decide) (by decide) dX12_odds_113 ⟨w265, rfl, rfl, hS_s7, (zFr_t (zFr_t (zFr_t (zFr_t (zFr_u zFr_rf e_s1 ha (by decide)) hF_s2 (by decide)) hF_s5 (by decide)) hF_s6 (by decide)) hF_s7 (by decide)), ⟨(by omega), by omega, by omega, (by have q1 : s7 (gP G a 55) = s6 (gP G a 55) := (by rw [hF_s7 (gP G a 55) (by rw [(zr (k := 55) (t2 := 104) hG ha rfl)]; decide)]); rw [q1]; exact q136.2.2.2.1), by omega, by omega, by omega, by omega, by omega, by omega, by omega, by omega, by omega, by omega, by omega⟩⟩
              · skip
                refine j_lload hx 2 dX12_odds_98 rfl ?_
                refine j_goto hx 105 dX12_odds_100 rfl ?_
                refine j_lload hx 2 dX12_odds_105 rfl ?_
                refine j_lload hx 1 dX12_odds_107 rfl ?_
                refine j_callS hx (c_X12_longDivisor hst v135 w258) lk_RX12_491 [.long (zL v135), .long (zL w258)] ⟨rfl, hG, hS_s7, (by omega), (by omega), (by omega)⟩ rfl rfl ⟨by decide, by decide⟩ ⟨by decide, by decide⟩ (k2 := 0) (n2 := 0) rfl rfl (Nat.le_of_ble_eq_true rfl) dX12_odds_109 (kLP (fun v288 q289 => ?_))
                refine j_ldiv hx dX12_odds_112 (by omega) (by omega) (fun w290 f291 f292 => ?_)
                have g293 : s7 a 3 = s6 a 3 := (by rw [(zFr_g hF_s7 ha (by decide))])
                have f294 := zf hS_s6 ha (k := 3) rfl
                have g295 : s7 a 4 = s6 a 4 := (by rw [(zFr_g hF_s7 ha (by decide))])
                have f296 := zf hS_s6 ha (k := 4) rfl
                have g297 : s7 a 5 = s6 a 5 := (by rw [(zFr_g hF_s7 ha (by decide))])
                have f298 := zf hS_s6 ha (k := 5) rfl
                have g299 : s7 a 7 = s6 a 7 := (by rw [(zFr_g hF_s7 ha (by decide))])
                have f300 := zf hS_s6 ha (k := 7) rfl
                have g301 : s7 a 21 = s6 a 21 := (by rw [(zFr_g hF_s7 ha (by decide))])
                have f302 := zf hS_s6 ha (k := 21) rfl
                have g303 : s7 a 22 = s6 a 22 := (by rw [(zFr_g hF_s7 ha (by decide))])
                have f304 := zf hS_s6 ha (k := 22) rfl
                have g305 : s7 a 23 = s6 a 23 := (by rw [(zFr_g hF_s7 ha (by decide))])
                have f306 := zf hS_s6 ha (k := 23) rfl
                have g307 : s7 a 38 = s6 a 38 := (by rw [(zFr_g hF_s7 ha (by decide))])
                have f308 := zf hS_s6 ha (k := 38) rfl
                have g309 : s7 a 51 = s6 a 51 := (by rw [(zFr_g hF_s7 ha (by decide))])
                have f310 := zf hS_s6 ha (k := 51) rfl
                have g311 : s7 a 52 = s6 a 52 := (by rw [(zFr_g hF_s7 ha (by decide))])
                have f312 := zf hS_s6 ha (k := 52) rfl
                exact j_lret hx hq rfl (by decide) (by decide) dX12_odds_113 ⟨w290, rfl, rfl, hS_s7, (zFr_t (zFr_t (zFr_t (zFr_t (zFr_u zFr_rf e_s1 ha (by decide)) hF_s2 (by decide)) hF_s5 (by decide)) hF_s6 (by decide)) hF_s7 (by decide)), ⟨(by omega), by omega, by omega, (by have q1 : s7 (gP G a 55) = s6 (gP G a 55) := (by rw [hF_s7 (gP G a 55) (by rw [(zr (k := 55) (t2 := 104) hG ha rfl)]; decide)]); rw [q1]; exact q136.2.2.2.1), by omega, by omega, by omega, by omega, by omega, by omega, by omega, by omega, by omega, by omega, by omega⟩⟩
            · skip
              refine j_lload hx 1 dX12_odds_78 rfl ?_
              refine j_aload_n hx 3 dX12_odds_80 rfl ?_
              refine j_callV hx hG (c_X12_quickness_q hst a) lk_RX12_484 ha (by decide) rfl rfl rfl rfl [] ⟨rfl, hG, hS_s7, ha, ((by have q1 : s7 (gP G a 17) = s0 (gP G a 17) := (by rw [hF_s7 (gP G a 17) (by rw [(zr (k := 17) (t2 := 80) hG ha rfl)]; decide), hF_s6 (gP G a 17) (by rw [(zr (k := 17) (t2 := 80) hG ha rfl)]; decide), hF_s5 (gP G a 17) (by rw [(zr (k := 17) (t2 := 80) hG ha rfl)]; decide), hF_s2 (gP G a 17) (by rw [(zr (k := 17) (t2 := 80) hG ha rfl)]; decide), e_s1, zU_ne (zne ha (zr (k := 17) (t2 := 80) hG ha rfl) (by decide))]); rw [q1]; exact (zQn_nn e3 (by omega)))), (by omega)⟩ rfl rfl ⟨by decide, by decide⟩ ⟨by decide, by decide⟩ (k2 := 0) (n2 := 0) rfl rfl (Nat.le_of_ble_eq_true rfl) dX12_odds_81 (kIP (fun v313 q314 => ?_))
              refine j_i2l hx dX12_odds_84 (by omega) ?_
              refine j_lmulP hx 729 27 dX12_odds_85 (by omega) (by omega) (fun w315 f316 f317 => ?_)
              refine j_lstore hx [(6, .long (zL w315)), (8, .int (zI 2)), (4, .long (zL v135)), (0, .ref a), (1, .int (zI x1)), (2, .int (zI x2)), (3, .int (zI x3))] dX12_odds_86 (by decide) rfl ?_
              refine j_iinc hx 1 [(8, .int (zI 3)), (6, .long (zL w315)), (4, .long (zL v135)), (0, .ref a), (1, .int (zI x1)), (2, .int (zI x2)), (3, .int (zI x3))] dX12_odds_88 rfl (by omega) (by decide) rfl ?_
              refine j_goto hx 72 dX12_odds_91 rfl ?_
              refine j_iload hx 0 dX12_odds_72 rfl ?_
              refine j_iload_n hx 5 dX12_odds_74 rfl ?_
              refine j_icmp_ge hx 94 dX12_odds_75 rfl ⟨by decide, by decide⟩ (by omega) (fun h318 => ?_) (fun h318 => ?_)
              · skip
                refine j_iload_n hx 6 dX12_odds_94 rfl ?_
                refine j_if_ne hx 103 dX12_odds_95 rfl (by omega) (fun h319 => ?_) (fun h319 => ?_)
                · skip
                  refine j_lload hx 1 dX12_odds_103 rfl ?_
                  refine j_lload hx 2 dX12_odds_105 rfl ?_
                  refine j_lload hx 1 dX12_odds_107 rfl ?_
                  refine j_callS hx (c_X12_longDivisor hst v135 w315) lk_RX12_491 [.long (zL v135), .long (zL w315)] ⟨rfl, hG, hS_s7, (by omega), (by omega), (by omega)⟩ rfl rfl ⟨by decide, by decide⟩ ⟨by decide, by decide⟩ (k2 := 0) (n2 := 0) rfl rfl (Nat.le_of_ble_eq_true rfl) dX12_odds_109 (kLP (fun v320 q321 => ?_))
                  refine j_ldiv hx dX12_odds_112 (by omega) (by omega) (fun w322 f323 f324 => ?_)
                  have g325 : s7 a 3 = s6 a 3 := (by rw [(zFr_g hF_s7 ha (by decide))])
                  have f326 := zf hS_s6 ha (k := 3) rfl
                  have g327 : s7 a 4 = s6 a 4 := (by rw [(zFr_g hF_s7 ha (by decide))])
                  have f328 := zf hS_s6 ha (k := 4) rfl
                  have g329 : s7 a 5 = s6 a 5 := (by rw [(zFr_g hF_s7 ha (by decide))])
                  have f330 := zf hS_s6 ha (k := 5) rfl
                  have g331 : s7 a 7 = s6 a 7 := (by rw [(zFr_g hF_s7 ha (by decide))])
                  have f332 := zf hS_s6 ha (k := 7) rfl
                  have g333 : s7 a 21 = s6 a 21 := (by rw [(zFr_g hF_s7 ha (by decide))])
                  have f334 := zf hS_s6 ha (k := 21) rfl
                  have g335 : s7 a 22 = s6 a 22 := (by rw [(zFr_g hF_s7 ha (by decide))])
                  have f336 := zf hS_s6 ha (k := 22) rfl
                  have g337 : s7 a 23 = s6 a 23 := (by rw [(zFr_g hF_s7 ha (by decide))])
                  have f338 := zf hS_s6 ha (k := 23) rfl
                  have g339 : s7 a 38 = s6 a 38 := (by rw [(zFr_g hF_s7 ha (by decide))])
                  have f340 := zf hS_s6 ha (k := 38) rfl
                  have g341 : s7 a 51 = s6 a 51 := (by rw [(zFr_g hF_s7 ha (by decide))])
                  have f342 := zf hS_s6 ha (k := 51) rfl
                  have g343 : s7 a 52 = s6 a 52 := (by rw [(zFr_g hF_s7 ha (by decide))])
                  have f344 := zf hS_s6 ha (k := 52) rfl
                  exact j_lret hx hq rfl (by decide) (by decide) dX12_odds_113 ⟨w322, rfl, rfl, hS_s7, (zFr_t (zFr_t (zFr_t (zFr_t (zFr_u zFr_rf e_s1 ha (by decide)) hF_s2 (by decide)) hF_s5 (by decide)) hF_s6 (by decide)) hF_s7 (by decide)), ⟨(by omega), by omega, by omega, (by have q1 : s7 (gP G a 55) = s6 (gP G a 55) := (by rw [hF_s7 (gP G a 55) (by rw [(zr (k := 55) (t2 := 104) hG ha rfl)]; decide)]); rw [q1]; exact q136.2.2.2.1), by omega, by omega, by omega, by omega, by omega, by omega, by omega, by omega, by omega, by omega, by omega⟩⟩
                · skip
                  refine j_lload hx 2 dX12_odds_98 rfl ?_
                  refine j_goto hx 105 dX12_odds_100 rfl ?_
                  refine j_lload hx 2 dX12_odds_105 rfl ?_
                  refine j_lload hx 1 dX12_odds_107 rfl ?_
                  refine j_callS hx (c_X12_longDivisor hst v135 w315) lk_RX12_491 [.long (zL v135), .long (zL w315)] ⟨rfl, hG, hS_s7, (by omega), (by omega), (by omega)⟩ rfl rfl ⟨by decide, by decide⟩ ⟨by decide, by decide⟩ (k2 := 0) (n2 := 0) rfl rfl (Nat.le_of_ble_eq_true rfl) dX12_odds_109 (kLP (fun v345 q346 => ?_))
                  refine j_ldiv hx dX12_odds_112 (by omega) (by omega) (fun w347 f348 f349 => ?_)
                  have g350 : s7 a 3 = s6 a 3 := (by rw [(zFr_g hF_s7 ha (by decide))])
                  have f351 := zf hS_s6 ha (k := 3) rfl
                  have g352 : s7 a 4 = s6 a 4 := (by rw [(zFr_g hF_s7 ha (by decide))])
                  have f353 := zf hS_s6 ha (k := 4) rfl
                  have g354 : s7 a 5 = s6 a 5 := (by rw [(zFr_g hF_s7 ha (by decide))])
                  have f355 := zf hS_s6 ha (k := 5) rfl
                  have g356 : s7 a 7 = s6 a 7 := (by rw [(zFr_g hF_s7 ha (by decide))])
                  have f357 := zf hS_s6 ha (k := 7) rfl
                  have g358 : s7 a 21 = s6 a 21 := (by rw [(zFr_g hF_s7 ha (by decide))])
                  have f359 := zf hS_s6 ha (k := 21) rfl
                  have g360 : s7 a 22 = s6 a 22 := (by rw [(zFr_g hF_s7 ha (by decide))])
                  have f361 := zf hS_s6 ha (k := 22) rfl
                  have g362 : s7 a 23 = s6 a 23 := (by rw [(zFr_g hF_s7 ha (by decide))])
                  have f363 := zf hS_s6 ha (k := 23) rfl
                  have g364 : s7 a 38 = s6 a 38 := (by rw [(zFr_g hF_s7 ha (by decide))])
                  have f365 := zf hS_s6 ha (k := 38) rfl
                  have g366 : s7 a 51 = s6 a 51 := (by rw [(zFr_g hF_s7 ha (by decide))])
                  have f367 := zf hS_s6 ha (k := 51) rfl
                  have g368 : s7 a 52 = s6 a 52 := (by rw [(zFr_g hF_s7 ha (by decide))])
                  have f369 := zf hS_s6 ha (k := 52) rfl
                  exact j_lret hx hq rfl (by decide) (by decide) dX12_odds_113 ⟨w347, rfl, rfl, hS_s7, (zFr_t (zFr_t (zFr_t (zFr_t (zFr_u zFr_rf e_s1 ha (by decide)) hF_s2 (by decide)) hF_s5 (by decide)) hF_s6 (by decide)) hF_s7 (by decide)), ⟨(by omega), by omega, by omega, (by have q1 : s7 (gP G a 55) = s6 (gP G a 55) := (by rw [hF_s7 (gP G a 55) (by rw [(zr (k := 55) (t2 := 104) hG ha rfl)]; decide)]); rw [q1]; exact q136.2.2.2.1), by omega, by omega, by omega, by omega, by omega, by omega, by omega, by omega, by omega, by omega, by omega⟩⟩
              · skip
                refine j_lload hx 1 dX12_odds_78 rfl ?_
                refine j_aload_n hx 3 dX12_odds_80 rfl ?_
                refine j_callV hx hG (c_X12_quickness_q hst a) lk_RX12_484 ha (by decide) rfl rfl rfl rfl [] ⟨rfl, hG, hS_s7, ha, ((by have q1 : s7 (gP G a 17) = s0 (gP G a 17) := (by rw [hF_s7 (gP G a 17) (by rw [(zr (k := 17) (t2 := 80) hG ha rfl)]; decide), hF_s6 (gP G a 17) (by rw [(zr (k := 17) (t2 := 80) hG ha rfl)]; decide), hF_s5 (gP G a 17) (by rw [(zr (k := 17) (t2 := 80) hG ha rfl)]; decide), hF_s2 (gP G a 17) (by rw [(zr (k := 17) (t2 := 80) hG ha rfl)]; decide), e_s1, zU_ne (zne ha (zr (k := 17) (t2 := 80) hG ha rfl) (by decide))]); rw [q1]; exact (zQn_nn e3 (by omega)))), (by omega)⟩ rfl rfl ⟨by decide, by decide⟩ ⟨by decide, by decide⟩ (k2 := 0) (n2 := 0) rfl rfl (Nat.le_of_ble_eq_true rfl) dX12_odds_81 (kIP (fun v370 q371 => ?_))
                refine j_i2l hx dX12_odds_84 (by omega) ?_
                refine j_lmulP hx 19683 27 dX12_odds_85 (by omega) (by omega) (fun w372 f373 f374 => ?_)
                refine j_lstore hx [(6, .long (zL w372)), (8, .int (zI 3)), (4, .long (zL v135)), (0, .ref a), (1, .int (zI x1)), (2, .int (zI x2)), (3, .int (zI x3))] dX12_odds_86 (by decide) rfl ?_
                refine j_iinc hx 1 [(8, .int (zI 4)), (6, .long (zL w372)), (4, .long (zL v135)), (0, .ref a), (1, .int (zI x1)), (2, .int (zI x2)), (3, .int (zI x3))] dX12_odds_88 rfl (by omega) (by decide) rfl ?_
                refine j_goto hx 72 dX12_odds_91 rfl ?_
                refine j_iload hx 0 dX12_odds_72 rfl ?_
                refine j_iload_n hx 5 dX12_odds_74 rfl ?_
                refine j_icmp_ge hx 94 dX12_odds_75 rfl ⟨by decide, by decide⟩ (by omega) (fun h375 => ?_) (fun h375 => ?_)
                · skip
                  refine j_iload_n hx 6 dX12_odds_94 rfl ?_
                  refine j_if_ne hx 103 dX12_odds_95 rfl (by omega) (fun h376 => ?_) (fun h376 => ?_)
                  · skip
                    refine j_lload hx 1 dX12_odds_103 rfl ?_
                    refine j_lload hx 2 dX12_odds_105 rfl ?_
                    refine j_lload hx 1 dX12_odds_107 rfl ?_
                    refine j_callS hx (c_X12_longDivisor hst v135 w372) lk_RX12_491 [.long (zL v135), .long (zL w372)] ⟨rfl, hG, hS_s7, (by omega), (by omega), (by omega)⟩ rfl rfl ⟨by decide, by decide⟩ ⟨by decide, by decide⟩ (k2 := 0) (n2 := 0) rfl rfl (Nat.le_of_ble_eq_true rfl) dX12_odds_109 (kLP (fun v377 q378 => ?_))
                    refine j_ldiv hx dX12_odds_112 (by omega) (by omega) (fun w379 f380 f381 => ?_)
                    have g382 : s7 a 3 = s6 a 3 := (by rw [(zFr_g hF_s7 ha (by decide))])
                    have f383 := zf hS_s6 ha (k := 3) rfl
                    have g384 : s7 a 4 = s6 a 4 := (by rw [(zFr_g hF_s7 ha (by decide))])
                    have f385 := zf hS_s6 ha (k := 4) rfl
                    have g386 : s7 a 5 = s6 a 5 := (by rw [(zFr_g hF_s7 ha (by decide))])
                    have f387 := zf hS_s6 ha (k := 5) rfl
                    have g388 : s7 a 7 = s6 a 7 := (by rw [(zFr_g hF_s7 ha (by decide))])
                    have f389 := zf hS_s6 ha (k := 7) rfl
                    have g390 : s7 a 21 = s6 a 21 := (by rw [(zFr_g hF_s7 ha (by decide))])
                    have f391 := zf hS_s6 ha (k := 21) rfl
                    have g392 : s7 a 22 = s6 a 22 := (by rw [(zFr_g hF_s7 ha (by decide))])
                    have f393 := zf hS_s6 ha (k := 22) rfl
                    have g394 : s7 a 23 = s6 a 23 := (by rw [(zFr_g hF_s7 ha (by decide))])
                    have f395 := zf hS_s6 ha (k := 23) rfl
                    have g396 : s7 a 38 = s6 a 38 := (by rw [(zFr_g hF_s7 ha (by decide))])
                    have f397 := zf hS_s6 ha (k := 38) rfl
                    have g398 : s7 a 51 = s6 a 51 := (by rw [(zFr_g hF_s7 ha (by decide))])
                    have f399 := zf hS_s6 ha (k := 51) rfl
                    have g400 : s7 a 52 = s6 a 52 := (by rw [(zFr_g hF_s7 ha (by decide))])
                    have f401 := zf hS_s6 ha (k := 52) rfl
                    exact j_lret hx hq rfl (by decide) (by decide) dX12_odds_113 ⟨w379, rfl, rfl, hS_s7, (zFr_t (zFr_t (zFr_t (zFr_t (zFr_u zFr_rf e_s1 ha (by decide)) hF_s2 (by decide)) hF_s5 (by decide)) hF_s6 (by decide)) hF_s7 (by decide)), ⟨(by omega), by omega, by omega, (by have q1 : s7 (gP G a 55) = s6 (gP G a 55) := (by rw [hF_s7 (gP G a 55) (by rw [(zr (k := 55) (t2 := 104) hG ha rfl)]; decide)]); rw [q1]; exact q136.2.2.2.1), by omega, by omega, by omega, by omega, by omega, by omega, by omega, by omega, by omega, by omega, by omega⟩⟩
                  · skip
                    refine j_lload hx 2 dX12_odds_98 rfl ?_
                    refine j_goto hx 105 dX12_odds_100 rfl ?_
                    refine j_lload hx 2 dX12_odds_105 rfl ?_
                    refine j_lload hx 1 dX12_odds_107 rfl ?_
                    refine j_callS hx (c_X12_longDivisor hst v135 w372) lk_RX12_491 [.long (zL v135), .long (zL w372)] ⟨rfl, hG, hS_s7, (by omega), (by omega), (by omega)⟩ rfl rfl ⟨by decide, by decide⟩ ⟨by decide, by decide⟩ (k2 := 0) (n2 := 0) rfl rfl (Nat.le_of_ble_eq_true rfl) dX12_odds_109 (kLP (fun v402 q403 => ?_))
                    refine j_ldiv hx dX12_odds_112 (by omega) (by omega) (fun w404 f405 f406 => ?_)
                    have g407 : s7 a 3 = s6 a 3 := (by rw [(zFr_g hF_s7 ha (by decide))])
                    have f408 := zf hS_s6 ha (k := 3) rfl
                    have g409 : s7 a 4 = s6 a 4 := (by rw [(zFr_g hF_s7 ha (by decide))])
                    have f410 := zf hS_s6 ha (k := 4) rfl
                    have g411 : s7 a 5 = s6 a 5 := (by rw [(zFr_g hF_s7 ha (by decide))])
                    have f412 := zf hS_s6 ha (k := 5) rfl
                    have g413 : s7 a 7 = s6 a 7 := (by rw [(zFr_g hF_s7 ha (by decide))])
                    have f414 := zf hS_s6 ha (k := 7) rfl
                    have g415 : s7 a 21 = s6 a 21 := (by rw [(zFr_g hF_s7 ha (by decide))])
                    have f416 := zf hS_s6 ha (k := 21) rfl
                    have g417 : s7 a 22 = s6 a 22 := (by rw [(zFr_g hF_s7 ha (by decide))])
                    have f418 := zf hS_s6 ha (k := 22) rfl
                    have g419 : s7 a 23 = s6 a 23 := (by rw [(zFr_g hF_s7 ha (by decide))])
                    have f420 := zf hS_s6 ha (k := 23) rfl
                    have g421 : s7 a 38 = s6 a 38 := (by rw [(zFr_g hF_s7 ha (by decide))])
                    have f422 := zf hS_s6 ha (k := 38) rfl
                    have g423 : s7 a 51 = s6 a 51 := (by rw [(zFr_g hF_s7 ha (by decide))])
                    have f424 := zf hS_s6 ha (k := 51) rfl
                    have g425 : s7 a 52 = s6 a 52 := (by rw [(zFr_g hF_s7 ha (by decide))])
                    have f426 := zf hS_s6 ha (k := 52) rfl
                    exact j_lret hx hq rfl (by decide) (by decide) dX12_odds_113 ⟨w404, rfl, rfl, hS_s7, (zFr_t (zFr_t (zFr_t (zFr_t (zFr_u zFr_rf e_s1 ha (by decide)) hF_s2 (by decide)) hF_s5 (by decide)) hF_s6 (by decide)) hF_s7 (by decide)), ⟨(by omega), by omega, by omega, (by have q1 : s7 (gP G a 55) = s6 (gP G a 55) := (by rw [hF_s7 (gP G a 55) (by rw [(zr (k := 55) (t2 := 104) hG ha rfl)]; decide)]); rw [q1]; exact q136.2.2.2.1), by omega, by omega, by omega, by omega, by omega, by omega, by omega, by omega, by omega, by omega, by omega⟩⟩
                · skip
                  refine j_lload hx 1 dX12_odds_78 rfl ?_
                  refine j_aload_n hx 3 dX12_odds_80 rfl ?_
                  refine j_callV hx hG (c_X12_quickness_q hst a) lk_RX12_484 ha (by decide) rfl rfl rfl rfl [] ⟨rfl, hG, hS_s7, ha, ((by have q1 : s7 (gP G a 17) = s0 (gP G a 17) := (by rw [hF_s7 (gP G a 17) (by rw [(zr (k := 17) (t2 := 80) hG ha rfl)]; decide), hF_s6 (gP G a 17) (by rw [(zr (k := 17) (t2 := 80) hG ha rfl)]; decide), hF_s5 (gP G a 17) (by rw [(zr (k := 17) (t2 := 80) hG ha rfl)]; decide), hF_s2 (gP G a 17) (by rw [(zr (k := 17) (t2 := 80) hG ha rfl)]; decide), e_s1, zU_ne (zne ha (zr (k := 17) (t2 := 80) hG ha rfl) (by decide))]); rw [q1]; exact (zQn_nn e3 (by omega)))), (by omega)⟩ rfl rfl ⟨by decide, by decide⟩ ⟨by decide, by decide⟩ (k2 := 0) (n2 := 0) rfl rfl (Nat.le_of_ble_eq_true rfl) dX12_odds_81 (kIP (fun v427 q428 => ?_))
                  refine j_i2l hx dX12_odds_84 (by omega) ?_
                  refine j_lmulP hx 531441 27 dX12_odds_85 (by omega) (by omega) (fun w429 f430 f431 => ?_)
                  refine j_lstore hx [(6, .long (zL w429)), (8, .int (zI 4)), (4, .long (zL v135)), (0, .ref a), (1, .int (zI x1)), (2, .int (zI x2)), (3, .int (zI x3))] dX12_odds_86 (by decide) rfl ?_
                  refine j_iinc hx 1 [(8, .int (zI 5)), (6, .long (zL w429)), (4, .long (zL v135)), (0, .ref a), (1, .int (zI x1)), (2, .int (zI x2)), (3, .int (zI x3))] dX12_odds_88 rfl (by omega) (by decide) rfl ?_
                  refine j_goto hx 72 dX12_odds_91 rfl ?_
                  refine j_iload hx 0 dX12_odds_72 rfl ?_
                  refine j_iload_n hx 5 dX12_odds_74 rfl ?_
                  refine j_icmp_ge hx 94 dX12_odds_75 rfl ⟨by decide, by decide⟩ (by omega) (fun h432 => ?_) (fun h432 => ?_)
                  · skip
                    refine j_iload_n hx 6 dX12_odds_94 rfl ?_
                    refine j_if_ne hx 103 dX12_odds_95 rfl (by omega) (fun h433 => ?_) (fun h433 => ?_)
                    · skip
                      refine j_lload hx 1 dX12_odds_103 rfl ?_
                      refine j_lload hx 2 dX12_odds_105 rfl ?_
                      refine j_lload hx 1 dX12_odds_107 rfl ?_
                      refine j_callS hx (c_X12_longDivisor hst v135 w429) lk_RX12_491 [.long (zL v135), .long (zL w429)] ⟨rfl, hG, hS_s7, (by omega), (by omega), (by omega)⟩ rfl rfl ⟨by decide, by decide⟩ ⟨by decide, by decide⟩ (k2 := 0) (n2 := 0) rfl rfl (Nat.le_of_ble_eq_true rfl) dX12_odds_109 (kLP (fun v434 q435 => ?_))
                      refine j_ldiv hx dX12_odds_112 (by omega) (by omega) (fun w436 f437 f438 => ?_)
                      have g439 : s7 a 3 = s6 a 3 := (by rw [(zFr_g hF_s7 ha (by decide))])
                      have f440 := zf hS_s6 ha (k := 3) rfl
                      have g441 : s7 a 4 = s6 a 4 := (by rw [(zFr_g hF_s7 ha (by decide))])
                      have f442 := zf hS_s6 ha (k := 4) rfl
                      have g443 : s7 a 5 = s6 a 5 := (by rw [(zFr_g hF_s7 ha (by decide))])
                      have f444 := zf hS_s6 ha (k := 5) rfl
                      have g445 : s7 a 7 = s6 a 7 := (by rw [(zFr_g hF_s7 ha (by decide))])
                      have f446 := zf hS_s6 ha (k := 7) rfl
                      have g447 : s7 a 21 = s6 a 21 := (by rw [(zFr_g hF_s7 ha (by decide))])
                      have f448 := zf hS_s6 ha (k := 21) rfl
                      have g449 : s7 a 22 = s6 a 22 := (by rw [(zFr_g hF_s7 ha (by decide))])
                      have f450 := zf hS_s6 ha (k := 22) rfl
                      have g451 : s7 a 23 = s6 a 23 := (by rw [(zFr_g hF_s7 ha (by decide))])
                      have f452 := zf hS_s6 ha (k := 23) rfl
                      have g453 : s7 a 38 = s6 a 38 := (by rw [(zFr_g hF_s7 ha (by decide))])
                      have f454 := zf hS_s6 ha (k := 38) rfl
                      have g455 : s7 a 51 = s6 a 51 := (by rw [(zFr_g hF_s7 ha (by decide))])
                      have f456 := zf hS_s6 ha (k := 51) rfl
                      have g457 : s7 a 52 = s6 a 52 := (by rw [(zFr_g hF_s7 ha (by decide))])
                      have f458 := zf hS_s6 ha (k := 52) rfl
                      exact j_lret hx hq rfl (by decide) (by decide) dX12_odds_113 ⟨w436, rfl, rfl, hS_s7, (zFr_t (zFr_t (zFr_t (zFr_t (zFr_u zFr_rf e_s1 ha (by decide)) hF_s2 (by decide)) hF_s5 (by decide)) hF_s6 (by decide)) hF_s7 (by decide)), ⟨(by omega), by omega, by omega, (by have q1 : s7 (gP G a 55) = s6 (gP G a 55) := (by rw [hF_s7 (gP G a 55) (by rw [(zr (k := 55) (t2 := 104) hG ha rfl)]; decide)]); rw [q1]; exact q136.2.2.2.1), by omega, by omega, by omega, by omega, by omega, by omega, by omega, by omega, by omega, by omega, by omega⟩⟩
                    · skip
                      refine j_lload hx 2 dX12_odds_98 rfl ?_
                      refine j_goto hx 105 dX12_odds_100 rfl ?_
                      refine j_lload hx 2 dX12_odds_105 rfl ?_
                      refine j_lload hx 1 dX12_odds_107 rfl ?_
                      refine j_callS hx (c_X12_longDivisor hst v135 w429) lk_RX12_491 [.long (zL v135), .long (zL w429)] ⟨rfl, hG, hS_s7, (by omega), (by omega), (by omega)⟩ rfl rfl ⟨by decide, by decide⟩ ⟨by decide, by decide⟩ (k2 := 0) (n2 := 0) rfl rfl (Nat.le_of_ble_eq_true rfl) dX12_odds_109 (kLP (fun v459 q460 => ?_))
                      refine j_ldiv hx dX12_odds_112 (by omega) (by omega) (fun w461 f462 f463 => ?_)
                      have g464 : s7 a 3 = s6 a 3 := (by rw [(zFr_g hF_s7 ha (by decide))])
                      have f465 := zf hS_s6 ha (k := 3) rfl
                      have g466 : s7 a 4 = s6 a 4 := (by rw [(zFr_g hF_s7 ha (by decide))])
                      have f467 := zf hS_s6 ha (k := 4) rfl
                      have g468 : s7 a 5 = s6 a 5 := (by rw [(zFr_g hF_s7 ha (by decide))])
                      have f469 := zf hS_s6 ha (k := 5) rfl
                      have g470 : s7 a 7 = s6 a 7 := (by rw [(zFr_g hF_s7 ha (by decide))])
                      have f471 := zf hS_s6 ha (k := 7) rfl
                      have g472 : s7 a 21 = s6 a 21 := (by rw [(zFr_g hF_s7 ha (by decide))])
                      have f473 := zf hS_s6 ha (k := 21) rfl
                      have g474 : s7 a 22 = s6 a 22 := (by rw [(zFr_g hF_s7 ha (by decide))])
                      have f475 := zf hS_s6 ha (k := 22) rfl
                      have g476 : s7 a 23 = s6 a 23 := (by rw [(zFr_g hF_s7 ha (by decide))])
                      have f477 := zf hS_s6 ha (k := 23) rfl
                      have g478 : s7 a 38 = s6 a 38 := (by rw [(zFr_g hF_s7 ha (by decide))])
                      have f479 := zf hS_s6 ha (k := 38) rfl
                      have g480 : s7 a 51 = s6 a 51 := (by rw [(zFr_g hF_s7 ha (by decide))])
                      have f481 := zf hS_s6 ha (k := 51) rfl
                      have g482 : s7 a 52 = s6 a 52 := (by rw [(zFr_g hF_s7 ha (by decide))])
                      have f483 := zf hS_s6 ha (k := 52) rfl
                      exact j_lret hx hq rfl (by decide) (by decide) dX12_odds_113 ⟨w461, rfl, rfl, hS_s7, (zFr_t (zFr_t (zFr_t (zFr_t (zFr_u zFr_rf e_s1 ha (by decide)) hF_s2 (by decide)) hF_s5 (by decide)) hF_s6 (by decide)) hF_s7 (by decide)), ⟨(by omega), by omega, by omega, (by have q1 : s7 (gP G a 55) = s6 (gP G a 55) := (by rw [hF_s7 (gP G a 55) (by rw [(zr (k := 55) (t2 := 104) hG ha rfl)]; decide)]); rw [q1]; exact q136.2.2.2.1), by omega, by omega, by omega, by omega, by omega, by omega, by omega, by omega, by omega, by omega, by omega⟩⟩
                  · skip
                    refine j_lload hx 1 dX12_odds_78 rfl ?_
                    refine j_aload_n hx 3 dX12_odds_80 rfl ?_
                    refine j_callV hx hG (c_X12_quickness_q hst a) lk_RX12_484 ha (by decide) rfl rfl rfl rfl [] ⟨rfl, hG, hS_s7, ha, ((by have q1 : s7 (gP G a 17) = s0 (gP G a 17) := (by rw [hF_s7 (gP G a 17) (by rw [(zr (k := 17) (t2 := 80) hG ha rfl)]; decide), hF_s6 (gP G a 17) (by rw [(zr (k := 17) (t2 := 80) hG ha rfl)]; decide), hF_s5 (gP G a 17) (by rw [(zr (k := 17) (t2 := 80) hG ha rfl)]; decide), hF_s2 (gP G a 17) (by rw [(zr (k := 17) (t2 := 80) hG ha rfl)]; decide), e_s1, zU_ne (zne ha (zr (k := 17) (t2 := 80) hG ha rfl) (by decide))]); rw [q1]; exact (zQn_nn e3 (by omega)))), (by omega)⟩ rfl rfl ⟨by decide, by decide⟩ ⟨by decide, by decide⟩ (k2 := 0) (n2 := 0) rfl rfl (Nat.le_of_ble_eq_true rfl) dX12_odds_81 (kIP (fun v484 q485 => ?_))
                    refine j_i2l hx dX12_odds_84 (by omega) ?_
                    refine j_lmulP hx 14348907 27 dX12_odds_85 (by omega) (by omega) (fun w486 f487 f488 => ?_)
                    refine j_lstore hx [(6, .long (zL w486)), (8, .int (zI 5)), (4, .long (zL v135)), (0, .ref a), (1, .int (zI x1)), (2, .int (zI x2)), (3, .int (zI x3))] dX12_odds_86 (by decide) rfl ?_
                    refine j_iinc hx 1 [(8, .int (zI 6)), (6, .long (zL w486)), (4, .long (zL v135)), (0, .ref a), (1, .int (zI x1)), (2, .int (zI x2)), (3, .int (zI x3))] dX12_odds_88 rfl (by omega) (by decide) rfl ?_
                    refine j_goto hx 72 dX12_odds_91 rfl ?_
                    refine j_iload hx 0 dX12_odds_72 rfl ?_
                    refine j_iload_n hx 5 dX12_odds_74 rfl ?_
                    refine j_icmp_ge hx 94 dX12_odds_75 rfl ⟨by decide, by decide⟩ (by omega) (fun h489 => ?_) (fun h489 => ?_)
                    · skip
                      refine j_iload_n hx 6 dX12_odds_94 rfl ?_
                      refine j_if_ne hx 103 dX12_odds_95 rfl (by omega) (fun h490 => ?_) (fun h490 => ?_)
                      · skip
                        refine j_lload hx 1 dX12_odds_103 rfl ?_
                        refine j_lload hx 2 dX12_odds_105 rfl ?_
                        refine j_lload hx 1 dX12_odds_107 rfl ?_
                        refine j_callS hx (c_X12_longDivisor hst v135 w486) lk_RX12_491 [.long (zL v135), .long (zL w486)] ⟨rfl, hG, hS_s7, (by omega), (by omega), (by omega)⟩ rfl rfl ⟨by decide, by decide⟩ ⟨by decide, by decide⟩ (k2 := 0) (n2 := 0) rfl rfl (Nat.le_of_ble_eq_true rfl) dX12_odds_109 (kLP (fun v491 q492 => ?_))
                        refine j_ldiv hx dX12_odds_112 (by omega) (by omega) (fun w493 f494 f495 => ?_)
                        have g496 : s7 a 3 = s6 a 3 := (by rw [(zFr_g hF_s7 ha (by decide))])
                        have f497 := zf hS_s6 ha (k := 3) rfl
                        have g498 : s7 a 4 = s6 a 4 := (by rw [(zFr_g hF_s7 ha (by decide))])
                        have f499 := zf hS_s6 ha (k := 4) rfl
                        have g500 : s7 a 5 = s6 a 5 := (by rw [(zFr_g hF_s7 ha (by decide))])
                        have f501 := zf hS_s6 ha (k := 5) rfl
                        have g502 : s7 a 7 = s6 a 7 := (by rw [(zFr_g hF_s7 ha (by decide))])
                        have f503 := zf hS_s6 ha (k := 7) rfl
                        have g504 : s7 a 21 = s6 a 21 := (by rw [(zFr_g hF_s7 ha (by decide))])
                        have f505 := zf hS_s6 ha (k := 21) rfl
                        have g506 : s7 a 22 = s6 a 22 := (by rw [(zFr_g hF_s7 ha (by decide))])
                        have f507 := zf hS_s6 ha (k := 22) rfl
                        have g508 : s7 a 23 = s6 a 23 := (by rw [(zFr_g hF_s7 ha (by decide))])
                        have f509 := zf hS_s6 ha (k := 23) rfl
                        have g510 : s7 a 38 = s6 a 38 := (by rw [(zFr_g hF_s7 ha (by decide))])
                        have f511 := zf hS_s6 ha (k := 38) rfl
                        have g512 : s7 a 51 = s6 a 51 := (by rw [(zFr_g hF_s7 ha (by decide))])
                        have f513 := zf hS_s6 ha (k := 51) rfl
                        have g514 : s7 a 52 = s6 a 52 := (by rw [(zFr_g hF_s7 ha (by decide))])
                        have f515 := zf hS_s6 ha (k := 52) rfl
                        exact j_lret hx hq rfl (by decide) (by decide) dX12_odds_113 ⟨w493, rfl, rfl, hS_s7, (zFr_t (zFr_t (zFr_t (zFr_t (zFr_u zFr_rf e_s1 ha (by decide)) hF_s2 (by decide)) hF_s5 (by decide)) hF_s6 (by decide)) hF_s7 (by decide)), ⟨(by omega), by omega, by omega, (by have q1 : s7 (gP G a 55) = s6 (gP G a 55) := (by rw [hF_s7 (gP G a 55) (by rw [(zr (k := 55) (t2 := 104) hG ha rfl)]; decide)]); rw [q1]; exact q136.2.2.2.1), by omega, by omega, by omega, by omega, by omega, by omega, by omega, by omega, by omega, by omega, by omega⟩⟩
                      · skip
                        refine j_lload hx 2 dX12_odds_98 rfl ?_
                        refine j_goto hx 105 dX12_odds_100 rfl ?_
                        refine j_lload hx 2 dX12_odds_105 rfl ?_
                        refine j_lload hx 1 dX12_odds_107 rfl ?_
                        refine j_callS hx (c_X12_longDivisor hst v135 w486) lk_RX12_491 [.long (zL v135), .long (zL w486)] ⟨rfl, hG, hS_s7, (by omega), (by omega), (by omega)⟩ rfl rfl ⟨by decide, by decide⟩ ⟨by decide, by decide⟩ (k2 := 0) (n2 := 0) rfl rfl (Nat.le_of_ble_eq_true rfl) dX12_odds_109 (kLP (fun v516 q517 => ?_))
                        refine j_ldiv hx dX12_odds_112 (by omega) (by omega) (fun w518 f519 f520 => ?_)
                        have g521 : s7 a 3 = s6 a 3 := (by rw [(zFr_g hF_s7 ha (by decide))])
                        have f522 := zf hS_s6 ha (k := 3) rfl
                        have g523 : s7 a 4 = s6 a 4 := (by rw [(zFr_g hF_s7 ha (by decide))])
                        have f524 := zf hS_s6 ha (k := 4) rfl
                        have g525 : s7 a 5 = s6 a 5 := (by rw [(zFr_g hF_s7 ha (by decide))])
                        have f526 := zf hS_s6 ha (k := 5) rfl
                        have g527 : s7 a 7 = s6 a 7 := (by rw [(zFr_g hF_s7 ha (by decide))])
                        have f528 := zf hS_s6 ha (k := 7) rfl
                        have g529 : s7 a 21 = s6 a 21 := (by rw [(zFr_g hF_s7 ha (by decide))])
                        have f530 := zf hS_s6 ha (k := 21) rfl
                        have g531 : s7 a 22 = s6 a 22 := (by rw [(zFr_g hF_s7 ha (by decide))])
                        have f532 := zf hS_s6 ha (k := 22) rfl
                        have g533 : s7 a 23 = s6 a 23 := (by rw [(zFr_g hF_s7 ha (by decide))])
                        have f534 := zf hS_s6 ha (k := 23) rfl
                        have g535 : s7 a 38 = s6 a 38 := (by rw [(zFr_g hF_s7 ha (by decide))])
                        have f536 := zf hS_s6 ha (k := 38) rfl
                        have g537 : s7 a 51 = s6 a 51 := (by rw [(zFr_g hF_s7 ha (by decide))])
                        have f538 := zf hS_s6 ha (k := 51) rfl
                        have g539 : s7 a 52 = s6 a 52 := (by rw [(zFr_g hF_s7 ha (by decide))])
                        have f540 := zf hS_s6 ha (k := 52) rfl
                        exact j_lret hx hq rfl (by decide) (by decide) dX12_odds_113 ⟨w518, rfl, rfl, hS_s7, (zFr_t (zFr_t (zFr_t (zFr_t (zFr_u zFr_rf e_s1 ha (by decide)) hF_s2 (by decide)) hF_s5 (by decide)) hF_s6 (by decide)) hF_s7 (by decide)), ⟨(by omega), by omega, by omega, (by have q1 : s7 (gP G a 55) = s6 (gP G a 55) := (by rw [hF_s7 (gP G a 55) (by rw [(zr (k := 55) (t2 := 104) hG ha rfl)]; decide)]); rw [q1]; exact q136.2.2.2.1), by omega, by omega, by omega, by omega, by omega, by omega, by omega, by omega, by omega, by omega, by omega⟩⟩
                    · skip
                      refine j_lload hx 1 dX12_odds_78 rfl ?_
                      refine j_aload_n hx 3 dX12_odds_80 rfl ?_
                      refine j_callV hx hG (c_X12_quickness_q hst a) lk_RX12_484 ha (by decide) rfl rfl rfl rfl [] ⟨rfl, hG, hS_s7, ha, ((by have q1 : s7 (gP G a 17) = s0 (gP G a 17) := (by rw [hF_s7 (gP G a 17) (by rw [(zr (k := 17) (t2 := 80) hG ha rfl)]; decide), hF_s6 (gP G a 17) (by rw [(zr (k := 17) (t2 := 80) hG ha rfl)]; decide), hF_s5 (gP G a 17) (by rw [(zr (k := 17) (t2 := 80) hG ha rfl)]; decide), hF_s2 (gP G a 17) (by rw [(zr (k := 17) (t2 := 80) hG ha rfl)]; decide), e_s1, zU_ne (zne ha (zr (k := 17) (t2 := 80) hG ha rfl) (by decide))]); rw [q1]; exact (zQn_nn e3 (by omega)))), (by omega)⟩ rfl rfl ⟨by decide, by decide⟩ ⟨by decide, by decide⟩ (k2 := 0) (n2 := 0) rfl rfl (Nat.le_of_ble_eq_true rfl) dX12_odds_81 (kIP (fun v541 q542 => ?_))
                      refine j_i2l hx dX12_odds_84 (by omega) ?_
                      refine j_lmulP hx 387420489 27 dX12_odds_85 (by omega) (by omega) (fun w543 f544 f545 => ?_)
                      refine j_lstore hx [(6, .long (zL w543)), (8, .int (zI 6)), (4, .long (zL v135)), (0, .ref a), (1, .int (zI x1)), (2, .int (zI x2)), (3, .int (zI x3))] dX12_odds_86 (by decide) rfl ?_
                      refine j_iinc hx 1 [(8, .int (zI 7)), (6, .long (zL w543)), (4, .long (zL v135)), (0, .ref a), (1, .int (zI x1)), (2, .int (zI x2)), (3, .int (zI x3))] dX12_odds_88 rfl (by omega) (by decide) rfl ?_
                      refine j_goto hx 72 dX12_odds_91 rfl ?_
                      refine j_iload hx 0 dX12_odds_72 rfl ?_
                      refine j_iload_n hx 5 dX12_odds_74 rfl ?_
                      refine j_icmp_ge hx 94 dX12_odds_75 rfl ⟨by decide, by decide⟩ (by omega) (fun h546 => ?_) (fun h546 => ?_)
                      · skip
                        refine j_iload_n hx 6 dX12_odds_94 rfl ?_
                        refine j_if_ne hx 103 dX12_odds_95 rfl (by omega) (fun h547 => ?_) (fun h547 => ?_)
                        · skip
                          refine j_lload hx 1 dX12_odds_103 rfl ?_
                          refine j_lload hx 2 dX12_odds_105 rfl ?_
                          refine j_lload hx 1 dX12_odds_107 rfl ?_
                          refine j_callS hx (c_X12_longDivisor hst v135 w543) lk_RX12_491 [.long (zL v135), .long (zL w543)] ⟨rfl, hG, hS_s7, (by omega), (by omega), (by omega)⟩ rfl rfl ⟨by decide, by decide⟩ ⟨by decide, by decide⟩ (k2 := 0) (n2 := 0) rfl rfl (Nat.le_of_ble_eq_true rfl) dX12_odds_109 (kLP (fun v548 q549 => ?_))
                          refine j_ldiv hx dX12_odds_112 (by omega) (by omega) (fun w550 f551 f552 => ?_)
                          have g553 : s7 a 3 = s6 a 3 := (by rw [(zFr_g hF_s7 ha (by decide))])
                          have f554 := zf hS_s6 ha (k := 3) rfl
                          have g555 : s7 a 4 = s6 a 4 := (by rw [(zFr_g hF_s7 ha (by decide))])
                          have f556 := zf hS_s6 ha (k := 4) rfl
                          have g557 : s7 a 5 = s6 a 5 := (by rw [(zFr_g hF_s7 ha (by decide))])
                          have f558 := zf hS_s6 ha (k := 5) rfl
                          have g559 : s7 a 7 = s6 a 7 := (by rw [(zFr_g hF_s7 ha (by decide))])
                          have f560 := zf hS_s6 ha (k := 7) rfl
                          have g561 : s7 a 21 = s6 a 21 := (by rw [(zFr_g hF_s7 ha (by decide))])
                          have f562 := zf hS_s6 ha (k := 21) rfl
                          have g563 : s7 a 22 = s6 a 22 := (by rw [(zFr_g hF_s7 ha (by decide))])
                          have f564 := zf hS_s6 ha (k := 22) rfl
                          have g565 : s7 a 23 = s6 a 23 := (by rw [(zFr_g hF_s7 ha (by decide))])
                          have f566 := zf hS_s6 ha (k := 23) rfl
                          have g567 : s7 a 38 = s6 a 38 := (by rw [(zFr_g hF_s7 ha (by decide))])
                          have f568 := zf hS_s6 ha (k := 38) rfl
                          have g569 : s7 a 51 = s6 a 51 := (by rw [(zFr_g hF_s7 ha (by decide))])
                          have f570 := zf hS_s6 ha (k := 51) rfl
                          have g571 : s7 a 52 = s6 a 52 := (by rw [(zFr_g hF_s7 ha (by decide))])
                          have f572 := zf hS_s6 ha (k := 52) rfl
                          exact j_lret hx hq rfl (by decide) (by decide) dX12_odds_113 ⟨w550, rfl, rfl, hS_s7, (zFr_t (zFr_t (zFr_t (zFr_t (zFr_u zFr_rf e_s1 ha (by decide)) hF_s2 (by decide)) hF_s5 (by decide)) hF_s6 (by decide)) hF_s7 (by decide)), ⟨(by omega), by omega, by omega, (by have q1 : s7 (gP G a 55) = s6 (gP G a 55) := (by rw [hF_s7 (gP G a 55) (by rw [(zr (k := 55) (t2 := 104) hG ha rfl)]; decide)]); rw [q1]; exact q136.2.2.2.1), by omega, by omega, by omega, by omega, by omega, by omega, by omega, by omega, by omega, by omega, by omega⟩⟩
                        · skip
                          refine j_lload hx 2 dX12_odds_98 rfl ?_
                          refine j_goto hx 105 dX12_odds_100 rfl ?_
                          refine j_lload hx 2 dX12_odds_105 rfl ?_
                          refine j_lload hx 1 dX12_odds_107 rfl ?_
                          refine j_callS hx (c_X12_longDivisor hst v135 w543) lk_RX12_491 [.long (zL v135), .long (zL w543)] ⟨rfl, hG, hS_s7, (by omega), (by omega), (by omega)⟩ rfl rfl ⟨by decide, by decide⟩ ⟨by decide, by decide⟩ (k2 := 0) (n2 := 0) rfl rfl (Nat.le_of_ble_eq_true rfl) dX12_odds_109 (kLP (fun v573 q574 => ?_))
                          refine j_ldiv hx dX12_odds_112 (by omega) (by omega) (fun w575 f576 f577 => ?_)
                          have g578 : s7 a 3 = s6 a 3 := (by rw [(zFr_g hF_s7 ha (by decide))])
                          have f579 := zf hS_s6 ha (k := 3) rfl
                          have g580 : s7 a 4 = s6 a 4 := (by rw [(zFr_g hF_s7 ha (by decide))])
                          have f581 := zf hS_s6 ha (k := 4) rfl
                          have g582 : s7 a 5 = s6 a 5 := (by rw [(zFr_g hF_s7 ha (by decide))])
                          have f583 := zf hS_s6 ha (k := 5) rfl
                          have g584 : s7 a 7 = s6 a 7 := (by rw [(zFr_g hF_s7 ha (by decide))])
                          have f585 := zf hS_s6 ha (k := 7) rfl
                          have g586 : s7 a 21 = s6 a 21 := (by rw [(zFr_g hF_s7 ha (by decide))])
                          have f587 := zf hS_s6 ha (k := 21) rfl
                          have g588 : s7 a 22 = s6 a 22 := (by rw [(zFr_g hF_s7 ha (by decide))])
                          have f589 := zf hS_s6 ha (k := 22) rfl
                          have g590 : s7 a 23 = s6 a 23 := (by rw [(zFr_g hF_s7 ha (by decide))])
                          have f591 := zf hS_s6 ha (k := 23) rfl
                          have g592 : s7 a 38 = s6 a 38 := (by rw [(zFr_g hF_s7 ha (by decide))])
                          have f593 := zf hS_s6 ha (k := 38) rfl
                          have g594 : s7 a 51 = s6 a 51 := (by rw [(zFr_g hF_s7 ha (by decide))])
                          have f595 := zf hS_s6 ha (k := 51) rfl
                          have g596 : s7 a 52 = s6 a 52 := (by rw [(zFr_g hF_s7 ha (by decide))])
                          have f597 := zf hS_s6 ha (k := 52) rfl
                          exact j_lret hx hq rfl (by decide) (by decide) dX12_odds_113 ⟨w575, rfl, rfl, hS_s7, (zFr_t (zFr_t (zFr_t (zFr_t (zFr_u zFr_rf e_s1 ha (by decide)) hF_s2 (by decide)) hF_s5 (by decide)) hF_s6 (by decide)) hF_s7 (by decide)), ⟨(by omega), by omega, by omega, (by have q1 : s7 (gP G a 55) = s6 (gP G a 55) := (by rw [hF_s7 (gP G a 55) (by rw [(zr (k := 55) (t2 := 104) hG ha rfl)]; decide)]); rw [q1]; exact q136.2.2.2.1), by omega, by omega, by omega, by omega, by omega, by omega, by omega, by omega, by omega, by omega, by omega⟩⟩
                      · skip
                        refine j_lload hx 1 dX12_odds_78 rfl ?_
                        refine j_aload_n hx 3 dX12_odds_80 rfl ?_
                        refine j_callV hx hG (c_X12_quickness_q hst a) lk_RX12_484 ha (by decide) rfl rfl rfl rfl [] ⟨rfl, hG, hS_s7, ha, ((by have q1 : s7 (gP G a 17) = s0 (gP G a 17) := (by rw [hF_s7 (gP G a 17) (by rw [(zr (k := 17) (t2 := 80) hG ha rfl)]; decide), hF_s6 (gP G a 17) (by rw [(zr (k := 17) (t2 := 80) hG ha rfl)]; decide), hF_s5 (gP G a 17) (by rw [(zr (k := 17) (t2 := 80) hG ha rfl)]; decide), hF_s2 (gP G a 17) (by rw [(zr (k := 17) (t2 := 80) hG ha rfl)]; decide), e_s1, zU_ne (zne ha (zr (k := 17) (t2 := 80) hG ha rfl) (by decide))]); rw [q1]; exact (zQn_nn e3 (by omega)))), (by omega)⟩ rfl rfl ⟨by decide, by decide⟩ ⟨by decide, by decide⟩ (k2 := 0) (n2 := 0) rfl rfl (Nat.le_of_ble_eq_true rfl) dX12_odds_81 (kIP (fun v598 q599 => ?_))
                        refine j_i2l hx dX12_odds_84 (by omega) ?_
                        refine j_lmulP hx 10460353203 27 dX12_odds_85 (by omega) (by omega) (fun w600 f601 f602 => ?_)
                        refine j_lstore hx [(6, .long (zL w600)), (8, .int (zI 7)), (4, .long (zL v135)), (0, .ref a), (1, .int (zI x1)), (2, .int (zI x2)), (3, .int (zI x3))] dX12_odds_86 (by decide) rfl ?_
                        refine j_iinc hx 1 [(8, .int (zI 8)), (6, .long (zL w600)), (4, .long (zL v135)), (0, .ref a), (1, .int (zI x1)), (2, .int (zI x2)), (3, .int (zI x3))] dX12_odds_88 rfl (by omega) (by decide) rfl ?_
                        refine j_goto hx 72 dX12_odds_91 rfl ?_
                        refine j_iload hx 0 dX12_odds_72 rfl ?_
                        refine j_iload_n hx 5 dX12_odds_74 rfl ?_
                        refine j_icmp_ge hx 94 dX12_odds_75 rfl ⟨by decide, by decide⟩ (by omega) (fun h603 => ?_) (fun h603 => ?_)
                        · skip
                          refine j_iload_n hx 6 dX12_odds_94 rfl ?_
                          refine j_if_ne hx 103 dX12_odds_95 rfl (by omega) (fun h604 => ?_) (fun h604 => ?_)
                          · skip
                            refine j_lload hx 1 dX12_odds_103 rfl ?_
                            refine j_lload hx 2 dX12_odds_105 rfl ?_
                            refine j_lload hx 1 dX12_odds_107 rfl ?_
                            refine j_callS hx (c_X12_longDivisor hst v135 w600) lk_RX12_491 [.long (zL v135), .long (zL w600)] ⟨rfl, hG, hS_s7, (by omega), (by omega), (by omega)⟩ rfl rfl ⟨by decide, by decide⟩ ⟨by decide, by decide⟩ (k2 := 0) (n2 := 0) rfl rfl (Nat.le_of_ble_eq_true rfl) dX12_odds_109 (kLP (fun v605 q606 => ?_))
                            refine j_ldiv hx dX12_odds_112 (by omega) (by omega) (fun w607 f608 f609 => ?_)
                            have g610 : s7 a 3 = s6 a 3 := (by rw [(zFr_g hF_s7 ha (by decide))])
                            have f611 := zf hS_s6 ha (k := 3) rfl
                            have g612 : s7 a 4 = s6 a 4 := (by rw [(zFr_g hF_s7 ha (by decide))])
                            have f613 := zf hS_s6 ha (k := 4) rfl
                            have g614 : s7 a 5 = s6 a 5 := (by rw [(zFr_g hF_s7 ha (by decide))])
                            have f615 := zf hS_s6 ha (k := 5) rfl
                            have g616 : s7 a 7 = s6 a 7 := (by rw [(zFr_g hF_s7 ha (by decide))])
                            have f617 := zf hS_s6 ha (k := 7) rfl
                            have g618 : s7 a 21 = s6 a 21 := (by rw [(zFr_g hF_s7 ha (by decide))])
                            have f619 := zf hS_s6 ha (k := 21) rfl
                            have g620 : s7 a 22 = s6 a 22 := (by rw [(zFr_g hF_s7 ha (by decide))])
                            have f621 := zf hS_s6 ha (k := 22) rfl
                            have g622 : s7 a 23 = s6 a 23 := (by rw [(zFr_g hF_s7 ha (by decide))])
                            have f623 := zf hS_s6 ha (k := 23) rfl
                            have g624 : s7 a 38 = s6 a 38 := (by rw [(zFr_g hF_s7 ha (by decide))])
                            have f625 := zf hS_s6 ha (k := 38) rfl
                            have g626 : s7 a 51 = s6 a 51 := (by rw [(zFr_g hF_s7 ha (by decide))])
                            have f627 := zf hS_s6 ha (k := 51) rfl
                            have g628 : s7 a 52 = s6 a 52 := (by rw [(zFr_g hF_s7 ha (by decide))])
                            have f629 := zf hS_s6 ha (k := 52) rfl
                            exact j_lret hx hq rfl (by decide) (by decide) dX12_odds_113 ⟨w607, rfl, rfl, hS_s7, (zFr_t (zFr_t (zFr_t (zFr_t (zFr_u zFr_rf e_s1 ha (by decide)) hF_s2 (by decide)) hF_s5 (by decide)) hF_s6 (by decide)) hF_s7 (by decide)), ⟨(by omega), by omega, by omega, (by have q1 : s7 (gP G a 55) = s6 (gP G a 55) := (by rw [hF_s7 (gP G a 55) (by rw [(zr (k := 55) (t2 := 104) hG ha rfl)]; decide)]); rw [q1]; exact q136.2.2.2.1), by omega, by omega, by omega, by omega, by omega, by omega, by omega, by omega, by omega, by omega, by omega⟩⟩
                          · skip
                            refine j_lload hx 2 dX12_odds_98 rfl ?_
                            refine j_goto hx 105 dX12_odds_100 rfl ?_
                            refine j_lload hx 2 dX12_odds_105 rfl ?_
                            refine j_lload hx 1 dX12_odds_107 rfl ?_
                            refine j_callS hx (c_X12_longDivisor hst v135 w600) lk_RX12_491 [.long (zL v135), .long (zL w600)] ⟨rfl, hG, hS_s7, (by omega), (by omega), (by omega)⟩ rfl rfl ⟨by decide, by decide⟩ ⟨by decide, by decide⟩ (k2 := 0) (n2 := 0) rfl rfl (Nat.le_of_ble_eq_true rfl) dX12_odds_109 (kLP (fun v630 q631 => ?_))
                            refine j_ldiv hx dX12_odds_112 (by omega) (by omega) (fun w632 f633 f634 => ?_)
                            have g635 : s7 a 3 = s6 a 3 := (by rw [(zFr_g hF_s7 ha (by decide))])
                            have f636 := zf hS_s6 ha (k := 3) rfl
                            have g637 : s7 a 4 = s6 a 4 := (by rw [(zFr_g hF_s7 ha (by decide))])
                            have f638 := zf hS_s6 ha (k := 4) rfl
                            have g639 : s7 a 5 = s6 a 5 := (by rw [(zFr_g hF_s7 ha (by decide))])
                            have f640 := zf hS_s6 ha (k := 5) rfl
                            have g641 : s7 a 7 = s6 a 7 := (by rw [(zFr_g hF_s7 ha (by decide))])
                            have f642 := zf hS_s6 ha (k := 7) rfl
                            have g643 : s7 a 21 = s6 a 21 := (by rw [(zFr_g hF_s7 ha (by decide))])
                            have f644 := zf hS_s6 ha (k := 21) rfl
                            have g645 : s7 a 22 = s6 a 22 := (by rw [(zFr_g hF_s7 ha (by decide))])
                            have f646 := zf hS_s6 ha (k := 22) rfl
                            have g647 : s7 a 23 = s6 a 23 := (by rw [(zFr_g hF_s7 ha (by decide))])
                            have f648 := zf hS_s6 ha (k := 23) rfl
                            have g649 : s7 a 38 = s6 a 38 := (by rw [(zFr_g hF_s7 ha (by decide))])
                            have f650 := zf hS_s6 ha (k := 38) rfl
                            have g651 : s7 a 51 = s6 a 51 := (by rw [(zFr_g hF_s7 ha (by decide))])
                            have f652 := zf hS_s6 ha (k := 51) rfl
                            have g653 : s7 a 52 = s6 a 52 := (by rw [(zFr_g hF_s7 ha (by decide))])
                            have f654 := zf hS_s6 ha (k := 52) rfl
                            exact j_lret hx hq rfl (by decide) (by decide) dX12_odds_113 ⟨w632, rfl, rfl, hS_s7, (zFr_t (zFr_t (zFr_t (zFr_t (zFr_u zFr_rf e_s1 ha (by decide)) hF_s2 (by decide)) hF_s5 (by decide)) hF_s6 (by decide)) hF_s7 (by decide)), ⟨(by omega), by omega, by omega, (by have q1 : s7 (gP G a 55) = s6 (gP G a 55) := (by rw [hF_s7 (gP G a 55) (by rw [(zr (k := 55) (t2 := 104) hG ha rfl)]; decide)]); rw [q1]; exact q136.2.2.2.1), by omega, by omega, by omega, by omega, by omega, by omega, by omega, by omega, by omega, by omega, by omega⟩⟩
                        · skip
                          refine j_lload hx 1 dX12_odds_78 rfl ?_
                          refine j_aload_n hx 3 dX12_odds_80 rfl ?_
                          refine j_callV hx hG (c_X12_quickness_q hst a) lk_RX12_484 ha (by decide) rfl rfl rfl rfl [] ⟨rfl, hG, hS_s7, ha, ((by have q1 : s7 (gP G a 17) = s0 (gP G a 17) := (by rw [hF_s7 (gP G a 17) (by rw [(zr (k := 17) (t2 := 80) hG ha rfl)]; decide), hF_s6 (gP G a 17) (by rw [(zr (k := 17) (t2 := 80) hG ha rfl)]; decide), hF_s5 (gP G a 17) (by rw [(zr (k := 17) (t2 := 80) hG ha rfl)]; decide), hF_s2 (gP G a 17) (by rw [(zr (k := 17) (t2 := 80) hG ha rfl)]; decide), e_s1, zU_ne (zne ha (zr (k := 17) (t2 := 80) hG ha rfl) (by decide))]); rw [q1]; exact (zQn_nn e3 (by omega)))), (by omega)⟩ rfl rfl ⟨by decide, by decide⟩ ⟨by decide, by decide⟩ (k2 := 0) (n2 := 0) rfl rfl (Nat.le_of_ble_eq_true rfl) dX12_odds_81 (kIP (fun v655 q656 => ?_))
                          refine j_i2l hx dX12_odds_84 (by omega) ?_
                          refine j_lmulP hx 282429536481 27 dX12_odds_85 (by omega) (by omega) (fun w657 f658 f659 => ?_)
                          refine j_lstore hx [(6, .long (zL w657)), (8, .int (zI 8)), (4, .long (zL v135)), (0, .ref a), (1, .int (zI x1)), (2, .int (zI x2)), (3, .int (zI x3))] dX12_odds_86 (by decide) rfl ?_
                          refine j_iinc hx 1 [(8, .int (zI 9)), (6, .long (zL w657)), (4, .long (zL v135)), (0, .ref a), (1, .int (zI x1)), (2, .int (zI x2)), (3, .int (zI x3))] dX12_odds_88 rfl (by omega) (by decide) rfl ?_
                          refine j_goto hx 72 dX12_odds_91 rfl ?_
                          refine j_iload hx 0 dX12_odds_72 rfl ?_
                          refine j_iload_n hx 5 dX12_odds_74 rfl ?_
                          refine j_icmp_ge hx 94 dX12_odds_75 rfl ⟨by decide, by decide⟩ (by omega) (fun h660 => ?_) (fun h660 => ?_)
                          · skip
                            refine j_iload_n hx 6 dX12_odds_94 rfl ?_
                            refine j_if_ne hx 103 dX12_odds_95 rfl (by omega) (fun h661 => ?_) (fun h661 => ?_)
                            · skip
                              refine j_lload hx 1 dX12_odds_103 rfl ?_
                              refine j_lload hx 2 dX12_odds_105 rfl ?_
                              refine j_lload hx 1 dX12_odds_107 rfl ?_
                              refine j_callS hx (c_X12_longDivisor hst v135 w657) lk_RX12_491 [.long (zL v135), .long (zL w657)] ⟨rfl, hG, hS_s7, (by omega), (by omega), (by omega)⟩ rfl rfl ⟨by decide, by decide⟩ ⟨by decide, by decide⟩ (k2 := 0) (n2 := 0) rfl rfl (Nat.le_of_ble_eq_true rfl) dX12_odds_109 (kLP (fun v662 q663 => ?_))
                              refine j_ldiv hx dX12_odds_112 (by omega) (by omega) (fun w664 f665 f666 => ?_)
                              have g667 : s7 a 3 = s6 a 3 := (by rw [(zFr_g hF_s7 ha (by decide))])
                              have f668 := zf hS_s6 ha (k := 3) rfl
                              have g669 : s7 a 4 = s6 a 4 := (by rw [(zFr_g hF_s7 ha (by decide))])
                              have f670 := zf hS_s6 ha (k := 4) rfl
                              have g671 : s7 a 5 = s6 a 5 := (by rw [(zFr_g hF_s7 ha (by decide))])
                              have f672 := zf hS_s6 ha (k := 5) rfl
                              have g673 : s7 a 7 = s6 a 7 := (by rw [(zFr_g hF_s7 ha (by decide))])
                              have f674 := zf hS_s6 ha (k := 7) rfl
                              have g675 : s7 a 21 = s6 a 21 := (by rw [(zFr_g hF_s7 ha (by decide))])
                              have f676 := zf hS_s6 ha (k := 21) rfl
                              have g677 : s7 a 22 = s6 a 22 := (by rw [(zFr_g hF_s7 ha (by decide))])
                              have f678 := zf hS_s6 ha (k := 22) rfl
                              have g679 : s7 a 23 = s6 a 23 := (by rw [(zFr_g hF_s7 ha (by decide))])
                              have f680 := zf hS_s6 ha (k := 23) rfl
                              have g681 : s7 a 38 = s6 a 38 := (by rw [(zFr_g hF_s7 ha (by decide))])
                              have f682 := zf hS_s6 ha (k := 38) rfl
                              have g683 : s7 a 51 = s6 a 51 := (by rw [(zFr_g hF_s7 ha (by decide))])
                              have f684 := zf hS_s6 ha (k := 51) rfl
                              have g685 : s7 a 52 = s6 a 52 := (by rw [(zFr_g hF_s7 ha (by decide))])
                              have f686 := zf hS_s6 ha (k := 52) rfl
                              exact j_lret hx hq rfl (by decide) (by decide) dX12_odds_113 ⟨w664, rfl, rfl, hS_s7, (zFr_t (zFr_t (zFr_t (zFr_t (zFr_u zFr_rf e_s1 ha (by decide)) hF_s2 (by decide)) hF_s5 (by decide)) hF_s6 (by decide)) hF_s7 (by decide)), ⟨(by omega), by omega, by omega, (by have q1 : s7 (gP G a 55) = s6 (gP G a 55) := (by rw [hF_s7 (gP G a 55) (by rw [(zr (k := 55) (t2 := 104) hG ha rfl)]; decide)]); rw [q1]; exact q136.2.2.2.1), by omega, by omega, by omega, by omega, by omega, by omega, by omega, by omega, by omega, by omega, by omega⟩⟩
                            · skip
                              refine j_lload hx 2 dX12_odds_98 rfl ?_
                              refine j_goto hx 105 dX12_odds_100 rfl ?_
                              refine j_lload hx 2 dX12_odds_105 rfl ?_
                              refine j_lload hx 1 dX12_odds_107 rfl ?_
                              refine j_callS hx (c_X12_longDivisor hst v135 w657) lk_RX12_491 [.long (zL v135), .long (zL w657)] ⟨rfl, hG, hS_s7, (by omega), (by omega), (by omega)⟩ rfl rfl ⟨by decide, by decide⟩ ⟨by decide, by decide⟩ (k2 := 0) (n2 := 0) rfl rfl (Nat.le_of_ble_eq_true rfl) dX12_odds_109 (kLP (fun v687 q688 => ?_))
                              refine j_ldiv hx dX12_odds_112 (by omega) (by omega) (fun w689 f690 f691 => ?_)
                              have g692 : s7 a 3 = s6 a 3 := (by rw [(zFr_g hF_s7 ha (by decide))])
                              have f693 := zf hS_s6 ha (k := 3) rfl
                              have g694 : s7 a 4 = s6 a 4 := (by rw [(zFr_g hF_s7 ha (by decide))])
                              have f695 := zf hS_s6 ha (k := 4) rfl
                              have g696 : s7 a 5 = s6 a 5 := (by rw [(zFr_g hF_s7 ha (by decide))])
                              have f697 := zf hS_s6 ha (k := 5) rfl
                              have g698 : s7 a 7 = s6 a 7 := (by rw [(zFr_g hF_s7 ha (by decide))])
                              have f699 := zf hS_s6 ha (k := 7) rfl
                              have g700 : s7 a 21 = s6 a 21 := (by rw [(zFr_g hF_s7 ha (by decide))])
                              have f701 := zf hS_s6 ha (k := 21) rfl
                              have g702 : s7 a 22 = s6 a 22 := (by rw [(zFr_g hF_s7 ha (by decide))])
                              have f703 := zf hS_s6 ha (k := 22) rfl
                              have g704 : s7 a 23 = s6 a 23 := (by rw [(zFr_g hF_s7 ha (by decide))])
                              have f705 := zf hS_s6 ha (k := 23) rfl
                              have g706 : s7 a 38 = s6 a 38 := (by rw [(zFr_g hF_s7 ha (by decide))])
                              have f707 := zf hS_s6 ha (k := 38) rfl
                              have g708 : s7 a 51 = s6 a 51 := (by rw [(zFr_g hF_s7 ha (by decide))])
                              have f709 := zf hS_s6 ha (k := 51) rfl
                              have g710 : s7 a 52 = s6 a 52 := (by rw [(zFr_g hF_s7 ha (by decide))])
                              have f711 := zf hS_s6 ha (k := 52) rfl
                              exact j_lret hx hq rfl (by decide) (by decide) dX12_odds_113 ⟨w689, rfl, rfl, hS_s7, (zFr_t (zFr_t (zFr_t (zFr_t (zFr_u zFr_rf e_s1 ha (by decide)) hF_s2 (by decide)) hF_s5 (by decide)) hF_s6 (by decide)) hF_s7 (by decide)), ⟨(by omega), by omega, by omega, (by have q1 : s7 (gP G a 55) = s6 (gP G a 55) := (by rw [hF_s7 (gP G a 55) (by rw [(zr (k := 55) (t2 := 104) hG ha rfl)]; decide)]); rw [q1]; exact q136.2.2.2.1), by omega, by omega, by omega, by omega, by omega, by omega, by omega, by omega, by omega, by omega, by omega⟩⟩
                          · skip
                            refine j_lload hx 1 dX12_odds_78 rfl ?_
                            refine j_aload_n hx 3 dX12_odds_80 rfl ?_
                            refine j_callV hx hG (c_X12_quickness_q hst a) lk_RX12_484 ha (by decide) rfl rfl rfl rfl [] ⟨rfl, hG, hS_s7, ha, ((by have q1 : s7 (gP G a 17) = s0 (gP G a 17) := (by rw [hF_s7 (gP G a 17) (by rw [(zr (k := 17) (t2 := 80) hG ha rfl)]; decide), hF_s6 (gP G a 17) (by rw [(zr (k := 17) (t2 := 80) hG ha rfl)]; decide), hF_s5 (gP G a 17) (by rw [(zr (k := 17) (t2 := 80) hG ha rfl)]; decide), hF_s2 (gP G a 17) (by rw [(zr (k := 17) (t2 := 80) hG ha rfl)]; decide), e_s1, zU_ne (zne ha (zr (k := 17) (t2 := 80) hG ha rfl) (by decide))]); rw [q1]; exact (zQn_nn e3 (by omega)))), (by omega)⟩ rfl rfl ⟨by decide, by decide⟩ ⟨by decide, by decide⟩ (k2 := 0) (n2 := 0) rfl rfl (Nat.le_of_ble_eq_true rfl) dX12_odds_81 (kIP (fun v712 q713 => ?_))
                            refine j_i2l hx dX12_odds_84 (by omega) ?_
                            refine j_lmulP hx 7625597484987 27 dX12_odds_85 (by omega) (by omega) (fun w714 f715 f716 => ?_)
                            refine j_lstore hx [(6, .long (zL w714)), (8, .int (zI 9)), (4, .long (zL v135)), (0, .ref a), (1, .int (zI x1)), (2, .int (zI x2)), (3, .int (zI x3))] dX12_odds_86 (by decide) rfl ?_
                            refine j_iinc hx 1 [(8, .int (zI 10)), (6, .long (zL w714)), (4, .long (zL v135)), (0, .ref a), (1, .int (zI x1)), (2, .int (zI x2)), (3, .int (zI x3))] dX12_odds_88 rfl (by omega) (by decide) rfl ?_
                            refine j_goto hx 72 dX12_odds_91 rfl ?_
                            refine j_iload hx 0 dX12_odds_72 rfl ?_
                            refine j_iload_n hx 5 dX12_odds_74 rfl ?_
                            refine j_icmp_ge hx 94 dX12_odds_75 rfl ⟨by decide, by decide⟩ (by omega) (fun h717 => ?_) (fun h717 => ?_)
                            · skip
                              refine j_iload_n hx 6 dX12_odds_94 rfl ?_
                              refine j_if_ne hx 103 dX12_odds_95 rfl (by omega) (fun h718 => ?_) (fun h718 => ?_)
                              · skip
                                refine j_lload hx 1 dX12_odds_103 rfl ?_
                                refine j_lload hx 2 dX12_odds_105 rfl ?_
                                refine j_lload hx 1 dX12_odds_107 rfl ?_
                                refine j_callS hx (c_X12_longDivisor hst v135 w714) lk_RX12_491 [.long (zL v135), .long (zL w714)] ⟨rfl, hG, hS_s7, (by omega), (by omega), (by omega)⟩ rfl rfl ⟨by decide, by decide⟩ ⟨by decide, by decide⟩ (k2 := 0) (n2 := 0) rfl rfl (Nat.le_of_ble_eq_true rfl) dX12_odds_109 (kLP (fun v719 q720 => ?_))
                                refine j_ldiv hx dX12_odds_112 (by omega) (by omega) (fun w721 f722 f723 => ?_)
                                have g724 : s7 a 3 = s6 a 3 := (by rw [(zFr_g hF_s7 ha (by decide))])
                                have f725 := zf hS_s6 ha (k := 3) rfl
                                have g726 : s7 a 4 = s6 a 4 := (by rw [(zFr_g hF_s7 ha (by decide))])
                                have f727 := zf hS_s6 ha (k := 4) rfl
                                have g728 : s7 a 5 = s6 a 5 := (by rw [(zFr_g hF_s7 ha (by decide))])
                                have f729 := zf hS_s6 ha (k := 5) rfl
                                have g730 : s7 a 7 = s6 a 7 := (by rw [(zFr_g hF_s7 ha (by decide))])
                                have f731 := zf hS_s6 ha (k := 7) rfl
                                have g732 : s7 a 21 = s6 a 21 := (by rw [(zFr_g hF_s7 ha (by decide))])
                                have f733 := zf hS_s6 ha (k := 21) rfl
                                have g734 : s7 a 22 = s6 a 22 := (by rw [(zFr_g hF_s7 ha (by decide))])
                                have f735 := zf hS_s6 ha (k := 22) rfl
                                have g736 : s7 a 23 = s6 a 23 := (by rw [(zFr_g hF_s7 ha (by decide))])
                                have f737 := zf hS_s6 ha (k := 23) rfl
                                have g738 : s7 a 38 = s6 a 38 := (by rw [(zFr_g hF_s7 ha (by decide))])
                                have f739 := zf hS_s6 ha (k := 38) rfl
                                have g740 : s7 a 51 = s6 a 51 := (by rw [(zFr_g hF_s7 ha (by decide))])
                                have f741 := zf hS_s6 ha (k := 51) rfl
                                have g742 : s7 a 52 = s6 a 52 := (by rw [(zFr_g hF_s7 ha (by decide))])
                                have f743 := zf hS_s6 ha (k := 52) rfl
                                exact j_lret hx hq rfl (by decide) (by decide) dX12_odds_113 ⟨w721, rfl, rfl, hS_s7, (zFr_t (zFr_t (zFr_t (zFr_t (zFr_u zFr_rf e_s1 ha (by decide)) hF_s2 (by decide)) hF_s5 (by decide)) hF_s6 (by decide)) hF_s7 (by decide)), ⟨(by omega), by omega, by omega, (by have q1 : s7 (gP G a 55) = s6 (gP G a 55) := (by rw [hF_s7 (gP G a 55) (by rw [(zr (k := 55) (t2 := 104) hG ha rfl)]; decide)]); rw [q1]; exact q136.2.2.2.1), by omega, by omega, by omega, by omega, by omega, by omega, by omega, by omega, by omega, by omega, by omega⟩⟩
                              · skip
                                refine j_lload hx 2 dX12_odds_98 rfl ?_
                                refine j_goto hx 105 dX12_odds_100 rfl ?_
                                refine j_lload hx 2 dX12_odds_105 rfl ?_
                                refine j_lload hx 1 dX12_odds_107 rfl ?_
                                refine j_callS hx (c_X12_longDivisor hst v135 w714) lk_RX12_491 [.long (zL v135), .long (zL w714)] ⟨rfl, hG, hS_s7, (by omega), (by omega), (by omega)⟩ rfl rfl ⟨by decide, by decide⟩ ⟨by decide, by decide⟩ (k2 := 0) (n2 := 0) rfl rfl (Nat.le_of_ble_eq_true rfl) dX12_odds_109 (kLP (fun v744 q745 => ?_))
                                refine j_ldiv hx dX12_odds_112 (by omega) (by omega) (fun w746 f747 f748 => ?_)
                                have g749 : s7 a 3 = s6 a 3 := (by rw [(zFr_g hF_s7 ha (by decide))])
                                have f750 := zf hS_s6 ha (k := 3) rfl
                                have g751 : s7 a 4 = s6 a 4 := (by rw [(zFr_g hF_s7 ha (by decide))])
                                have f752 := zf hS_s6 ha (k := 4) rfl
                                have g753 : s7 a 5 = s6 a 5 := (by rw [(zFr_g hF_s7 ha (by decide))])
                                have f754 := zf hS_s6 ha (k := 5) rfl
                                have g755 : s7 a 7 = s6 a 7 := (by rw [(zFr_g hF_s7 ha (by decide))])
                                have f756 := zf hS_s6 ha (k := 7) rfl
                                have g757 : s7 a 21 = s6 a 21 := (by rw [(zFr_g hF_s7 ha (by decide))])
                                have f758 := zf hS_s6 ha (k := 21) rfl
                                have g759 : s7 a 22 = s6 a 22 := (by rw [(zFr_g hF_s7 ha (by decide))])
                                have f760 := zf hS_s6 ha (k := 22) rfl
                                have g761 : s7 a 23 = s6 a 23 := (by rw [(zFr_g hF_s7 ha (by decide))])
                                have f762 := zf hS_s6 ha (k := 23) rfl
                                have g763 : s7 a 38 = s6 a 38 := (by rw [(zFr_g hF_s7 ha (by decide))])
                                have f764 := zf hS_s6 ha (k := 38) rfl
                                have g765 : s7 a 51 = s6 a 51 := (by rw [(zFr_g hF_s7 ha (by decide))])
                                have f766 := zf hS_s6 ha (k := 51) rfl
                                have g767 : s7 a 52 = s6 a 52 := (by rw [(zFr_g hF_s7 ha (by decide))])
                                have f768 := zf hS_s6 ha (k := 52) rfl
                                exact j_lret hx hq rfl (by decide) (by decide) dX12_odds_113 ⟨w746, rfl, rfl, hS_s7, (zFr_t (zFr_t (zFr_t (zFr_t (zFr_u zFr_rf e_s1 ha (by decide)) hF_s2 (by decide)) hF_s5 (by decide)) hF_s6 (by decide)) hF_s7 (by decide)), ⟨(by omega), by omega, by omega, (by have q1 : s7 (gP G a 55) = s6 (gP G a 55) := (by rw [hF_s7 (gP G a 55) (by rw [(zr (k := 55) (t2 := 104) hG ha rfl)]; decide)]); rw [q1]; exact q136.2.2.2.1), by omega, by omega, by omega, by omega, by omega, by omega, by omega, by omega, by omega, by omega, by omega⟩⟩
                            · skip
                              refine j_lload hx 1 dX12_odds_78 rfl ?_
                              refine j_aload_n hx 3 dX12_odds_80 rfl ?_
                              refine j_callV hx hG (c_X12_quickness_q hst a) lk_RX12_484 ha (by decide) rfl rfl rfl rfl [] ⟨rfl, hG, hS_s7, ha, ((by have q1 : s7 (gP G a 17) = s0 (gP G a 17) := (by rw [hF_s7 (gP G a 17) (by rw [(zr (k := 17) (t2 := 80) hG ha rfl)]; decide), hF_s6 (gP G a 17) (by rw [(zr (k := 17) (t2 := 80) hG ha rfl)]; decide), hF_s5 (gP G a 17) (by rw [(zr (k := 17) (t2 := 80) hG ha rfl)]; decide), hF_s2 (gP G a 17) (by rw [(zr (k := 17) (t2 := 80) hG ha rfl)]; decide), e_s1, zU_ne (zne ha (zr (k := 17) (t2 := 80) hG ha rfl) (by decide))]); rw [q1]; exact (zQn_nn e3 (by omega)))), (by omega)⟩ rfl rfl ⟨by decide, by decide⟩ ⟨by decide, by decide⟩ (k2 := 0) (n2 := 0) rfl rfl (Nat.le_of_ble_eq_true rfl) dX12_odds_81 (kIP (fun v769 q770 => ?_))
                              refine j_i2l hx dX12_odds_84 (by omega) ?_
                              refine j_lmulP hx 205891132094649 27 dX12_odds_85 (by omega) (by omega) (fun w771 f772 f773 => ?_)
                              refine j_lstore hx [(6, .long (zL w771)), (8, .int (zI 10)), (4, .long (zL v135)), (0, .ref a), (1, .int (zI x1)), (2, .int (zI x2)), (3, .int (zI x3))] dX12_odds_86 (by decide) rfl ?_
                              refine j_iinc hx 1 [(8, .int (zI 11)), (6, .long (zL w771)), (4, .long (zL v135)), (0, .ref a), (1, .int (zI x1)), (2, .int (zI x2)), (3, .int (zI x3))] dX12_odds_88 rfl (by omega) (by decide) rfl ?_
                              refine j_goto hx 72 dX12_odds_91 rfl ?_
                              refine j_iload hx 0 dX12_odds_72 rfl ?_
                              refine j_iload_n hx 5 dX12_odds_74 rfl ?_
                              refine j_icmp_ge hx 94 dX12_odds_75 rfl ⟨by decide, by decide⟩ (by omega) (fun h774 => ?_) (fun h774 => ?_)
                              · skip
                                refine j_iload_n hx 6 dX12_odds_94 rfl ?_
                                refine j_if_ne hx 103 dX12_odds_95 rfl (by omega) (fun h775 => ?_) (fun h775 => ?_)
                                · skip
                                  refine j_lload hx 1 dX12_odds_103 rfl ?_
                                  refine j_lload hx 2 dX12_odds_105 rfl ?_
                                  refine j_lload hx 1 dX12_odds_107 rfl ?_
                                  refine j_callS hx (c_X12_longDivisor hst v135 w771) lk_RX12_491 [.long (zL v135), .long (zL w771)] ⟨rfl, hG, hS_s7, (by omega), (by omega), (by omega)⟩ rfl rfl ⟨by decide, by decide⟩ ⟨by decide, by decide⟩ (k2 := 0) (n2 := 0) rfl rfl (Nat.le_of_ble_eq_true rfl) dX12_odds_109 (kLP (fun v776 q777 => ?_))
                                  refine j_ldiv hx dX12_odds_112 (by omega) (by omega) (fun w778 f779 f780 => ?_)
                                  have g781 : s7 a 3 = s6 a 3 := (by rw [(zFr_g hF_s7 ha (by decide))])
                                  have f782 := zf hS_s6 ha (k := 3) rfl
                                  have g783 : s7 a 4 = s6 a 4 := (by rw [(zFr_g hF_s7 ha (by decide))])
                                  have f784 := zf hS_s6 ha (k := 4) rfl
                                  have g785 : s7 a 5 = s6 a 5 := (by rw [(zFr_g hF_s7 ha (by decide))])
                                  have f786 := zf hS_s6 ha (k := 5) rfl
                                  have g787 : s7 a 7 = s6 a 7 := (by rw [(zFr_g hF_s7 ha (by decide))])
                                  have f788 := zf hS_s6 ha (k := 7) rfl
                                  have g789 : s7 a 21 = s6 a 21 := (by rw [(zFr_g hF_s7 ha (by decide))])
                                  have f790 := zf hS_s6 ha (k := 21) rfl
                                  have g791 : s7 a 22 = s6 a 22 := (by rw [(zFr_g hF_s7 ha (by decide))])
                                  have f792 := zf hS_s6 ha (k := 22) rfl
                                  have g793 : s7 a 23 = s6 a 23 := (by rw [(zFr_g hF_s7 ha (by decide))])
                                  have f794 := zf hS_s6 ha (k := 23) rfl
                                  have g795 : s7 a 38 = s6 a 38 := (by rw [(zFr_g hF_s7 ha (by decide))])
                                  have f796 := zf hS_s6 ha (k := 38) rfl
                                  have g797 : s7 a 51 = s6 a 51 := (by rw [(zFr_g hF_s7 ha (by decide))])
                                  have f798 := zf hS_s6 ha (k := 51) rfl
                                  have g799 : s7 a 52 = s6 a 52 := (by rw [(zFr_g hF_s7 ha (by decide))])
                                  have f800 := zf hS_s6 ha (k := 52) rfl
                                  exact j_lret hx hq rfl (by decide) (by decide) dX12_odds_113 ⟨w778, rfl, rfl, hS_s7, (zFr_t (zFr_t (zFr_t (zFr_t (zFr_u zFr_rf e_s1 ha (by decide)) hF_s2 (by decide)) hF_s5 (by decide)) hF_s6 (by decide)) hF_s7 (by decide)), ⟨(by omega), by omega, by omega, (by have q1 : s7 (gP G a 55) = s6 (gP G a 55) := (by rw [hF_s7 (gP G a 55) (by rw [(zr (k := 55) (t2 := 104) hG ha rfl)]; decide)]); rw [q1]; exact q136.2.2.2.1), by omega, by omega, by omega, by omega, by omega, by omega, by omega, by omega, by omega, by omega, by omega⟩⟩
                                · skip
                                  refine j_lload hx 2 dX12_odds_98 rfl ?_
                                  refine j_goto hx 105 dX12_odds_100 rfl ?_
                                  refine j_lload hx 2 dX12_odds_105 rfl ?_
                                  refine j_lload hx 1 dX12_odds_107 rfl ?_
                                  refine j_callS hx (c_X12_longDivisor hst v135 w771) lk_RX12_491 [.long (zL v135), .long (zL w771)] ⟨rfl, hG, hS_s7, (by omega), (by omega), (by omega)⟩ rfl rfl ⟨by decide, by decide⟩ ⟨by decide, by decide⟩ (k2 := 0) (n2 := 0) rfl rfl (Nat.le_of_ble_eq_true rfl) dX12_odds_109 (kLP (fun v801 q802 => ?_))
                                  refine j_ldiv hx dX12_odds_112 (by omega) (by omega) (fun w803 f804 f805 => ?_)
                                  have g806 : s7 a 3 = s6 a 3 := (by rw [(zFr_g hF_s7 ha (by decide))])
                                  have f807 := zf hS_s6 ha (k := 3) rfl
                                  have g808 : s7 a 4 = s6 a 4 := (by rw [(zFr_g hF_s7 ha (by decide))])
                                  have f809 := zf hS_s6 ha (k := 4) rfl
                                  have g810 : s7 a 5 = s6 a 5 := (by rw [(zFr_g hF_s7 ha (by decide))])
                                  have f811 := zf hS_s6 ha (k := 5) rfl
                                  have g812 : s7 a 7 = s6 a 7 := (by rw [(zFr_g hF_s7 ha (by decide))])
                                  have f813 := zf hS_s6 ha (k := 7) rfl
                                  have g814 : s7 a 21 = s6 a 21 := (by rw [(zFr_g hF_s7 ha (by decide))])
                                  have f815 := zf hS_s6 ha (k := 21) rfl
                                  have g816 : s7 a 22 = s6 a 22 := (by rw [(zFr_g hF_s7 ha (by decide))])
                                  have f817 := zf hS_s6 ha (k := 22) rfl
                                  have g818 : s7 a 23 = s6 a 23 := (by rw [(zFr_g hF_s7 ha (by decide))])
                                  have f819 := zf hS_s6 ha (k := 23) rfl
                                  have g820 : s7 a 38 = s6 a 38 := (by rw [(zFr_g hF_s7 ha (by decide))])
                                  have f821 := zf hS_s6 ha (k := 38) rfl
                                  have g822 : s7 a 51 = s6 a 51 := (by rw [(zFr_g hF_s7 ha (by decide))])
                                  have f823 := zf hS_s6 ha (k := 51) rfl
                                  have g824 : s7 a 52 = s6 a 52 := (by rw [(zFr_g hF_s7 ha (by decide))])
                                  have f825 := zf hS_s6 ha (k := 52) rfl
                                  exact j_lret hx hq rfl (by decide) (by decide) dX12_odds_113 ⟨w803, rfl, rfl, hS_s7, (zFr_t (zFr_t (zFr_t (zFr_t (zFr_u zFr_rf e_s1 ha (by decide)) hF_s2 (by decide)) hF_s5 (by decide)) hF_s6 (by decide)) hF_s7 (by decide)), ⟨(by omega), by omega, by omega, (by have q1 : s7 (gP G a 55) = s6 (gP G a 55) := (by rw [hF_s7 (gP G a 55) (by rw [(zr (k := 55) (t2 := 104) hG ha rfl)]; decide)]); rw [q1]; exact q136.2.2.2.1), by omega, by omega, by omega, by omega, by omega, by omega, by omega, by omega, by omega, by omega, by omega⟩⟩
                              · skip
                                refine j_lload hx 1 dX12_odds_78 rfl ?_
                                refine j_aload_n hx 3 dX12_odds_80 rfl ?_
                                refine j_callV hx hG (c_X12_quickness_q hst a) lk_RX12_484 ha (by decide) rfl rfl rfl rfl [] ⟨rfl, hG, hS_s7, ha, ((by have q1 : s7 (gP G a 17) = s0 (gP G a 17) := (by rw [hF_s7 (gP G a 17) (by rw [(zr (k := 17) (t2 := 80) hG ha rfl)]; decide), hF_s6 (gP G a 17) (by rw [(zr (k := 17) (t2 := 80) hG ha rfl)]; decide), hF_s5 (gP G a 17) (by rw [(zr (k := 17) (t2 := 80) hG ha rfl)]; decide), hF_s2 (gP G a 17) (by rw [(zr (k := 17) (t2 := 80) hG ha rfl)]; decide), e_s1, zU_ne (zne ha (zr (k := 17) (t2 := 80) hG ha rfl) (by decide))]); rw [q1]; exact (zQn_nn e3 (by omega)))), (by omega)⟩ rfl rfl ⟨by decide, by decide⟩ ⟨by decide, by decide⟩ (k2 := 0) (n2 := 0) rfl rfl (Nat.le_of_ble_eq_true rfl) dX12_odds_81 (kIP (fun v826 q827 => ?_))
                                refine j_i2l hx dX12_odds_84 (by omega) ?_
                                refine j_lmulP hx 5559060566555523 27 dX12_odds_85 (by omega) (by omega) (fun w828 f829 f830 => ?_)
                                refine j_lstore hx [(6, .long (zL w828)), (8, .int (zI 11)), (4, .long (zL v135)), (0, .ref a), (1, .int (zI x1)), (2, .int (zI x2)), (3, .int (zI x3))] dX12_odds_86 (by decide) rfl ?_
                                refine j_iinc hx 1 [(8, .int (zI 12)), (6, .long (zL w828)), (4, .long (zL v135)), (0, .ref a), (1, .int (zI x1)), (2, .int (zI x2)), (3, .int (zI x3))] dX12_odds_88 rfl (by omega) (by decide) rfl ?_
                                refine j_goto hx 72 dX12_odds_91 rfl ?_
                                refine j_iload hx 0 dX12_odds_72 rfl ?_
                                refine j_iload_n hx 5 dX12_odds_74 rfl ?_
                                refine j_icmp_ge hx 94 dX12_odds_75 rfl ⟨by decide, by decide⟩ (by omega) (fun h831 => ?_) (fun h831 => absurd h831 (by omega))
                                refine j_iload_n hx 6 dX12_odds_94 rfl ?_
                                refine j_if_ne hx 103 dX12_odds_95 rfl (by omega) (fun h832 => ?_) (fun h832 => ?_)
                                · skip
                                  refine j_lload hx 1 dX12_odds_103 rfl ?_
                                  refine j_lload hx 2 dX12_odds_105 rfl ?_
                                  refine j_lload hx 1 dX12_odds_107 rfl ?_
                                  refine j_callS hx (c_X12_longDivisor hst v135 w828) lk_RX12_491 [.long (zL v135), .long (zL w828)] ⟨rfl, hG, hS_s7, (by omega), (by omega), (by omega)⟩ rfl rfl ⟨by decide, by decide⟩ ⟨by decide, by decide⟩ (k2 := 0) (n2 := 0) rfl rfl (Nat.le_of_ble_eq_true rfl) dX12_odds_109 (kLP (fun v833 q834 => ?_))
                                  refine j_ldiv hx dX12_odds_112 (by omega) (by omega) (fun w835 f836 f837 => ?_)
                                  have g838 : s7 a 3 = s6 a 3 := (by rw [(zFr_g hF_s7 ha (by decide))])
                                  have f839 := zf hS_s6 ha (k := 3) rfl
                                  have g840 : s7 a 4 = s6 a 4 := (by rw [(zFr_g hF_s7 ha (by decide))])
                                  have f841 := zf hS_s6 ha (k := 4) rfl
                                  have g842 : s7 a 5 = s6 a 5 := (by rw [(zFr_g hF_s7 ha (by decide))])
                                  have f843 := zf hS_s6 ha (k := 5) rfl
                                  have g844 : s7 a 7 = s6 a 7 := (by rw [(zFr_g hF_s7 ha (by decide))])
                                  have f845 := zf hS_s6 ha (k := 7) rfl
                                  have g846 : s7 a 21 = s6 a 21 := (by rw [(zFr_g hF_s7 ha (by decide))])
                                  have f847 := zf hS_s6 ha (k := 21) rfl
                                  have g848 : s7 a 22 = s6 a 22 := (by rw [(zFr_g hF_s7 ha (by decide))])
                                  have f849 := zf hS_s6 ha (k := 22) rfl
                                  have g850 : s7 a 23 = s6 a 23 := (by rw [(zFr_g hF_s7 ha (by decide))])
                                  have f851 := zf hS_s6 ha (k := 23) rfl
                                  have g852 : s7 a 38 = s6 a 38 := (by rw [(zFr_g hF_s7 ha (by decide))])
                                  have f853 := zf hS_s6 ha (k := 38) rfl
                                  have g854 : s7 a 51 = s6 a 51 := (by rw [(zFr_g hF_s7 ha (by decide))])
                                  have f855 := zf hS_s6 ha (k := 51) rfl
                                  have g856 : s7 a 52 = s6 a 52 := (by rw [(zFr_g hF_s7 ha (by decide))])
                                  have f857 := zf hS_s6 ha (k := 52) rfl
                                  exact j_lret hx hq rfl (by decide) (by decide) dX12_odds_113 ⟨w835, rfl, rfl, hS_s7, (zFr_t (zFr_t (zFr_t (zFr_t (zFr_u zFr_rf e_s1 ha (by decide)) hF_s2 (by decide)) hF_s5 (by decide)) hF_s6 (by decide)) hF_s7 (by decide)), ⟨(by omega), by omega, by omega, (by have q1 : s7 (gP G a 55) = s6 (gP G a 55) := (by rw [hF_s7 (gP G a 55) (by rw [(zr (k := 55) (t2 := 104) hG ha rfl)]; decide)]); rw [q1]; exact q136.2.2.2.1), by omega, by omega, by omega, by omega, by omega, by omega, by omega, by omega, by omega, by omega, by omega⟩⟩
                                · skip
                                  refine j_lload hx 2 dX12_odds_98 rfl ?_
                                  refine j_goto hx 105 dX12_odds_100 rfl ?_
                                  refine j_lload hx 2 dX12_odds_105 rfl ?_
                                  refine j_lload hx 1 dX12_odds_107 rfl ?_
                                  refine j_callS hx (c_X12_longDivisor hst v135 w828) lk_RX12_491 [.long (zL v135), .long (zL w828)] ⟨rfl, hG, hS_s7, (by omega), (by omega), (by omega)⟩ rfl rfl ⟨by decide, by decide⟩ ⟨by decide, by decide⟩ (k2 := 0) (n2 := 0) rfl rfl (Nat.le_of_ble_eq_true rfl) dX12_odds_109 (kLP (fun v858 q859 => ?_))
                                  refine j_ldiv hx dX12_odds_112 (by omega) (by omega) (fun w860 f861 f862 => ?_)
                                  have g863 : s7 a 3 = s6 a 3 := (by rw [(zFr_g hF_s7 ha (by decide))])
                                  have f864 := zf hS_s6 ha (k := 3) rfl
                                  have g865 : s7 a 4 = s6 a 4 := (by rw [(zFr_g hF_s7 ha (by decide))])
                                  have f866 := zf hS_s6 ha (k := 4) rfl
                                  have g867 : s7 a 5 = s6 a 5 := (by rw [(zFr_g hF_s7 ha (by decide))])
                                  have f868 := zf hS_s6 ha (k := 5) rfl
                                  have g869 : s7 a 7 = s6 a 7 := (by rw [(zFr_g hF_s7 ha (by decide))])
                                  have f870 := zf hS_s6 ha (k := 7) rfl
                                  have g871 : s7 a 21 = s6 a 21 := (by rw [(zFr_g hF_s7 ha (by decide))])
                                  have f872 := zf hS_s6 ha (k := 21) rfl
                                  have g873 : s7 a 22 = s6 a 22 := (by rw [(zFr_g hF_s7 ha (by decide))])
                                  have f874 := zf hS_s6 ha (k := 22) rfl
                                  have g875 : s7 a 23 = s6 a 23 := (by rw [(zFr_g hF_s7 ha (by decide))])
                                  have f876 := zf hS_s6 ha (k := 23) rfl
                                  have g877 : s7 a 38 = s6 a 38 := (by rw [(zFr_g hF_s7 ha (by decide))])
                                  have f878 := zf hS_s6 ha (k := 38) rfl
                                  have g879 : s7 a 51 = s6 a 51 := (by rw [(zFr_g hF_s7 ha (by decide))])
                                  have f880 := zf hS_s6 ha (k := 51) rfl
                                  have g881 : s7 a 52 = s6 a 52 := (by rw [(zFr_g hF_s7 ha (by decide))])
                                  have f882 := zf hS_s6 ha (k := 52) rfl
                                  exact j_lret hx hq rfl (by decide) (by decide) dX12_odds_113 ⟨w860, rfl, rfl, hS_s7, (zFr_t (zFr_t (zFr_t (zFr_t (zFr_u zFr_rf e_s1 ha (by decide)) hF_s2 (by decide)) hF_s5 (by decide)) hF_s6 (by decide)) hF_s7 (by decide)), ⟨(by omega), by omega, by omega, (by have q1 : s7 (gP G a 55) = s6 (gP G a 55) := (by rw [hF_s7 (gP G a 55) (by rw [(zr (k := 55) (t2 := 104) hG ha rfl)]; decide)]); rw [q1]; exact q136.2.2.2.1), by omega, by omega, by omega, by omega, by omega, by omega, by omega, by omega, by omega, by omega, by omega⟩⟩

set_option maxHeartbeats 1200000 in
set_option maxRecDepth 20000 in
theorem c_X12_shuffles {E : zE} {l : Launch} (hst : l.stackTraces = false) (a : Nat) (x1 : Int) : Con E l yX12_shuffles cX12_shuffles 8 none { frames := 0, cells := 0, slots := 0, locals := 0 } (fun G s vs => vs = [.ref a, .int (zI x1)] ∧ zGK G ∧ zSK G s ∧ (gT G a = 13) ∧ ((-2147483648) ≤ x1 ∧ x1 ≤ 2147483647)) (fun G s _ => pV (fun G2 s2 => G2 = G ∧ zSK G s2 ∧ zFr [84] G s s2 ∧ zc (s2 (gP G a 27)) = zc (s (gP G a 27)) ∧ s2 (gP G a 27) 488 = s (gP G a 27) 488)) := by
  refine Con.mk hst (by decide) (fun G s vs h => by rw [h.1]; exact Nat.le_of_ble_eq_true rfl) ?_
  rintro X G s0 vs ⟨rfl, hG, hS0, ha, hx1⟩ rfl hx hq
  show JJ X E 8 G s0 0 0 [(0, .ref a), (1, .int (zI x1))] 0 []
  refine j_iload_n hx 1 dX12_shuffles_0 rfl ?_
  refine j_istore_n hx [(2, .int (zI x1)), (0, .ref a), (1, .int (zI x1))] dX12_shuffles_1 (by decide) rfl ?_
  refine j_iconst hx dX12_shuffles_2 ?_
  refine j_istore_n hx [(3, .int (zI 0)), (2, .int (zI x1)), (0, .ref a), (1, .int (zI x1))] dX12_shuffles_3 (by decide) rfl ?_
  have c4_1 : ∀ (m_c4_1 : Nat) (v1 : Int) (v2 : Int) (s2 : zS), 2147483648 - v2 < m_c4_1 → ((-2147483648) ≤ v1 ∧ v1 ≤ 2147483647) → (0 ≤ v2 ∧ v2 ≤ 3) → (zSK G s2) → (zFr [84] G s0 s2) → (zc (s2 (gP G a 27)) = zc (s0 (gP G a 27))) → (s2 (gP G a 27) 488 = s0 (gP G a 27) 488) → JJ X E 8 G s2 0 0 [(0, .ref a), (2, .int (zI v1)), (3, .int (zI v2))] 4 [] := by
    intro m_c4_1
    induction m_c4_1 with
    | zero => intro v1 v2 s2 hm_c4_1 fA3 fA4 hS_s2 hF_s2 fA7 fA8; exfalso; omega
    | succ m_c4_1 ih_c4_1 => 
      intro v1 v2 s2 hm_c4_1 fA3 fA4 hS_s2 hF_s2 fA7 fA8
      refine j_iload_n hx 2 dX12_shuffles_4 rfl ?_
      refine j_aload_n hx 0 dX12_shuffles_5 rfl ?_
      have f3 := zf hS0 ha (k := 24) rfl
      refine g13_24 hx hG ha kf_RX12_189 (v := (s0 a 24)) (by rw [(zFr_g hF_s2 ha (by decide))]) dX12_shuffles_6 ?_
      refine j_icmp_ge hx 118 dX12_shuffles_9 rfl (by omega) (by omega) (fun h4 => ?_) (fun h4 => ?_)
      · skip
        exact j_vret hx hq rfl (by decide) (by decide) dX12_shuffles_118 ⟨rfl, rfl, hS_s2, (zFr_t zFr_rf hF_s2 (by decide)), ⟨by omega, by omega⟩⟩
      · skip
        refine j_aload_n hx 0 dX12_shuffles_12 rfl ?_
        refine g13_27 hx hG ha kf_RX12_56 dX12_shuffles_13 ?_
        refine j_sipush hx dX12_shuffles_16 rfl ?_
        refine j_iload_n hx 2 dX12_shuffles_19 rfl ?_
        refine j_iadd hx (r := v2 + 480) dX12_shuffles_20 (by omega) ?_
        have f5 := zaQ (j := (v2 + 480).toNat) hS_s2 (zr (k := 27) (t2 := 84) hG ha rfl) (congrArg some (axS_2 (v2 + 480).toNat (by omega))) (zlen hG (zr (k := 27) (t2 := 84) hG ha rfl) (n := 515) rfl rfl) (show 0 ≤ v2 + 480 by omega) (by omega) rfl
        have c6 := zc_1 (j := (v2 + 480).toNat) hS_s2 (zr (k := 27) (t2 := 84) hG ha rfl) (zn hG (zr (k := 27) (t2 := 84) hG ha rfl) rfl) (by omega) (by omega)
        refine j_iald hx hG (zr (k := 27) (t2 := 84) hG ha rfl) (by decide) rfl (zlen hG (zr (k := 27) (t2 := 84) hG ha rfl) (n := 515) rfl rfl) (by omega) (by omega) (j := (v2 + 480).toNat) rfl rfl dX12_shuffles_21 ?_
        refine j_iconst hx dX12_shuffles_22 ?_
        refine j_isub hx (r := (s2 (gP G a 27) (v2 + 480).toNat) - 1) dX12_shuffles_23 (by omega) ?_
        refine j_istore hx [(4, .int (zI ((s2 (gP G a 27) (v2 + 480).toNat) - 1))), (0, .ref a), (2, .int (zI v1)), (3, .int (zI v2))] dX12_shuffles_24 (by decide) rfl ?_
        have c26_9 : ∀ (m_c26_9 : Nat) (v7 : Int) (v8 : Int) (s10 : zS), v8 + 2147483648 < m_c26_9 → ((-2147483648) ≤ v7 ∧ v7 ≤ 2147483647) → ((-1) ≤ v8 ∧ v8 ≤ 59) → (zSK G s10) → (zFr [84] G s2 s10) → (zc (s10 (gP G a 27)) = zc (s2 (gP G a 27))) → (s10 (gP G a 27) 488 = s2 (gP G a 27) 488) → JJ X E 8 G s10 0 0 [(0, .ref a), (2, .int (zI v7)), (3, .int (zI v2)), (4, .int (zI v8))] 26 [] := by
          intro m_c26_9
          induction m_c26_9 with
          | zero => intro v7 v8 s10 hm_c26_9 fA11 fA12 hS_s10 hF_s10 fA15 fA16; exfalso; omega
          | succ m_c26_9 ih_c26_9 => 
            intro v7 v8 s10 hm_c26_9 fA11 fA12 hS_s10 hF_s10 fA15 fA16
            refine j_iload hx 3 dX12_shuffles_26 rfl ?_
            refine j_if_le hx 112 dX12_shuffles_28 rfl (by omega) (fun h9 => ?_) (fun h9 => ?_)
            · skip
              refine j_iinc hx 2 [(3, .int (zI (v2 + 1))), (0, .ref a), (2, .int (zI v7)), (4, .int (zI v8))] dX12_shuffles_112 rfl (by omega) (by decide) rfl ?_
              refine j_goto hx 4 dX12_shuffles_115 rfl ?_
              exact j_sub [1, 2, 0] [(0, .ref a), (2, .int (zI v7)), (3, .int (zI (v2 + 1)))] rfl (ih_c4_1 v7 (v2 + 1) s10 (by omega) (by omega) (by omega) hS_s10 (zFr_t (zFr_t zFr_rf hF_s2 (by decide)) hF_s10 (by decide)) (by omega) (by omega))
            · skip
              refine j_iload_n hx 1 dX12_shuffles_31 rfl ?_
              refine j_ldcw hx (c := 1103515245) dX12_shuffles_32 kk_RX12_384 (by decide) ?_
              refine j_imul hx (r := 1103515245 * v7) dX12_shuffles_35 (by omega) ?_
              refine j_norm (fun v10 f11 f12 f13 => ?_)
              refine j_sipush hx dX12_shuffles_36 rfl ?_
              refine j_iadd hx (r := v10 + 12345) dX12_shuffles_39 rfl ?_
              refine j_norm (fun v14 f15 f16 f17 => ?_)
              refine j_istore_n hx [(2, .int (zI v14)), (0, .ref a), (3, .int (zI v2)), (4, .int (zI v8))] dX12_shuffles_40 (by decide) rfl ?_
              refine j_iconst hx dX12_shuffles_41 ?_
              refine j_bipush hx dX12_shuffles_42 rfl ?_
              refine j_iload_n hx 2 dX12_shuffles_44 rfl ?_
              refine j_imul hx (r := 60 * v2) dX12_shuffles_45 rfl ?_
              refine j_iadd hx (r := 60 * v2) dX12_shuffles_46 (by omega) ?_
              refine j_iload hx 3 dX12_shuffles_47 rfl ?_
              refine j_iadd hx (r := 60 * v2 + v8) dX12_shuffles_49 (by omega) ?_
              refine j_istore hx [(5, .int (zI (60 * v2 + v8))), (2, .int (zI v14)), (0, .ref a), (3, .int (zI v2)), (4, .int (zI v8))] dX12_shuffles_50 (by decide) rfl ?_
              refine j_iconst hx dX12_shuffles_52 ?_
              refine j_bipush hx dX12_shuffles_53 rfl ?_
              refine j_iload_n hx 3 dX12_shuffles_55 rfl ?_
              refine j_imul hx (r := 60 * v2) dX12_shuffles_56 rfl ?_
              refine j_iadd hx (r := 60 * v2) dX12_shuffles_57 (by omega) ?_
              refine j_iload_n hx 1 dX12_shuffles_58 rfl ?_
              refine j_bipush hx dX12_shuffles_59 rfl ?_
              refine j_ishr hx 16 65536 dX12_shuffles_61 (by omega) rfl (by decide) (by decide) (fun v18 f19 f20 f21 f22 => ?_)
              refine j_sipush hx dX12_shuffles_62 rfl ?_
              refine j_iand hx dX12_shuffles_65 (by omega) ⟨by decide, by decide⟩ (fun v23 f24 f25 f26 f27 _ => ?_)
              refine j_iload hx 4 dX12_shuffles_66 rfl ?_
              refine j_iconst hx dX12_shuffles_68 ?_
              refine j_iadd hx (r := v8 + 1) dX12_shuffles_69 rfl ?_
              refine j_irem hx dX12_shuffles_70 (by omega) (by omega) (by omega) (fun v29 f30 f31 f32 f33 => ?_)
              have f35 : 0 ≤ v29 := by rw [f32 (by omega) (by omega)]; exact Int.emod_nonneg _ (by omega)
              refine j_iadd hx (r := 60 * v2 + v29) dX12_shuffles_71 (by omega) ?_
              refine j_istore hx [(6, .int (zI (60 * v2 + v29))), (5, .int (zI (60 * v2 + v8))), (2, .int (zI v14)), (0, .ref a), (3, .int (zI v2)), (4, .int (zI v8))] dX12_shuffles_72 (by decide) rfl ?_
              refine j_aload_n hx 3 dX12_shuffles_74 rfl ?_
              refine g13_27 hx hG ha kf_RX12_56 dX12_shuffles_75 ?_
              refine j_iload hx 1 dX12_shuffles_78 rfl ?_
              have f36 := zaQ (j := (60 * v2 + v8).toNat) hS_s10 (zr (k := 27) (t2 := 84) hG ha rfl) (congrArg some (axS_0 (60 * v2 + v8).toNat (by omega))) (zlen hG (zr (k := 27) (t2 := 84) hG ha rfl) (n := 515) rfl rfl) (show 0 ≤ 60 * v2 + v8 by omega) (by omega) rfl
              refine j_iald hx hG (zr (k := 27) (t2 := 84) hG ha rfl) (by decide) rfl (zlen hG (zr (k := 27) (t2 := 84) hG ha rfl) (n := 515) rfl rfl) (by omega) (by omega) (j := (60 * v2 + v8).toNat) rfl rfl dX12_shuffles_80 ?_
              refine j_istore hx [(7, .int (zI ((s10 (gP G a 27) (60 * v2 + v8).toNat)))), (6, .int (zI (60 * v2 + v29))), (5, .int (zI (60 * v2 + v8))), (2, .int (zI v14)), (0, .ref a), (3, .int (zI v2)), (4, .int (zI v8))] dX12_shuffles_81 (by decide) rfl ?_
              refine j_aload_n hx 4 dX12_shuffles_83 rfl ?_
              refine g13_27 hx hG ha kf_RX12_56 dX12_shuffles_84 ?_
              refine j_iload hx 2 dX12_shuffles_87 rfl ?_
              refine j_aload_n hx 4 dX12_shuffles_89 rfl ?_
              refine g13_27 hx hG ha kf_RX12_56 dX12_shuffles_90 ?_
              refine j_iload hx 1 dX12_shuffles_93 rfl ?_
              have f37 := zaQ (j := (60 * v2 + v29).toNat) hS_s10 (zr (k := 27) (t2 := 84) hG ha rfl) (congrArg some (axS_0 (60 * v2 + v29).toNat (by omega))) (zlen hG (zr (k := 27) (t2 := 84) hG ha rfl) (n := 515) rfl rfl) (show 0 ≤ 60 * v2 + v29 by omega) (by omega) rfl
              refine j_iald hx hG (zr (k := 27) (t2 := 84) hG ha rfl) (by decide) rfl (zlen hG (zr (k := 27) (t2 := 84) hG ha rfl) (n := 515) rfl rfl) (by omega) (by omega) (j := (60 * v2 + v29).toNat) rfl rfl dX12_shuffles_95 ?_
              refine j_iast hx hG (zr (k := 27) (t2 := 84) hG ha rfl) (by decide) rfl (zlen hG (zr (k := 27) (t2 := 84) hG ha rfl) (n := 515) rfl rfl) (by omega) (by omega) (j := (60 * v2 + v8).toNat) rfl dX12_shuffles_96 ?_
              obtain ⟨s17, e_s17⟩ : ∃ z, z = zU s10 (gP G a 27) (60 * v2 + v8).toNat ((s10 (gP G a 27) (60 * v2 + v29).toNat)) := ⟨_, rfl⟩
              rw [← e_s17]
              have hS_s17 : zSK G s17 := by rw [e_s17]; exact zSK_a hS_s10 (zr (k := 27) (t2 := 84) hG ha rfl) rfl rfl (congrArg some (axS_0 (60 * v2 + v8).toNat (by omega))) (by omega)
              have z38 : zc (s17 (gP G a 27)) = zc (s10 (gP G a 27)) := by rw [e_s17]; exact zc_o (by omega)
              refine j_aload_n hx 4 dX12_shuffles_97 rfl ?_
              refine g13_27 hx hG ha kf_RX12_56 dX12_shuffles_98 ?_
              refine j_iload hx 1 dX12_shuffles_101 rfl ?_
              refine j_iload hx 0 dX12_shuffles_103 rfl ?_
              refine j_iast hx hG (zr (k := 27) (t2 := 84) hG ha rfl) (by decide) rfl (zlen hG (zr (k := 27) (t2 := 84) hG ha rfl) (n := 515) rfl rfl) (by omega) (by omega) (j := (60 * v2 + v29).toNat) rfl dX12_shuffles_105 ?_
              obtain ⟨s18, e_s18⟩ : ∃ z, z = zU s17 (gP G a 27) (60 * v2 + v29).toNat ((s10 (gP G a 27) (60 * v2 + v8).toNat)) := ⟨_, rfl⟩
              rw [← e_s18]
              have hS_s18 : zSK G s18 := by rw [e_s18]; exact zSK_a hS_s17 (zr (k := 27) (t2 := 84) hG ha rfl) rfl rfl (congrArg some (axS_0 (60 * v2 + v29).toNat (by omega))) (by omega)
              have z39 : zc (s18 (gP G a 27)) = zc (s17 (gP G a 27)) := by rw [e_s18]; exact zc_o (by omega)
              refine j_iinc hx 6 [(4, .int (zI (v8 - 1))), (7, .int (zI ((s10 (gP G a 27) (60 * v2 + v8).toNat)))), (6, .int (zI (60 * v2 + v29))), (5, .int (zI (60 * v2 + v8))), (2, .int (zI v14)), (0, .ref a), (3, .int (zI v2))] dX12_shuffles_106 rfl (by omega) (by decide) rfl ?_
              refine j_goto hx 26 dX12_shuffles_109 rfl ?_
              have g40 : s18 (gP G a 27) 488 = s10 (gP G a 27) 488 := (by rw [e_s18, zU_at (Or.inr (by omega)), e_s17, zU_at (Or.inr (by omega))])
              exact j_sub [5, 4, 6, 0] [(0, .ref a), (2, .int (zI v14)), (3, .int (zI v2)), (4, .int (zI (v8 - 1)))] rfl (ih_c26_9 v14 (v8 - 1) s18 (by omega) (by omega) (by omega) hS_s18 (zFr_u (zFr_u (zFr_t zFr_rf hF_s10 (by decide)) e_s17 (zr (k := 27) (t2 := 84) hG ha rfl) (by decide)) e_s18 (zr (k := 27) (t2 := 84) hG ha rfl) (by decide)) (by omega) (by omega))
        exact j_sub [1, 2, 3, 0] [(0, .ref a), (2, .int (zI v1)), (3, .int (zI v2)), (4, .int (zI ((s2 (gP G a 27) (v2 + 480).toNat) - 1)))] rfl (c26_9 (2147483648 * 4) v1 ((s2 (gP G a 27) (v2 + 480).toNat) - 1) s2 (by omega) (by omega) (by omega) hS_s2 zFr_rf (by omega) (by omega))
  exact j_sub [2, 1, 0] [(0, .ref a), (2, .int (zI x1)), (3, .int (zI 0))] rfl (c4_1 (2147483648 * 4) x1 0 s0 (by omega) (by omega) (by omega) hS0 zFr_rf (by omega) (by omega))

theorem lk_RX12_495 : LkV RX12 495 RX12 yX12_shuffles cX12_shuffles 8 none 1 := ⟨km_RX12_495, ki_yX12_shuffles, ks_RX12_yX12_shuffles, kn_RX12, kc_yX12_shuffles, rfl, by decide +kernel, by decide +kernel, by decide +kernel⟩
set_option maxHeartbeats 1200000 in
set_option maxRecDepth 20000 in
theorem c_X12_shuffle {E : zE} {l : Launch} (hst : l.stackTraces = false) (a : Nat) (x1 : Int) : Con E l yX12_shuffle cX12_shuffle 2 none { frames := 1, cells := 0, slots := 0, locals := 27 } (fun G s vs => vs = [.ref a, .int (zI x1)] ∧ zGK G ∧ zSK G s ∧ (gT G a = 13) ∧ ((-2147483648) ≤ x1 ∧ x1 ≤ 2147483647)) (fun G s _ => pV (fun G2 s2 => G2 = G ∧ zSK G s2 ∧ zFr [13, 84, 85] G s s2 ∧ zc (s2 (gP G a 27)) = zc (s (gP G a 27)) ∧ s2 (gP G a 27) 488 = s (gP G a 27) 488 ∧ (zc (s2 (gP G a 28)) = zc (s (gP G a 28)) ∨ zc (s2 (gP G a 28)) = zc (s (gP G a 27))) ∧ (s2 (gP G a 28) 488 = s (gP G a 28) 488 ∨ s2 (gP G a 28) 488 = s (gP G a 27) 488) ∧ s2 a 3 = s a 3 ∧ s2 a 4 = s a 4 ∧ s2 a 5 = s a 5 ∧ s2 a 7 = s a 7 ∧ s2 a 21 = s a 21 ∧ s2 a 22 = s a 22 ∧ s2 a 23 = s a 23 ∧ s2 a 24 = s a 24 ∧ s2 a 38 = s a 38 ∧ s2 a 51 = s a 51 ∧ s2 a 52 = s a 52)) := by
  refine Con.mk hst (by decide) (fun G s vs h => by rw [h.1]; exact Nat.le_of_ble_eq_true rfl) ?_
  rintro X G s0 vs ⟨rfl, hG, hS0, ha, hx1⟩ rfl hx hq
  show JJ X E 2 G s0 0 0 [(0, .ref a), (1, .int (zI x1))] 0 []
  refine j_aload_n hx 0 dX12_shuffle_0 rfl ?_
  refine j_iconst hx dX12_shuffle_1 ?_
  refine p13_0 hx hG ha kf_RX12_3 dX12_shuffle_2 ?_
  obtain ⟨s1, e_s1⟩ : ∃ z, z = zU s0 a 0 0 := ⟨_, rfl⟩
  rw [← e_s1]
  have hS_s1 : zSK G s1 := by rw [e_s1]; exact zSK_F hS0 ha rfl rfl rfl (by omega)
  refine j_aload_n hx 0 dX12_shuffle_5 rfl ?_
  refine j_iload_n hx 1 dX12_shuffle_6 rfl ?_
  have g1 : zc (s1 (gP G a 27)) = zc (s0 (gP G a 27)) := by rw [e_s1, zU_ne (zne ha (zr (k := 27) (t2 := 84) hG ha rfl) (by decide))]
  have g2 : s1 (gP G a 27) 488 = s0 (gP G a 27) 488 := (by rw [e_s1, zU_at (Or.inl (zne ha (zr (k := 27) (t2 := 84) hG ha rfl) (by decide)))])
  refine j_callV hx hG (c_X12_shuffles hst a x1) lk_RX12_495 ha (by decide) rfl rfl rfl rfl [.int (zI x1)] ⟨rfl, hG, hS_s1, ha, (by omega)⟩ rfl rfl ⟨by decide, by decide⟩ ⟨by decide, by decide⟩ (k2 := 0) (n2 := 0) rfl rfl (Nat.le_of_ble_eq_true rfl) dX12_shuffle_7 (kVM (fun s2 hS_s2 hF_s2 q4 => ?_))
  refine j_aload_n hx 0 dX12_shuffle_10 rfl ?_
  refine j_callV hx hG (c_X12_stays hst a) lk_RX12_207 ha (by decide) rfl rfl rfl rfl [] ⟨rfl, hG, hS_s2, ha⟩ rfl rfl ⟨by decide, by decide⟩ ⟨by decide, by decide⟩ (k2 := 0) (n2 := 0) rfl rfl (Nat.le_of_ble_eq_true rfl) dX12_shuffle_11 (kVM (fun s3 hS_s3 hF_s3 q6 => ?_))
  have g7 : zc (s3 (gP G a 27)) = zc (s2 (gP G a 27)) := by rw [hF_s3 (gP G a 27) (by rw [(zr (k := 27) (t2 := 84) hG ha rfl)]; decide)]
  have g8 : s3 (gP G a 27) 488 = s2 (gP G a 27) 488 := (by rw [(zFr_g hF_s3 (zr (k := 27) (t2 := 84) hG ha rfl) (by decide))])
  have g9 : s3 a 3 = s0 a 3 := (by rw [(zFr_g hF_s3 ha (by decide)), (zFr_g hF_s2 ha (by decide)), e_s1, zU_at (Or.inr (by decide))])
  have f10 := zf hS0 ha (k := 3) rfl
  have g11 : s3 a 4 = s0 a 4 := (by rw [(zFr_g hF_s3 ha (by decide)), (zFr_g hF_s2 ha (by decide)), e_s1, zU_at (Or.inr (by decide))])
  have f12 := zf hS0 ha (k := 4) rfl
  have g13 : s3 a 5 = s0 a 5 := (by rw [(zFr_g hF_s3 ha (by decide)), (zFr_g hF_s2 ha (by decide)), e_s1, zU_at (Or.inr (by decide))])
  have f14 := zf hS0 ha (k := 5) rfl
  have g15 : s3 a 7 = s0 a 7 := (by rw [(zFr_g hF_s3 ha (by decide)), (zFr_g hF_s2 ha (by decide)), e_s1, zU_at (Or.inr (by decide))])
  have f16 := zf hS0 ha (k := 7) rfl
  have g17 : s3 a 21 = s0 a 21 := (by rw [(zFr_g hF_s3 ha (by decide)), (zFr_g hF_s2 ha (by decide)), e_s1, zU_at (Or.inr (by decide))])
  have f18 := zf hS0 ha (k := 21) rfl
  have g19 : s3 a 22 = s0 a 22 := (by rw [(zFr_g hF_s3 ha (by decide)), (zFr_g hF_s2 ha (by decide)), e_s1, zU_at (Or.inr (by decide))])
  have f20 := zf hS0 ha (k := 22) rfl
  have g21 : s3 a 23 = s0 a 23 := (by rw [(zFr_g hF_s3 ha (by decide)), (zFr_g hF_s2 ha (by decide)), e_s1, zU_at (Or.inr (by decide))])
  have f22 := zf hS0 ha (k := 23) rfl
  have g23 : s3 a 24 = s0 a 24 := (by rw [(zFr_g hF_s3 ha (by decide)), (zFr_g hF_s2 ha (by decide)), e_s1, zU_at (Or.inr (by decide))])
  have f24 := zf hS0 ha (k := 24) rfl
  have g25 : s3 a 38 = s0 a 38 := (by rw [(zFr_g hF_s3 ha (by decide)), (zFr_g hF_s2 ha (by decide)), e_s1, zU_at (Or.inr (by decide))])
  have f26 := zf hS0 ha (k := 38) rfl
  have g27 : s3 a 51 = s0 a 51 := (by rw [(zFr_g hF_s3 ha (by decide)), (zFr_g hF_s2 ha (by decide)), e_s1, zU_at (Or.inr (by decide))])
  have f28 := zf hS0 ha (k := 51) rfl
  have g29 : s3 a 52 = s0 a 52 := (by rw [(zFr_g hF_s3 ha (by decide)), (zFr_g hF_s2 ha (by decide)), e_s1, zU_at (Or.inr (by decide))])
  have f30 := zf hS0 ha (k := 52) rfl
  exact j_vret hx hq rfl (by decide) (by decide) dX12_shuffle_14 ⟨rfl, rfl, hS_s3, (zFr_t (zFr_t (zFr_u zFr_rf e_s1 ha (by decide)) hF_s2 (by decide)) hF_s3 (by decide)), ⟨by omega, by omega, by omega, by omega, by omega, by omega, by omega, by omega, by omega, by omega, by omega, by omega, by omega, by omega, by omega⟩⟩
