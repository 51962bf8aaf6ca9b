theorem lk_RX12_328 : LkV RX12 328 RX12 yX12_isOver cX12_isOver 3 (some .boolean) 0 := ⟨km_RX12_328, ki_yX12_isOver, ks_RX12_yX12_isOver, kn_RX12, kc_yX12_isOver, rfl, by decide +kernel, by decide +kernel, by decide +kernel⟩
set_option maxHeartbeats 4000000 in
set_option maxRecDepth 20000 in
theorem c_X12_whose {E : zE} {l : Launch} (hst : l.stackTraces = false) (a : Nat) : Con E l yX12_whose cX12_whose 1 (some .int) { frames := 1, cells := 0, slots := 0, locals := 22 } (fun G s vs => vs = [.ref a] ∧ zGK G ∧ zSK G s ∧ (gT G a = 13)) (fun G s _ => pI (fun r G2 s2 => G2 = G ∧ s2 = s ∧ ((-1) ≤ r ∧ r ≤ (-1)))) := by
  refine Con.mk hst (by decide) (fun G s vs h => by rw [h.1]; exact Nat.le_of_ble_eq_true rfl) ?_
  rintro X G s0 vs ⟨rfl, hG, hS0, ha⟩ rfl hx hq
  show JJ X E 1 G s0 0 0 [(0, .ref a)] 0 []
  refine j_aload_n hx 0 dX12_whose_0 rfl ?_
  refine j_callV hx hG (c_X12_isOver hst a) lk_RX12_328 ha (by decide) rfl rfl rfl rfl [] ⟨rfl, hG, hS0, ha⟩ rfl rfl ⟨by decide, by decide⟩ ⟨by decide, by decide⟩ (k2 := 0) (n2 := 0) rfl rfl (Nat.le_of_ble_eq_true rfl) dX12_whose_1 (kIP (fun v1 q2 => ?_))
  refine j_if_eq hx 11 dX12_whose_4 rfl (by omega) (fun h3 => absurd h3 (by omega)) (fun h3 => ?_)
  refine j_iconst hx dX12_whose_7 ?_
  refine j_goto hx 23 dX12_whose_8 rfl ?_
  exact j_iret hx hq rfl (by decide) (by decide) dX12_whose_23 ⟨(-1), rfl, rfl, rfl, (by omega)⟩

theorem lk_RX12_336 : LkV RX12 336 RX12 yX12_whose cX12_whose 1 (some .int) 0 := ⟨km_RX12_336, ki_yX12_whose, ks_RX12_yX12_whose, kn_RX12, kc_yX12_whose, rfl, by decide +kernel, by decide +kernel, by decide +kernel⟩
set_option maxHeartbeats 4000000 in
set_option maxRecDepth 20000 in
theorem c_X12_told {E : zE} {l : Launch} (hst : l.stackTraces = false) (a : Nat) (x1 : Int) : Con E l yX12_told cX12_told 2 (some .int) { frames := 2, cells := 0, slots := 0, locals := 42 } (fun G s vs => vs = [.ref a, .int (zI x1)] ∧ zGK G ∧ zSK G s ∧ (gT G a = 13) ∧ ((-2147483648) ≤ x1 ∧ x1 ≤ 2147483647) ∧ (zS0m G s)) (fun G s _ => pI (fun r G2 s2 => G2 = G ∧ zSK G s2 ∧ zFr [13, 71] G s s2 ∧ ((-1) ≤ r ∧ r ≤ 0) ∧ (((0 ≤ x1 ∧ x1 ≤ 8) → s2 a 0 = 0 ∧ ((x1 = 3 → r = -1) ∧ (x1 ≠ 3 → r = 0))) ∧ (¬ (0 ≤ x1 ∧ x1 ≤ 8) → s2 a 0 = 1)))) := by
  refine Con.mk hst (by decide) (fun G s vs h => by rw [h.1]; exact Nat.le_of_ble_eq_true rfl) ?_
  rintro X G s0 vs ⟨rfl, hG, hS0, ha, hx1, hF0⟩ rfl hx hq
  show JJ X E 2 G s0 0 0 [(0, .ref a), (1, .int (zI x1))] 0 []
  refine j_aload_n hx 0 dX12_told_0 rfl ?_
  refine j_iconst hx dX12_told_1 ?_
  refine p13_0 hx hG ha kf_RX12_3 dX12_told_2 ?_
  obtain ⟨s1, e_s1⟩ : ∃ z, z = zU s0 a 0 0 := ⟨_, rfl⟩
  rw [← e_s1]
  have hS_s1 : zSK G s1 := by rw [e_s1]; exact zSK_F hS0 ha rfl rfl rfl (by omega)
  refine j_aload_n hx 0 dX12_told_5 rfl ?_
  refine j_iload_n hx 1 dX12_told_6 rfl ?_
  refine j_iconst hx dX12_told_7 ?_
  refine j_bipush hx dX12_told_8 rfl ?_
  refine j_callS hx (c_X12_within hst x1 0 8) lk_RX12_314 [.int (zI x1), .int (zI 0), .int (zI 8)] ⟨rfl, hG, hS_s1, (by omega), (by omega), (by omega)⟩ rfl rfl ⟨by decide, by decide⟩ ⟨by decide, by decide⟩ (k2 := 0) (n2 := 0) rfl rfl (Nat.le_of_ble_eq_true rfl) dX12_told_10 (kIP (fun v1 q2 => ?_))
  refine j_iconst hx dX12_told_13 ?_
  refine j_iconst hx dX12_told_14 ?_
  rcases (show v1 = 0 ∨ v1 = 1 by omega) with rfl | rfl
  · skip
    have g4 : s1 a 0 = 0 := (by rw [e_s1, zU_eq])
    refine j_callV hx hG (c_X12_may_f hst a 0 1 1) lk_RX12_240 ha (by decide) rfl rfl rfl rfl [.int (zI 0), .int (zI 1), .int (zI 1)] ⟨rfl, hG, hS_s1, ha, (by omega), (by omega), (by omega), (((by rw [e_s1, zU_eq]) : s1 a 0 = 0).trans (by omega))⟩ rfl rfl ⟨by decide, by decide⟩ ⟨by decide, by decide⟩ (k2 := 0) (n2 := 0) rfl rfl (Nat.le_of_ble_eq_true rfl) dX12_told_15 (kIM (fun v5 s2 hS_s2 hF_s2 q6 => ?_))
    refine j_if_ne hx 23 dX12_told_18 rfl (by omega) (fun h7 => absurd h7 (by omega)) (fun h7 => ?_)
    refine j_iconst hx dX12_told_21 ?_
    exact j_iret hx hq rfl (by decide) (by decide) dX12_told_22 ⟨0, rfl, rfl, hS_s2, (zFr_t (zFr_u zFr_rf e_s1 ha (by decide)) hF_s2 (by decide)), ⟨(by omega), by omega⟩⟩
  · skip
    have g8 : s1 a 0 = 0 := (by rw [e_s1, zU_eq])
    refine j_callV hx hG (c_X12_may_t hst a 1 1 1) lk_RX12_240 ha (by decide) rfl rfl rfl rfl [.int (zI 1), .int (zI 1), .int (zI 1)] ⟨rfl, hG, hS_s1, ha, (by omega), (by omega), (by omega), (((by rw [e_s1, zU_eq]) : s1 a 0 = 0).trans (by omega))⟩ rfl rfl ⟨by decide, by decide⟩ ⟨by decide, by decide⟩ (k2 := 0) (n2 := 0) rfl rfl (Nat.le_of_ble_eq_true rfl) dX12_told_15 (kIP (fun v9 q10 => ?_))
    refine j_if_ne hx 23 dX12_told_18 rfl (by omega) (fun h11 => ?_) (fun h11 => absurd h11 (by omega))
    refine j_iload_n hx 1 dX12_told_23 rfl ?_
    refine j_iconst hx dX12_told_24 ?_
    refine j_icmp_ge hx 60 dX12_told_25 rfl (by omega) ⟨by decide, by decide⟩ (fun h12 => ?_) (fun h12 => ?_)
    · skip
      refine j_iload_n hx 1 dX12_told_60 rfl ?_
      refine j_iconst hx dX12_told_61 ?_
      refine j_icmp_ge hx 86 dX12_told_62 rfl (by omega) ⟨by decide, by decide⟩ (fun h13 => ?_) (fun h13 => ?_)
      · skip
        refine j_iload_n hx 1 dX12_told_86 rfl ?_
        refine j_bipush hx dX12_told_87 rfl ?_
        refine j_icmp_ge hx 107 dX12_told_89 rfl (by omega) ⟨by decide, by decide⟩ (fun h14 => ?_) (fun h14 => ?_)
        · skip
          refine j_aload_n hx 0 dX12_told_107 rfl ?_
          have f15 := z0fm hF0 ha (by decide) (k := 26) rfl
          refine g13_26 hx hG ha kf_RX12_195 (v := (s0 a 26)) (by rw [e_s1, zU_at (Or.inr (by decide))]) dX12_told_108 ?_
          exact j_iret hx hq rfl (by decide) (by decide) dX12_told_111 ⟨(s0 a 26), rfl, rfl, hS_s1, (zFr_u zFr_rf e_s1 ha (by decide)), ⟨(by omega), by omega⟩⟩
        · skip
          refine j_aload_n hx 0 dX12_told_92 rfl ?_
          refine g13_27 hx hG ha kf_RX12_56 dX12_told_93 ?_
          refine j_sipush hx dX12_told_96 rfl ?_
          refine j_iload_n hx 1 dX12_told_99 rfl ?_
          refine j_iadd hx (r := x1 + 491) dX12_told_100 (by omega) ?_
          refine j_iconst hx dX12_told_101 ?_
          refine j_isub hx (r := x1 + 486) dX12_told_102 (by omega) ?_
          have f16 := z0am (j := (x1 + 486).toNat) hF0 (zr (k := 27) (t2 := 84) hG ha rfl) (by decide) (a0D_84 _ (by omega)) (zlen hG (zr (k := 27) (t2 := 84) hG ha rfl) (n := 515) rfl rfl) (show 0 ≤ x1 + 486 by omega) (by omega) rfl
          refine j_iald hx hG (zr (k := 27) (t2 := 84) hG ha rfl) (by decide) rfl (zlen hG (zr (k := 27) (t2 := 84) hG ha rfl) (n := 515) rfl rfl) (by omega) (by omega) (j := (x1 + 486).toNat) rfl (v := (s0 (gP G a 27) (x1 + 486).toNat)) (by rw [e_s1, zU_at (Or.inl (zne ha (zr (k := 27) (t2 := 84) hG ha rfl) (by decide)))]) dX12_told_103 ?_
          refine j_goto hx 111 dX12_told_104 rfl ?_
          exact j_iret hx hq rfl (by decide) (by decide) dX12_told_111 ⟨(s0 (gP G a 27) (x1 + 486).toNat), rfl, rfl, hS_s1, (zFr_u zFr_rf e_s1 ha (by decide)), ⟨(by omega), by omega⟩⟩
      · skip
        refine j_iload_n hx 1 dX12_told_65 rfl ?_
        refine j_iconst hx dX12_told_66 ?_
        refine j_icmp_ne hx 77 dX12_told_67 rfl (by omega) ⟨by decide, by decide⟩ (fun h17 => ?_) (fun h17 => ?_)
        · skip
          refine j_aload_n hx 0 dX12_told_77 rfl ?_
          refine g13_27 hx hG ha kf_RX12_56 dX12_told_78 ?_
          refine j_sipush hx dX12_told_81 rfl ?_
          have f18 := z0am (j := 486) hF0 (zr (k := 27) (t2 := 84) hG ha rfl) (by decide) rfl (zlen hG (zr (k := 27) (t2 := 84) hG ha rfl) (n := 515) rfl rfl) (show 0 ≤ 486 by omega) (by omega) rfl
          refine j_iald hx hG (zr (k := 27) (t2 := 84) hG ha rfl) (by decide) rfl (zlen hG (zr (k := 27) (t2 := 84) hG ha rfl) (n := 515) rfl rfl) (by omega) (by omega) (j := 486) rfl (v := (s0 (gP G a 27) 486)) (by rw [e_s1, zU_at (Or.inl (zne ha (zr (k := 27) (t2 := 84) hG ha rfl) (by decide)))]) dX12_told_84 ?_
          exact j_iret hx hq rfl (by decide) (by decide) dX12_told_85 ⟨(s0 (gP G a 27) 486), rfl, rfl, hS_s1, (zFr_u zFr_rf e_s1 ha (by decide)), ⟨(by omega), by omega⟩⟩
        · skip
          refine j_aload_n hx 0 dX12_told_70 rfl ?_
          refine j_callV hx hG (c_X12_whose hst a) lk_RX12_336 ha (by decide) rfl rfl rfl rfl [] ⟨rfl, hG, hS_s1, ha⟩ rfl rfl ⟨by decide, by decide⟩ ⟨by decide, by decide⟩ (k2 := 0) (n2 := 0) rfl rfl (Nat.le_of_ble_eq_true rfl) dX12_told_71 (kIP (fun v19 q20 => ?_))
          refine j_goto hx 85 dX12_told_74 rfl ?_
          exact j_iret hx hq rfl (by decide) (by decide) dX12_told_85 ⟨v19, rfl, rfl, hS_s1, (zFr_u zFr_rf e_s1 ha (by decide)), ⟨(by omega), by omega⟩⟩
    · skip
      refine j_iload_n hx 1 dX12_told_28 rfl ?_
      refine j_if_ne hx 39 dX12_told_29 rfl (by omega) (fun h21 => ?_) (fun h21 => ?_)
      · skip
        refine j_iload_n hx 1 dX12_told_39 rfl ?_
        refine j_iconst hx dX12_told_40 ?_
        refine j_icmp_ne hx 51 dX12_told_41 rfl (by omega) ⟨by decide, by decide⟩ (fun h22 => ?_) (fun h22 => ?_)
        · skip
          refine j_aload_n hx 0 dX12_told_51 rfl ?_
          refine g13_27 hx hG ha kf_RX12_56 dX12_told_52 ?_
          refine j_sipush hx dX12_told_55 rfl ?_
          have f23 := z0am (j := 488) hF0 (zr (k := 27) (t2 := 84) hG ha rfl) (by decide) rfl (zlen hG (zr (k := 27) (t2 := 84) hG ha rfl) (n := 515) rfl rfl) (show 0 ≤ 488 by omega) (by omega) rfl
          refine j_iald hx hG (zr (k := 27) (t2 := 84) hG ha rfl) (by decide) rfl (zlen hG (zr (k := 27) (t2 := 84) hG ha rfl) (n := 515) rfl rfl) (by omega) (by omega) (j := 488) rfl (v := (s0 (gP G a 27) 488)) (by rw [e_s1, zU_at (Or.inl (zne ha (zr (k := 27) (t2 := 84) hG ha rfl) (by decide)))]) dX12_told_58 ?_
          exact j_iret hx hq rfl (by decide) (by decide) dX12_told_59 ⟨(s0 (gP G a 27) 488), rfl, rfl, hS_s1, (zFr_u zFr_rf e_s1 ha (by decide)), ⟨(by omega), by omega⟩⟩
        · skip
          refine j_aload_n hx 0 dX12_told_44 rfl ?_
          have f24 := z0fm hF0 ha (by decide) (k := 25) rfl
          refine g13_25 hx hG ha kf_RX12_192 (v := (s0 a 25)) (by rw [e_s1, zU_at (Or.inr (by decide))]) dX12_told_45 ?_
          refine j_goto hx 59 dX12_told_48 rfl ?_
          exact j_iret hx hq rfl (by decide) (by decide) dX12_told_59 ⟨(s0 a 25), rfl, rfl, hS_s1, (zFr_u zFr_rf e_s1 ha (by decide)), ⟨(by omega), by omega⟩⟩
      · skip
        refine j_aload_n hx 0 dX12_told_32 rfl ?_
        have f25 := z0fm hF0 ha (by decide) (k := 24) rfl
        refine g13_24 hx hG ha kf_RX12_189 (v := (s0 a 24)) (by rw [e_s1, zU_at (Or.inr (by decide))]) dX12_told_33 ?_
        refine j_goto hx 59 dX12_told_36 rfl ?_
        exact j_iret hx hq rfl (by decide) (by decide) dX12_told_59 ⟨(s0 a 24), rfl, rfl, hS_s1, (zFr_u zFr_rf e_s1 ha (by decide)), ⟨(by omega), by omega⟩⟩

set_option maxHeartbeats 4000000 in
set_option maxRecDepth 20000 in
theorem c_X12_isPlayer {E : zE} {l : Launch} (hst : l.stackTraces = false) (a : Nat) (x1 : Int) (x2 : Int) : Con E l yX12_isPlayer cX12_isPlayer 3 (some .boolean) { frames := 1, cells := 0, slots := 0, locals := 23 } (fun G s vs => vs = [.ref a, .int (zI x1), .int (zI x2)] ∧ zGK G ∧ zSK G s ∧ (gT G a = 13) ∧ ((-2147483648) ≤ x1 ∧ x1 ≤ 2147483647) ∧ (1 ≤ x2 ∧ x2 ≤ 2) ∧ (s a 0 = 0)) (fun G s _ => pI (fun r G2 s2 => G2 = G ∧ zSK G s2 ∧ zFr [13, 71] G s s2 ∧ (0 ≤ r ∧ r ≤ 0) ∧ s2 a 0 = x2)) := by
  refine Con.mk hst (by decide) (fun G s vs h => by rw [h.1]; exact Nat.le_of_ble_eq_true rfl) ?_
  rintro X G s0 vs ⟨rfl, hG, hS0, ha, hx1, hx2, e0⟩ rfl hx hq
  show JJ X E 3 G s0 0 0 [(0, .ref a), (1, .int (zI x1)), (2, .int (zI x2))] 0 []
  refine j_aload_n hx 0 dX12_isPlayer_0 rfl ?_
  refine j_iload_n hx 1 dX12_isPlayer_1 rfl ?_
  refine j_iconst hx dX12_isPlayer_2 ?_
  refine j_aload_n hx 0 dX12_isPlayer_3 rfl ?_
  have f1 := zf hS0 ha (k := 24) rfl
  refine g13_24 hx hG ha kf_RX12_189 rfl dX12_isPlayer_4 ?_
  refine j_iconst hx dX12_isPlayer_7 ?_
  refine j_isub hx (r := (s0 a 24) - 1) dX12_isPlayer_8 (by omega) ?_
  refine j_callS hx (c_X12_within hst x1 0 ((s0 a 24) - 1)) lk_RX12_314 [.int (zI x1), .int (zI 0), .int (zI ((s0 a 24) - 1))] ⟨rfl, hG, hS0, (by omega), (by omega), (by omega)⟩ rfl rfl ⟨by decide, by decide⟩ ⟨by decide, by decide⟩ (k2 := 0) (n2 := 0) rfl rfl (Nat.le_of_ble_eq_true rfl) dX12_isPlayer_9 (kIP (fun v2 q3 => ?_))
  refine j_iload_n hx 2 dX12_isPlayer_12 rfl ?_
  refine j_iconst hx dX12_isPlayer_13 ?_
  rcases (show v2 = 0 ∨ v2 = 1 by omega) with rfl | rfl
  · skip
    refine j_callV hx hG (c_X12_may_f hst a 0 x2 0) lk_RX12_240 ha (by decide) rfl rfl rfl rfl [.int (zI 0), .int (zI x2), .int (zI 0)] ⟨rfl, hG, hS0, ha, (by omega), (by omega), (by omega), (by omega)⟩ rfl rfl ⟨by decide, by decide⟩ ⟨by decide, by decide⟩ (k2 := 0) (n2 := 0) rfl rfl (Nat.le_of_ble_eq_true rfl) dX12_isPlayer_14 (kIM (fun v5 s1 hS_s1 hF_s1 q6 => ?_))
    have f7 := zf hS_s1 ha (k := 0) rfl
    exact j_zret hx hq rfl (by decide) (by decide) dX12_isPlayer_17 (by omega) ⟨v5, rfl, rfl, hS_s1, (zFr_t zFr_rf hF_s1 (by decide)), ⟨(by omega), by omega⟩⟩
  · skip
    refine j_callV hx hG (c_X12_may_t hst a 1 x2 0) lk_RX12_240 ha (by decide) rfl rfl rfl rfl [.int (zI 1), .int (zI x2), .int (zI 0)] ⟨rfl, hG, hS0, ha, (by omega), (by omega), (by omega), (by omega)⟩ rfl rfl ⟨by decide, by decide⟩ ⟨by decide, by decide⟩ (k2 := 0) (n2 := 0) rfl rfl (Nat.le_of_ble_eq_true rfl) dX12_isPlayer_14 (kIP (fun v8 q9 => ?_))
    exact j_zret hx hq rfl (by decide) (by decide) dX12_isPlayer_17 (by omega) ⟨v8, rfl, rfl, hS0, zFr_rf, ⟨(by omega), by omega⟩⟩

theorem lk_RX12_339 : LkV RX12 339 RX12 yX12_isPlayer cX12_isPlayer 3 (some .boolean) 2 := ⟨km_RX12_339, ki_yX12_isPlayer, ks_RX12_yX12_isPlayer, kn_RX12, kc_yX12_isPlayer, rfl, by decide +kernel, by decide +kernel, by decide +kernel⟩
set_option maxHeartbeats 4000000 in
set_option maxRecDepth 20000 in
theorem c_X12_player {E : zE} {l : Launch} (hst : l.stackTraces = false) (a : Nat) (x1 : Int) (x2 : Int) : Con E l yX12_player cX12_player 3 (some .int) { frames := 2, cells := 0, slots := 0, locals := 45 } (fun G s vs => vs = [.ref a, .int (zI x1), .int (zI x2)] ∧ zGK G ∧ zSK G s ∧ (gT G a = 13) ∧ ((-2147483648) ≤ x1 ∧ x1 ≤ 2147483647) ∧ ((-2147483648) ≤ x2 ∧ x2 ≤ 2147483647) ∧ (zS0m G s)) (fun G s _ => pI (fun r G2 s2 => G2 = G ∧ zSK G s2 ∧ zFr [13, 71] G s s2 ∧ ((-2147483648) ≤ r ∧ r ≤ 2147483647) ∧ s2 a 0 = 1)) := by
  refine Con.mk hst (by decide) (fun G s vs h => by rw [h.1]; exact Nat.le_of_ble_eq_true rfl) ?_
  rintro X G s0 vs ⟨rfl, hG, hS0, ha, hx1, hx2, hF0⟩ rfl hx hq
  show JJ X E 3 G s0 0 0 [(0, .ref a), (1, .int (zI x1)), (2, .int (zI x2))] 0 []
  refine j_aload_n hx 0 dX12_player_0 rfl ?_
  refine j_iconst hx dX12_player_1 ?_
  refine p13_0 hx hG ha kf_RX12_3 dX12_player_2 ?_
  obtain ⟨s1, e_s1⟩ : ∃ z, z = zU s0 a 0 0 := ⟨_, rfl⟩
  rw [← e_s1]
  have hS_s1 : zSK G s1 := by rw [e_s1]; exact zSK_F hS0 ha rfl rfl rfl (by omega)
  refine j_aload_n hx 0 dX12_player_5 rfl ?_
  refine j_iload_n hx 1 dX12_player_6 rfl ?_
  refine j_iconst hx dX12_player_7 ?_
  have g1 : s1 a 0 = 0 := (by rw [e_s1, zU_eq])
  refine j_callV hx hG (c_X12_isPlayer hst a x1 1) lk_RX12_339 ha (by decide) rfl rfl rfl rfl [.int (zI x1), .int (zI 1)] ⟨rfl, hG, hS_s1, ha, (by omega), (by omega), (((by rw [e_s1, zU_eq]) : s1 a 0 = 0).trans (by omega))⟩ rfl rfl ⟨by decide, by decide⟩ ⟨by decide, by decide⟩ (k2 := 0) (n2 := 0) rfl rfl (Nat.le_of_ble_eq_true rfl) dX12_player_8 (kIM (fun v2 s2 hS_s2 hF_s2 q3 => ?_))
  refine j_if_eq hx 30 dX12_player_11 rfl (by omega) (fun h4 => ?_) (fun h4 => absurd h4 (by omega))
  refine j_iconst hx dX12_player_30 ?_
  exact j_iret hx hq rfl (by decide) (by decide) dX12_player_31 ⟨0, rfl, rfl, hS_s2, (zFr_t (zFr_u zFr_rf e_s1 ha (by decide)) hF_s2 (by decide)), ⟨(by omega), by omega⟩⟩

set_option maxHeartbeats 4000000 in
set_option maxRecDepth 20000 in
theorem c_X12_row {E : zE} {l : Launch} (hst : l.stackTraces = false) (a : Nat) (x1 : Int) (x2 : Int) : Con E l yX12_row cX12_row 3 (some .int) { frames := 2, cells := 0, slots := 0, locals := 45 } (fun G s vs => vs = [.ref a, .int (zI x1), .int (zI x2)] ∧ zGK G ∧ zSK G s ∧ (gT G a = 13) ∧ ((-2147483648) ≤ x1 ∧ x1 ≤ 2147483647) ∧ ((-2147483648) ≤ x2 ∧ x2 ≤ 2147483647) ∧ (zS0m G s)) (fun G s _ => pI (fun r G2 s2 => G2 = G ∧ zSK G s2 ∧ zFr [13, 71] G s s2 ∧ ((-2147483648) ≤ r ∧ r ≤ 2147483647) ∧ s2 a 0 = 1)) := by
  refine Con.mk hst (by decide) (fun G s vs h => by rw [h.1]; exact Nat.le_of_ble_eq_true rfl) ?_
  rintro X G s0 vs ⟨rfl, hG, hS0, ha, hx1, hx2, hF0⟩ rfl hx hq
  show JJ X E 3 G s0 0 0 [(0, .ref a), (1, .int (zI x1)), (2, .int (zI x2))] 0 []
  refine j_aload_n hx 0 dX12_row_0 rfl ?_
  refine j_iconst hx dX12_row_1 ?_
  refine p13_0 hx hG ha kf_RX12_3 dX12_row_2 ?_
  obtain ⟨s1, e_s1⟩ : ∃ z, z = zU s0 a 0 0 := ⟨_, rfl⟩
  rw [← e_s1]
  have hS_s1 : zSK G s1 := by rw [e_s1]; exact zSK_F hS0 ha rfl rfl rfl (by omega)
  refine j_aload_n hx 0 dX12_row_5 rfl ?_
  refine j_iload_n hx 1 dX12_row_6 rfl ?_
  refine j_iconst hx dX12_row_7 ?_
  have g1 : s1 a 0 = 0 := (by rw [e_s1, zU_eq])
  refine j_callV hx hG (c_X12_isPlayer hst a x1 1) lk_RX12_339 ha (by decide) rfl rfl rfl rfl [.int (zI x1), .int (zI 1)] ⟨rfl, hG, hS_s1, ha, (by omega), (by omega), (((by rw [e_s1, zU_eq]) : s1 a 0 = 0).trans (by omega))⟩ rfl rfl ⟨by decide, by decide⟩ ⟨by decide, by decide⟩ (k2 := 0) (n2 := 0) rfl rfl (Nat.le_of_ble_eq_true rfl) dX12_row_8 (kIM (fun v2 s2 hS_s2 hF_s2 q3 => ?_))
  refine j_if_ne hx 16 dX12_row_11 rfl (by omega) (fun h4 => absurd h4 (by omega)) (fun h4 => ?_)
  refine j_iconst hx dX12_row_14 ?_
  exact j_iret hx hq rfl (by decide) (by decide) dX12_row_15 ⟨0, rfl, rfl, hS_s2, (zFr_t (zFr_u zFr_rf e_s1 ha (by decide)) hF_s2 (by decide)), ⟨(by omega), by omega⟩⟩

set_option maxHeartbeats 4000000 in
set_option maxRecDepth 20000 in
theorem c_X12_heap {E : zE} {l : Launch} (hst : l.stackTraces = false) (a : Nat) (x1 : Int) (x2 : Int) : Con E l yX12_heap cX12_heap 3 (some .int) { frames := 2, cells := 0, slots := 0, locals := 45 } (fun G s vs => vs = [.ref a, .int (zI x1), .int (zI x2)] ∧ zGK G ∧ zSK G s ∧ (gT G a = 13) ∧ ((-2147483648) ≤ x1 ∧ x1 ≤ 2147483647) ∧ ((-2147483648) ≤ x2 ∧ x2 ≤ 2147483647) ∧ (zS0m G s)) (fun G s _ => pI (fun r G2 s2 => G2 = G ∧ zSK G s2 ∧ zFr [13, 71] G s s2 ∧ ((-2147483648) ≤ r ∧ r ≤ 2147483647) ∧ s2 a 0 = 1)) := by
  refine Con.mk hst (by decide) (fun G s vs h => by rw [h.1]; exact Nat.le_of_ble_eq_true rfl) ?_
  rintro X G s0 vs ⟨rfl, hG, hS0, ha, hx1, hx2, hF0⟩ rfl hx hq
  show JJ X E 3 G s0 0 0 [(0, .ref a), (1, .int (zI x1)), (2, .int (zI x2))] 0 []
  refine j_aload_n hx 0 dX12_heap_0 rfl ?_
  refine j_iconst hx dX12_heap_1 ?_
  refine p13_0 hx hG ha kf_RX12_3 dX12_heap_2 ?_
  obtain ⟨s1, e_s1⟩ : ∃ z, z = zU s0 a 0 0 := ⟨_, rfl⟩
  rw [← e_s1]
  have hS_s1 : zSK G s1 := by rw [e_s1]; exact zSK_F hS0 ha rfl rfl rfl (by omega)
  refine j_aload_n hx 0 dX12_heap_5 rfl ?_
  refine j_iload_n hx 1 dX12_heap_6 rfl ?_
  refine j_iconst hx dX12_heap_7 ?_
  have g1 : s1 a 0 = 0 := (by rw [e_s1, zU_eq])
  refine j_callV hx hG (c_X12_isPlayer hst a x1 1) lk_RX12_339 ha (by decide) rfl rfl rfl rfl [.int (zI x1), .int (zI 1)] ⟨rfl, hG, hS_s1, ha, (by omega), (by omega), (((by rw [e_s1, zU_eq]) : s1 a 0 = 0).trans (by omega))⟩ rfl rfl ⟨by decide, by decide⟩ ⟨by decide, by decide⟩ (k2 := 0) (n2 := 0) rfl rfl (Nat.le_of_ble_eq_true rfl) dX12_heap_8 (kIM (fun v2 s2 hS_s2 hF_s2 q3 => ?_))
  refine j_if_ne hx 16 dX12_heap_11 rfl (by omega) (fun h4 => absurd h4 (by omega)) (fun h4 => ?_)
  refine j_iconst hx dX12_heap_14 ?_
  exact j_iret hx hq rfl (by decide) (by decide) dX12_heap_15 ⟨0, rfl, rfl, hS_s2, (zFr_t (zFr_u zFr_rf e_s1 ha (by decide)) hF_s2 (by decide)), ⟨(by omega), by omega⟩⟩

set_option maxHeartbeats 4000000 in
set_option maxRecDepth 20000 in
theorem c_X12_pool {E : zE} {l : Launch} (hst : l.stackTraces = false) (a : Nat) (x1 : Int) : Con E l yX12_pool cX12_pool 2 (some .int) { frames := 1, cells := 0, slots := 0, locals := 22 } (fun G s vs => vs = [.ref a, .int (zI x1)] ∧ zGK G ∧ zSK G s ∧ (gT G a = 13) ∧ ((-2147483648) ≤ x1 ∧ x1 ≤ 2147483647) ∧ (zS0m G s)) (fun G s _ => pI (fun r G2 s2 => G2 = G ∧ zSK G s2 ∧ zFr [13] G s s2 ∧ ((-1) ≤ r ∧ r ≤ (-1)) ∧ s2 a 0 = 0)) := by
  refine Con.mk hst (by decide) (fun G s vs h => by rw [h.1]; exact Nat.le_of_ble_eq_true rfl) ?_
  rintro X G s0 vs ⟨rfl, hG, hS0, ha, hx1, hF0⟩ rfl hx hq
  show JJ X E 2 G s0 0 0 [(0, .ref a), (1, .int (zI x1))] 0 []
  refine j_aload_n hx 0 dX12_pool_0 rfl ?_
  refine j_iconst hx dX12_pool_1 ?_
  refine p13_0 hx hG ha kf_RX12_3 dX12_pool_2 ?_
  obtain ⟨s1, e_s1⟩ : ∃ z, z = zU s0 a 0 0 := ⟨_, rfl⟩
  rw [← e_s1]
  have hS_s1 : zSK G s1 := by rw [e_s1]; exact zSK_F hS0 ha rfl rfl rfl (by omega)
  refine j_iload_n hx 1 dX12_pool_5 rfl ?_
  refine j_iconst hx dX12_pool_6 ?_
  refine j_aload_n hx 0 dX12_pool_7 rfl ?_
  refine g13_27 hx hG ha kf_RX12_56 dX12_pool_8 ?_
  refine j_sipush hx dX12_pool_11 rfl ?_
  have f1 := z0am (j := 486) hF0 (zr (k := 27) (t2 := 84) hG ha rfl) (by decide) rfl (zlen hG (zr (k := 27) (t2 := 84) hG ha rfl) (n := 515) rfl rfl) (show 0 ≤ 486 by omega) (by omega) rfl
  refine j_iald hx hG (zr (k := 27) (t2 := 84) hG ha rfl) (by decide) rfl (zlen hG (zr (k := 27) (t2 := 84) hG ha rfl) (n := 515) rfl rfl) (by omega) (by omega) (j := 486) rfl (v := (s0 (gP G a 27) 486)) (by rw [e_s1, zU_at (Or.inl (zne ha (zr (k := 27) (t2 := 84) hG ha rfl) (by decide)))]) dX12_pool_14 ?_
  refine j_iconst hx dX12_pool_15 ?_
  refine j_isub hx (r := (s0 (gP G a 27) 486) - 1) dX12_pool_16 (by omega) ?_
  refine j_callS hx (c_X12_within hst x1 0 ((s0 (gP G a 27) 486) - 1)) lk_RX12_314 [.int (zI x1), .int (zI 0), .int (zI ((s0 (gP G a 27) 486) - 1))] ⟨rfl, hG, hS_s1, (by omega), (by omega), (by omega)⟩ rfl rfl ⟨by decide, by decide⟩ ⟨by decide, by decide⟩ (k2 := 0) (n2 := 0) rfl rfl (Nat.le_of_ble_eq_true rfl) dX12_pool_17 (kIP (fun v2 q3 => ?_))
  refine j_if_eq hx 41 dX12_pool_20 rfl (by omega) (fun h4 => ?_) (fun h4 => ?_)
  · skip
    refine j_iconst hx dX12_pool_41 ?_
    have g5 : s1 a 0 = 0 := (by rw [e_s1, zU_eq])
    exact j_iret hx hq rfl (by decide) (by decide) dX12_pool_42 ⟨(-1), rfl, rfl, hS_s1, (zFr_u zFr_rf e_s1 ha (by decide)), ⟨(by omega), by omega⟩⟩
  · skip
    refine j_aload_n hx 0 dX12_pool_23 rfl ?_
    refine g13_19 hx hG ha kf_RX12_50 dX12_pool_24 ?_
    refine j_aload_n hx 0 dX12_pool_27 rfl ?_
    refine g13_27 hx hG ha kf_RX12_56 dX12_pool_28 ?_
    refine j_sipush hx dX12_pool_31 rfl ?_
    refine j_iload_n hx 1 dX12_pool_34 rfl ?_
    refine j_iadd hx (r := x1 + 360) dX12_pool_35 (by omega) ?_
    have f6 := z0am (j := (x1 + 360).toNat) hF0 (zr (k := 27) (t2 := 84) hG ha rfl) (by decide) (a0D_84 _ (by omega)) (zlen hG (zr (k := 27) (t2 := 84) hG ha rfl) (n := 515) rfl rfl) (show 0 ≤ x1 + 360 by omega) (by omega) rfl
    refine j_iald hx hG (zr (k := 27) (t2 := 84) hG ha rfl) (by decide) rfl (zlen hG (zr (k := 27) (t2 := 84) hG ha rfl) (n := 515) rfl rfl) (by omega) (by omega) (j := (x1 + 360).toNat) rfl (v := (s0 (gP G a 27) (x1 + 360).toNat)) (by rw [e_s1, zU_at (Or.inl (zne ha (zr (k := 27) (t2 := 84) hG ha rfl) (by decide)))]) dX12_pool_36 ?_
    have f7 := z0am (j := ((s0 (gP G a 27) (x1 + 360).toNat)).toNat) hF0 (zr (k := 19) (t2 := 82) hG ha rfl) (by decide) rfl (zlen hG (zr (k := 19) (t2 := 82) hG ha rfl) (n := 60) rfl rfl) (show 0 ≤ (s0 (gP G a 27) (x1 + 360).toNat) by omega) (by omega) rfl
    refine j_iald hx hG (zr (k := 19) (t2 := 82) hG ha rfl) (by decide) rfl (zlen hG (zr (k := 19) (t2 := 82) hG ha rfl) (n := 60) rfl rfl) (by omega) (by omega) (j := ((s0 (gP G a 27) (x1 + 360).toNat)).toNat) rfl (v := (s0 (gP G a 19) ((s0 (gP G a 27) (x1 + 360).toNat)).toNat)) (by rw [e_s1, zU_at (Or.inl (zne ha (zr (k := 19) (t2 := 82) hG ha rfl) (by decide)))]) dX12_pool_37 ?_
    refine j_goto hx 42 dX12_pool_38 rfl ?_
    have g8 : s1 a 0 = 0 := (by rw [e_s1, zU_eq])
    exact j_iret hx hq rfl (by decide) (by decide) dX12_pool_42 ⟨(s0 (gP G a 19) ((s0 (gP G a 27) (x1 + 360).toNat)).toNat), rfl, rfl, hS_s1, (zFr_u zFr_rf e_s1 ha (by decide)), ⟨(by omega), by omega⟩⟩

set_option maxHeartbeats 4000000 in
set_option maxRecDepth 20000 in
theorem c_X12_lain {E : zE} {l : Launch} (hst : l.stackTraces = false) (a : Nat) (x1 : Int) (x2 : Int) : Con E l yX12_lain cX12_lain 3 (some .int) { frames := 2, cells := 0, slots := 0, locals := 45 } (fun G s vs => vs = [.ref a, .int (zI x1), .int (zI x2)] ∧ zGK G ∧ zSK G s ∧ (gT G a = 13) ∧ ((-2147483648) ≤ x1 ∧ x1 ≤ 2147483647) ∧ ((-2147483648) ≤ x2 ∧ x2 ≤ 2147483647) ∧ (zS0m G s)) (fun G s _ => pI (fun r G2 s2 => G2 = G ∧ zSK G s2 ∧ zFr [13, 71] G s s2 ∧ ((-2147483648) ≤ r ∧ r ≤ 2147483647) ∧ s2 a 0 = 1)) := by
  refine Con.mk hst (by decide) (fun G s vs h => by rw [h.1]; exact Nat.le_of_ble_eq_true rfl) ?_
  rintro X G s0 vs ⟨rfl, hG, hS0, ha, hx1, hx2, hF0⟩ rfl hx hq
  show JJ X E 3 G s0 0 0 [(0, .ref a), (1, .int (zI x1)), (2, .int (zI x2))] 0 []
  refine j_aload_n hx 0 dX12_lain_0 rfl ?_
  refine j_iconst hx dX12_lain_1 ?_
  refine p13_0 hx hG ha kf_RX12_3 dX12_lain_2 ?_
  obtain ⟨s1, e_s1⟩ : ∃ z, z = zU s0 a 0 0 := ⟨_, rfl⟩
  rw [← e_s1]
  have hS_s1 : zSK G s1 := by rw [e_s1]; exact zSK_F hS0 ha rfl rfl rfl (by omega)
  refine j_aload_n hx 0 dX12_lain_5 rfl ?_
  refine j_iload_n hx 1 dX12_lain_6 rfl ?_
  refine j_iconst hx dX12_lain_7 ?_
  have g1 : s1 a 0 = 0 := (by rw [e_s1, zU_eq])
  refine j_callV hx hG (c_X12_isPlayer hst a x1 1) lk_RX12_339 ha (by decide) rfl rfl rfl rfl [.int (zI x1), .int (zI 1)] ⟨rfl, hG, hS_s1, ha, (by omega), (by omega), (((by rw [e_s1, zU_eq]) : s1 a 0 = 0).trans (by omega))⟩ rfl rfl ⟨by decide, by decide⟩ ⟨by decide, by decide⟩ (k2 := 0) (n2 := 0) rfl rfl (Nat.le_of_ble_eq_true rfl) dX12_lain_8 (kIM (fun v2 s2 hS_s2 hF_s2 q3 => ?_))
  refine j_if_ne hx 16 dX12_lain_11 rfl (by omega) (fun h4 => absurd h4 (by omega)) (fun h4 => ?_)
  refine j_iconst hx dX12_lain_14 ?_
  exact j_iret hx hq rfl (by decide) (by decide) dX12_lain_15 ⟨0, rfl, rfl, hS_s2, (zFr_t (zFr_u zFr_rf e_s1 ha (by decide)) hF_s2 (by decide)), ⟨(by omega), by omega⟩⟩

set_option maxHeartbeats 4000000 in
set_option maxRecDepth 20000 in
theorem c_X12_alikes {E : zE} {l : Launch} (hst : l.stackTraces = false) (a : Nat) : Con E l yX12_alikes cX12_alikes 3 (some .int) { frames := 0, cells := 0, slots := 0, locals := 0 } (fun G s vs => vs = [.ref a] ∧ zGK G ∧ zSK G s ∧ (gT G a = 13)) (fun G s _ => pI (fun r G2 s2 => G2 = G ∧ s2 = s ∧ ((-1) ≤ r ∧ r ≤ (-1)))) := by
  refine Con.mk hst (by decide) (fun G s vs h => by rw [h.1]; exact Nat.le_of_ble_eq_true rfl) ?_
  rintro X G s0 vs ⟨rfl, hG, hS0, ha⟩ rfl hx hq
  show JJ X E 3 G s0 0 0 [(0, .ref a)] 0 []
  refine j_iconst hx dX12_alikes_0 ?_
  refine j_istore_n hx [(1, .int (zI 0)), (0, .ref a)] dX12_alikes_1 (by decide) rfl ?_
  refine j_iload_n hx 0 dX12_alikes_2 rfl ?_
  refine j_aload_n hx 1 dX12_alikes_3 rfl ?_
  have f1 := zf hS0 ha (k := 24) rfl
  refine g13_24 hx hG ha kf_RX12_189 rfl dX12_alikes_4 ?_
  refine j_icmp_ge hx 63 dX12_alikes_7 rfl ⟨by decide, by decide⟩ (by omega) (fun h2 => ?_) (fun h2 => absurd h2 (by omega))
  refine j_iconst hx dX12_alikes_63 ?_
  exact j_iret hx hq rfl (by decide) (by decide) dX12_alikes_64 ⟨(-1), rfl, rfl, rfl, (by omega)⟩

theorem lk_RX12_343 : LkV RX12 343 RX12 yX12_alikes cX12_alikes 3 (some .int) 0 := ⟨km_RX12_343, ki_yX12_alikes, ks_RX12_yX12_alikes, kn_RX12, kc_yX12_alikes, rfl, by decide +kernel, by decide +kernel, by decide +kernel⟩
set_option maxHeartbeats 4000000 in
set_option maxRecDepth 20000 in
theorem c_X12_alike {E : zE} {l : Launch} (hst : l.stackTraces = false) (a : Nat) : Con E l yX12_alike cX12_alike 1 (some .int) { frames := 1, cells := 0, slots := 0, locals := 22 } (fun G s vs => vs = [.ref a] ∧ zGK G ∧ zSK G s ∧ (gT G a = 13) ∧ (zS0m G s)) (fun G s _ => pI (fun r G2 s2 => G2 = G ∧ zSK G s2 ∧ zFr [13] G s s2 ∧ ((-1) ≤ r ∧ r ≤ (-1)) ∧ s2 a 0 = 0)) := by
  refine Con.mk hst (by decide) (fun G s vs h => by rw [h.1]; exact Nat.le_of_ble_eq_true rfl) ?_
  rintro X G s0 vs ⟨rfl, hG, hS0, ha, hF0⟩ rfl hx hq
  show JJ X E 1 G s0 0 0 [(0, .ref a)] 0 []
  refine j_aload_n hx 0 dX12_alike_0 rfl ?_
  refine j_iconst hx dX12_alike_1 ?_
  refine p13_0 hx hG ha kf_RX12_3 dX12_alike_2 ?_
  obtain ⟨s1, e_s1⟩ : ∃ z, z = zU s0 a 0 0 := ⟨_, rfl⟩
  rw [← e_s1]
  have hS_s1 : zSK G s1 := by rw [e_s1]; exact zSK_F hS0 ha rfl rfl rfl (by omega)
  refine j_aload_n hx 0 dX12_alike_5 rfl ?_
  refine j_callV hx hG (c_X12_alikes hst a) lk_RX12_343 ha (by decide) rfl rfl rfl rfl [] ⟨rfl, hG, hS_s1, ha⟩ rfl rfl ⟨by decide, by decide⟩ ⟨by decide, by decide⟩ (k2 := 0) (n2 := 0) rfl rfl (Nat.le_of_ble_eq_true rfl) dX12_alike_6 (kIP (fun v1 q2 => ?_))
  have g3 : s1 a 0 = 0 := (by rw [e_s1, zU_eq])
  exact j_iret hx hq rfl (by decide) (by decide) dX12_alike_9 ⟨v1, rfl, rfl, hS_s1, (zFr_u zFr_rf e_s1 ha (by decide)), ⟨(by omega), by omega⟩⟩

set_option maxHeartbeats 4000000 in
set_option maxRecDepth 20000 in
theorem c_X12_would {E : zE} {l : Launch} (hst : l.stackTraces = false) (a : Nat) (x1 : Int) (x2 : Int) : Con E l yX12_would cX12_would 3 (some .boolean) { frames := 2, cells := 0, slots := 0, locals := 45 } (fun G s vs => vs = [.ref a, .int (zI x1), .int (zI x2)] ∧ zGK G ∧ zSK G s ∧ (gT G a = 13) ∧ ((-2147483648) ≤ x1 ∧ x1 ≤ 2147483647) ∧ ((-2147483648) ≤ x2 ∧ x2 ≤ 2147483647) ∧ (zS0m G s)) (fun G s _ => pI (fun r G2 s2 => G2 = G ∧ zSK G s2 ∧ zFr [13, 71] G s s2 ∧ (0 ≤ r ∧ r ≤ 1) ∧ s2 a 0 = 1)) := by
  refine Con.mk hst (by decide) (fun G s vs h => by rw [h.1]; exact Nat.le_of_ble_eq_true rfl) ?_
  rintro X G s0 vs ⟨rfl, hG, hS0, ha, hx1, hx2, hF0⟩ rfl hx hq
  show JJ X E 3 G s0 0 0 [(0, .ref a), (1, .int (zI x1)), (2, .int (zI x2))] 0 []
  refine j_aload_n hx 0 dX12_would_0 rfl ?_
  refine j_iconst hx dX12_would_1 ?_
  refine p13_0 hx hG ha kf_RX12_3 dX12_would_2 ?_
  obtain ⟨s1, e_s1⟩ : ∃ z, z = zU s0 a 0 0 := ⟨_, rfl⟩
  rw [← e_s1]
  have hS_s1 : zSK G s1 := by rw [e_s1]; exact zSK_F hS0 ha rfl rfl rfl (by omega)
  refine j_aload_n hx 0 dX12_would_5 rfl ?_
  refine j_iload_n hx 1 dX12_would_6 rfl ?_
  refine j_iconst hx dX12_would_7 ?_
  have g1 : s1 a 0 = 0 := (by rw [e_s1, zU_eq])
  refine j_callV hx hG (c_X12_isPlayer hst a x1 1) lk_RX12_339 ha (by decide) rfl rfl rfl rfl [.int (zI x1), .int (zI 1)] ⟨rfl, hG, hS_s1, ha, (by omega), (by omega), (((by rw [e_s1, zU_eq]) : s1 a 0 = 0).trans (by omega))⟩ rfl rfl ⟨by decide, by decide⟩ ⟨by decide, by decide⟩ (k2 := 0) (n2 := 0) rfl rfl (Nat.le_of_ble_eq_true rfl) dX12_would_8 (kIM (fun v2 s2 hS_s2 hF_s2 q3 => ?_))
  refine j_if_eq hx 29 dX12_would_11 rfl (by omega) (fun h4 => ?_) (fun h4 => absurd h4 (by omega))
  refine j_iconst hx dX12_would_29 ?_
  exact j_zret hx hq rfl (by decide) (by decide) dX12_would_30 (by omega) ⟨0, rfl, rfl, hS_s2, (zFr_t (zFr_u zFr_rf e_s1 ha (by decide)) hF_s2 (by decide)), ⟨(by omega), by omega⟩⟩

set_option maxHeartbeats 4000000 in
set_option maxRecDepth 20000 in
theorem c_X12_stays {E : zE} {l : Launch} (hst : l.stackTraces = false) (a : Nat) : Con E l yX12_stays cX12_stays 2 none { frames := 0, cells := 0, slots := 0, locals := 0 } (fun G s vs => vs = [.ref a] ∧ zGK G ∧ zSK G s ∧ (gT G a = 13)) (fun G s _ => pV (fun G2 s2 => G2 = G ∧ zSK G s2 ∧ zFr [85] G s s2 ∧ True)) := by
  refine Con.mk hst (by decide) (fun G s vs h => by rw [h.1]; exact Nat.le_of_ble_eq_true rfl) ?_
  rintro X G s0 vs ⟨rfl, hG, hS0, ha⟩ rfl hx hq
  show JJ X E 2 G s0 0 0 [(0, .ref a)] 0 []
  refine j_iconst hx dX12_stays_0 ?_
  refine j_istore_n hx [(1, .int (zI 0)), (0, .ref a)] dX12_stays_1 (by decide) rfl ?_
  have c2_1 : ∀ (m_c2_1 : Nat) (v1 : Int) (s2 : zS), 2147483648 - v1 < m_c2_1 → (0 ≤ v1 ∧ v1 ≤ 515) → (zSK G s2) → (zFr [85] G s0 s2) → JJ X E 2 G s2 0 0 [(0, .ref a), (1, .int (zI v1))] 2 [] := by
    intro m_c2_1
    induction m_c2_1 with
    | zero => intro v1 s2 hm_c2_1 fA3 hS_s2 hF_s2; exfalso; omega
    | succ m_c2_1 ih_c2_1 => 
      intro v1 s2 hm_c2_1 fA3 hS_s2 hF_s2
      refine j_iload_n hx 1 dX12_stays_2 rfl ?_
      refine j_sipush hx dX12_stays_3 rfl ?_
      refine j_icmp_ge hx 27 dX12_stays_6 rfl (by omega) ⟨by decide, by decide⟩ (fun h2 => ?_) (fun h2 => ?_)
      · skip
        exact j_vret hx hq rfl (by decide) (by decide) dX12_stays_27 ⟨rfl, rfl, hS_s2, (zFr_t zFr_rf hF_s2 (by decide)), trivial⟩
      · skip
        refine j_aload_n hx 0 dX12_stays_9 rfl ?_
        refine g13_28 hx hG ha kf_RX12_59 dX12_stays_10 ?_
        refine j_iload_n hx 1 dX12_stays_13 rfl ?_
        refine j_aload_n hx 0 dX12_stays_14 rfl ?_
        refine g13_27 hx hG ha kf_RX12_56 dX12_stays_15 ?_
        refine j_iload_n hx 1 dX12_stays_18 rfl ?_
        have f3 := zah (j := (v1).toNat) hS0 (zr (k := 27) (t2 := 84) hG ha rfl) aqH_84 (zlen hG (zr (k := 27) (t2 := 84) hG ha rfl) (n := 515) rfl rfl) (show 0 ≤ v1 by omega) (by omega) rfl
        refine j_iald hx hG (zr (k := 27) (t2 := 84) hG ha rfl) (by decide) rfl (zlen hG (zr (k := 27) (t2 := 84) hG ha rfl) (n := 515) rfl rfl) (by omega) (by omega) (j := (v1).toNat) rfl (v := (s0 (gP G a 27) (v1).toNat)) (by rw [(zFr_g hF_s2 (zr (k := 27) (t2 := 84) hG ha rfl) (by decide))]) dX12_stays_19 ?_
        refine j_iast hx hG (zr (k := 28) (t2 := 85) hG ha rfl) (by decide) rfl (zlen hG (zr (k := 28) (t2 := 85) hG ha rfl) (n := 515) rfl rfl) (by omega) (by omega) (j := (v1).toNat) rfl dX12_stays_20 ?_
        obtain ⟨s6, e_s6⟩ : ∃ z, z = zU s2 (gP G a 28) (v1).toNat ((s0 (gP G a 27) (v1).toNat)) := ⟨_, rfl⟩
        rw [← e_s6]
        have hS_s6 : zSK G s6 := by rw [e_s6]; exact zSK_A hS_s2 (zr (k := 28) (t2 := 85) hG ha rfl) rfl rfl rfl (by omega)
        refine j_iinc hx 1 [(1, .int (zI (v1 + 1))), (0, .ref a)] dX12_stays_21 rfl (by omega) (by decide) rfl ?_
        refine j_goto hx 2 dX12_stays_24 rfl ?_
        exact j_sub [1, 0] [(0, .ref a), (1, .int (zI (v1 + 1)))] rfl (ih_c2_1 (v1 + 1) s6 (by omega) (by omega) hS_s6 (zFr_u (zFr_t zFr_rf hF_s2 (by decide)) e_s6 (zr (k := 28) (t2 := 85) hG ha rfl) (by decide)))
  exact j_sub [1, 0] [(0, .ref a), (1, .int (zI 0))] rfl (c2_1 (2147483648 * 4) 0 s0 (by omega) (by omega) hS0 zFr_rf)

set_option maxHeartbeats 4000000 in
set_option maxRecDepth 20000 in
theorem c_X12_law {E : zE} {l : Launch} (hst : l.stackTraces = false) (a : Nat) (x1 : Int) (x2 : Int) : Con E l yX12_law cX12_law 4 (some .int) { frames := 1, cells := 0, slots := 0, locals := 23 } (fun G s vs => vs = [.ref a, .int (zI x1), .int (zI x2)] ∧ zGK G ∧ zSK G s ∧ (gT G a = 13) ∧ ((-2147483648) ≤ x1 ∧ x1 ≤ 2147483647) ∧ ((-2147483648) ≤ x2 ∧ x2 ≤ 2147483647) ∧ (zS0m G s)) (fun G s _ => pI (fun r G2 s2 => G2 = G ∧ zSK G s2 ∧ zFr [13, 71, 84, 85] G s s2 ∧ (0 ≤ r ∧ r ≤ 0) ∧ (((0 ≤ x1 ∧ x1 ≤ 2 ∧ 0 ≤ x2 ∧ x2 ≤ 2) → s2 a 0 = 0) ∧ (¬ (0 ≤ x1 ∧ x1 ≤ 2 ∧ 0 ≤ x2 ∧ x2 ≤ 2) → s2 a 0 = 1)))) := by
  refine Con.mk hst (by decide) (fun G s vs h => by rw [h.1]; exact Nat.le_of_ble_eq_true rfl) ?_
  rintro X G s0 vs ⟨rfl, hG, hS0, ha, hx1, hx2, hF0⟩ rfl hx hq
  show JJ X E 4 G s0 0 0 [(0, .ref a), (1, .int (zI x1)), (2, .int (zI x2))] 0 []
  refine j_aload_n hx 0 dX12_law_0 rfl ?_
  refine j_iconst hx dX12_law_1 ?_
  refine p13_0 hx hG ha kf_RX12_3 dX12_law_2 ?_
  obtain ⟨s1, e_s1⟩ : ∃ z, z = zU s0 a 0 0 := ⟨_, rfl⟩
  rw [← e_s1]
  have hS_s1 : zSK G s1 := by rw [e_s1]; exact zSK_F hS0 ha rfl rfl rfl (by omega)
  refine j_aload_n hx 0 dX12_law_5 rfl ?_
  refine j_iload_n hx 1 dX12_law_6 rfl ?_
  refine j_iconst hx dX12_law_7 ?_
  refine j_iconst hx dX12_law_8 ?_
  refine j_callS hx (c_X12_within hst x1 0 2) lk_RX12_314 [.int (zI x1), .int (zI 0), .int (zI 2)] ⟨rfl, hG, hS_s1, (by omega), (by omega), (by omega)⟩ rfl rfl ⟨by decide, by decide⟩ ⟨by decide, by decide⟩ (k2 := 0) (n2 := 0) rfl rfl (Nat.le_of_ble_eq_true rfl) dX12_law_9 (kIP (fun v1 q2 => ?_))
  refine j_if_eq hx 28 dX12_law_12 rfl (by omega) (fun h3 => ?_) (fun h3 => ?_)
  · skip
    refine j_iconst hx dX12_law_28 ?_
    refine j_iconst hx dX12_law_29 ?_
    refine j_iconst hx dX12_law_30 ?_
    have g4 : s1 a 0 = 0 := (by rw [e_s1, zU_eq])
    refine j_callV hx hG (c_X12_may_f hst a 0 1 1) lk_RX12_240 ha (by decide) rfl rfl rfl rfl [.int (zI 0), .int (zI 1), .int (zI 1)] ⟨rfl, hG, hS_s1, ha, (by omega), (by omega), (by omega), (((by rw [e_s1, zU_eq]) : s1 a 0 = 0).trans (by omega))⟩ rfl rfl ⟨by decide, by decide⟩ ⟨by decide, by decide⟩ (k2 := 0) (n2 := 0) rfl rfl (Nat.le_of_ble_eq_true rfl) dX12_law_31 (kIM (fun v5 s2 hS_s2 hF_s2 q6 => ?_))
    refine j_if_ne hx 39 dX12_law_34 rfl (by omega) (fun h7 => absurd h7 (by omega)) (fun h7 => ?_)
    refine j_iconst hx dX12_law_37 ?_
    exact j_iret hx hq rfl (by decide) (by decide) dX12_law_38 ⟨0, rfl, rfl, hS_s2, (zFr_t (zFr_u zFr_rf e_s1 ha (by decide)) hF_s2 (by decide)), ⟨(by omega), by omega⟩⟩
  · skip
    refine j_iload_n hx 2 dX12_law_15 rfl ?_
    refine j_iconst hx dX12_law_16 ?_
    refine j_iconst hx dX12_law_17 ?_
    refine j_callS hx (c_X12_within hst x2 0 2) lk_RX12_314 [.int (zI x2), .int (zI 0), .int (zI 2)] ⟨rfl, hG, hS_s1, (by omega), (by omega), (by omega)⟩ rfl rfl ⟨by decide, by decide⟩ ⟨by decide, by decide⟩ (k2 := 0) (n2 := 0) rfl rfl (Nat.le_of_ble_eq_true rfl) dX12_law_18 (kIP (fun v8 q9 => ?_))
    refine j_if_eq hx 28 dX12_law_21 rfl (by omega) (fun h10 => ?_) (fun h10 => ?_)
    · skip
      refine j_iconst hx dX12_law_28 ?_
      refine j_iconst hx dX12_law_29 ?_
      refine j_iconst hx dX12_law_30 ?_
      have g11 : s1 a 0 = 0 := (by rw [e_s1, zU_eq])
      refine j_callV hx hG (c_X12_may_f hst a 0 1 1) lk_RX12_240 ha (by decide) rfl rfl rfl rfl [.int (zI 0), .int (zI 1), .int (zI 1)] ⟨rfl, hG, hS_s1, ha, (by omega), (by omega), (by omega), (((by rw [e_s1, zU_eq]) : s1 a 0 = 0).trans (by omega))⟩ rfl rfl ⟨by decide, by decide⟩ ⟨by decide, by decide⟩ (k2 := 0) (n2 := 0) rfl rfl (Nat.le_of_ble_eq_true rfl) dX12_law_31 (kIM (fun v12 s3 hS_s3 hF_s3 q13 => ?_))
      refine j_if_ne hx 39 dX12_law_34 rfl (by omega) (fun h14 => absurd h14 (by omega)) (fun h14 => ?_)
      refine j_iconst hx dX12_law_37 ?_
      exact j_iret hx hq rfl (by decide) (by decide) dX12_law_38 ⟨0, rfl, rfl, hS_s3, (zFr_t (zFr_u zFr_rf e_s1 ha (by decide)) hF_s3 (by decide)), ⟨(by omega), by omega⟩⟩
    · skip
      refine j_iconst hx dX12_law_24 ?_
      refine j_goto hx 29 dX12_law_25 rfl ?_
      refine j_iconst hx dX12_law_29 ?_
      refine j_iconst hx dX12_law_30 ?_
      have g15 : s1 a 0 = 0 := (by rw [e_s1, zU_eq])
      refine j_callV hx hG (c_X12_may_t hst a 1 1 1) lk_RX12_240 ha (by decide) rfl rfl rfl rfl [.int (zI 1), .int (zI 1), .int (zI 1)] ⟨rfl, hG, hS_s1, ha, (by omega), (by omega), (by omega), (((by rw [e_s1, zU_eq]) : s1 a 0 = 0).trans (by omega))⟩ rfl rfl ⟨by decide, by decide⟩ ⟨by decide, by decide⟩ (k2 := 0) (n2 := 0) rfl rfl (Nat.le_of_ble_eq_true rfl) dX12_law_31 (kIP (fun v16 q17 => ?_))
      refine j_if_ne hx 39 dX12_law_34 rfl (by omega) (fun h18 => ?_) (fun h18 => absurd h18 (by omega))
      refine j_aload_n hx 0 dX12_law_39 rfl ?_
      refine g13_27 hx hG ha kf_RX12_56 dX12_law_40 ?_
      refine j_sipush hx dX12_law_43 rfl ?_
      refine j_iload_n hx 1 dX12_law_46 rfl ?_
      refine j_iadd hx (r := x1 + 491) dX12_law_47 (by omega) ?_
      have f19 := z0am (j := (x1 + 491).toNat) hF0 (zr (k := 27) (t2 := 84) hG ha rfl) (by decide) (a0D_84 _ (by omega)) (zlen hG (zr (k := 27) (t2 := 84) hG ha rfl) (n := 515) rfl rfl) (show 0 ≤ x1 + 491 by omega) (by omega) rfl
      refine j_iald hx hG (zr (k := 27) (t2 := 84) hG ha rfl) (by decide) rfl (zlen hG (zr (k := 27) (t2 := 84) hG ha rfl) (n := 515) rfl rfl) (by omega) (by omega) (j := (x1 + 491).toNat) rfl (v := (s0 (gP G a 27) (x1 + 491).toNat)) (by rw [e_s1, zU_at (Or.inl (zne ha (zr (k := 27) (t2 := 84) hG ha rfl) (by decide)))]) dX12_law_48 ?_
      refine j_istore_n hx [(3, .int (zI ((s0 (gP G a 27) (x1 + 491).toNat)))), (0, .ref a), (1, .int (zI x1)), (2, .int (zI x2))] dX12_law_49 (by decide) rfl ?_
      refine j_aload_n hx 1 dX12_law_50 rfl ?_
      refine g13_27 hx hG ha kf_RX12_56 dX12_law_51 ?_
      refine j_sipush hx dX12_law_54 rfl ?_
      refine j_iload_n hx 2 dX12_law_57 rfl ?_
      refine j_iadd hx (r := x1 + 491) dX12_law_58 (by omega) ?_
      refine j_iload_n hx 3 dX12_law_59 rfl ?_
      refine j_iast hx hG (zr (k := 27) (t2 := 84) hG ha rfl) (by decide) rfl (zlen hG (zr (k := 27) (t2 := 84) hG ha rfl) (n := 515) rfl rfl) (by omega) (by omega) (j := (x1 + 491).toNat) rfl dX12_law_60 ?_
      obtain ⟨s4, e_s4⟩ : ∃ z, z = zU s1 (gP G a 27) (x1 + 491).toNat x2 := ⟨_, rfl⟩
      rw [← e_s4]
      have hS_s4 : zSK G s4 := by rw [e_s4]; exact zSK_a hS_s1 (zr (k := 27) (t2 := 84) hG ha rfl) rfl rfl (aqD_84 _ (by omega)) (by omega)
      refine j_aload_n hx 1 dX12_law_61 rfl ?_
      refine j_callV hx hG (c_X12_stays hst a) lk_RX12_207 ha (by decide) rfl rfl rfl rfl [] ⟨rfl, hG, hS_s4, ha⟩ rfl rfl ⟨by decide, by decide⟩ ⟨by decide, by decide⟩ (k2 := 0) (n2 := 0) rfl rfl (Nat.le_of_ble_eq_true rfl) dX12_law_62 (kVM (fun s5 hS_s5 hF_s5 q21 => ?_))
      refine j_iload_n hx 0 dX12_law_65 rfl ?_
      have g22 : s5 a 0 = 0 := (by rw [(zFr_g hF_s5 ha (by decide)), e_s4, zU_at (Or.inl (zne (zr (k := 27) (t2 := 84) hG ha rfl) ha (by decide))), e_s1, zU_eq])
      exact j_iret hx hq rfl (by decide) (by decide) dX12_law_66 ⟨(s0 (gP G a 27) (x1 + 491).toNat), rfl, rfl, hS_s5, (zFr_t (zFr_u (zFr_u zFr_rf e_s1 ha (by decide)) e_s4 (zr (k := 27) (t2 := 84) hG ha rfl) (by decide)) hF_s5 (by decide)), ⟨(by omega), by omega⟩⟩

set_option maxHeartbeats 4000000 in
set_option maxRecDepth 20000 in
theorem c_X12_draws {E : zE} {l : Launch} (hst : l.stackTraces = false) (a : Nat) (x1 : Int) : Con E l yX12_draws cX12_draws 2 none { frames := 1, cells := 0, slots := 0, locals := 21 } (fun G s vs => vs = [.ref a, .int (zI x1)] ∧ zGK G ∧ zSK G s ∧ (gT G a = 13) ∧ ((-2147483648) ≤ x1 ∧ x1 ≤ 2147483647) ∧ (zS0m G s)) (fun G s _ => pV (fun G2 s2 => G2 = G ∧ zSK G s2 ∧ zFr [13, 84, 85] G s s2 ∧ s2 a 0 = 0)) := by
  refine Con.mk hst (by decide) (fun G s vs h => by rw [h.1]; exact Nat.le_of_ble_eq_true rfl) ?_
  rintro X G s0 vs ⟨rfl, hG, hS0, ha, hx1, hF0⟩ rfl hx hq
  show JJ X E 2 G s0 0 0 [(0, .ref a), (1, .int (zI x1))] 0 []
  refine j_aload_n hx 0 dX12_draws_0 rfl ?_
  refine j_iconst hx dX12_draws_1 ?_
  refine p13_0 hx hG ha kf_RX12_3 dX12_draws_2 ?_
  obtain ⟨s1, e_s1⟩ : ∃ z, z = zU s0 a 0 0 := ⟨_, rfl⟩
  rw [← e_s1]
  have hS_s1 : zSK G s1 := by rw [e_s1]; exact zSK_F hS0 ha rfl rfl rfl (by omega)
  refine j_aload_n hx 0 dX12_draws_5 rfl ?_
  refine g13_27 hx hG ha kf_RX12_56 dX12_draws_6 ?_
  refine j_sipush hx dX12_draws_9 rfl ?_
  refine j_iload_n hx 1 dX12_draws_12 rfl ?_
  refine j_iast hx hG (zr (k := 27) (t2 := 84) hG ha rfl) (by decide) rfl (zlen hG (zr (k := 27) (t2 := 84) hG ha rfl) (n := 515) rfl rfl) (by omega) (by omega) (j := 489) rfl dX12_draws_13 ?_
  obtain ⟨s2, e_s2⟩ : ∃ z, z = zU s1 (gP G a 27) 489 x1 := ⟨_, rfl⟩
  rw [← e_s2]
  have hS_s2 : zSK G s2 := by rw [e_s2]; exact zSK_A hS_s1 (zr (k := 27) (t2 := 84) hG ha rfl) rfl rfl rfl (by omega)
  refine j_aload_n hx 0 dX12_draws_14 rfl ?_
  refine g13_27 hx hG ha kf_RX12_56 dX12_draws_15 ?_
  refine j_sipush hx dX12_draws_18 rfl ?_
  refine j_iconst hx dX12_draws_21 ?_
  refine j_iast hx hG (zr (k := 27) (t2 := 84) hG ha rfl) (by decide) rfl (zlen hG (zr (k := 27) (t2 := 84) hG ha rfl) (n := 515) rfl rfl) (by omega) (by omega) (j := 490) rfl dX12_draws_22 ?_
  obtain ⟨s3, e_s3⟩ : ∃ z, z = zU s2 (gP G a 27) 490 1 := ⟨_, rfl⟩
  rw [← e_s3]
  have hS_s3 : zSK G s3 := by rw [e_s3]; exact zSK_A hS_s2 (zr (k := 27) (t2 := 84) hG ha rfl) rfl rfl rfl (by omega)
  refine j_aload_n hx 0 dX12_draws_23 rfl ?_
  refine j_callV hx hG (c_X12_stays hst a) lk_RX12_207 ha (by decide) rfl rfl rfl rfl [] ⟨rfl, hG, hS_s3, ha⟩ rfl rfl ⟨by decide, by decide⟩ ⟨by decide, by decide⟩ (k2 := 0) (n2 := 0) rfl rfl (Nat.le_of_ble_eq_true rfl) dX12_draws_24 (kVM (fun s4 hS_s4 hF_s4 q2 => ?_))
  have g3 : s4 a 0 = 0 := (by rw [(zFr_g hF_s4 ha (by decide)), e_s3, zU_at (Or.inl (zne (zr (k := 27) (t2 := 84) hG ha rfl) ha (by decide))), e_s2, zU_at (Or.inl (zne (zr (k := 27) (t2 := 84) hG ha rfl) ha (by decide))), e_s1, zU_eq])
  exact j_vret hx hq rfl (by decide) (by decide) dX12_draws_27 ⟨rfl, rfl, hS_s4, (zFr_t (zFr_u (zFr_u (zFr_u zFr_rf e_s1 ha (by decide)) e_s2 (zr (k := 27) (t2 := 84) hG ha rfl) (by decide)) e_s3 (zr (k := 27) (t2 := 84) hG ha rfl) (by decide)) hF_s4 (by decide)), by omega⟩

set_option maxHeartbeats 4000000 in
set_option maxRecDepth 20000 in
theorem c_X12_still {E : zE} {l : Launch} (hst : l.stackTraces = false) (a : Nat) : Con E l yX12_still cX12_still 2 (some .int) { frames := 1, cells := 0, slots := 0, locals := 21 } (fun G s vs => vs = [.ref a] ∧ zGK G ∧ zSK G s ∧ (gT G a = 13) ∧ (zS0m G s)) (fun G s _ => pI (fun r G2 s2 => G2 = G ∧ zSK G s2 ∧ zFr [13, 84, 85] G s s2 ∧ (0 ≤ r ∧ r ≤ 0) ∧ s2 a 0 = 0)) := by
  refine Con.mk hst (by decide) (fun G s vs h => by rw [h.1]; exact Nat.le_of_ble_eq_true rfl) ?_
  rintro X G s0 vs ⟨rfl, hG, hS0, ha, hF0⟩ rfl hx hq
  show JJ X E 2 G s0 0 0 [(0, .ref a)] 0 []
  refine j_aload_n hx 0 dX12_still_0 rfl ?_
  refine j_iconst hx dX12_still_1 ?_
  refine p13_0 hx hG ha kf_RX12_3 dX12_still_2 ?_
  obtain ⟨s1, e_s1⟩ : ∃ z, z = zU s0 a 0 0 := ⟨_, rfl⟩
  rw [← e_s1]
  have hS_s1 : zSK G s1 := by rw [e_s1]; exact zSK_F hS0 ha rfl rfl rfl (by omega)
  refine j_aload_n hx 0 dX12_still_5 rfl ?_
  refine g13_27 hx hG ha kf_RX12_56 dX12_still_6 ?_
  refine j_sipush hx dX12_still_9 rfl ?_
  have f1 := z0am (j := 490) hF0 (zr (k := 27) (t2 := 84) hG ha rfl) (by decide) rfl (zlen hG (zr (k := 27) (t2 := 84) hG ha rfl) (n := 515) rfl rfl) (show 0 ≤ 490 by omega) (by omega) rfl
  refine j_iald hx hG (zr (k := 27) (t2 := 84) hG ha rfl) (by decide) rfl (zlen hG (zr (k := 27) (t2 := 84) hG ha rfl) (n := 515) rfl rfl) (by omega) (by omega) (j := 490) rfl (v := (s0 (gP G a 27) 490)) (by rw [e_s1, zU_at (Or.inl (zne ha (zr (k := 27) (t2 := 84) hG ha rfl) (by decide)))]) dX12_still_12 ?_
  refine j_istore_n hx [(1, .int (zI ((s0 (gP G a 27) 490)))), (0, .ref a)] dX12_still_13 (by decide) rfl ?_
  refine j_aload_n hx 1 dX12_still_14 rfl ?_
  refine g13_27 hx hG ha kf_RX12_56 dX12_still_15 ?_
  refine j_sipush hx dX12_still_18 rfl ?_
  refine j_iconst hx dX12_still_21 ?_
  refine j_iast hx hG (zr (k := 27) (t2 := 84) hG ha rfl) (by decide) rfl (zlen hG (zr (k := 27) (t2 := 84) hG ha rfl) (n := 515) rfl rfl) (by omega) (by omega) (j := 490) rfl dX12_still_22 ?_
  obtain ⟨s2, e_s2⟩ : ∃ z, z = zU s1 (gP G a 27) 490 0 := ⟨_, rfl⟩
  rw [← e_s2]
  have hS_s2 : zSK G s2 := by rw [e_s2]; exact zSK_A hS_s1 (zr (k := 27) (t2 := 84) hG ha rfl) rfl rfl rfl (by omega)
  refine j_aload_n hx 1 dX12_still_23 rfl ?_
  refine j_callV hx hG (c_X12_stays hst a) lk_RX12_207 ha (by decide) rfl rfl rfl rfl [] ⟨rfl, hG, hS_s2, ha⟩ rfl rfl ⟨by decide, by decide⟩ ⟨by decide, by decide⟩ (k2 := 0) (n2 := 0) rfl rfl (Nat.le_of_ble_eq_true rfl) dX12_still_24 (kVM (fun s3 hS_s3 hF_s3 q3 => ?_))
  refine j_iload_n hx 0 dX12_still_27 rfl ?_
  have g4 : s3 a 0 = 0 := (by rw [(zFr_g hF_s3 ha (by decide)), e_s2, zU_at (Or.inl (zne (zr (k := 27) (t2 := 84) hG ha rfl) ha (by decide))), e_s1, zU_eq])
  exact j_iret hx hq rfl (by decide) (by decide) dX12_still_28 ⟨(s0 (gP G a 27) 490), rfl, rfl, hS_s3, (zFr_t (zFr_u (zFr_u zFr_rf e_s1 ha (by decide)) e_s2 (zr (k := 27) (t2 := 84) hG ha rfl) (by decide)) hF_s3 (by decide)), ⟨(by omega), by omega⟩⟩

set_option maxHeartbeats 4000000 in
set_option maxRecDepth 20000 in
theorem c_X12_turn {E : zE} {l : Launch} (hst : l.stackTraces = false) (a : Nat) : Con E l yX12_turn cX12_turn 2 (some .boolean) { frames := 2, cells := 0, slots := 0, locals := 42 } (fun G s vs => vs = [.ref a] ∧ zGK G ∧ zSK G s ∧ (gT G a = 13)) (fun G s _ => pI (fun r G2 s2 => G2 = G ∧ s2 = s ∧ (0 ≤ r ∧ r ≤ 0))) := by
  refine Con.mk hst (by decide) (fun G s vs h => by rw [h.1]; exact Nat.le_of_ble_eq_true rfl) ?_
  rintro X G s0 vs ⟨rfl, hG, hS0, ha⟩ rfl hx hq
  show JJ X E 2 G s0 0 0 [(0, .ref a)] 0 []
  refine j_aload_n hx 0 dX12_turn_0 rfl ?_
  refine j_callV hx hG (c_X12_whose hst a) lk_RX12_336 ha (by decide) rfl rfl rfl rfl [] ⟨rfl, hG, hS0, ha⟩ rfl rfl ⟨by decide, by decide⟩ ⟨by decide, by decide⟩ (k2 := 0) (n2 := 0) rfl rfl (Nat.le_of_ble_eq_true rfl) dX12_turn_1 (kIP (fun v1 q2 => ?_))
  refine j_istore_n hx [(1, .int (zI v1)), (0, .ref a)] dX12_turn_4 (by decide) rfl ?_
  refine j_iload_n hx 0 dX12_turn_5 rfl ?_
  refine j_iconst hx dX12_turn_6 ?_
  refine j_icmp_ne hx 12 dX12_turn_7 rfl (by omega) ⟨by decide, by decide⟩ (fun h3 => absurd h3 (by omega)) (fun h3 => ?_)
  refine j_iconst hx dX12_turn_10 ?_
  exact j_zret hx hq rfl (by decide) (by decide) dX12_turn_11 (by omega) ⟨0, rfl, rfl, rfl, (by omega)⟩

theorem lk_RX12_412 : LkV RX12 412 RX12 yX12_turn cX12_turn 2 (some .boolean) 0 := ⟨km_RX12_412, ki_yX12_turn, ks_RX12_yX12_turn, kn_RX12, kc_yX12_turn, rfl, by decide +kernel, by decide +kernel, by decide +kernel⟩
set_option maxHeartbeats 4000000 in
set_option maxRecDepth 20000 in
theorem c_X12_play {E : zE} {l : Launch} (hst : l.stackTraces = false) (a : Nat) (x1 : Int) : Con E l yX12_play cX12_play 3 (some .int) { frames := 3, cells := 0, slots := 0, locals := 63 } (fun G s vs => vs = [.ref a, .int (zI x1)] ∧ zGK G ∧ zSK G s ∧ (gT G a = 13) ∧ ((-2147483648) ≤ x1 ∧ x1 ≤ 2147483647) ∧ (zS0m G s)) (fun G s _ => pI (fun r G2 s2 => G2 = G ∧ zSK G s2 ∧ zFr [13, 71] G s s2 ∧ (0 ≤ r ∧ r ≤ 0) ∧ (((1 ≤ x1 ∧ x1 ≤ 999) → s2 a 0 = 0) ∧ (¬ (1 ≤ x1 ∧ x1 ≤ 999) → s2 a 0 = 1)))) := by
  refine Con.mk hst (by decide) (fun G s vs h => by rw [h.1]; exact Nat.le_of_ble_eq_true rfl) ?_
  rintro X G s0 vs ⟨rfl, hG, hS0, ha, hx1, hF0⟩ rfl hx hq
  show JJ X E 3 G s0 0 0 [(0, .ref a), (1, .int (zI x1))] 0 []
  refine j_aload_n hx 0 dX12_play_0 rfl ?_
  refine j_iconst hx dX12_play_1 ?_
  refine p13_0 hx hG ha kf_RX12_3 dX12_play_2 ?_
  obtain ⟨s1, e_s1⟩ : ∃ z, z = zU s0 a 0 0 := ⟨_, rfl⟩
  rw [← e_s1]
  have hS_s1 : zSK G s1 := by rw [e_s1]; exact zSK_F hS0 ha rfl rfl rfl (by omega)
  refine j_aload_n hx 0 dX12_play_5 rfl ?_
  refine j_iload_n hx 1 dX12_play_6 rfl ?_
  refine j_iconst hx dX12_play_7 ?_
  refine j_sipush hx dX12_play_8 rfl ?_
  refine j_callS hx (c_X12_within hst x1 1 999) lk_RX12_314 [.int (zI x1), .int (zI 1), .int (zI 999)] ⟨rfl, hG, hS_s1, (by omega), (by omega), (by omega)⟩ rfl rfl ⟨by decide, by decide⟩ ⟨by decide, by decide⟩ (k2 := 0) (n2 := 0) rfl rfl (Nat.le_of_ble_eq_true rfl) dX12_play_11 (kIP (fun v1 q2 => ?_))
  refine j_iconst hx dX12_play_14 ?_
  refine j_iconst hx dX12_play_15 ?_
  rcases (show v1 = 0 ∨ v1 = 1 by omega) with rfl | rfl
  · skip
    have g4 : s1 a 0 = 0 := (by rw [e_s1, zU_eq])
    refine j_callV hx hG (c_X12_may_f hst a 0 1 1) lk_RX12_240 ha (by decide) rfl rfl rfl rfl [.int (zI 0), .int (zI 1), .int (zI 1)] ⟨rfl, hG, hS_s1, ha, (by omega), (by omega), (by omega), (((by rw [e_s1, zU_eq]) : s1 a 0 = 0).trans (by omega))⟩ rfl rfl ⟨by decide, by decide⟩ ⟨by decide, by decide⟩ (k2 := 0) (n2 := 0) rfl rfl (Nat.le_of_ble_eq_true rfl) dX12_play_16 (kIM (fun v5 s2 hS_s2 hF_s2 q6 => ?_))
    refine j_if_ne hx 24 dX12_play_19 rfl (by omega) (fun h7 => absurd h7 (by omega)) (fun h7 => ?_)
    refine j_iconst hx dX12_play_22 ?_
    exact j_iret hx hq rfl (by decide) (by decide) dX12_play_23 ⟨0, rfl, rfl, hS_s2, (zFr_t (zFr_u zFr_rf e_s1 ha (by decide)) hF_s2 (by decide)), ⟨(by omega), by omega⟩⟩
  · skip
    have g8 : s1 a 0 = 0 := (by rw [e_s1, zU_eq])
    refine j_callV hx hG (c_X12_may_t hst a 1 1 1) lk_RX12_240 ha (by decide) rfl rfl rfl rfl [.int (zI 1), .int (zI 1), .int (zI 1)] ⟨rfl, hG, hS_s1, ha, (by omega), (by omega), (by omega), (((by rw [e_s1, zU_eq]) : s1 a 0 = 0).trans (by omega))⟩ rfl rfl ⟨by decide, by decide⟩ ⟨by decide, by decide⟩ (k2 := 0) (n2 := 0) rfl rfl (Nat.le_of_ble_eq_true rfl) dX12_play_16 (kIP (fun v9 q10 => ?_))
    refine j_if_ne hx 24 dX12_play_19 rfl (by omega) (fun h11 => ?_) (fun h11 => absurd h11 (by omega))
    refine j_iconst hx dX12_play_24 ?_
    refine j_istore_n hx [(2, .int (zI 0)), (0, .ref a), (1, .int (zI x1))] dX12_play_25 (by decide) rfl ?_
    refine j_iload_n hx 0 dX12_play_26 rfl ?_
    refine j_iload_n hx 2 dX12_play_27 rfl ?_
    refine j_icmp_ge hx 48 dX12_play_28 rfl ⟨by decide, by decide⟩ (by omega) (fun h12 => absurd h12 (by omega)) (fun h12 => ?_)
    refine j_aload_n hx 1 dX12_play_31 rfl ?_
    refine j_callV hx hG (c_X12_turn hst a) lk_RX12_412 ha (by decide) rfl rfl rfl rfl [] ⟨rfl, hG, hS_s1, ha⟩ rfl rfl ⟨by decide, by decide⟩ ⟨by decide, by decide⟩ (k2 := 0) (n2 := 0) rfl rfl (Nat.le_of_ble_eq_true rfl) dX12_play_32 (kIP (fun v13 q14 => ?_))
    refine j_if_eq hx 48 dX12_play_35 rfl (by omega) (fun h15 => ?_) (fun h15 => absurd h15 (by omega))
    refine j_iload_n hx 0 dX12_play_48 rfl ?_
    exact j_iret hx hq rfl (by decide) (by decide) dX12_play_49 ⟨0, rfl, rfl, hS_s1, (zFr_u zFr_rf e_s1 ha (by decide)), ⟨(by omega), by omega⟩⟩

set_option maxHeartbeats 4000000 in
set_option maxRecDepth 20000 in
theorem c_X12_undo {E : zE} {l : Launch} (hst : l.stackTraces = false) (a : Nat) (x1 : Int) : Con E l yX12_undo cX12_undo 5 (some .int) { frames := 1, cells := 0, slots := 0, locals := 23 } (fun G s vs => vs = [.ref a, .int (zI x1)] ∧ zGK G ∧ zSK G s ∧ (gT G a = 13) ∧ ((-2147483648) ≤ x1 ∧ x1 ≤ 2147483647) ∧ (zS0m G s)) (fun G s _ => pI (fun r G2 s2 => G2 = G ∧ zSK G s2 ∧ zFr [13, 71, 84, 87] G s s2 ∧ (0 ≤ r ∧ r ≤ 0) ∧ (((1 ≤ x1 ∧ x1 ≤ 999) → s2 a 0 = 0) ∧ (¬ (1 ≤ x1 ∧ x1 ≤ 999) → s2 a 0 = 1)))) := by
  refine Con.mk hst (by decide) (fun G s vs h => by rw [h.1]; exact Nat.le_of_ble_eq_true rfl) ?_
  rintro X G s0 vs ⟨rfl, hG, hS0, ha, hx1, hF0⟩ rfl hx hq
  show JJ X E 5 G s0 0 0 [(0, .ref a), (1, .int (zI x1))] 0 []
  refine j_aload_n hx 0 dX12_undo_0 rfl ?_
  refine j_iconst hx dX12_undo_1 ?_
  refine p13_0 hx hG ha kf_RX12_3 dX12_undo_2 ?_
  obtain ⟨s1, e_s1⟩ : ∃ z, z = zU s0 a 0 0 := ⟨_, rfl⟩
  rw [← e_s1]
  have hS_s1 : zSK G s1 := by rw [e_s1]; exact zSK_F hS0 ha rfl rfl rfl (by omega)
  refine j_aload_n hx 0 dX12_undo_5 rfl ?_
  refine j_iload_n hx 1 dX12_undo_6 rfl ?_
  refine j_iconst hx dX12_undo_7 ?_
  refine j_sipush hx dX12_undo_8 rfl ?_
  refine j_callS hx (c_X12_within hst x1 1 999) lk_RX12_314 [.int (zI x1), .int (zI 1), .int (zI 999)] ⟨rfl, hG, hS_s1, (by omega), (by omega), (by omega)⟩ rfl rfl ⟨by decide, by decide⟩ ⟨by decide, by decide⟩ (k2 := 0) (n2 := 0) rfl rfl (Nat.le_of_ble_eq_true rfl) dX12_undo_11 (kIP (fun v1 q2 => ?_))
  refine j_iconst hx dX12_undo_14 ?_
  refine j_iconst hx dX12_undo_15 ?_
  rcases (show v1 = 0 ∨ v1 = 1 by omega) with rfl | rfl
  · skip
    have g4 : s1 a 0 = 0 := (by rw [e_s1, zU_eq])
    refine j_callV hx hG (c_X12_may_f hst a 0 1 1) lk_RX12_240 ha (by decide) rfl rfl rfl rfl [.int (zI 0), .int (zI 1), .int (zI 1)] ⟨rfl, hG, hS_s1, ha, (by omega), (by omega), (by omega), (((by rw [e_s1, zU_eq]) : s1 a 0 = 0).trans (by omega))⟩ rfl rfl ⟨by decide, by decide⟩ ⟨by decide, by decide⟩ (k2 := 0) (n2 := 0) rfl rfl (Nat.le_of_ble_eq_true rfl) dX12_undo_16 (kIM (fun v5 s2 hS_s2 hF_s2 q6 => ?_))
    refine j_if_ne hx 24 dX12_undo_19 rfl (by omega) (fun h7 => absurd h7 (by omega)) (fun h7 => ?_)
    refine j_iconst hx dX12_undo_22 ?_
    exact j_iret hx hq rfl (by decide) (by decide) dX12_undo_23 ⟨0, rfl, rfl, hS_s2, (zFr_t (zFr_u zFr_rf e_s1 ha (by decide)) hF_s2 (by decide)), ⟨(by omega), by omega⟩⟩
  · skip
    have g8 : s1 a 0 = 0 := (by rw [e_s1, zU_eq])
    refine j_callV hx hG (c_X12_may_t hst a 1 1 1) lk_RX12_240 ha (by decide) rfl rfl rfl rfl [.int (zI 1), .int (zI 1), .int (zI 1)] ⟨rfl, hG, hS_s1, ha, (by omega), (by omega), (by omega), (((by rw [e_s1, zU_eq]) : s1 a 0 = 0).trans (by omega))⟩ rfl rfl ⟨by decide, by decide⟩ ⟨by decide, by decide⟩ (k2 := 0) (n2 := 0) rfl rfl (Nat.le_of_ble_eq_true rfl) dX12_undo_16 (kIP (fun v9 q10 => ?_))
    refine j_if_ne hx 24 dX12_undo_19 rfl (by omega) (fun h11 => ?_) (fun h11 => absurd h11 (by omega))
    refine j_aload_n hx 0 dX12_undo_24 rfl ?_
    refine g13_27 hx hG ha kf_RX12_56 dX12_undo_25 ?_
    refine j_sipush hx dX12_undo_28 rfl ?_
    have f12 := z0am (j := 488) hF0 (zr (k := 27) (t2 := 84) hG ha rfl) (by decide) rfl (zlen hG (zr (k := 27) (t2 := 84) hG ha rfl) (n := 515) rfl rfl) (show 0 ≤ 488 by omega) (by omega) rfl
    refine j_iald hx hG (zr (k := 27) (t2 := 84) hG ha rfl) (by decide) rfl (zlen hG (zr (k := 27) (t2 := 84) hG ha rfl) (n := 515) rfl rfl) (by omega) (by omega) (j := 488) rfl (v := (s0 (gP G a 27) 488)) (by rw [e_s1, zU_at (Or.inl (zne ha (zr (k := 27) (t2 := 84) hG ha rfl) (by decide)))]) dX12_undo_31 ?_
    refine j_aload_n hx 0 dX12_undo_32 rfl ?_
    refine g13_28 hx hG ha kf_RX12_59 dX12_undo_33 ?_
    refine j_sipush hx dX12_undo_36 rfl ?_
    have f13 := z0am (j := 488) hF0 (zr (k := 28) (t2 := 85) hG ha rfl) (by decide) rfl (zlen hG (zr (k := 28) (t2 := 85) hG ha rfl) (n := 515) rfl rfl) (show 0 ≤ 488 by omega) (by omega) rfl
    refine j_iald hx hG (zr (k := 28) (t2 := 85) hG ha rfl) (by decide) rfl (zlen hG (zr (k := 28) (t2 := 85) hG ha rfl) (n := 515) rfl rfl) (by omega) (by omega) (j := 488) rfl (v := (s0 (gP G a 28) 488)) (by rw [e_s1, zU_at (Or.inl (zne ha (zr (k := 28) (t2 := 85) hG ha rfl) (by decide)))]) dX12_undo_39 ?_
    refine j_isub hx (r := (s0 (gP G a 27) 488) - (s0 (gP G a 28) 488)) dX12_undo_40 (by omega) ?_
    refine j_istore_n hx [(2, .int (zI ((s0 (gP G a 27) 488) - (s0 (gP G a 28) 488)))), (0, .ref a), (1, .int (zI x1))] dX12_undo_41 (by decide) rfl ?_
    refine j_iload_n hx 2 dX12_undo_42 rfl ?_
    refine j_iload_n hx 0 dX12_undo_43 rfl ?_
    refine j_icmp_ge hx 51 dX12_undo_44 rfl (by omega) (by omega) (fun h14 => ?_) (fun h14 => absurd h14 (by omega))
    refine j_iload_n hx 0 dX12_undo_51 rfl ?_
    refine j_istore_n hx [(3, .int (zI ((s0 (gP G a 27) 488) - (s0 (gP G a 28) 488)))), (2, .int (zI ((s0 (gP G a 27) 488) - (s0 (gP G a 28) 488)))), (0, .ref a), (1, .int (zI x1))] dX12_undo_52 (by decide) rfl ?_
    refine j_iload_n hx 0 dX12_undo_53 rfl ?_
    refine j_if_ne hx 59 dX12_undo_54 rfl (by omega) (fun h15 => absurd h15 (by omega)) (fun h15 => ?_)
    refine j_iconst hx dX12_undo_57 ?_
    exact j_iret hx hq rfl (by decide) (by decide) dX12_undo_58 ⟨0, rfl, rfl, hS_s1, (zFr_u zFr_rf e_s1 ha (by decide)), ⟨(by omega), by omega⟩⟩

set_option maxHeartbeats 4000000 in
set_option maxRecDepth 20000 in
theorem c_X12_latest {E : zE} {l : Launch} (hst : l.stackTraces = false) (a : Nat) (x1 : Int) : Con E l yX12_latest cX12_latest 2 (some .int) { frames := 1, cells := 0, slots := 0, locals := 23 } (fun G s vs => vs = [.ref a, .int (zI x1)] ∧ zGK G ∧ zSK G s ∧ (gT G a = 13) ∧ ((-2147483648) ≤ x1 ∧ x1 ≤ 2147483647) ∧ (zS0m G s)) (fun G s _ => pI (fun r G2 s2 => G2 = G ∧ zSK G s2 ∧ zFr [13, 71] G s s2 ∧ ((-1) ≤ r ∧ r ≤ 0) ∧ (((0 ≤ x1 ∧ x1 ≤ 4) → s2 a 0 = 0 ∧ (r = -1)) ∧ (¬ (0 ≤ x1 ∧ x1 ≤ 4) → s2 a 0 = 1)))) := by
  refine Con.mk hst (by decide) (fun G s vs h => by rw [h.1]; exact Nat.le_of_ble_eq_true rfl) ?_
  rintro X G s0 vs ⟨rfl, hG, hS0, ha, hx1, hF0⟩ rfl hx hq
  show JJ X E 2 G s0 0 0 [(0, .ref a), (1, .int (zI x1))] 0 []
  refine j_aload_n hx 0 dX12_latest_0 rfl ?_
  refine j_iconst hx dX12_latest_1 ?_
  refine p13_0 hx hG ha kf_RX12_3 dX12_latest_2 ?_
  obtain ⟨s1, e_s1⟩ : ∃ z, z = zU s0 a 0 0 := ⟨_, rfl⟩
  rw [← e_s1]
  have hS_s1 : zSK G s1 := by rw [e_s1]; exact zSK_F hS0 ha rfl rfl rfl (by omega)
  refine j_aload_n hx 0 dX12_latest_5 rfl ?_
  refine j_iload_n hx 1 dX12_latest_6 rfl ?_
  refine j_iconst hx dX12_latest_7 ?_
  refine j_iconst hx dX12_latest_8 ?_
  refine j_callS hx (c_X12_within hst x1 0 4) lk_RX12_314 [.int (zI x1), .int (zI 0), .int (zI 4)] ⟨rfl, hG, hS_s1, (by omega), (by omega), (by omega)⟩ rfl rfl ⟨by decide, by decide⟩ ⟨by decide, by decide⟩ (k2 := 0) (n2 := 0) rfl rfl (Nat.le_of_ble_eq_true rfl) dX12_latest_9 (kIP (fun v1 q2 => ?_))
  refine j_iconst hx dX12_latest_12 ?_
  refine j_iconst hx dX12_latest_13 ?_
  rcases (show v1 = 0 ∨ v1 = 1 by omega) with rfl | rfl
  · skip
    have g4 : s1 a 0 = 0 := (by rw [e_s1, zU_eq])
    refine j_callV hx hG (c_X12_may_f hst a 0 1 1) lk_RX12_240 ha (by decide) rfl rfl rfl rfl [.int (zI 0), .int (zI 1), .int (zI 1)] ⟨rfl, hG, hS_s1, ha, (by omega), (by omega), (by omega), (((by rw [e_s1, zU_eq]) : s1 a 0 = 0).trans (by omega))⟩ rfl rfl ⟨by decide, by decide⟩ ⟨by decide, by decide⟩ (k2 := 0) (n2 := 0) rfl rfl (Nat.le_of_ble_eq_true rfl) dX12_latest_14 (kIM (fun v5 s2 hS_s2 hF_s2 q6 => ?_))
    refine j_if_ne hx 22 dX12_latest_17 rfl (by omega) (fun h7 => absurd h7 (by omega)) (fun h7 => ?_)
    refine j_iconst hx dX12_latest_20 ?_
    exact j_iret hx hq rfl (by decide) (by decide) dX12_latest_21 ⟨0, rfl, rfl, hS_s2, (zFr_t (zFr_u zFr_rf e_s1 ha (by decide)) hF_s2 (by decide)), ⟨(by omega), by omega⟩⟩
  · skip
    have g8 : s1 a 0 = 0 := (by rw [e_s1, zU_eq])
    refine j_callV hx hG (c_X12_may_t hst a 1 1 1) lk_RX12_240 ha (by decide) rfl rfl rfl rfl [.int (zI 1), .int (zI 1), .int (zI 1)] ⟨rfl, hG, hS_s1, ha, (by omega), (by omega), (by omega), (((by rw [e_s1, zU_eq]) : s1 a 0 = 0).trans (by omega))⟩ rfl rfl ⟨by decide, by decide⟩ ⟨by decide, by decide⟩ (k2 := 0) (n2 := 0) rfl rfl (Nat.le_of_ble_eq_true rfl) dX12_latest_14 (kIP (fun v9 q10 => ?_))
    refine j_if_ne hx 22 dX12_latest_17 rfl (by omega) (fun h11 => ?_) (fun h11 => absurd h11 (by omega))
    refine j_aload_n hx 0 dX12_latest_22 rfl ?_
    refine g13_30 hx hG ha kf_RX12_65 dX12_latest_23 ?_
    refine j_iload_n hx 1 dX12_latest_26 rfl ?_
    have f12 := z0am (j := (x1).toNat) hF0 (zr (k := 30) (t2 := 87) hG ha rfl) (by decide) rfl (zlen hG (zr (k := 30) (t2 := 87) hG ha rfl) (n := 5) rfl rfl) (show 0 ≤ x1 by omega) (by omega) rfl
    refine j_iald hx hG (zr (k := 30) (t2 := 87) hG ha rfl) (by decide) rfl (zlen hG (zr (k := 30) (t2 := 87) hG ha rfl) (n := 5) rfl rfl) (by omega) (by omega) (j := (x1).toNat) rfl (v := (s0 (gP G a 30) (x1).toNat)) (by rw [e_s1, zU_at (Or.inl (zne ha (zr (k := 30) (t2 := 87) hG ha rfl) (by decide)))]) dX12_latest_27 ?_
    exact j_iret hx hq rfl (by decide) (by decide) dX12_latest_28 ⟨(s0 (gP G a 30) (x1).toNat), rfl, rfl, hS_s1, (zFr_u zFr_rf e_s1 ha (by decide)), ⟨(by omega), by omega⟩⟩

set_option maxHeartbeats 4000000 in
set_option maxRecDepth 20000 in
theorem c_X12_calls {E : zE} {l : Launch} (hst : l.stackTraces = false) (a : Nat) (x1 : Int) (x2 : Int) : Con E l yX12_calls cX12_calls 3 (some .int) { frames := 2, cells := 0, slots := 0, locals := 45 } (fun G s vs => vs = [.ref a, .int (zI x1), .int (zI x2)] ∧ zGK G ∧ zSK G s ∧ (gT G a = 13) ∧ ((-2147483648) ≤ x1 ∧ x1 ≤ 2147483647) ∧ ((-2147483648) ≤ x2 ∧ x2 ≤ 2147483647) ∧ (zS0m G s)) (fun G s _ => pI (fun r G2 s2 => G2 = G ∧ zSK G s2 ∧ zFr [13, 71] G s s2 ∧ ((-2147483648) ≤ r ∧ r ≤ 2147483647) ∧ s2 a 0 = 1)) := by
  refine Con.mk hst (by decide) (fun G s vs h => by rw [h.1]; exact Nat.le_of_ble_eq_true rfl) ?_
  rintro X G s0 vs ⟨rfl, hG, hS0, ha, hx1, hx2, hF0⟩ rfl hx hq
  show JJ X E 3 G s0 0 0 [(0, .ref a), (1, .int (zI x1)), (2, .int (zI x2))] 0 []
  refine j_aload_n hx 0 dX12_calls_0 rfl ?_
  refine j_iconst hx dX12_calls_1 ?_
  refine p13_0 hx hG ha kf_RX12_3 dX12_calls_2 ?_
  obtain ⟨s1, e_s1⟩ : ∃ z, z = zU s0 a 0 0 := ⟨_, rfl⟩
  rw [← e_s1]
  have hS_s1 : zSK G s1 := by rw [e_s1]; exact zSK_F hS0 ha rfl rfl rfl (by omega)
  refine j_aload_n hx 0 dX12_calls_5 rfl ?_
  refine j_iload_n hx 1 dX12_calls_6 rfl ?_
  refine j_iconst hx dX12_calls_7 ?_
  have g1 : s1 a 0 = 0 := (by rw [e_s1, zU_eq])
  refine j_callV hx hG (c_X12_isPlayer hst a x1 1) lk_RX12_339 ha (by decide) rfl rfl rfl rfl [.int (zI x1), .int (zI 1)] ⟨rfl, hG, hS_s1, ha, (by omega), (by omega), (((by rw [e_s1, zU_eq]) : s1 a 0 = 0).trans (by omega))⟩ rfl rfl ⟨by decide, by decide⟩ ⟨by decide, by decide⟩ (k2 := 0) (n2 := 0) rfl rfl (Nat.le_of_ble_eq_true rfl) dX12_calls_8 (kIM (fun v2 s2 hS_s2 hF_s2 q3 => ?_))
  refine j_if_eq hx 29 dX12_calls_11 rfl (by omega) (fun h4 => ?_) (fun h4 => absurd h4 (by omega))
  refine j_iconst hx dX12_calls_29 ?_
  exact j_iret hx hq rfl (by decide) (by decide) dX12_calls_30 ⟨0, rfl, rfl, hS_s2, (zFr_t (zFr_u zFr_rf e_s1 ha (by decide)) hF_s2 (by decide)), ⟨(by omega), by omega⟩⟩

set_option maxHeartbeats 4000000 in
set_option maxRecDepth 20000 in
theorem c_X12_won {E : zE} {l : Launch} (hst : l.stackTraces = false) (a : Nat) (x1 : Int) : Con E l yX12_won cX12_won 2 (some .int) { frames := 2, cells := 0, slots := 0, locals := 45 } (fun G s vs => vs = [.ref a, .int (zI x1)] ∧ zGK G ∧ zSK G s ∧ (gT G a = 13) ∧ ((-2147483648) ≤ x1 ∧ x1 ≤ 2147483647) ∧ (zS0m G s)) (fun G s _ => pI (fun r G2 s2 => G2 = G ∧ zSK G s2 ∧ zFr [13, 71] G s s2 ∧ ((-2147483648) ≤ r ∧ r ≤ 2147483647) ∧ s2 a 0 = 1)) := by
  refine Con.mk hst (by decide) (fun G s vs h => by rw [h.1]; exact Nat.le_of_ble_eq_true rfl) ?_
  rintro X G s0 vs ⟨rfl, hG, hS0, ha, hx1, hF0⟩ rfl hx hq
  show JJ X E 2 G s0 0 0 [(0, .ref a), (1, .int (zI x1))] 0 []
  refine j_aload_n hx 0 dX12_won_0 rfl ?_
  refine j_iconst hx dX12_won_1 ?_
  refine p13_0 hx hG ha kf_RX12_3 dX12_won_2 ?_
  obtain ⟨s1, e_s1⟩ : ∃ z, z = zU s0 a 0 0 := ⟨_, rfl⟩
  rw [← e_s1]
  have hS_s1 : zSK G s1 := by rw [e_s1]; exact zSK_F hS0 ha rfl rfl rfl (by omega)
  refine j_aload_n hx 0 dX12_won_5 rfl ?_
  refine j_iload_n hx 1 dX12_won_6 rfl ?_
  refine j_iconst hx dX12_won_7 ?_
  have g1 : s1 a 0 = 0 := (by rw [e_s1, zU_eq])
  refine j_callV hx hG (c_X12_isPlayer hst a x1 1) lk_RX12_339 ha (by decide) rfl rfl rfl rfl [.int (zI x1), .int (zI 1)] ⟨rfl, hG, hS_s1, ha, (by omega), (by omega), (((by rw [e_s1, zU_eq]) : s1 a 0 = 0).trans (by omega))⟩ rfl rfl ⟨by decide, by decide⟩ ⟨by decide, by decide⟩ (k2 := 0) (n2 := 0) rfl rfl (Nat.le_of_ble_eq_true rfl) dX12_won_8 (kIM (fun v2 s2 hS_s2 hF_s2 q3 => ?_))
  refine j_if_ne hx 16 dX12_won_11 rfl (by omega) (fun h4 => absurd h4 (by omega)) (fun h4 => ?_)
  refine j_iconst hx dX12_won_14 ?_
  exact j_iret hx hq rfl (by decide) (by decide) dX12_won_15 ⟨0, rfl, rfl, hS_s2, (zFr_t (zFr_u zFr_rf e_s1 ha (by decide)) hF_s2 (by decide)), ⟨(by omega), by omega⟩⟩

set_option maxHeartbeats 4000000 in
set_option maxRecDepth 20000 in
theorem c_X12_keeps {E : zE} {l : Launch} (hst : l.stackTraces = false) (a : Nat) : Con E l yX12_keeps cX12_keeps 2 none { frames := 0, cells := 0, slots := 0, locals := 0 } (fun G s vs => vs = [.ref a] ∧ zGK G ∧ zSK G s ∧ (gT G a = 13)) (fun G s _ => pV (fun G2 s2 => G2 = G ∧ zSK G s2 ∧ zFr [99, 100] G s s2 ∧ True)) := by
  refine Con.mk hst (by decide) (fun G s vs h => by rw [h.1]; exact Nat.le_of_ble_eq_true rfl) ?_
  rintro X G s0 vs ⟨rfl, hG, hS0, ha⟩ rfl hx hq
  show JJ X E 2 G s0 0 0 [(0, .ref a)] 0 []
  refine j_iconst hx dX12_keeps_0 ?_
  refine j_istore_n hx [(1, .int (zI 0)), (0, .ref a)] dX12_keeps_1 (by decide) rfl ?_
  have c2_1 : ∀ (m_c2_1 : Nat) (v1 : Int) (s2 : zS), 2147483648 - v1 < m_c2_1 → (0 ≤ v1 ∧ v1 ≤ 515) → (zSK G s2) → (zFr [99] G s0 s2) → JJ X E 2 G s2 0 0 [(0, .ref a), (1, .int (zI v1))] 2 [] := by
    intro m_c2_1
    induction m_c2_1 with
    | zero => intro v1 s2 hm_c2_1 fA3 hS_s2 hF_s2; exfalso; omega
    | succ m_c2_1 ih_c2_1 => 
      intro v1 s2 hm_c2_1 fA3 hS_s2 hF_s2
      refine j_iload_n hx 1 dX12_keeps_2 rfl ?_
      refine j_sipush hx dX12_keeps_3 rfl ?_
      refine j_icmp_ge hx 27 dX12_keeps_6 rfl (by omega) ⟨by decide, by decide⟩ (fun h2 => ?_) (fun h2 => ?_)
      · skip
        refine j_iconst hx dX12_keeps_27 ?_
        refine j_istore_n hx [(1, .int (zI 0)), (0, .ref a)] dX12_keeps_28 (by decide) rfl ?_
        have c29_6 : ∀ (m_c29_6 : Nat) (v3 : Int) (s7 : zS), 2147483648 - v3 < m_c29_6 → (0 ≤ v3 ∧ v3 ≤ 5) → (zSK G s7) → (zFr [100] G s2 s7) → JJ X E 2 G s7 0 0 [(0, .ref a), (1, .int (zI v3))] 29 [] := by
          intro m_c29_6
          induction m_c29_6 with
          | zero => intro v3 s7 hm_c29_6 fA8 hS_s7 hF_s7; exfalso; omega
          | succ m_c29_6 ih_c29_6 => 
            intro v3 s7 hm_c29_6 fA8 hS_s7 hF_s7
            refine j_iload_n hx 1 dX12_keeps_29 rfl ?_
            refine j_iconst hx dX12_keeps_30 ?_
            refine j_icmp_ge hx 52 dX12_keeps_31 rfl (by omega) ⟨by decide, by decide⟩ (fun h4 => ?_) (fun h4 => ?_)
            · skip
              exact j_vret hx hq rfl (by decide) (by decide) dX12_keeps_52 ⟨rfl, rfl, hS_s7, (zFr_t (zFr_t zFr_rf hF_s2 (by decide)) hF_s7 (by decide)), trivial⟩
            · skip
              refine j_aload_n hx 0 dX12_keeps_34 rfl ?_
              refine g13_47 hx hG ha kf_RX12_105 dX12_keeps_35 ?_
              refine j_iload_n hx 1 dX12_keeps_38 rfl ?_
              refine j_aload_n hx 0 dX12_keeps_39 rfl ?_
              refine g13_30 hx hG ha kf_RX12_65 dX12_keeps_40 ?_
              refine j_iload_n hx 1 dX12_keeps_43 rfl ?_
              have f5 := zaI (j := (v3).toNat) hS0 (zr (k := 30) (t2 := 87) hG ha rfl) rfl (zlen hG (zr (k := 30) (t2 := 87) hG ha rfl) (n := 5) rfl rfl) (show 0 ≤ v3 by omega) (by omega) rfl
              refine j_iald hx hG (zr (k := 30) (t2 := 87) hG ha rfl) (by decide) rfl (zlen hG (zr (k := 30) (t2 := 87) hG ha rfl) (n := 5) rfl rfl) (by omega) (by omega) (j := (v3).toNat) rfl (v := (s0 (gP G a 30) (v3).toNat)) (by rw [(zFr_g hF_s7 (zr (k := 30) (t2 := 87) hG ha rfl) (by decide)), (zFr_g hF_s2 (zr (k := 30) (t2 := 87) hG ha rfl) (by decide))]) dX12_keeps_44 ?_
              refine j_iast hx hG (zr (k := 47) (t2 := 100) hG ha rfl) (by decide) rfl (zlen hG (zr (k := 47) (t2 := 100) hG ha rfl) (n := 5) rfl rfl) (by omega) (by omega) (j := (v3).toNat) rfl dX12_keeps_45 ?_
              obtain ⟨s11, e_s11⟩ : ∃ z, z = zU s7 (gP G a 47) (v3).toNat ((s0 (gP G a 30) (v3).toNat)) := ⟨_, rfl⟩
              rw [← e_s11]
              have hS_s11 : zSK G s11 := by rw [e_s11]; exact zSK_A hS_s7 (zr (k := 47) (t2 := 100) hG ha rfl) rfl rfl rfl (by omega)
              refine j_iinc hx 1 [(1, .int (zI (v3 + 1))), (0, .ref a)] dX12_keeps_46 rfl (by omega) (by decide) rfl ?_
              refine j_goto hx 29 dX12_keeps_49 rfl ?_
              exact j_sub [1, 0] [(0, .ref a), (1, .int (zI (v3 + 1)))] rfl (ih_c29_6 (v3 + 1) s11 (by omega) (by omega) hS_s11 (zFr_u (zFr_t zFr_rf hF_s7 (by decide)) e_s11 (zr (k := 47) (t2 := 100) hG ha rfl) (by decide)))
        exact j_sub [1, 0] [(0, .ref a), (1, .int (zI 0))] rfl (c29_6 (2147483648 * 4) 0 s2 (by omega) (by omega) hS_s2 zFr_rf)
      · skip
        refine j_aload_n hx 0 dX12_keeps_9 rfl ?_
        refine g13_46 hx hG ha kf_RX12_102 dX12_keeps_10 ?_
        refine j_iload_n hx 1 dX12_keeps_13 rfl ?_
        refine j_aload_n hx 0 dX12_keeps_14 rfl ?_
        refine g13_27 hx hG ha kf_RX12_56 dX12_keeps_15 ?_
        refine j_iload_n hx 1 dX12_keeps_18 rfl ?_
        have f6 := zah (j := (v1).toNat) hS0 (zr (k := 27) (t2 := 84) hG ha rfl) aqH_84 (zlen hG (zr (k := 27) (t2 := 84) hG ha rfl) (n := 515) rfl rfl) (show 0 ≤ v1 by omega) (by omega) rfl
        refine j_iald hx hG (zr (k := 27) (t2 := 84) hG ha rfl) (by decide) rfl (zlen hG (zr (k := 27) (t2 := 84) hG ha rfl) (n := 515) rfl rfl) (by omega) (by omega) (j := (v1).toNat) rfl (v := (s0 (gP G a 27) (v1).toNat)) (by rw [(zFr_g hF_s2 (zr (k := 27) (t2 := 84) hG ha rfl) (by decide))]) dX12_keeps_19 ?_
        refine j_iast hx hG (zr (k := 46) (t2 := 99) hG ha rfl) (by decide) rfl (zlen hG (zr (k := 46) (t2 := 99) hG ha rfl) (n := 515) rfl rfl) (by omega) (by omega) (j := (v1).toNat) rfl dX12_keeps_20 ?_
        obtain ⟨s12, e_s12⟩ : ∃ z, z = zU s2 (gP G a 46) (v1).toNat ((s0 (gP G a 27) (v1).toNat)) := ⟨_, rfl⟩
        rw [← e_s12]
        have hS_s12 : zSK G s12 := by rw [e_s12]; exact zSK_c hS_s2 hS0 (zr (k := 46) (t2 := 99) hG ha rfl) (zr (k := 27) (t2 := 84) hG ha rfl) (fun _ => rfl) rfl rfl (by have := (zlen hG (zr (k := 27) (t2 := 84) hG ha rfl) (n := 515) rfl rfl); omega) rfl
        refine j_iinc hx 1 [(1, .int (zI (v1 + 1))), (0, .ref a)] dX12_keeps_21 rfl (by omega) (by decide) rfl ?_
        refine j_goto hx 2 dX12_keeps_24 rfl ?_
        exact j_sub [1, 0] [(0, .ref a), (1, .int (zI (v1 + 1)))] rfl (ih_c2_1 (v1 + 1) s12 (by omega) (by omega) hS_s12 (zFr_u (zFr_t zFr_rf hF_s2 (by decide)) e_s12 (zr (k := 46) (t2 := 99) hG ha rfl) (by decide)))
  exact j_sub [1, 0] [(0, .ref a), (1, .int (zI 0))] rfl (c2_1 (2147483648 * 4) 0 s0 (by omega) (by omega) hS0 zFr_rf)

set_option maxHeartbeats 4000000 in
set_option maxRecDepth 20000 in
theorem c_X12_puts {E : zE} {l : Launch} (hst : l.stackTraces = false) (a : Nat) (x1 : Int) (x2 : Int) (x3 : Int) : Con E l yX12_puts cX12_puts 5 (some .int) { frames := 0, cells := 0, slots := 0, locals := 0 } (fun G s vs => vs = [.ref a, .int (zI x1), .int (zI x2), .int (zI x3)] ∧ zGK G ∧ zSK G s ∧ (gT G a = 13) ∧ (0 ≤ x1 ∧ x1 ≤ 0) ∧ (360 ≤ x2 ∧ x2 ≤ 360) ∧ (486 ≤ x3 ∧ x3 ≤ 486)) (fun G s _ => pI (fun r G2 s2 => G2 = G ∧ zSK G s2 ∧ zFr [101] G s s2 ∧ (0 ≤ r ∧ r ≤ 0))) := by
  refine Con.mk hst (by decide) (fun G s vs h => by rw [h.1]; exact Nat.le_of_ble_eq_true rfl) ?_
  rintro X G s0 vs ⟨rfl, hG, hS0, ha, hx1, hx2, hx3⟩ rfl hx hq
  obtain rfl : x1 = 0 := by omega
  obtain rfl : x2 = 360 := by omega
  obtain rfl : x3 = 486 := by omega
  show JJ X E 5 G s0 0 0 [(0, .ref a), (1, .int (zI 0)), (2, .int (zI 360)), (3, .int (zI 486))] 0 []
  refine j_iconst hx dX12_puts_0 ?_
  refine j_istore hx [(4, .int (zI 0)), (0, .ref a), (1, .int (zI 0)), (2, .int (zI 360)), (3, .int (zI 486))] dX12_puts_1 (by decide) rfl ?_
  refine j_iload hx 0 dX12_puts_3 rfl ?_
  refine j_aload_n hx 1 dX12_puts_5 rfl ?_
  refine g13_27 hx hG ha kf_RX12_56 dX12_puts_6 ?_
  refine j_iload_n hx 4 dX12_puts_9 rfl ?_
  have f1 := zaI (j := 486) hS0 (zr (k := 27) (t2 := 84) hG ha rfl) rfl (zlen hG (zr (k := 27) (t2 := 84) hG ha rfl) (n := 515) rfl rfl) (show 0 ≤ 486 by omega) (by omega) rfl
  refine j_iald hx hG (zr (k := 27) (t2 := 84) hG ha rfl) (by decide) rfl (zlen hG (zr (k := 27) (t2 := 84) hG ha rfl) (n := 515) rfl rfl) (by omega) (by omega) (j := 486) rfl rfl dX12_puts_10 ?_
  refine j_icmp_ge hx 64 dX12_puts_11 rfl ⟨by decide, by decide⟩ (by omega) (fun h2 => ?_) (fun h2 => absurd h2 (by omega))
  refine j_iload_n hx 2 dX12_puts_64 rfl ?_
  refine j_aload_n hx 1 dX12_puts_65 rfl ?_
  refine g13_27 hx hG ha kf_RX12_56 dX12_puts_66 ?_
  refine j_iload_n hx 4 dX12_puts_69 rfl ?_
  refine j_iald hx hG (zr (k := 27) (t2 := 84) hG ha rfl) (by decide) rfl (zlen hG (zr (k := 27) (t2 := 84) hG ha rfl) (n := 515) rfl rfl) (by omega) (by omega) (j := 486) rfl rfl dX12_puts_70 ?_
  refine j_iadd hx (r := (s0 (gP G a 27) 486)) dX12_puts_71 (by omega) ?_
  exact j_iret hx hq rfl (by decide) (by decide) dX12_puts_72 ⟨(s0 (gP G a 27) 486), rfl, rfl, hS0, zFr_rf, (by omega)⟩

theorem lk_RX12_417 : LkV RX12 417 RX12 yX12_puts cX12_puts 5 (some .int) 3 := ⟨km_RX12_417, ki_yX12_puts, ks_RX12_yX12_puts, kn_RX12, kc_yX12_puts, rfl, by decide +kernel, by decide +kernel, by decide +kernel⟩
set_option maxHeartbeats 4000000 in
set_option maxRecDepth 20000 in
theorem c_X12_writes {E : zE} {l : Launch} (hst : l.stackTraces = false) (a : Nat) (x1 : Int) : Con E l yX12_writes cX12_writes 5 none { frames := 2, cells := 0, slots := 0, locals := 42 } (fun G s vs => vs = [.ref a, .int (zI x1)] ∧ zGK G ∧ zSK G s ∧ (gT G a = 13) ∧ (0 ≤ x1 ∧ x1 ≤ 0)) (fun G s _ => pV (fun G2 s2 => G2 = G ∧ zSK G s2 ∧ zFr [101] G s s2 ∧ True)) := by
  refine Con.mk hst (by decide) (fun G s vs h => by rw [h.1]; exact Nat.le_of_ble_eq_true rfl) ?_
  rintro X G s0 vs ⟨rfl, hG, hS0, ha, hx1⟩ rfl hx hq
  show JJ X E 5 G s0 0 0 [(0, .ref a), (1, .int (zI x1))] 0 []
  refine j_bipush hx dX12_writes_0 rfl ?_
  refine j_iload_n hx 1 dX12_writes_2 rfl ?_
  refine j_imul hx (r := 70 * x1) dX12_writes_3 rfl ?_
  refine j_istore_n hx [(2, .int (zI (70 * x1))), (0, .ref a), (1, .int (zI x1))] dX12_writes_4 (by decide) rfl ?_
  refine j_iconst hx dX12_writes_5 ?_
  refine j_istore_n hx [(3, .int (zI 0)), (2, .int (zI (70 * x1))), (0, .ref a), (1, .int (zI x1))] dX12_writes_6 (by decide) rfl ?_
  have c7_1 : ∀ (m_c7_1 : Nat) (v1 : Int) (s2 : zS), 2147483648 - v1 < m_c7_1 → (0 ≤ v1 ∧ v1 ≤ 70) → (zSK G s2) → (zFr [101] G s0 s2) → JJ X E 5 G s2 0 0 [(0, .ref a), (2, .int (zI (70 * x1))), (3, .int (zI v1))] 7 [] := by
    intro m_c7_1
    induction m_c7_1 with
    | zero => intro v1 s2 hm_c7_1 fA3 hS_s2 hF_s2; exfalso; omega
    | succ m_c7_1 ih_c7_1 => 
      intro v1 s2 hm_c7_1 fA3 hS_s2 hF_s2
      refine j_iload_n hx 2 dX12_writes_7 rfl ?_
      refine j_bipush hx dX12_writes_8 rfl ?_
      refine j_icmp_ge hx 28 dX12_writes_10 rfl (by omega) ⟨by decide, by decide⟩ (fun h2 => ?_) (fun h2 => ?_)
      · skip
        refine j_iload_n hx 1 dX12_writes_28 rfl ?_
        refine j_istore_n hx [(3, .int (zI (70 * x1))), (0, .ref a), (2, .int (zI (70 * x1)))] dX12_writes_29 (by decide) rfl ?_
        refine j_iconst hx dX12_writes_30 ?_
        refine j_istore hx [(4, .int (zI 0)), (3, .int (zI (70 * x1))), (0, .ref a), (2, .int (zI (70 * x1)))] dX12_writes_31 (by decide) rfl ?_
        refine j_iload hx 0 dX12_writes_33 rfl ?_
        refine j_aload_n hx 2 dX12_writes_35 rfl ?_
        have f3 := zf hS0 ha (k := 24) rfl
        refine g13_24 hx hG ha kf_RX12_189 (v := (s0 a 24)) (by rw [(zFr_g hF_s2 ha (by decide))]) dX12_writes_36 ?_
        refine j_icmp_ge hx 136 dX12_writes_39 rfl ⟨by decide, by decide⟩ (by omega) (fun h4 => ?_) (fun h4 => absurd h4 (by omega))
        refine j_aload_n hx 2 dX12_writes_136 rfl ?_
        refine j_iload_n hx 1 dX12_writes_137 rfl ?_
        refine j_sipush hx dX12_writes_138 rfl ?_
        refine j_sipush hx dX12_writes_141 rfl ?_
        refine j_callV hx hG (c_X12_puts hst a (70 * x1) 360 486) lk_RX12_417 ha (by decide) rfl rfl rfl rfl [.int (zI (70 * x1)), .int (zI 360), .int (zI 486)] ⟨rfl, hG, hS_s2, ha, (by omega), (by omega), (by omega)⟩ rfl rfl ⟨by decide, by decide⟩ ⟨by decide, by decide⟩ (k2 := 0) (n2 := 0) rfl rfl (Nat.le_of_ble_eq_true rfl) dX12_writes_144 (kIM (fun v5 s6 hS_s6 hF_s6 q6 => ?_))
        refine j_pop hx dX12_writes_147 rfl ?_
        refine j_aload_n hx 2 dX12_writes_148 rfl ?_
        refine g13_48 hx hG ha kf_RX12_109 dX12_writes_149 ?_
        refine j_iload_n hx 3 dX12_writes_152 rfl ?_
        refine j_bipush hx dX12_writes_153 rfl ?_
        refine j_iadd hx (r := 70 * x1 + 60) dX12_writes_155 (by omega) ?_
        refine j_bipush hx dX12_writes_156 rfl ?_
        refine j_iadd hx (r := 70 * x1 + 66) dX12_writes_158 (by omega) ?_
        refine j_aload_n hx 2 dX12_writes_159 rfl ?_
        refine g13_27 hx hG ha kf_RX12_56 dX12_writes_160 ?_
        refine j_sipush hx dX12_writes_163 rfl ?_
        have f7 := zaI (j := 486) hS0 (zr (k := 27) (t2 := 84) hG ha rfl) rfl (zlen hG (zr (k := 27) (t2 := 84) hG ha rfl) (n := 515) rfl rfl) (show 0 ≤ 486 by omega) (by omega) rfl
        refine j_iald hx hG (zr (k := 27) (t2 := 84) hG ha rfl) (by decide) rfl (zlen hG (zr (k := 27) (t2 := 84) hG ha rfl) (n := 515) rfl rfl) (by omega) (by omega) (j := 486) rfl (v := (s0 (gP G a 27) 486)) (by rw [(zFr_g hF_s6 (zr (k := 27) (t2 := 84) hG ha rfl) (by decide)), (zFr_g hF_s2 (zr (k := 27) (t2 := 84) hG ha rfl) (by decide))]) dX12_writes_166 ?_
        refine j_iast hx hG (zr (k := 48) (t2 := 101) hG ha rfl) (by decide) rfl (zlen hG (zr (k := 48) (t2 := 101) hG ha rfl) (n := 210070) rfl rfl) (by omega) (by omega) (j := (70 * x1 + 66).toNat) rfl dX12_writes_167 ?_
        obtain ⟨s7, e_s7⟩ : ∃ z, z = zU s6 (gP G a 48) (70 * x1 + 66).toNat ((s0 (gP G a 27) 486)) := ⟨_, rfl⟩
        rw [← e_s7]
        have hS_s7 : zSK G s7 := by rw [e_s7]; exact zSK_A hS_s6 (zr (k := 48) (t2 := 101) hG ha rfl) rfl rfl rfl (by omega)
        refine j_aload_n hx 2 dX12_writes_168 rfl ?_
        refine g13_48 hx hG ha kf_RX12_109 dX12_writes_169 ?_
        refine j_iload_n hx 3 dX12_writes_172 rfl ?_
        refine j_bipush hx dX12_writes_173 rfl ?_
        refine j_iadd hx (r := 70 * x1 + 60) dX12_writes_175 (by omega) ?_
        refine j_bipush hx dX12_writes_176 rfl ?_
        refine j_iadd hx (r := 70 * x1 + 67) dX12_writes_178 (by omega) ?_
        refine j_aload_n hx 2 dX12_writes_179 rfl ?_
        refine j_callV hx hG (c_X12_whose hst a) lk_RX12_336 ha (by decide) rfl rfl rfl rfl [] ⟨rfl, hG, hS_s7, ha⟩ rfl rfl ⟨by decide, by decide⟩ ⟨by decide, by decide⟩ (k2 := 0) (n2 := 0) rfl rfl (Nat.le_of_ble_eq_true rfl) dX12_writes_180 (kIP (fun v8 q9 => ?_))
        refine j_iast hx hG (zr (k := 48) (t2 := 101) hG ha rfl) (by decide) rfl (zlen hG (zr (k := 48) (t2 := 101) hG ha rfl) (n := 210070) rfl rfl) (by omega) (by omega) (j := (70 * x1 + 67).toNat) rfl dX12_writes_183 ?_
        obtain ⟨s8, e_s8⟩ : ∃ z, z = zU s7 (gP G a 48) (70 * x1 + 67).toNat v8 := ⟨_, rfl⟩
        rw [← e_s8]
        have hS_s8 : zSK G s8 := by rw [e_s8]; exact zSK_A hS_s7 (zr (k := 48) (t2 := 101) hG ha rfl) rfl rfl rfl (by omega)
        refine j_aload_n hx 2 dX12_writes_184 rfl ?_
        refine g13_48 hx hG ha kf_RX12_109 dX12_writes_185 ?_
        refine j_iload_n hx 3 dX12_writes_188 rfl ?_
        refine j_bipush hx dX12_writes_189 rfl ?_
        refine j_iadd hx (r := 70 * x1 + 60) dX12_writes_191 (by omega) ?_
        refine j_bipush hx dX12_writes_192 rfl ?_
        refine j_iadd hx (r := 70 * x1 + 68) dX12_writes_194 (by omega) ?_
        refine j_aload_n hx 2 dX12_writes_195 rfl ?_
        refine g13_27 hx hG ha kf_RX12_56 dX12_writes_196 ?_
        refine j_sipush hx dX12_writes_199 rfl ?_
        have f10 := zaI (j := 490) hS0 (zr (k := 27) (t2 := 84) hG ha rfl) rfl (zlen hG (zr (k := 27) (t2 := 84) hG ha rfl) (n := 515) rfl rfl) (show 0 ≤ 490 by omega) (by omega) rfl
        refine j_iald hx hG (zr (k := 27) (t2 := 84) hG ha rfl) (by decide) rfl (zlen hG (zr (k := 27) (t2 := 84) hG ha rfl) (n := 515) rfl rfl) (by omega) (by omega) (j := 490) rfl (v := (s0 (gP G a 27) 490)) (by rw [e_s8, zU_at (Or.inl (zne (zr (k := 48) (t2 := 101) hG ha rfl) (zr (k := 27) (t2 := 84) hG ha rfl) (by decide))), e_s7, zU_at (Or.inl (zne (zr (k := 48) (t2 := 101) hG ha rfl) (zr (k := 27) (t2 := 84) hG ha rfl) (by decide))), (zFr_g hF_s6 (zr (k := 27) (t2 := 84) hG ha rfl) (by decide)), (zFr_g hF_s2 (zr (k := 27) (t2 := 84) hG ha rfl) (by decide))]) dX12_writes_202 ?_
        refine j_iconst hx dX12_writes_203 ?_
        have c219_9 : ∀ (v11 : Int), ((-2147483648) ≤ v11 ∧ v11 ≤ 2147483647) → JJ X E 5 G s8 0 0 [(0, .ref a), (2, .int (zI (70 * x1)))] 219 [.int (zI v11), .int (zI (70 * x1 + 68)), .ref (gP G a 48)] := by
          intro v11 fA10
          refine j_iast hx hG (zr (k := 48) (t2 := 101) hG ha rfl) (by decide) rfl (zlen hG (zr (k := 48) (t2 := 101) hG ha rfl) (n := 210070) rfl rfl) (by omega) (by omega) (j := (70 * x1 + 68).toNat) rfl dX12_writes_219 ?_
          obtain ⟨s11, e_s11⟩ : ∃ z, z = zU s8 (gP G a 48) (70 * x1 + 68).toNat v11 := ⟨_, rfl⟩
          rw [← e_s11]
          have hS_s11 : zSK G s11 := by rw [e_s11]; exact zSK_A hS_s8 (zr (k := 48) (t2 := 101) hG ha rfl) rfl rfl rfl (by omega)
          refine j_aload_n hx 0 dX12_writes_220 rfl ?_
          refine g13_48 hx hG ha kf_RX12_109 dX12_writes_221 ?_
          refine j_iload_n hx 1 dX12_writes_224 rfl ?_
          refine j_bipush hx dX12_writes_225 rfl ?_
          refine j_iadd hx (r := 70 * x1 + 60) dX12_writes_227 (by omega) ?_
          refine j_bipush hx dX12_writes_228 rfl ?_
          refine j_iadd hx (r := 70 * x1 + 69) dX12_writes_230 (by omega) ?_
          refine j_aload_n hx 0 dX12_writes_231 rfl ?_
          refine g13_27 hx hG ha kf_RX12_56 dX12_writes_232 ?_
          refine j_sipush hx dX12_writes_235 rfl ?_
          have f12 := zaI (j := 488) hS0 (zr (k := 27) (t2 := 84) hG ha rfl) rfl (zlen hG (zr (k := 27) (t2 := 84) hG ha rfl) (n := 515) rfl rfl) (show 0 ≤ 488 by omega) (by omega) rfl
          refine j_iald hx hG (zr (k := 27) (t2 := 84) hG ha rfl) (by decide) rfl (zlen hG (zr (k := 27) (t2 := 84) hG ha rfl) (n := 515) rfl rfl) (by omega) (by omega) (j := 488) rfl (v := (s0 (gP G a 27) 488)) (by rw [e_s11, zU_at (Or.inl (zne (zr (k := 48) (t2 := 101) hG ha rfl) (zr (k := 27) (t2 := 84) hG ha rfl) (by decide))), e_s8, zU_at (Or.inl (zne (zr (k := 48) (t2 := 101) hG ha rfl) (zr (k := 27) (t2 := 84) hG ha rfl) (by decide))), e_s7, zU_at (Or.inl (zne (zr (k := 48) (t2 := 101) hG ha rfl) (zr (k := 27) (t2 := 84) hG ha rfl) (by decide))), (zFr_g hF_s6 (zr (k := 27) (t2 := 84) hG ha rfl) (by decide)), (zFr_g hF_s2 (zr (k := 27) (t2 := 84) hG ha rfl) (by decide))]) dX12_writes_238 ?_
          refine j_iast hx hG (zr (k := 48) (t2 := 101) hG ha rfl) (by decide) rfl (zlen hG (zr (k := 48) (t2 := 101) hG ha rfl) (n := 210070) rfl rfl) (by omega) (by omega) (j := (70 * x1 + 69).toNat) rfl dX12_writes_239 ?_
          obtain ⟨s12, e_s12⟩ : ∃ z, z = zU s11 (gP G a 48) (70 * x1 + 69).toNat ((s0 (gP G a 27) 488)) := ⟨_, rfl⟩
          rw [← e_s12]
          have hS_s12 : zSK G s12 := by rw [e_s12]; exact zSK_A hS_s11 (zr (k := 48) (t2 := 101) hG ha rfl) rfl rfl rfl (by omega)
          exact j_vret hx hq rfl (by decide) (by decide) dX12_writes_240 ⟨rfl, rfl, hS_s12, (zFr_u (zFr_u (zFr_u (zFr_u (zFr_t (zFr_t zFr_rf hF_s2 (by decide)) hF_s6 (by decide)) e_s7 (zr (k := 48) (t2 := 101) hG ha rfl) (by decide)) e_s8 (zr (k := 48) (t2 := 101) hG ha rfl) (by decide)) e_s11 (zr (k := 48) (t2 := 101) hG ha rfl) (by decide)) e_s12 (zr (k := 48) (t2 := 101) hG ha rfl) (by decide)), trivial⟩
        refine j_icmp_ne hx 218 dX12_writes_204 rfl (by omega) ⟨by decide, by decide⟩ (fun h13 => ?_) (fun h13 => ?_)
        · skip
          refine j_iconst hx dX12_writes_218 ?_
          exact j_sub [2, 3] [(0, .ref a), (2, .int (zI (70 * x1)))] rfl (c219_9 0 (by omega))
        · skip
          refine j_aload_n hx 2 dX12_writes_207 rfl ?_
          refine g13_27 hx hG ha kf_RX12_56 dX12_writes_208 ?_
          refine j_sipush hx dX12_writes_211 rfl ?_
          have f14 := zaI (j := 489) hS0 (zr (k := 27) (t2 := 84) hG ha rfl) rfl (zlen hG (zr (k := 27) (t2 := 84) hG ha rfl) (n := 515) rfl rfl) (show 0 ≤ 489 by omega) (by omega) rfl
          refine j_iald hx hG (zr (k := 27) (t2 := 84) hG ha rfl) (by decide) rfl (zlen hG (zr (k := 27) (t2 := 84) hG ha rfl) (n := 515) rfl rfl) (by omega) (by omega) (j := 489) rfl (v := (s0 (gP G a 27) 489)) (by rw [e_s8, zU_at (Or.inl (zne (zr (k := 48) (t2 := 101) hG ha rfl) (zr (k := 27) (t2 := 84) hG ha rfl) (by decide))), e_s7, zU_at (Or.inl (zne (zr (k := 48) (t2 := 101) hG ha rfl) (zr (k := 27) (t2 := 84) hG ha rfl) (by decide))), (zFr_g hF_s6 (zr (k := 27) (t2 := 84) hG ha rfl) (by decide)), (zFr_g hF_s2 (zr (k := 27) (t2 := 84) hG ha rfl) (by decide))]) dX12_writes_214 ?_
          refine j_goto hx 219 dX12_writes_215 rfl ?_
          exact j_sub [2, 3] [(0, .ref a), (2, .int (zI (70 * x1)))] rfl (c219_9 ((s0 (gP G a 27) 489)) (by omega))
      · skip
        refine j_aload_n hx 0 dX12_writes_13 rfl ?_
        refine g13_48 hx hG ha kf_RX12_109 dX12_writes_14 ?_
        refine j_iload_n hx 1 dX12_writes_17 rfl ?_
        refine j_iload_n hx 2 dX12_writes_18 rfl ?_
        refine j_iadd hx (r := 70 * x1 + v1) dX12_writes_19 (by omega) ?_
        refine j_iconst hx dX12_writes_20 ?_
        refine j_iast hx hG (zr (k := 48) (t2 := 101) hG ha rfl) (by decide) rfl (zlen hG (zr (k := 48) (t2 := 101) hG ha rfl) (n := 210070) rfl rfl) (by omega) (by omega) (j := (70 * x1 + v1).toNat) rfl dX12_writes_21 ?_
        obtain ⟨s13, e_s13⟩ : ∃ z, z = zU s2 (gP G a 48) (70 * x1 + v1).toNat (-1) := ⟨_, rfl⟩
        rw [← e_s13]
        have hS_s13 : zSK G s13 := by rw [e_s13]; exact zSK_A hS_s2 (zr (k := 48) (t2 := 101) hG ha rfl) rfl rfl rfl (by omega)
        refine j_iinc hx 2 [(3, .int (zI (v1 + 1))), (0, .ref a), (2, .int (zI (70 * x1)))] dX12_writes_22 rfl (by omega) (by decide) rfl ?_
        refine j_goto hx 7 dX12_writes_25 rfl ?_
        exact j_sub [1, 2, 0] [(0, .ref a), (2, .int (zI (70 * x1))), (3, .int (zI (v1 + 1)))] rfl (ih_c7_1 (v1 + 1) s13 (by omega) (by omega) hS_s13 (zFr_u (zFr_t zFr_rf hF_s2 (by decide)) e_s13 (zr (k := 48) (t2 := 101) hG ha rfl) (by decide)))
  exact j_sub [2, 1, 0] [(0, .ref a), (2, .int (zI (70 * x1))), (3, .int (zI 0))] rfl (c7_1 (2147483648 * 4) 0 s0 (by omega) (by omega) hS0 zFr_rf)

set_option maxHeartbeats 4000000 in
set_option maxRecDepth 20000 in
theorem c_X12_earlier {E : zE} {l : Launch} (hst : l.stackTraces = false) (a : Nat) (x1 : Int) : Con E l yX12_earlier cX12_earlier 5 (some .int) { frames := 0, cells := 0, slots := 0, locals := 0 } (fun G s vs => vs = [.ref a, .int (zI x1)] ∧ zGK G ∧ zSK G s ∧ (gT G a = 13) ∧ (0 ≤ x1 ∧ x1 ≤ 0) ∧ (zAll s (gP G a 50) 8192 (-1))) (fun G s _ => pI (fun r G2 s2 => G2 = G ∧ zSK G s2 ∧ zFr [102, 103] G s s2 ∧ ((-1) ≤ r ∧ r ≤ (-1)))) := by
  refine Con.mk hst (by decide) (fun G s vs h => by rw [h.1]; exact Nat.le_of_ble_eq_true rfl) ?_
  rintro X G s0 vs ⟨rfl, hG, hS0, ha, hx1, e0⟩ rfl hx hq
  show JJ X E 5 G s0 0 0 [(0, .ref a), (1, .int (zI x1))] 0 []
  refine j_iconst hx dX12_earlier_0 ?_
  refine j_istore_n hx [(2, .int (zI 0)), (0, .ref a), (1, .int (zI x1))] dX12_earlier_1 (by decide) rfl ?_
  refine j_iconst hx dX12_earlier_2 ?_
  refine j_istore_n hx [(3, .int (zI 0)), (2, .int (zI 0)), (0, .ref a), (1, .int (zI x1))] dX12_earlier_3 (by decide) rfl ?_
  have c4_1 : ∀ (m_c4_1 : Nat) (v1 : Int) (v2 : Int), 2147483648 - v2 < m_c4_1 → ((-2147483648) ≤ v1 ∧ v1 ≤ 2147483647) → (0 ≤ v2 ∧ v2 ≤ 69) → JJ X E 5 G s0 0 0 [(0, .ref a), (1, .int (zI x1)), (2, .int (zI v1)), (3, .int (zI v2))] 4 [] := by
    intro m_c4_1
    induction m_c4_1 with
    | zero => intro v1 v2 hm_c4_1 fA2 fA3; exfalso; omega
    | succ m_c4_1 ih_c4_1 => 
      intro v1 v2 hm_c4_1 fA2 fA3
      refine j_iload_n hx 3 dX12_earlier_4 rfl ?_
      refine j_bipush hx dX12_earlier_5 rfl ?_
      refine j_icmp_ge hx 33 dX12_earlier_7 rfl (by omega) ⟨by decide, by decide⟩ (fun h3 => ?_) (fun h3 => ?_)
      · skip
        refine j_iload_n hx 2 dX12_earlier_33 rfl ?_
        refine j_iload_n hx 2 dX12_earlier_34 rfl ?_
        refine j_bipush hx dX12_earlier_35 rfl ?_
        refine j_iushr hx dX12_earlier_37 (fun v4 f5 f6 => ?_)
        refine j_ixor hx dX12_earlier_38 (fun v7 f8 f9 => ?_)
        refine j_iload_n hx 2 dX12_earlier_39 rfl ?_
        refine j_bipush hx dX12_earlier_40 rfl ?_
        refine j_iushr hx dX12_earlier_42 (fun v10 f11 f12 => ?_)
        refine j_ixor hx dX12_earlier_43 (fun v13 f14 f15 => ?_)
        refine j_sipush hx dX12_earlier_44 rfl ?_
        refine j_iand hx dX12_earlier_47 (by omega) ⟨by decide, by decide⟩ (fun v16 f17 f18 f19 f20 _ => ?_)
        refine j_istore_n hx [(2, .int (zI v16)), (0, .ref a), (1, .int (zI x1)), (3, .int (zI v2))] dX12_earlier_48 (by decide) rfl ?_
        refine j_iconst hx dX12_earlier_49 ?_
        refine j_istore_n hx [(3, .int (zI (-1))), (2, .int (zI v16)), (0, .ref a), (1, .int (zI x1))] dX12_earlier_50 (by decide) rfl ?_
        refine j_aload_n hx 2 dX12_earlier_51 rfl ?_
        refine g13_50 hx hG ha kf_RX12_115 dX12_earlier_52 ?_
        refine j_iload_n hx 1 dX12_earlier_55 rfl ?_
        have z22 : s0 (gP G a 50) (v16).toNat = -1 := e0 _ (by omega)
        refine j_iald hx hG (zr (k := 50) (t2 := 103) hG ha rfl) (by decide) rfl (zlen hG (zr (k := 50) (t2 := 103) hG ha rfl) (n := 8192) rfl rfl) (by omega) (by omega) (j := (v16).toNat) rfl rfl dX12_earlier_56 ?_
        refine j_istore hx [(4, .int (zI ((s0 (gP G a 50) (v16).toNat)))), (3, .int (zI (-1))), (2, .int (zI v16)), (0, .ref a), (1, .int (zI x1))] dX12_earlier_57 (by decide) rfl ?_
        refine j_iload hx 0 dX12_earlier_59 rfl ?_
        refine j_iconst hx dX12_earlier_61 ?_
        refine j_icmp_eq hx 95 dX12_earlier_62 rfl (by omega) ⟨by decide, by decide⟩ (fun h23 => ?_) (fun h23 => absurd h23 (by omega))
        refine j_aload_n hx 3 dX12_earlier_95 rfl ?_
        refine g13_49 hx hG ha kf_RX12_112 dX12_earlier_96 ?_
        refine j_iload_n hx 4 dX12_earlier_99 rfl ?_
        refine j_aload_n hx 3 dX12_earlier_100 rfl ?_
        refine g13_50 hx hG ha kf_RX12_115 dX12_earlier_101 ?_
        refine j_iload_n hx 2 dX12_earlier_104 rfl ?_
        refine j_iald hx hG (zr (k := 50) (t2 := 103) hG ha rfl) (by decide) rfl (zlen hG (zr (k := 50) (t2 := 103) hG ha rfl) (n := 8192) rfl rfl) (by omega) (by omega) (j := (v16).toNat) rfl rfl dX12_earlier_105 ?_
        refine j_iast hx hG (zr (k := 49) (t2 := 102) hG ha rfl) (by decide) rfl (zlen hG (zr (k := 49) (t2 := 102) hG ha rfl) (n := 3001) rfl rfl) (by omega) (by omega) (j := (x1).toNat) rfl dX12_earlier_106 ?_
        obtain ⟨s4, e_s4⟩ : ∃ z, z = zU s0 (gP G a 49) (x1).toNat ((s0 (gP G a 50) (v16).toNat)) := ⟨_, rfl⟩
        rw [← e_s4]
        have hS_s4 : zSK G s4 := by rw [e_s4]; exact zSK_A hS0 (zr (k := 49) (t2 := 102) hG ha rfl) rfl rfl rfl (by omega)
        refine j_aload_n hx 3 dX12_earlier_107 rfl ?_
        refine g13_50 hx hG ha kf_RX12_115 dX12_earlier_108 ?_
        refine j_iload_n hx 2 dX12_earlier_111 rfl ?_
        refine j_iload_n hx 4 dX12_earlier_112 rfl ?_
        refine j_iast hx hG (zr (k := 50) (t2 := 103) hG ha rfl) (by decide) rfl (zlen hG (zr (k := 50) (t2 := 103) hG ha rfl) (n := 8192) rfl rfl) (by omega) (by omega) (j := (v16).toNat) rfl dX12_earlier_113 ?_
        obtain ⟨s5, e_s5⟩ : ∃ z, z = zU s4 (gP G a 50) (v16).toNat x1 := ⟨_, rfl⟩
        rw [← e_s5]
        have hS_s5 : zSK G s5 := by rw [e_s5]; exact zSK_A hS_s4 (zr (k := 50) (t2 := 103) hG ha rfl) rfl rfl rfl (by omega)
        refine j_iload_n hx 1 dX12_earlier_114 rfl ?_
        exact j_iret hx hq rfl (by decide) (by decide) dX12_earlier_115 ⟨(-1), rfl, rfl, hS_s5, (zFr_u (zFr_u zFr_rf e_s4 (zr (k := 49) (t2 := 102) hG ha rfl) (by decide)) e_s5 (zr (k := 50) (t2 := 103) hG ha rfl) (by decide)), (by omega)⟩
      · skip
        refine j_bipush hx dX12_earlier_10 rfl ?_
        refine j_iload_n hx 2 dX12_earlier_12 rfl ?_
        refine j_imul hx (r := 31 * v1) dX12_earlier_13 rfl ?_
        refine j_norm (fun v24 f25 f26 f27 => ?_)
        refine j_aload_n hx 0 dX12_earlier_14 rfl ?_
        refine g13_48 hx hG ha kf_RX12_109 dX12_earlier_15 ?_
        refine j_bipush hx dX12_earlier_18 rfl ?_
        refine j_iload_n hx 1 dX12_earlier_20 rfl ?_
        refine j_imul hx (r := 70 * x1) dX12_earlier_21 rfl ?_
        refine j_iload_n hx 3 dX12_earlier_22 rfl ?_
        refine j_iadd hx (r := 70 * x1 + v2) dX12_earlier_23 (by omega) ?_
        have f28 := zaI (j := (70 * x1 + v2).toNat) hS0 (zr (k := 48) (t2 := 101) hG ha rfl) rfl (zlen hG (zr (k := 48) (t2 := 101) hG ha rfl) (n := 210070) rfl rfl) (show 0 ≤ 70 * x1 + v2 by omega) (by omega) rfl
        refine j_iald hx hG (zr (k := 48) (t2 := 101) hG ha rfl) (by decide) rfl (zlen hG (zr (k := 48) (t2 := 101) hG ha rfl) (n := 210070) rfl rfl) (by omega) (by omega) (j := (70 * x1 + v2).toNat) rfl rfl dX12_earlier_24 ?_
        refine j_iadd hx (r := v24 + (s0 (gP G a 48) (70 * x1 + v2).toNat)) dX12_earlier_25 (by omega) ?_
        refine j_norm (fun v29 f30 f31 f32 => ?_)
        refine j_istore_n hx [(2, .int (zI v29)), (0, .ref a), (1, .int (zI x1)), (3, .int (zI v2))] dX12_earlier_26 (by decide) rfl ?_
        refine j_iinc hx 3 [(3, .int (zI (v2 + 1))), (2, .int (zI v29)), (0, .ref a), (1, .int (zI x1))] dX12_earlier_27 rfl (by omega) (by decide) rfl ?_
        refine j_goto hx 4 dX12_earlier_30 rfl ?_
        exact j_sub [2, 3, 1, 0] [(0, .ref a), (1, .int (zI x1)), (2, .int (zI v29)), (3, .int (zI (v2 + 1)))] rfl (ih_c4_1 v29 (v2 + 1) (by omega) (by omega) (by omega))
  exact j_sub [2, 3, 1, 0] [(0, .ref a), (1, .int (zI x1)), (2, .int (zI 0)), (3, .int (zI 0))] rfl (c4_1 (2147483648 * 4) 0 0 (by omega) (by omega) (by omega))
