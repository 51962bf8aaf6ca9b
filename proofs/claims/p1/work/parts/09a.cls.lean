set_option maxHeartbeats 4000000 in
set_option maxRecDepth 20000 in
theorem c_X9_hasRoom {E : zE} {l : Launch} (hst : l.stackTraces = false) (a : Nat) (x1 : Int) : Con E l yX9_hasRoom cX9_hasRoom 2 (some .boolean) { frames := 0, cells := 0, slots := 0, locals := 0 } (fun G s vs => vs = [.ref a, .int (zI x1)] ∧ zGK G ∧ zSK G s ∧ (gT G a = 10) ∧ (20 ≤ x1 ∧ x1 ≤ 20)) (fun G s _ => pI (fun r G2 s2 => G2 = G ∧ s2 = s ∧ (1 ≤ r ∧ r ≤ 1))) := by
  refine Con.mk hst (by decide) (fun G s vs h => by rw [h.1]; exact Nat.le_of_ble_eq_true rfl) ?_
  rintro X G s0 vs ⟨rfl, hG, hS0, ha, hx1⟩ rfl hx hq
  show JJ X E 2 G s0 0 0 [(0, .ref a), (1, .int (zI x1))] 0 []
  refine j_aload_n hx 0 dX9_hasRoom_0 rfl ?_
  have f1 := zf hS0 ha (k := 1) rfl
  refine g10_1 hx hG ha kf_RX9_19 rfl dX9_hasRoom_1 ?_
  refine j_iload_n hx 1 dX9_hasRoom_4 rfl ?_
  refine j_iadd hx (r := (s0 a 1) + x1) dX9_hasRoom_5 (by omega) ?_
  refine j_aload_n hx 0 dX9_hasRoom_6 rfl ?_
  refine g10_0 hx hG ha kf_RX9_11 dX9_hasRoom_7 ?_
  refine j_alen hx hG (zr (k := 0) (t2 := 45) hG ha rfl) (by decide) (by decide) (zlen hG (zr (k := 0) (t2 := 45) hG ha rfl) (n := 600) rfl rfl) dX9_hasRoom_10 ?_
  refine j_icmp_gt hx 18 dX9_hasRoom_11 rfl (by omega) ⟨by decide, by decide⟩ (fun h2 => absurd h2 (by omega)) (fun h2 => ?_)
  refine j_iconst hx dX9_hasRoom_14 ?_
  refine j_goto hx 19 dX9_hasRoom_15 rfl ?_
  exact j_zret hx hq rfl (by decide) (by decide) dX9_hasRoom_19 (by omega) ⟨1, rfl, rfl, rfl, (by omega)⟩

set_option maxHeartbeats 4000000 in
set_option maxRecDepth 20000 in
theorem c_X9_addFour {E : zE} {l : Launch} (hst : l.stackTraces = false) (a : Nat) (x1 : Int) : Con E l yX9_addFour cX9_addFour 3 none { frames := 0, cells := 0, slots := 0, locals := 0 } (fun G s vs => vs = [.ref a, .int (zI x1)] ∧ zGK G ∧ zSK G s ∧ (gT G a = 10) ∧ ((-2147483648) ≤ x1 ∧ x1 ≤ 2147483647) ∧ (s a 1 ≤ 16)) (fun G s _ => pV (fun G2 s2 => G2 = G ∧ zSK G s2 ∧ zFr [10, 45] G s s2 ∧ s2 a 1 = s a 1 + 4)) := by
  refine Con.mk hst (by decide) (fun G s vs h => by rw [h.1]; exact Nat.le_of_ble_eq_true rfl) ?_
  rintro X G s0 vs ⟨rfl, hG, hS0, ha, hx1, e0⟩ rfl hx hq
  show JJ X E 3 G s0 0 0 [(0, .ref a), (1, .int (zI x1))] 0 []
  refine j_bipush hx dX9_addFour_0 rfl ?_
  refine j_istore_n hx [(2, .int (zI 24)), (0, .ref a), (1, .int (zI x1))] dX9_addFour_2 (by decide) rfl ?_
  have c3_1 : ∀ (m_c3_1 : Nat) (v1 : Int) (s2 : zS), v1 + 2147483648 < m_c3_1 → ((-8) ≤ v1 ∧ v1 ≤ 24) → (zSK G s2) → (zFr [10, 45] G s0 s2) → (8 * (s2 a 1 - s0 a 1) = 24 - v1) → JJ X E 3 G s2 0 0 [(0, .ref a), (1, .int (zI x1)), (2, .int (zI v1))] 3 [] := by
    intro m_c3_1
    induction m_c3_1 with
    | zero => intro v1 s2 hm_c3_1 fA3 hS_s2 hF_s2 fA6; exfalso; omega
    | succ m_c3_1 ih_c3_1 => 
      intro v1 s2 hm_c3_1 fA3 hS_s2 hF_s2 fA6
      refine j_iload_n hx 2 dX9_addFour_3 rfl ?_
      refine j_if_lt hx 55 dX9_addFour_4 rfl (by omega) (fun h2 => ?_) (fun h2 => ?_)
      · skip
        have f3 := zf hS_s2 ha (k := 1) rfl
        exact j_vret hx hq rfl (by decide) (by decide) dX9_addFour_55 ⟨rfl, rfl, hS_s2, (zFr_t zFr_rf hF_s2 (by decide)), by omega⟩
      · skip
        refine j_aload_n hx 0 dX9_addFour_7 rfl ?_
        have f4 := zf hS_s2 ha (k := 1) rfl
        refine g10_1 hx hG ha kf_RX9_19 rfl dX9_addFour_8 ?_
        refine j_if_lt hx 49 dX9_addFour_11 rfl (by omega) (fun h5 => absurd h5 (by omega)) (fun h5 => ?_)
        refine j_aload_n hx 0 dX9_addFour_14 rfl ?_
        refine g10_1 hx hG ha kf_RX9_19 rfl dX9_addFour_15 ?_
        refine j_aload_n hx 0 dX9_addFour_18 rfl ?_
        refine g10_0 hx hG ha kf_RX9_11 dX9_addFour_19 ?_
        refine j_alen hx hG (zr (k := 0) (t2 := 45) hG ha rfl) (by decide) (by decide) (zlen hG (zr (k := 0) (t2 := 45) hG ha rfl) (n := 600) rfl rfl) dX9_addFour_22 ?_
        refine j_icmp_ge hx 49 dX9_addFour_23 rfl (by omega) ⟨by decide, by decide⟩ (fun h6 => absurd h6 (by omega)) (fun h6 => ?_)
        refine j_aload_n hx 0 dX9_addFour_26 rfl ?_
        refine g10_0 hx hG ha kf_RX9_11 dX9_addFour_27 ?_
        refine j_aload_n hx 0 dX9_addFour_30 rfl ?_
        refine g10_1 hx hG ha kf_RX9_19 rfl dX9_addFour_31 ?_
        refine j_iload_n hx 1 dX9_addFour_34 rfl ?_
        refine j_iload_n hx 2 dX9_addFour_35 rfl ?_
        refine j_iushr hx dX9_addFour_36 (fun v7 f8 f9 => ?_)
        refine j_i2b hx dX9_addFour_37 (fun v10 f11 f12 => ?_)
        refine j_bast hx hG (zr (k := 0) (t2 := 45) hG ha rfl) (by decide) rfl (zlen hG (zr (k := 0) (t2 := 45) hG ha rfl) (n := 600) rfl rfl) (by omega) (by omega) (j := ((s2 a 1)).toNat) rfl (znar_b (by omega)) dX9_addFour_38 ?_
        obtain ⟨s7, e_s7⟩ : ∃ z, z = zU s2 (gP G a 0) ((s2 a 1)).toNat v10 := ⟨_, rfl⟩
        rw [← e_s7]
        have hS_s7 : zSK G s7 := by rw [e_s7]; exact zSK_A hS_s2 (zr (k := 0) (t2 := 45) hG ha rfl) rfl rfl rfl (by omega)
        refine j_aload_n hx 0 dX9_addFour_39 rfl ?_
        refine j_dup hx dX9_addFour_40 rfl ?_
        refine g10_1 hx hG ha kf_RX9_19 (v := (s2 a 1)) (by rw [e_s7, zU_at (Or.inl (zne (zr (k := 0) (t2 := 45) hG ha rfl) ha (by decide)))]) dX9_addFour_41 ?_
        refine j_iconst hx dX9_addFour_44 ?_
        refine j_iadd hx (r := (s2 a 1) + 1) dX9_addFour_45 (by omega) ?_
        refine p10_1 hx hG ha kf_RX9_19 dX9_addFour_46 ?_
        obtain ⟨s8, e_s8⟩ : ∃ z, z = zU s7 a 1 ((s2 a 1) + 1) := ⟨_, rfl⟩
        rw [← e_s8]
        have hS_s8 : zSK G s8 := by rw [e_s8]; exact zSK_F hS_s7 ha rfl rfl rfl (by omega)
        refine j_iinc hx 2 [(2, .int (zI (v1 - 8))), (0, .ref a), (1, .int (zI x1))] dX9_addFour_49 rfl (by omega) (by decide) rfl ?_
        refine j_goto hx 3 dX9_addFour_52 rfl ?_
        have g13 : s8 a 1 = (s2 a 1) + 1 := (by rw [e_s8, zU_eq])
        exact j_sub [1, 2, 0] [(0, .ref a), (1, .int (zI x1)), (2, .int (zI (v1 - 8)))] rfl (ih_c3_1 (v1 - 8) s8 (by omega) (by omega) hS_s8 (zFr_u (zFr_u (zFr_t zFr_rf hF_s2 (by decide)) e_s7 (zr (k := 0) (t2 := 45) hG ha rfl) (by decide)) e_s8 ha (by decide)) (by omega))
  have f14 := zf hS0 ha (k := 1) rfl
  exact j_sub [1, 2, 0] [(0, .ref a), (1, .int (zI x1)), (2, .int (zI 24))] rfl (c3_1 (2147483648 * 4) 24 s0 (by omega) (by omega) hS0 zFr_rf (by omega))

theorem lk_RX11_86 : LkV RX11 86 RX9 yX9_hasRoom cX9_hasRoom 2 (some .boolean) 1 := ⟨km_RX11_86, ki_yX9_hasRoom, ks_RX9_yX9_hasRoom, kn_RX9, kc_yX9_hasRoom, rfl, by decide +kernel, by decide +kernel, by decide +kernel⟩
theorem lk_RX11_90 : LkV RX11 90 RX9 yX9_addFour cX9_addFour 3 none 1 := ⟨km_RX11_90, ki_yX9_addFour, ks_RX9_yX9_addFour, kn_RX9, kc_yX9_addFour, rfl, by decide +kernel, by decide +kernel, by decide +kernel⟩
set_option maxHeartbeats 4000000 in
set_option maxRecDepth 20000 in
theorem c_X11_feed {E : zE} {l : Launch} (hst : l.stackTraces = false) (a : Nat) (x1 : Int) (x2 : Int) (x3 : Int) (x4 : Int) (x5 : Int) : Con E l yX11_feed cX11_feed 6 (some .int) { frames := 1, cells := 0, slots := 0, locals := 22 } (fun G s vs => vs = [.ref a, .int (zI x1), .int (zI x2), .int (zI x3), .int (zI x4), .int (zI x5)] ∧ zGK G ∧ zSK G s ∧ (gT G a = 12) ∧ ((-2147483648) ≤ x1 ∧ x1 ≤ 2147483647) ∧ ((-2147483648) ≤ x2 ∧ x2 ≤ 2147483647) ∧ ((-2147483648) ≤ x3 ∧ x3 ≤ 2147483647) ∧ ((-2147483648) ≤ x4 ∧ x4 ≤ 2147483647) ∧ ((-2147483648) ≤ x5 ∧ x5 ≤ 2147483647) ∧ (zS0 G s)) (fun G s _ => pI (fun r G2 s2 => G2 = G ∧ zSK G s2 ∧ zFr [10, 45] G s s2 ∧ (20 ≤ r ∧ r ≤ 20))) := by
  refine Con.mk hst (by decide) (fun G s vs h => by rw [h.1]; exact Nat.le_of_ble_eq_true rfl) ?_
  rintro X G s0 vs ⟨rfl, hG, hS0, ha, hx1, hx2, hx3, hx4, hx5, hF0⟩ rfl hx hq
  show JJ X E 6 G s0 0 0 [(0, .ref a), (1, .int (zI x1)), (2, .int (zI x2)), (3, .int (zI x3)), (4, .int (zI x4)), (5, .int (zI x5))] 0 []
  refine j_aload_n hx 0 dX11_feed_0 rfl ?_
  refine g12_0 hx hG ha kf_RX11_10 dX11_feed_1 ?_
  refine j_bipush hx dX11_feed_4 rfl ?_
  refine j_callV hx hG (c_X9_hasRoom hst (gP G a 0) 20) lk_RX11_86 (zr (k := 0) (t2 := 10) hG ha rfl) (by decide) rfl rfl rfl rfl [.int (zI 20)] ⟨rfl, hG, hS0, (zr (k := 0) (t2 := 10) hG ha rfl), (by omega)⟩ rfl rfl ⟨by decide, by decide⟩ ⟨by decide, by decide⟩ (k2 := 0) (n2 := 0) rfl rfl (Nat.le_of_ble_eq_true rfl) dX11_feed_6 (kIP (fun v1 q2 => ?_))
  refine j_if_ne hx 14 dX11_feed_9 rfl (by omega) (fun h3 => ?_) (fun h3 => absurd h3 (by omega))
  refine j_aload_n hx 0 dX11_feed_14 rfl ?_
  refine g12_0 hx hG ha kf_RX11_10 dX11_feed_15 ?_
  refine j_iload_n hx 1 dX11_feed_18 rfl ?_
  have f4 := z0f hF0 (zr (k := 0) (t2 := 10) hG ha rfl) (k := 1) rfl
  refine j_callV hx hG (c_X9_addFour hst (gP G a 0) x1) lk_RX11_90 (zr (k := 0) (t2 := 10) hG ha rfl) (by decide) rfl rfl rfl rfl [.int (zI x1)] ⟨rfl, hG, hS0, (zr (k := 0) (t2 := 10) hG ha rfl), (by omega), (by omega)⟩ rfl rfl ⟨by decide, by decide⟩ ⟨by decide, by decide⟩ (k2 := 0) (n2 := 0) rfl rfl (Nat.le_of_ble_eq_true rfl) dX11_feed_19 (kVM (fun s1 hS_s1 hF_s1 q6 => ?_))
  refine j_aload_n hx 0 dX11_feed_22 rfl ?_
  refine g12_0 hx hG ha kf_RX11_10 dX11_feed_23 ?_
  refine j_iload_n hx 2 dX11_feed_26 rfl ?_
  have f7 := zf hS_s1 (zr (k := 0) (t2 := 10) hG ha rfl) (k := 1) rfl
  refine j_callV hx hG (c_X9_addFour hst (gP G a 0) x2) lk_RX11_90 (zr (k := 0) (t2 := 10) hG ha rfl) (by decide) rfl rfl rfl rfl [.int (zI x2)] ⟨rfl, hG, hS_s1, (zr (k := 0) (t2 := 10) hG ha rfl), (by omega), (by omega)⟩ rfl rfl ⟨by decide, by decide⟩ ⟨by decide, by decide⟩ (k2 := 0) (n2 := 0) rfl rfl (Nat.le_of_ble_eq_true rfl) dX11_feed_27 (kVM (fun s2 hS_s2 hF_s2 q9 => ?_))
  refine j_aload_n hx 0 dX11_feed_30 rfl ?_
  refine g12_0 hx hG ha kf_RX11_10 dX11_feed_31 ?_
  refine j_iload_n hx 3 dX11_feed_34 rfl ?_
  have f10 := zf hS_s2 (zr (k := 0) (t2 := 10) hG ha rfl) (k := 1) rfl
  refine j_callV hx hG (c_X9_addFour hst (gP G a 0) x3) lk_RX11_90 (zr (k := 0) (t2 := 10) hG ha rfl) (by decide) rfl rfl rfl rfl [.int (zI x3)] ⟨rfl, hG, hS_s2, (zr (k := 0) (t2 := 10) hG ha rfl), (by omega), (by omega)⟩ rfl rfl ⟨by decide, by decide⟩ ⟨by decide, by decide⟩ (k2 := 0) (n2 := 0) rfl rfl (Nat.le_of_ble_eq_true rfl) dX11_feed_35 (kVM (fun s3 hS_s3 hF_s3 q12 => ?_))
  refine j_aload_n hx 0 dX11_feed_38 rfl ?_
  refine g12_0 hx hG ha kf_RX11_10 dX11_feed_39 ?_
  refine j_iload hx 4 dX11_feed_42 rfl ?_
  have f13 := zf hS_s3 (zr (k := 0) (t2 := 10) hG ha rfl) (k := 1) rfl
  refine j_callV hx hG (c_X9_addFour hst (gP G a 0) x4) lk_RX11_90 (zr (k := 0) (t2 := 10) hG ha rfl) (by decide) rfl rfl rfl rfl [.int (zI x4)] ⟨rfl, hG, hS_s3, (zr (k := 0) (t2 := 10) hG ha rfl), (by omega), (by omega)⟩ rfl rfl ⟨by decide, by decide⟩ ⟨by decide, by decide⟩ (k2 := 0) (n2 := 0) rfl rfl (Nat.le_of_ble_eq_true rfl) dX11_feed_44 (kVM (fun s4 hS_s4 hF_s4 q15 => ?_))
  refine j_aload_n hx 0 dX11_feed_47 rfl ?_
  refine g12_0 hx hG ha kf_RX11_10 dX11_feed_48 ?_
  refine j_iload hx 5 dX11_feed_51 rfl ?_
  have f16 := zf hS_s4 (zr (k := 0) (t2 := 10) hG ha rfl) (k := 1) rfl
  refine j_callV hx hG (c_X9_addFour hst (gP G a 0) x5) lk_RX11_90 (zr (k := 0) (t2 := 10) hG ha rfl) (by decide) rfl rfl rfl rfl [.int (zI x5)] ⟨rfl, hG, hS_s4, (zr (k := 0) (t2 := 10) hG ha rfl), (by omega), (by omega)⟩ rfl rfl ⟨by decide, by decide⟩ ⟨by decide, by decide⟩ (k2 := 0) (n2 := 0) rfl rfl (Nat.le_of_ble_eq_true rfl) dX11_feed_53 (kVM (fun s5 hS_s5 hF_s5 q18 => ?_))
  refine j_aload_n hx 0 dX11_feed_56 rfl ?_
  refine g12_0 hx hG ha kf_RX11_10 dX11_feed_57 ?_
  have f19 := zf hS_s5 (zr (k := 0) (t2 := 10) hG ha rfl) (k := 1) rfl
  refine gN10_1 hx hG (zr (k := 0) (t2 := 10) hG ha rfl) kf_RX11_94 rfl dX11_feed_60 ?_
  exact j_iret hx hq rfl (by decide) (by decide) dX11_feed_63 ⟨(s5 (gP G a 0) 1), rfl, rfl, hS_s5, (zFr_t (zFr_t (zFr_t (zFr_t (zFr_t zFr_rf hF_s1 (by decide)) hF_s2 (by decide)) hF_s3 (by decide)) hF_s4 (by decide)) hF_s5 (by decide)), (by omega)⟩

set_option maxHeartbeats 4000000 in
set_option maxRecDepth 20000 in
theorem c_X11_needRange {E : zE} {l : Launch} (hst : l.stackTraces = false) (a : Nat) (x1 : Int) (x2 : Int) (x3 : Int) : ConX E l yX11_needRange cX11_needRange 4 none { frames := 6, cells := 1, slots := 6, locals := 90 } (fun G s vs => vs = [.ref a, .int (zI x1), .int (zI x2), .int (zI x3)] ∧ zGK G ∧ zSK G s ∧ (gT G a = 12) ∧ ((-2147483648) ≤ x1 ∧ x1 ≤ 2147483647) ∧ ((-2147483648) ≤ x2 ∧ x2 ≤ 2147483647) ∧ ((-2147483648) ≤ x3 ∧ x3 ≤ 2147483647) ∧ (zS0 G s)) (fun G s _ => pV (fun G2 s2 => G2 = G ∧ s2 = s ∧ (x2 ≤ x1 ∧ x1 ≤ x3))) (fun G s _ Ex G2 s2 => G2 = G ∧ zSK G s2 ∧ zFr [12] G s s2 ∧ ((Ex = "java/lang/IllegalArgumentException" ∧ (x1 < x2 ∨ x3 < x1)))) := by
  refine ConX.mk hst (by decide) (fun G s vs h => by rw [h.1]; exact Nat.le_of_ble_eq_true rfl) ?_
  rintro X G s0 vs ⟨rfl, hG, hS0, ha, hx1, hx2, hx3, hF0⟩ rfl hx hq
  show JJ X E 4 G s0 0 0 [(0, .ref a), (1, .int (zI x1)), (2, .int (zI x2)), (3, .int (zI x3))] 0 []
  refine j_iload_n hx 1 dX11_needRange_0 rfl ?_
  refine j_iload_n hx 2 dX11_needRange_1 rfl ?_
  refine j_icmp_lt hx 10 dX11_needRange_2 rfl (by omega) (by omega) (fun h1 => ?_) (fun h1 => ?_)
  · skip
    refine j_aload_n hx 0 dX11_needRange_10 rfl ?_
    refine j_dup hx dX11_needRange_11 rfl ?_
    have f2 := z0f hF0 ha (k := 15) rfl
    refine g12_15 hx hG ha kf_RX11_336 rfl dX11_needRange_12 ?_
    refine j_iconst hx dX11_needRange_15 ?_
    refine j_iadd hx (r := (s0 a 15) + 1) dX11_needRange_16 (by omega) ?_
    refine p12_15 hx hG ha kf_RX11_336 dX11_needRange_17 ?_
    obtain ⟨s1, e_s1⟩ : ∃ z, z = zU s0 a 15 ((s0 a 15) + 1) := ⟨_, rfl⟩
    rw [← e_s1]
    have hS_s1 : zSK G s1 := by rw [e_s1]; exact zSK_F hS0 ha rfl rfl rfl (by omega)
    exact j_throwI hx hq ⟨by decide, Nat.le_of_ble_eq_true rfl⟩ ⟨by decide, by decide⟩ ⟨by decide, by decide⟩ dX11_needRange_20 dX11_needRange_23 dX11_needRange_24 dX11_needRange_27 dX11_needRange_30 ⟨rfl, hS_s1, (zFr_u zFr_rf e_s1 ha (by decide)), ⟨rfl, by first | trivial | omega⟩⟩
  · skip
    refine j_iload_n hx 1 dX11_needRange_5 rfl ?_
    refine j_iload_n hx 3 dX11_needRange_6 rfl ?_
    refine j_icmp_le hx 31 dX11_needRange_7 rfl (by omega) (by omega) (fun h3 => ?_) (fun h3 => ?_)
    · skip
      exact j_vret hx hq.r rfl (by decide) (by decide) dX11_needRange_31 ⟨rfl, rfl, rfl, by omega⟩
    · skip
      refine j_aload_n hx 0 dX11_needRange_10 rfl ?_
      refine j_dup hx dX11_needRange_11 rfl ?_
      have f4 := z0f hF0 ha (k := 15) rfl
      refine g12_15 hx hG ha kf_RX11_336 rfl dX11_needRange_12 ?_
      refine j_iconst hx dX11_needRange_15 ?_
      refine j_iadd hx (r := (s0 a 15) + 1) dX11_needRange_16 (by omega) ?_
      refine p12_15 hx hG ha kf_RX11_336 dX11_needRange_17 ?_
      obtain ⟨s2, e_s2⟩ : ∃ z, z = zU s0 a 15 ((s0 a 15) + 1) := ⟨_, rfl⟩
      rw [← e_s2]
      have hS_s2 : zSK G s2 := by rw [e_s2]; exact zSK_F hS0 ha rfl rfl rfl (by omega)
      exact j_throwI hx hq ⟨by decide, Nat.le_of_ble_eq_true rfl⟩ ⟨by decide, by decide⟩ ⟨by decide, by decide⟩ dX11_needRange_20 dX11_needRange_23 dX11_needRange_24 dX11_needRange_27 dX11_needRange_30 ⟨rfl, hS_s2, (zFr_u zFr_rf e_s2 ha (by decide)), ⟨rfl, by first | trivial | omega⟩⟩

set_option maxHeartbeats 4000000 in
set_option maxRecDepth 20000 in
theorem c_X9_open {E : zE} {l : Launch} (hst : l.stackTraces = false) (a : Nat) (x1 : Int) : Con E l yX9_open cX9_open 2 none { frames := 1, cells := 0, slots := 0, locals := 33 } (fun G s vs => vs = [.ref a, .int (zI x1)] ∧ zGK G ∧ zSK G s ∧ (gT G a = 10) ∧ (0 ≤ x1 ∧ x1 ≤ 0)) (fun G s _ => pV (fun G2 s2 => G2 = G ∧ zSK G s2 ∧ zFr [10] G s s2 ∧ s2 a 4 = 0 ∧ s2 a 5 = -1)) := by
  refine Con.mk hst (by decide) (fun G s vs h => by rw [h.1]; exact Nat.le_of_ble_eq_true rfl) ?_
  rintro X G s0 vs ⟨rfl, hG, hS0, ha, hx1⟩ rfl hx hq
  show JJ X E 2 G s0 0 0 [(0, .ref a), (1, .int (zI x1))] 0 []
  refine j_aload_n hx 0 dX9_open_0 rfl ?_
  refine j_iload_n hx 1 dX9_open_1 rfl ?_
  refine j_aload_n hx 0 dX9_open_2 rfl ?_
  refine g10_0 hx hG ha kf_RX9_11 dX9_open_3 ?_
  refine j_alen hx hG (zr (k := 0) (t2 := 45) hG ha rfl) (by decide) (by decide) (zlen hG (zr (k := 0) (t2 := 45) hG ha rfl) (n := 600) rfl rfl) dX9_open_6 ?_
  refine j_mmin hx km_RX9_22 kst_min kn_RJ9 kc_Lib_Math_min_name (by omega) ⟨by decide, by decide⟩ ⟨by decide, Nat.le_of_ble_eq_true rfl⟩ ⟨by decide, by decide⟩ dX9_open_7 (fun v1 f2 f3 f4 => ?_)
  refine p10_2 hx hG ha kf_RX9_28 dX9_open_10 ?_
  obtain ⟨s1, e_s1⟩ : ∃ z, z = zU s0 a 2 v1 := ⟨_, rfl⟩
  rw [← e_s1]
  have hS_s1 : zSK G s1 := by rw [e_s1]; exact zSK_F hS0 ha rfl rfl rfl (by omega)
  refine j_aload_n hx 0 dX9_open_13 rfl ?_
  refine j_iconst hx dX9_open_14 ?_
  refine p10_3 hx hG ha kf_RX9_31 dX9_open_15 ?_
  obtain ⟨s2, e_s2⟩ : ∃ z, z = zU s1 a 3 0 := ⟨_, rfl⟩
  rw [← e_s2]
  have hS_s2 : zSK G s2 := by rw [e_s2]; exact zSK_F hS_s1 ha rfl rfl rfl (by omega)
  refine j_aload_n hx 0 dX9_open_18 rfl ?_
  refine j_iconst hx dX9_open_19 ?_
  refine p10_4 hx hG ha kf_RX9_34 dX9_open_20 ?_
  obtain ⟨s3, e_s3⟩ : ∃ z, z = zU s2 a 4 0 := ⟨_, rfl⟩
  rw [← e_s3]
  have hS_s3 : zSK G s3 := by rw [e_s3]; exact zSK_F hS_s2 ha rfl rfl rfl (by omega)
  refine j_aload_n hx 0 dX9_open_23 rfl ?_
  refine j_iconst hx dX9_open_24 ?_
  refine p10_5 hx hG ha kf_RX9_15 dX9_open_25 ?_
  obtain ⟨s4, e_s4⟩ : ∃ z, z = zU s3 a 5 (-1) := ⟨_, rfl⟩
  rw [← e_s4]
  have hS_s4 : zSK G s4 := by rw [e_s4]; exact zSK_F hS_s3 ha rfl rfl rfl (by omega)
  have g5 : s4 a 4 = 0 := (by rw [e_s4, zU_at (Or.inr (by decide)), e_s3, zU_eq])
  have g6 : s4 a 5 = (-1) := (by rw [e_s4, zU_eq])
  exact j_vret hx hq rfl (by decide) (by decide) dX9_open_28 ⟨rfl, rfl, hS_s4, (zFr_u (zFr_u (zFr_u (zFr_u zFr_rf e_s1 ha (by decide)) e_s2 ha (by decide)) e_s3 ha (by decide)) e_s4 ha (by decide)), ⟨((by rw [e_s4, zU_at (Or.inr (by decide)), e_s3, zU_eq]) : s4 a 4 = 0).trans (by omega), ((by rw [e_s4, zU_eq]) : s4 a 5 = (-1)).trans (by omega)⟩⟩

set_option maxHeartbeats 4000000 in
set_option maxRecDepth 20000 in
theorem c_fill_44 {E : zE} {l : Launch} (hst : l.stackTraces = false) (b0 : Nat) (x1 : Int) : Con E l yJ7_fill_53178 cJ7_fill_53178 4 none { frames := 0, cells := 0, slots := 0, locals := 0 } (fun G s vs => vs = [.ref b0, .int (zI x1)] ∧ zGK G ∧ zSK G s ∧ (gT G b0 = 44) ∧ (0 ≤ x1 ∧ x1 ≤ 0)) (fun G s _ => pV (fun G2 s2 => G2 = G ∧ zSK G s2 ∧ zFr [44] G s s2 ∧ True)) := by
  refine Con.mk hst (by decide) (fun G s vs h => by rw [h.1]; exact Nat.le_of_ble_eq_true rfl) ?_
  rintro X G s0 vs ⟨rfl, hG, hS0, hb0, hx1⟩ rfl hx hq
  show JJ X E 4 G s0 0 0 [(0, .ref b0), (1, .int (zI x1))] 0 []
  refine j_iconst hx dJ7_fill_53178_0 ?_
  refine j_istore_n hx [(2, .int (zI 0)), (0, .ref b0), (1, .int (zI x1))] dJ7_fill_53178_1 (by decide) rfl ?_
  refine j_aload_n hx 1 dJ7_fill_53178_2 rfl ?_
  refine j_alen hx hG hb0 (by decide) (by decide) (zlen hG hb0 (n := 3) rfl rfl) dJ7_fill_53178_3 ?_
  refine j_istore_n hx [(3, .int (zI 3)), (2, .int (zI 0)), (0, .ref b0), (1, .int (zI x1))] dJ7_fill_53178_4 (by decide) rfl ?_
  have c5_1 : ∀ (m_c5_1 : Nat) (v1 : Int) (s2 : zS), 2147483648 - v1 < m_c5_1 → (0 ≤ v1 ∧ v1 ≤ 3) → (zSK G s2) → (zFr [44] G s0 s2) → JJ X E 4 G s2 0 0 [(0, .ref b0), (1, .int (zI x1)), (2, .int (zI v1)), (3, .int (zI 3))] 5 [] := by
    intro m_c5_1
    induction m_c5_1 with
    | zero => intro v1 s2 hm_c5_1 fA3 hS_s2 hF_s2; exfalso; omega
    | succ m_c5_1 ih_c5_1 => 
      intro v1 s2 hm_c5_1 fA3 hS_s2 hF_s2
      refine j_iload_n hx 2 dJ7_fill_53178_5 rfl ?_
      refine j_iload_n hx 3 dJ7_fill_53178_6 rfl ?_
      refine j_icmp_ge hx 20 dJ7_fill_53178_7 rfl (by omega) ⟨by decide, by decide⟩ (fun h2 => ?_) (fun h2 => ?_)
      · skip
        exact j_vret hx hq rfl (by decide) (by decide) dJ7_fill_53178_20 ⟨rfl, rfl, hS_s2, (zFr_t zFr_rf hF_s2 (by decide)), trivial⟩
      · skip
        refine j_aload_n hx 0 dJ7_fill_53178_10 rfl ?_
        refine j_iload_n hx 2 dJ7_fill_53178_11 rfl ?_
        refine j_iload_n hx 1 dJ7_fill_53178_12 rfl ?_
        refine j_iast hx hG hb0 (by decide) rfl (zlen hG hb0 (n := 3) rfl rfl) (by omega) (by omega) (j := (v1).toNat) rfl dJ7_fill_53178_13 ?_
        obtain ⟨s6, e_s6⟩ : ∃ z, z = zU s2 b0 (v1).toNat x1 := ⟨_, rfl⟩
        rw [← e_s6]
        have hS_s6 : zSK G s6 := by rw [e_s6]; exact zSK_A hS_s2 hb0 rfl rfl rfl (by omega)
        refine j_iinc hx 2 [(2, .int (zI (v1 + 1))), (0, .ref b0), (1, .int (zI x1)), (3, .int (zI 3))] dJ7_fill_53178_14 rfl (by omega) (by decide) rfl ?_
        refine j_goto hx 5 dJ7_fill_53178_17 rfl ?_
        exact j_sub [1, 2, 0, 3] [(0, .ref b0), (1, .int (zI x1)), (2, .int (zI (v1 + 1))), (3, .int (zI 3))] rfl (ih_c5_1 (v1 + 1) s6 (by omega) (by omega) hS_s6 (zFr_u (zFr_t zFr_rf hF_s2 (by decide)) e_s6 hb0 (by decide)))
  exact j_sub [2, 3, 1, 0] [(0, .ref b0), (1, .int (zI x1)), (2, .int (zI 0)), (3, .int (zI 3))] rfl (c5_1 (2147483648 * 4) 0 s0 (by omega) (by omega) hS0 zFr_rf)

set_option maxHeartbeats 4000000 in
set_option maxRecDepth 20000 in
theorem c_X0_rowOf {E : zE} {l : Launch} (hst : l.stackTraces = false) (a : Nat) (x1 : Int) : Con E l yX0_rowOf cX0_rowOf 2 (some (.object "SnapHeaps$Pile")) { frames := 0, cells := 0, slots := 0, locals := 0 } (fun G s vs => vs = [.ref a, .int (zI x1)] ∧ zGK G ∧ zSK G s ∧ (gT G a = 1) ∧ ((-2147483648) ≤ x1 ∧ x1 ≤ 2147483647)) (fun G s _ => pR (fun r G2 s2 => G2 = G ∧ s2 = s ∧ gT G r = 7)) := by
  refine Con.mk hst (by decide) (fun G s vs h => by rw [h.1]; exact Nat.le_of_ble_eq_true rfl) ?_
  rintro X G s0 vs ⟨rfl, hG, hS0, ha, hx1⟩ rfl hx hq
  show JJ X E 2 G s0 0 0 [(0, .ref a), (1, .int (zI x1))] 0 []
  refine j_iload_n hx 1 dX0_rowOf_0 rfl ?_
  refine j_if_gt hx 9 dX0_rowOf_1 rfl (by omega) (fun h1 => ?_) (fun h1 => ?_)
  · skip
    refine j_iload_n hx 1 dX0_rowOf_9 rfl ?_
    refine j_iconst hx dX0_rowOf_10 ?_
    refine j_icmp_ne hx 21 dX0_rowOf_11 rfl (by omega) ⟨by decide, by decide⟩ (fun h2 => ?_) (fun h2 => ?_)
    · skip
      refine j_aload_n hx 0 dX0_rowOf_21 rfl ?_
      refine g1_2 hx hG ha kf_RX0_21 dX0_rowOf_22 ?_
      exact j_aret hx hq rfl (by decide) (by decide) dX0_rowOf_25 (Or.inr ⟨_, rfl⟩) ⟨_, rfl, rfl, rfl, (zr (k := 2) (t2 := 7) hG ha rfl)⟩
    · skip
      refine j_aload_n hx 0 dX0_rowOf_14 rfl ?_
      refine g1_1 hx hG ha kf_RX0_18 dX0_rowOf_15 ?_
      refine j_goto hx 25 dX0_rowOf_18 rfl ?_
      exact j_aret hx hq rfl (by decide) (by decide) dX0_rowOf_25 (Or.inr ⟨_, rfl⟩) ⟨_, rfl, rfl, rfl, (zr (k := 1) (t2 := 7) hG ha rfl)⟩
  · skip
    refine j_aload_n hx 0 dX0_rowOf_4 rfl ?_
    refine g1_0 hx hG ha kf_RX0_12 dX0_rowOf_5 ?_
    exact j_aret hx hq rfl (by decide) (by decide) dX0_rowOf_8 (Or.inr ⟨_, rfl⟩) ⟨_, rfl, rfl, rfl, (zr (k := 0) (t2 := 7) hG ha rfl)⟩

set_option maxHeartbeats 4000000 in
set_option maxRecDepth 20000 in
theorem c_X0_heapOf {E : zE} {l : Launch} (hst : l.stackTraces = false) (a : Nat) (x1 : Int) : Con E l yX0_heapOf cX0_heapOf 2 (some (.object "SnapHeaps$Pile")) { frames := 0, cells := 0, slots := 0, locals := 0 } (fun G s vs => vs = [.ref a, .int (zI x1)] ∧ zGK G ∧ zSK G s ∧ (gT G a = 1) ∧ ((-2147483648) ≤ x1 ∧ x1 ≤ 2147483647)) (fun G s _ => pR (fun r G2 s2 => G2 = G ∧ s2 = s ∧ gT G r = 7)) := by
  refine Con.mk hst (by decide) (fun G s vs h => by rw [h.1]; exact Nat.le_of_ble_eq_true rfl) ?_
  rintro X G s0 vs ⟨rfl, hG, hS0, ha, hx1⟩ rfl hx hq
  show JJ X E 2 G s0 0 0 [(0, .ref a), (1, .int (zI x1))] 0 []
  refine j_iload_n hx 1 dX0_heapOf_0 rfl ?_
  refine j_if_gt hx 9 dX0_heapOf_1 rfl (by omega) (fun h1 => ?_) (fun h1 => ?_)
  · skip
    refine j_iload_n hx 1 dX0_heapOf_9 rfl ?_
    refine j_iconst hx dX0_heapOf_10 ?_
    refine j_icmp_ne hx 21 dX0_heapOf_11 rfl (by omega) ⟨by decide, by decide⟩ (fun h2 => ?_) (fun h2 => ?_)
    · skip
      refine j_aload_n hx 0 dX0_heapOf_21 rfl ?_
      refine g1_5 hx hG ha kf_RX0_30 dX0_heapOf_22 ?_
      exact j_aret hx hq rfl (by decide) (by decide) dX0_heapOf_25 (Or.inr ⟨_, rfl⟩) ⟨_, rfl, rfl, rfl, (zr (k := 5) (t2 := 7) hG ha rfl)⟩
    · skip
      refine j_aload_n hx 0 dX0_heapOf_14 rfl ?_
      refine g1_4 hx hG ha kf_RX0_27 dX0_heapOf_15 ?_
      refine j_goto hx 25 dX0_heapOf_18 rfl ?_
      exact j_aret hx hq rfl (by decide) (by decide) dX0_heapOf_25 (Or.inr ⟨_, rfl⟩) ⟨_, rfl, rfl, rfl, (zr (k := 4) (t2 := 7) hG ha rfl)⟩
  · skip
    refine j_aload_n hx 0 dX0_heapOf_4 rfl ?_
    refine g1_3 hx hG ha kf_RX0_24 dX0_heapOf_5 ?_
    exact j_aret hx hq rfl (by decide) (by decide) dX0_heapOf_8 (Or.inr ⟨_, rfl⟩) ⟨_, rfl, rfl, rfl, (zr (k := 3) (t2 := 7) hG ha rfl)⟩

theorem lk_RX0_40 : LkV RX0 40 RX0 yX0_heapOf cX0_heapOf 2 (some (.object "SnapHeaps$Pile")) 1 := ⟨km_RX0_40, ki_yX0_heapOf, ks_RX0_yX0_heapOf, kn_RX0, kc_yX0_heapOf, rfl, by decide +kernel, by decide +kernel, by decide +kernel⟩
theorem lk_RX0_36 : LkV RX0 36 RX0 yX0_rowOf cX0_rowOf 2 (some (.object "SnapHeaps$Pile")) 1 := ⟨km_RX0_36, ki_yX0_rowOf, ks_RX0_yX0_rowOf, kn_RX0, kc_yX0_rowOf, rfl, by decide +kernel, by decide +kernel, by decide +kernel⟩
set_option maxHeartbeats 4000000 in
set_option maxRecDepth 20000 in
theorem c_X0_pileOf {E : zE} {l : Launch} (hst : l.stackTraces = false) (a : Nat) (x1 : Int) : Con E l yX0_pileOf cX0_pileOf 2 (some (.object "SnapHeaps$Pile")) { frames := 1, cells := 0, slots := 0, locals := 21 } (fun G s vs => vs = [.ref a, .int (zI x1)] ∧ zGK G ∧ zSK G s ∧ (gT G a = 1) ∧ ((-2147483648) ≤ x1 ∧ x1 ≤ 2147483647)) (fun G s _ => pR (fun r G2 s2 => G2 = G ∧ s2 = s ∧ gT G r = 7)) := by
  refine Con.mk hst (by decide) (fun G s vs h => by rw [h.1]; exact Nat.le_of_ble_eq_true rfl) ?_
  rintro X G s0 vs ⟨rfl, hG, hS0, ha, hx1⟩ rfl hx hq
  show JJ X E 2 G s0 0 0 [(0, .ref a), (1, .int (zI x1))] 0 []
  refine j_iload_n hx 1 dX0_pileOf_0 rfl ?_
  refine j_bipush hx dX0_pileOf_1 rfl ?_
  refine j_icmp_lt hx 11 dX0_pileOf_3 rfl (by omega) ⟨by decide, by decide⟩ (fun h1 => ?_) (fun h1 => ?_)
  · skip
    refine j_iload_n hx 1 dX0_pileOf_11 rfl ?_
    refine j_iconst hx dX0_pileOf_12 ?_
    refine j_iand hx dX0_pileOf_13 (by omega) ⟨by decide, by decide⟩ (fun v2 f3 f4 f5 f6 _ => ?_)
    refine j_if_ne hx 27 dX0_pileOf_14 rfl (by omega) (fun h8 => ?_) (fun h8 => ?_)
    · skip
      refine j_aload_n hx 0 dX0_pileOf_27 rfl ?_
      refine j_iload_n hx 1 dX0_pileOf_28 rfl ?_
      refine j_iconst hx dX0_pileOf_29 ?_
      refine j_ishr hx 1 2 dX0_pileOf_30 (by omega) rfl (by decide) (by decide) (fun v9 f10 f11 f12 f13 => ?_)
      refine j_callV hx hG (c_X0_heapOf hst a v9) lk_RX0_40 ha (by decide) rfl rfl rfl rfl [.int (zI v9)] ⟨rfl, hG, hS0, ha, (by omega)⟩ rfl rfl ⟨by decide, by decide⟩ ⟨by decide, by decide⟩ (k2 := 0) (n2 := 0) rfl rfl (Nat.le_of_ble_eq_true rfl) dX0_pileOf_31 (kRP (fun r14 q15 => ?_))
      exact j_aret hx hq rfl (by decide) (by decide) dX0_pileOf_34 (Or.inr ⟨_, rfl⟩) ⟨_, rfl, rfl, rfl, q15⟩
    · skip
      refine j_aload_n hx 0 dX0_pileOf_17 rfl ?_
      refine j_iload_n hx 1 dX0_pileOf_18 rfl ?_
      refine j_iconst hx dX0_pileOf_19 ?_
      refine j_ishr hx 1 2 dX0_pileOf_20 (by omega) rfl (by decide) (by decide) (fun v16 f17 f18 f19 f20 => ?_)
      refine j_callV hx hG (c_X0_rowOf hst a v16) lk_RX0_36 ha (by decide) rfl rfl rfl rfl [.int (zI v16)] ⟨rfl, hG, hS0, ha, (by omega)⟩ rfl rfl ⟨by decide, by decide⟩ ⟨by decide, by decide⟩ (k2 := 0) (n2 := 0) rfl rfl (Nat.le_of_ble_eq_true rfl) dX0_pileOf_21 (kRP (fun r21 q22 => ?_))
      refine j_goto hx 34 dX0_pileOf_24 rfl ?_
      exact j_aret hx hq rfl (by decide) (by decide) dX0_pileOf_34 (Or.inr ⟨_, rfl⟩) ⟨_, rfl, rfl, rfl, q22⟩
  · skip
    refine j_aload_n hx 0 dX0_pileOf_6 rfl ?_
    refine g1_6 hx hG ha kf_RX0_33 dX0_pileOf_7 ?_
    exact j_aret hx hq rfl (by decide) (by decide) dX0_pileOf_10 (Or.inr ⟨_, rfl⟩) ⟨_, rfl, rfl, rfl, (zr (k := 6) (t2 := 7) hG ha rfl)⟩

theorem lk_RX0_47 : LkV RX0 47 RX0 yX0_pileOf cX0_pileOf 2 (some (.object "SnapHeaps$Pile")) 1 := ⟨km_RX0_47, ki_yX0_pileOf, ks_RX0_yX0_pileOf, kn_RX0, kc_yX0_pileOf, rfl, by decide +kernel, by decide +kernel, by decide +kernel⟩
set_option maxHeartbeats 4000000 in
set_option maxRecDepth 20000 in
theorem c_X0_clear {E : zE} {l : Launch} (hst : l.stackTraces = false) (a : Nat) : Con E l yX0_clear cX0_clear 2 none { frames := 2, cells := 0, slots := 0, locals := 42 } (fun G s vs => vs = [.ref a] ∧ zGK G ∧ zSK G s ∧ (gT G a = 1)) (fun G s _ => pV (fun G2 s2 => G2 = G ∧ zSK G s2 ∧ zFr [1, 7] G s s2 ∧ True)) := by
  refine Con.mk hst (by decide) (fun G s vs h => by rw [h.1]; exact Nat.le_of_ble_eq_true rfl) ?_
  rintro X G s0 vs ⟨rfl, hG, hS0, ha⟩ rfl hx hq
  show JJ X E 2 G s0 0 0 [(0, .ref a)] 0 []
  refine j_iconst hx dX0_clear_0 ?_
  refine j_istore_n hx [(1, .int (zI 0)), (0, .ref a)] dX0_clear_1 (by decide) rfl ?_
  have c2_1 : ∀ (m_c2_1 : Nat) (v1 : Int) (s2 : zS), 2147483648 - v1 < m_c2_1 → (0 ≤ v1 ∧ v1 ≤ 7) → (zSK G s2) → (zFr [7] G s0 s2) → JJ X E 2 G s2 0 0 [(0, .ref a), (1, .int (zI v1))] 2 [] := by
    intro m_c2_1
    induction m_c2_1 with
    | zero => intro v1 s2 hm_c2_1 fA3 hS_s2 hF_s2; exfalso; omega
    | succ m_c2_1 ih_c2_1 => 
      intro v1 s2 hm_c2_1 fA3 hS_s2 hF_s2
      refine j_iload_n hx 1 dX0_clear_2 rfl ?_
      refine j_bipush hx dX0_clear_3 rfl ?_
      refine j_icmp_ge hx 23 dX0_clear_5 rfl (by omega) ⟨by decide, by decide⟩ (fun h2 => ?_) (fun h2 => ?_)
      · skip
        refine j_aload_n hx 0 dX0_clear_23 rfl ?_
        refine j_iconst hx dX0_clear_24 ?_
        refine p1_7 hx hG ha kf_RX0_50 dX0_clear_25 ?_
        obtain ⟨s6, e_s6⟩ : ∃ z, z = zU s2 a 7 0 := ⟨_, rfl⟩
        rw [← e_s6]
        have hS_s6 : zSK G s6 := by rw [e_s6]; exact zSK_F hS_s2 ha rfl rfl rfl (by omega)
        refine j_aload_n hx 0 dX0_clear_28 rfl ?_
        refine j_iconst hx dX0_clear_29 ?_
        refine p1_8 hx hG ha kf_RX0_53 dX0_clear_30 ?_
        obtain ⟨s7, e_s7⟩ : ∃ z, z = zU s6 a 8 0 := ⟨_, rfl⟩
        rw [← e_s7]
        have hS_s7 : zSK G s7 := by rw [e_s7]; exact zSK_F hS_s6 ha rfl rfl rfl (by omega)
        exact j_vret hx hq rfl (by decide) (by decide) dX0_clear_33 ⟨rfl, rfl, hS_s7, (zFr_u (zFr_u (zFr_t zFr_rf hF_s2 (by decide)) e_s6 ha (by decide)) e_s7 ha (by decide)), trivial⟩
      · skip
        refine j_aload_n hx 0 dX0_clear_8 rfl ?_
        refine j_iload_n hx 1 dX0_clear_9 rfl ?_
        refine j_callV hx hG (c_X0_pileOf hst a v1) lk_RX0_47 ha (by decide) rfl rfl rfl rfl [.int (zI v1)] ⟨rfl, hG, hS_s2, ha, (by omega)⟩ rfl rfl ⟨by decide, by decide⟩ ⟨by decide, by decide⟩ (k2 := 0) (n2 := 0) rfl rfl (Nat.le_of_ble_eq_true rfl) dX0_clear_10 (kRP (fun r3 q4 => ?_))
        refine j_iconst hx dX0_clear_13 ?_
        refine pN7_1 hx hG q4 kf_RX0_43 dX0_clear_14 ?_
        obtain ⟨s8, e_s8⟩ : ∃ z, z = zU s2 r3 1 0 := ⟨_, rfl⟩
        rw [← e_s8]
        have hS_s8 : zSK G s8 := by rw [e_s8]; exact zSK_F hS_s2 q4 rfl rfl rfl (by omega)
        refine j_iinc hx 1 [(1, .int (zI (v1 + 1))), (0, .ref a)] dX0_clear_17 rfl (by omega) (by decide) rfl ?_
        refine j_goto hx 2 dX0_clear_20 rfl ?_
        exact j_sub [1, 0] [(0, .ref a), (1, .int (zI (v1 + 1)))] rfl (ih_c2_1 (v1 + 1) s8 (by omega) (by omega) hS_s8 (zFr_u (zFr_t zFr_rf hF_s2 (by decide)) e_s8 q4 (by decide)))
  exact j_sub [1, 0] [(0, .ref a), (1, .int (zI 0))] rfl (c2_1 (2147483648 * 4) 0 s0 (by omega) (by omega) hS0 zFr_rf)

set_option maxHeartbeats 4000000 in
set_option maxRecDepth 20000 in
theorem c_X9_peek {E : zE} {l : Launch} (hst : l.stackTraces = false) (a : Nat) : Con E l yX9_peek cX9_peek 2 (some .int) { frames := 0, cells := 0, slots := 0, locals := 0 } (fun G s vs => vs = [.ref a] ∧ zGK G ∧ zSK G s ∧ (gT G a = 10)) (fun G s _ => pI (fun r G2 s2 => G2 = G ∧ s2 = s ∧ ((-1) ≤ r ∧ r ≤ (-1)))) := by
  refine Con.mk hst (by decide) (fun G s vs h => by rw [h.1]; exact Nat.le_of_ble_eq_true rfl) ?_
  rintro X G s0 vs ⟨rfl, hG, hS0, ha⟩ rfl hx hq
  show JJ X E 2 G s0 0 0 [(0, .ref a)] 0 []
  refine j_iconst hx dX9_peek_0 ?_
  refine j_istore_n hx [(1, .int (zI 0)), (0, .ref a)] dX9_peek_1 (by decide) rfl ?_
  refine j_iload_n hx 0 dX9_peek_2 rfl ?_
  refine j_sipush hx dX9_peek_3 rfl ?_
  refine j_icmp_ge hx 83 dX9_peek_6 rfl ⟨by decide, by decide⟩ ⟨by decide, by decide⟩ (fun h1 => absurd h1 (by omega)) (fun h1 => ?_)
  refine j_aload_n hx 1 dX9_peek_9 rfl ?_
  have f2 := zf hS0 ha (k := 3) rfl
  refine g10_3 hx hG ha kf_RX9_31 rfl dX9_peek_10 ?_
  refine j_if_lt hx 83 dX9_peek_13 rfl (by omega) (fun h3 => absurd h3 (by omega)) (fun h3 => ?_)
  refine j_aload_n hx 1 dX9_peek_16 rfl ?_
  refine g10_3 hx hG ha kf_RX9_31 rfl dX9_peek_17 ?_
  refine j_aload_n hx 1 dX9_peek_20 rfl ?_
  have f4 := zf hS0 ha (k := 2) rfl
  refine g10_2 hx hG ha kf_RX9_28 rfl dX9_peek_21 ?_
  refine j_icmp_ge hx 83 dX9_peek_24 rfl (by omega) (by omega) (fun h5 => ?_) (fun h5 => absurd h5 (by omega))
  refine j_iconst hx dX9_peek_83 ?_
  exact j_iret hx hq rfl (by decide) (by decide) dX9_peek_84 ⟨(-1), rfl, rfl, rfl, (by omega)⟩

set_option maxHeartbeats 4000000 in
set_option maxRecDepth 20000 in
theorem c_X9_failIf {E : zE} {l : Launch} (hst : l.stackTraces = false) (a : Nat) (x1 : Int) (x2 : Int) (x3 : Int) : Con E l yX9_failIf cX9_failIf 4 none { frames := 0, cells := 0, slots := 0, locals := 0 } (fun G s vs => vs = [.ref a, .int (zI x1), .int (zI x2), .int (zI x3)] ∧ zGK G ∧ zSK G s ∧ (gT G a = 10) ∧ (1 ≤ x1 ∧ x1 ≤ 1) ∧ (4 ≤ x2 ∧ x2 ≤ 4) ∧ (0 ≤ x3 ∧ x3 ≤ 0) ∧ ((s a 4 = 0 ∨ s a 4 = 4))) (fun G s _ => pV (fun G2 s2 => G2 = G ∧ zSK G s2 ∧ zFr [10] G s s2 ∧ s2 a 4 = 4)) := by
  refine Con.mk hst (by decide) (fun G s vs h => by rw [h.1]; exact Nat.le_of_ble_eq_true rfl) ?_
  rintro X G s0 vs ⟨rfl, hG, hS0, ha, hx1, hx2, hx3, e0⟩ rfl hx hq
  show JJ X E 4 G s0 0 0 [(0, .ref a), (1, .int (zI x1)), (2, .int (zI x2)), (3, .int (zI x3))] 0 []
  refine j_iload_n hx 1 dX9_failIf_0 rfl ?_
  refine j_if_eq hx 21 dX9_failIf_1 rfl (by omega) (fun h1 => absurd h1 (by omega)) (fun h1 => ?_)
  refine j_aload_n hx 0 dX9_failIf_4 rfl ?_
  have f2 := zf hS0 ha (k := 4) rfl
  refine g10_4 hx hG ha kf_RX9_34 rfl dX9_failIf_5 ?_
  refine j_if_ne hx 21 dX9_failIf_8 rfl (by omega) (fun h3 => ?_) (fun h3 => ?_)
  · skip
    exact j_vret hx hq rfl (by decide) (by decide) dX9_failIf_21 ⟨rfl, rfl, hS0, zFr_rf, by omega⟩
  · skip
    refine j_aload_n hx 0 dX9_failIf_11 rfl ?_
    refine j_iload_n hx 2 dX9_failIf_12 rfl ?_
    refine p10_4 hx hG ha kf_RX9_34 dX9_failIf_13 ?_
    obtain ⟨s1, e_s1⟩ : ∃ z, z = zU s0 a 4 x2 := ⟨_, rfl⟩
    rw [← e_s1]
    have hS_s1 : zSK G s1 := by rw [e_s1]; exact zSK_F hS0 ha rfl rfl rfl (by omega)
    refine j_aload_n hx 0 dX9_failIf_16 rfl ?_
    refine j_iload_n hx 3 dX9_failIf_17 rfl ?_
    refine p10_5 hx hG ha kf_RX9_15 dX9_failIf_18 ?_
    obtain ⟨s2, e_s2⟩ : ∃ z, z = zU s1 a 5 x3 := ⟨_, rfl⟩
    rw [← e_s2]
    have hS_s2 : zSK G s2 := by rw [e_s2]; exact zSK_F hS_s1 ha rfl rfl rfl (by omega)
    have g4 : s2 a 4 = x2 := (by rw [e_s2, zU_at (Or.inr (by decide)), e_s1, zU_eq])
    exact j_vret hx hq rfl (by decide) (by decide) dX9_failIf_21 ⟨rfl, rfl, hS_s2, (zFr_u (zFr_u zFr_rf e_s1 ha (by decide)) e_s2 ha (by decide)), by omega⟩

theorem lk_RX9_37 : LkV RX9 37 RX9 yX9_failIf cX9_failIf 4 none 3 := ⟨km_RX9_37, ki_yX9_failIf, ks_RX9_yX9_failIf, kn_RX9, kc_yX9_failIf, rfl, by decide +kernel, by decide +kernel, by decide +kernel⟩
set_option maxHeartbeats 4000000 in
set_option maxRecDepth 20000 in
theorem c_X9_fail {E : zE} {l : Launch} (hst : l.stackTraces = false) (a : Nat) (x1 : Int) : Con E l yX9_fail cX9_fail 2 none { frames := 1, cells := 0, slots := 0, locals := 23 } (fun G s vs => vs = [.ref a, .int (zI x1)] ∧ zGK G ∧ zSK G s ∧ (gT G a = 10) ∧ (4 ≤ x1 ∧ x1 ≤ 4) ∧ ((s a 4 = 0 ∨ s a 4 = 4))) (fun G s _ => pV (fun G2 s2 => G2 = G ∧ zSK G s2 ∧ zFr [10] G s s2 ∧ s2 a 4 = 4)) := by
  refine Con.mk hst (by decide) (fun G s vs h => by rw [h.1]; exact Nat.le_of_ble_eq_true rfl) ?_
  rintro X G s0 vs ⟨rfl, hG, hS0, ha, hx1, e0⟩ rfl hx hq
  show JJ X E 2 G s0 0 0 [(0, .ref a), (1, .int (zI x1))] 0 []
  refine j_aload_n hx 0 dX9_fail_0 rfl ?_
  refine j_iconst hx dX9_fail_1 ?_
  refine j_iload_n hx 1 dX9_fail_2 rfl ?_
  refine j_aload_n hx 0 dX9_fail_3 rfl ?_
  have f1 := zf hS0 ha (k := 3) rfl
  refine g10_3 hx hG ha kf_RX9_31 rfl dX9_fail_4 ?_
  have f2 := zf hS0 ha (k := 4) rfl
  refine j_callV hx hG (c_X9_failIf hst a 1 x1 ((s0 a 3))) lk_RX9_37 ha (by decide) rfl rfl rfl rfl [.int (zI 1), .int (zI x1), .int (zI ((s0 a 3)))] ⟨rfl, hG, hS0, ha, (by omega), (by omega), (by omega), (by omega)⟩ rfl rfl ⟨by decide, by decide⟩ ⟨by decide, by decide⟩ (k2 := 0) (n2 := 0) rfl rfl (Nat.le_of_ble_eq_true rfl) dX9_fail_7 (kVM (fun s1 hS_s1 hF_s1 q4 => ?_))
  exact j_vret hx hq rfl (by decide) (by decide) dX9_fail_10 ⟨rfl, rfl, hS_s1, (zFr_t zFr_rf hF_s1 (by decide)), by omega⟩

theorem lk_RX8_43 : LkS RX8 43 yJ7_fill_53178 cJ7_fill_53178 4 none 2 := ⟨km_RX8_43, kst_yJ7_fill_53178, kn_RJ7, kc_yJ7_fill_53178, by decide +kernel, by decide +kernel, by decide +kernel⟩
theorem lk_RX8_49 : LkV RX8 49 RX0 yX0_clear cX0_clear 2 none 0 := ⟨km_RX8_49, ki_yX0_clear, ks_RX0_yX0_clear, kn_RX0, kc_yX0_clear, rfl, by decide +kernel, by decide +kernel, by decide +kernel⟩
theorem lk_RX8_65 : LkV RX8 65 RX9 yX9_fail cX9_fail 2 none 1 := ⟨km_RX8_65, ki_yX9_fail, ks_RX9_yX9_fail, kn_RX9, kc_yX9_fail, rfl, by decide +kernel, by decide +kernel, by decide +kernel⟩
theorem lk_RX8_57 : LkV RX8 57 RX9 yX9_peek cX9_peek 2 (some .int) 0 := ⟨km_RX8_57, ki_yX9_peek, ks_RX9_yX9_peek, kn_RX9, kc_yX9_peek, rfl, by decide +kernel, by decide +kernel, by decide +kernel⟩
set_option maxHeartbeats 4000000 in
set_option maxRecDepth 20000 in
theorem c_X8_read {E : zE} {l : Launch} (hst : l.stackTraces = false) (a : Nat) (b1 : Nat) : Con E l yX8_read cX8_read 3 none { frames := 3, cells := 0, slots := 0, locals := 63 } (fun G s vs => vs = [.ref a, .ref b1] ∧ zGK G ∧ zSK G s ∧ (gT G a = 9) ∧ (gT G b1 = 10) ∧ (s b1 4 = 0)) (fun G s _ => pV (fun G2 s2 => G2 = G ∧ zSK G s2 ∧ zFr [1, 7, 9, 10, 44] G s s2 ∧ s2 b1 4 = 4)) := by
  refine Con.mk hst (by decide) (fun G s vs h => by rw [h.1]; exact Nat.le_of_ble_eq_true rfl) ?_
  rintro X G s0 vs ⟨rfl, hG, hS0, ha, hb1, e0⟩ rfl hx hq
  show JJ X E 3 G s0 0 0 [(0, .ref a), (1, .ref b1)] 0 []
  refine j_aload_n hx 0 dX8_read_0 rfl ?_
  refine g9_2 hx hG ha kf_RX8_18 dX8_read_1 ?_
  refine j_iconst hx dX8_read_4 ?_
  refine j_callS hx (c_fill_44 hst (gP G a 2) 0) lk_RX8_43 [.ref (gP G a 2), .int (zI 0)] ⟨rfl, hG, hS0, (zr (k := 2) (t2 := 44) hG ha rfl), (by omega)⟩ rfl rfl ⟨by decide, by decide⟩ ⟨by decide, by decide⟩ (k2 := 0) (n2 := 0) rfl rfl (Nat.le_of_ble_eq_true rfl) dX8_read_5 (kVM (fun s1 hS_s1 hF_s1 q2 => ?_))
  refine j_aload_n hx 0 dX8_read_8 rfl ?_
  refine g9_3 hx hG ha kf_RX8_24 dX8_read_9 ?_
  refine j_callV hx hG (c_X0_clear hst (gP G a 3)) lk_RX8_49 (zr (k := 3) (t2 := 1) hG ha rfl) (by decide) rfl rfl rfl rfl [] ⟨rfl, hG, hS_s1, (zr (k := 3) (t2 := 1) hG ha rfl)⟩ rfl rfl ⟨by decide, by decide⟩ ⟨by decide, by decide⟩ (k2 := 0) (n2 := 0) rfl rfl (Nat.le_of_ble_eq_true rfl) dX8_read_12 (kVM (fun s2 hS_s2 hF_s2 q4 => ?_))
  refine j_aload_n hx 0 dX8_read_15 rfl ?_
  refine j_iconst hx dX8_read_16 ?_
  refine p9_4 hx hG ha kf_RX8_28 dX8_read_17 ?_
  obtain ⟨s3, e_s3⟩ : ∃ z, z = zU s2 a 4 0 := ⟨_, rfl⟩
  rw [← e_s3]
  have hS_s3 : zSK G s3 := by rw [e_s3]; exact zSK_F hS_s2 ha rfl rfl rfl (by omega)
  refine j_aload_n hx 0 dX8_read_20 rfl ?_
  refine j_iconst hx dX8_read_21 ?_
  refine p9_5 hx hG ha kf_RX8_40 dX8_read_22 ?_
  obtain ⟨s4, e_s4⟩ : ∃ z, z = zU s3 a 5 0 := ⟨_, rfl⟩
  rw [← e_s4]
  have hS_s4 : zSK G s4 := by rw [e_s4]; exact zSK_F hS_s3 ha rfl rfl rfl (by omega)
  refine j_iconst hx dX8_read_25 ?_
  refine j_istore_n hx [(2, .int (zI 0)), (0, .ref a), (1, .ref b1)] dX8_read_26 (by decide) rfl ?_
  refine j_iload_n hx 0 dX8_read_27 rfl ?_
  refine j_bipush hx dX8_read_28 rfl ?_
  refine j_icmp_gt hx 70 dX8_read_30 rfl ⟨by decide, by decide⟩ ⟨by decide, by decide⟩ (fun h5 => absurd h5 (by omega)) (fun h5 => ?_)
  refine j_aload_n hx 2 dX8_read_33 rfl ?_
  refine gN10_4 hx hG hb1 kf_RX8_52 (v := (s0 b1 4)) (by rw [e_s4, zU_at (Or.inl (zne ha hb1 (by decide))), e_s3, zU_at (Or.inl (zne ha hb1 (by decide))), (zFr_g hF_s2 hb1 (by decide)), (zFr_g hF_s1 hb1 (by decide))]) dX8_read_34 ?_
  have c70_5 : JJ X E 3 G s4 0 0 [(0, .ref a), (1, .ref b1)] 70 [] := by
    refine j_aload_n hx 0 dX8_read_70 rfl ?_
    refine g9_4 hx hG ha kf_RX8_28 (v := 0) (by rw [e_s4, zU_at (Or.inr (by decide)), e_s3, zU_eq]) dX8_read_71 ?_
    refine j_iconst hx dX8_read_74 ?_
    refine j_icmp_ge hx 83 dX8_read_75 rfl ⟨by decide, by decide⟩ ⟨by decide, by decide⟩ (fun h6 => absurd h6 (by omega)) (fun h6 => ?_)
    refine j_aload_n hx 1 dX8_read_78 rfl ?_
    refine j_iconst hx dX8_read_79 ?_
    have g7 : s4 b1 4 = s0 b1 4 := (by rw [e_s4, zU_at (Or.inl (zne ha hb1 (by decide))), e_s3, zU_at (Or.inl (zne ha hb1 (by decide))), (zFr_g hF_s2 hb1 (by decide)), (zFr_g hF_s1 hb1 (by decide))])
    refine j_callV hx hG (c_X9_fail hst b1 4) lk_RX8_65 hb1 (by decide) rfl rfl rfl rfl [.int (zI 4)] ⟨rfl, hG, hS_s4, hb1, (by omega), (by omega)⟩ rfl rfl ⟨by decide, by decide⟩ ⟨by decide, by decide⟩ (k2 := 0) (n2 := 0) rfl rfl (Nat.le_of_ble_eq_true rfl) dX8_read_80 (kVM (fun s6 hS_s6 hF_s6 q9 => ?_))
    refine j_aload_n hx 0 dX8_read_83 rfl ?_
    refine g9_3 hx hG ha kf_RX8_24 dX8_read_84 ?_
    refine j_aload_n hx 0 dX8_read_87 rfl ?_
    refine g9_4 hx hG ha kf_RX8_28 (v := 0) (by rw [(zFr_g hF_s6 ha (by decide)), e_s4, zU_at (Or.inr (by decide)), e_s3, zU_eq]) dX8_read_88 ?_
    refine pN1_7 hx hG (zr (k := 3) (t2 := 1) hG ha rfl) kf_RX8_69 dX8_read_91 ?_
    obtain ⟨s7, e_s7⟩ : ∃ z, z = zU s6 (gP G a 3) 7 0 := ⟨_, rfl⟩
    rw [← e_s7]
    have hS_s7 : zSK G s7 := by rw [e_s7]; exact zSK_F hS_s6 (zr (k := 3) (t2 := 1) hG ha rfl) rfl rfl rfl (by omega)
    have g10 : s7 b1 4 = s6 b1 4 := (by rw [e_s7, zU_at (Or.inl (zne (zr (k := 3) (t2 := 1) hG ha rfl) hb1 (by decide)))])
    exact j_vret hx hq rfl (by decide) (by decide) dX8_read_94 ⟨rfl, rfl, hS_s7, (zFr_u (zFr_t (zFr_u (zFr_u (zFr_t (zFr_t zFr_rf hF_s1 (by decide)) hF_s2 (by decide)) e_s3 ha (by decide)) e_s4 ha (by decide)) hF_s6 (by decide)) e_s7 (zr (k := 3) (t2 := 1) hG ha rfl) (by decide)), ((by rw [e_s7, zU_at (Or.inl (zne (zr (k := 3) (t2 := 1) hG ha rfl) hb1 (by decide)))]) : s7 b1 4 = s6 b1 4).trans (by omega)⟩
  refine j_if_ne hx 70 dX8_read_37 rfl (by omega) (fun h11 => absurd h11 (by omega)) (fun h11 => ?_)
  refine j_aload_n hx 2 dX8_read_40 rfl ?_
  refine j_callV hx hG (c_X9_peek hst b1) lk_RX8_57 hb1 (by decide) rfl rfl rfl rfl [] ⟨rfl, hG, hS_s4, hb1⟩ rfl rfl ⟨by decide, by decide⟩ ⟨by decide, by decide⟩ (k2 := 0) (n2 := 0) rfl rfl (Nat.le_of_ble_eq_true rfl) dX8_read_41 (kIP (fun v12 q13 => ?_))
  refine j_iconst hx dX8_read_44 ?_
  refine j_icmp_eq hx 70 dX8_read_45 rfl (by omega) ⟨by decide, by decide⟩ (fun h14 => ?_) (fun h14 => absurd h14 (by omega))
  exact j_sub [1, 2] [(0, .ref a), (1, .ref b1)] rfl (c70_5  )

set_option maxHeartbeats 4000000 in
set_option maxRecDepth 20000 in
theorem c_X6_become {E : zE} {l : Launch} (hst : l.stackTraces = false) (a : Nat) (b1 : Nat) : Con E l yX6_become cX6_become 3 none { frames := 0, cells := 0, slots := 0, locals := 0 } (fun G s vs => vs = [.ref a, .ref b1] ∧ zGK G ∧ zSK G s ∧ (gT G a = 7) ∧ (gT G b1 = 7)) (fun G s _ => pV (fun G2 s2 => G2 = G ∧ zSK G s2 ∧ zFr [7] G s s2 ∧ True)) := by
  refine Con.mk hst (by decide) (fun G s vs h => by rw [h.1]; exact Nat.le_of_ble_eq_true rfl) ?_
  rintro X G s0 vs ⟨rfl, hG, hS0, ha, hb1⟩ rfl hx hq
  show JJ X E 3 G s0 0 0 [(0, .ref a), (1, .ref b1)] 0 []
  refine j_aload_n hx 0 dX6_become_0 rfl ?_
  refine j_iconst hx dX6_become_1 ?_
  refine p7_1 hx hG ha kf_RX6_15 dX6_become_2 ?_
  obtain ⟨s1, e_s1⟩ : ∃ z, z = zU s0 a 1 0 := ⟨_, rfl⟩
  rw [← e_s1]
  have hS_s1 : zSK G s1 := by rw [e_s1]; exact zSK_F hS0 ha rfl rfl rfl (by omega)
  refine j_iconst hx dX6_become_5 ?_
  refine j_istore_n hx [(2, .int (zI 0)), (0, .ref a), (1, .ref b1)] dX6_become_6 (by decide) rfl ?_
  refine j_iload_n hx 0 dX6_become_7 rfl ?_
  refine j_aload_n hx 2 dX6_become_8 rfl ?_
  have f1 := zf hS_s1 hb1 (k := 1) rfl
  refine g7_1 hx hG hb1 kf_RX6_15 rfl dX6_become_9 ?_
  refine j_icmp_ge hx 40 dX6_become_12 rfl ⟨by decide, by decide⟩ (by omega) (fun h2 => ?_) (fun h2 => absurd h2 (by omega))
  exact j_vret hx hq rfl (by decide) (by decide) dX6_become_40 ⟨rfl, rfl, hS_s1, (zFr_u zFr_rf e_s1 ha (by decide)), trivial⟩

theorem lk_RX0_56 : LkV RX0 56 RX6 yX6_become cX6_become 3 none 1 := ⟨km_RX0_56, ki_yX6_become, ks_RX6_yX6_become, kn_RX6, kc_yX6_become, rfl, by decide +kernel, by decide +kernel, by decide +kernel⟩
set_option maxHeartbeats 4000000 in
set_option maxRecDepth 20000 in
theorem c_X0_become {E : zE} {l : Launch} (hst : l.stackTraces = false) (a : Nat) (b1 : Nat) : Con E l yX0_become cX0_become 3 none { frames := 2, cells := 0, slots := 0, locals := 42 } (fun G s vs => vs = [.ref a, .ref b1] ∧ zGK G ∧ zSK G s ∧ (gT G a = 1) ∧ (gT G b1 = 1)) (fun G s _ => pV (fun G2 s2 => G2 = G ∧ zSK G s2 ∧ zFr [1, 7] G s s2 ∧ True)) := by
  refine Con.mk hst (by decide) (fun G s vs h => by rw [h.1]; exact Nat.le_of_ble_eq_true rfl) ?_
  rintro X G s0 vs ⟨rfl, hG, hS0, ha, hb1⟩ rfl hx hq
  show JJ X E 3 G s0 0 0 [(0, .ref a), (1, .ref b1)] 0 []
  refine j_iconst hx dX0_become_0 ?_
  refine j_istore_n hx [(2, .int (zI 0)), (0, .ref a), (1, .ref b1)] dX0_become_1 (by decide) rfl ?_
  have c2_1 : ∀ (m_c2_1 : Nat) (v1 : Int) (s2 : zS), 2147483648 - v1 < m_c2_1 → (0 ≤ v1 ∧ v1 ≤ 7) → (zSK G s2) → (zFr [7] G s0 s2) → JJ X E 3 G s2 0 0 [(0, .ref a), (1, .ref b1), (2, .int (zI v1))] 2 [] := by
    intro m_c2_1
    induction m_c2_1 with
    | zero => intro v1 s2 hm_c2_1 fA3 hS_s2 hF_s2; exfalso; omega
    | succ m_c2_1 ih_c2_1 => 
      intro v1 s2 hm_c2_1 fA3 hS_s2 hF_s2
      refine j_iload_n hx 2 dX0_become_2 rfl ?_
      refine j_bipush hx dX0_become_3 rfl ?_
      refine j_icmp_ge hx 27 dX0_become_5 rfl (by omega) ⟨by decide, by decide⟩ (fun h2 => ?_) (fun h2 => ?_)
      · skip
        refine j_aload_n hx 0 dX0_become_27 rfl ?_
        refine j_aload_n hx 1 dX0_become_28 rfl ?_
        have f3 := zf hS0 hb1 (k := 7) rfl
        refine g1_7 hx hG hb1 kf_RX0_50 (v := (s0 b1 7)) (by rw [(zFr_g hF_s2 hb1 (by decide))]) dX0_become_29 ?_
        refine p1_7 hx hG ha kf_RX0_50 dX0_become_32 ?_
        obtain ⟨s6, e_s6⟩ : ∃ z, z = zU s2 a 7 ((s0 b1 7)) := ⟨_, rfl⟩
        rw [← e_s6]
        have hS_s6 : zSK G s6 := by rw [e_s6]; exact zSK_F hS_s2 ha rfl rfl rfl (by omega)
        refine j_aload_n hx 0 dX0_become_35 rfl ?_
        refine j_aload_n hx 1 dX0_become_36 rfl ?_
        have f4 := zf hS_s6 hb1 (k := 8) rfl
        refine g1_8 hx hG hb1 kf_RX0_53 rfl dX0_become_37 ?_
        refine p1_8 hx hG ha kf_RX0_53 dX0_become_40 ?_
        obtain ⟨s7, e_s7⟩ : ∃ z, z = zU s6 a 8 ((s6 b1 8)) := ⟨_, rfl⟩
        rw [← e_s7]
        have hS_s7 : zSK G s7 := by rw [e_s7]; exact zSK_F hS_s6 ha rfl rfl rfl (by omega)
        exact j_vret hx hq rfl (by decide) (by decide) dX0_become_43 ⟨rfl, rfl, hS_s7, (zFr_u (zFr_u (zFr_t zFr_rf hF_s2 (by decide)) e_s6 ha (by decide)) e_s7 ha (by decide)), trivial⟩
      · skip
        refine j_aload_n hx 0 dX0_become_8 rfl ?_
        refine j_iload_n hx 2 dX0_become_9 rfl ?_
        refine j_callV hx hG (c_X0_pileOf hst a v1) lk_RX0_47 ha (by decide) rfl rfl rfl rfl [.int (zI v1)] ⟨rfl, hG, hS_s2, ha, (by omega)⟩ rfl rfl ⟨by decide, by decide⟩ ⟨by decide, by decide⟩ (k2 := 0) (n2 := 0) rfl rfl (Nat.le_of_ble_eq_true rfl) dX0_become_10 (kRP (fun r5 q6 => ?_))
        refine j_aload_n hx 1 dX0_become_13 rfl ?_
        refine j_iload_n hx 2 dX0_become_14 rfl ?_
        refine j_callV hx hG (c_X0_pileOf hst b1 v1) lk_RX0_47 hb1 (by decide) rfl rfl rfl rfl [.int (zI v1)] ⟨rfl, hG, hS_s2, hb1, (by omega)⟩ rfl rfl ⟨by decide, by decide⟩ ⟨by decide, by decide⟩ (k2 := 0) (n2 := 0) rfl rfl (Nat.le_of_ble_eq_true rfl) dX0_become_15 (kRP (fun r7 q8 => ?_))
        refine j_callV hx hG (c_X6_become hst r5 r7) lk_RX0_56 q6 (by decide) rfl rfl rfl rfl [.ref r7] ⟨rfl, hG, hS_s2, q6, q8⟩ rfl rfl ⟨by decide, by decide⟩ ⟨by decide, by decide⟩ (k2 := 0) (n2 := 0) rfl rfl (Nat.le_of_ble_eq_true rfl) dX0_become_18 (kVM (fun s8 hS_s8 hF_s8 q10 => ?_))
        refine j_iinc hx 2 [(2, .int (zI (v1 + 1))), (0, .ref a), (1, .ref b1)] dX0_become_21 rfl (by omega) (by decide) rfl ?_
        refine j_goto hx 2 dX0_become_24 rfl ?_
        exact j_sub [1, 2, 0] [(0, .ref a), (1, .ref b1), (2, .int (zI (v1 + 1)))] rfl (ih_c2_1 (v1 + 1) s8 (by omega) (by omega) hS_s8 (zFr_t (zFr_t zFr_rf hF_s2 (by decide)) hF_s8 (by decide)))
  exact j_sub [1, 2, 0] [(0, .ref a), (1, .ref b1), (2, .int (zI 0))] rfl (c2_1 (2147483648 * 4) 0 s0 (by omega) (by omega) hS0 zFr_rf)

theorem lk_RX8_36 : LkV RX8 36 RX0 yX0_become cX0_become 3 none 1 := ⟨km_RX8_36, ki_yX0_become, ks_RX0_yX0_become, kn_RX0, kc_yX0_become, rfl, by decide +kernel, by decide +kernel, by decide +kernel⟩
set_option maxHeartbeats 4000000 in
set_option maxRecDepth 20000 in
theorem c_X8_become {E : zE} {l : Launch} (hst : l.stackTraces = false) (a : Nat) (b1 : Nat) : Con E l yX8_become cX8_become 3 none { frames := 3, cells := 0, slots := 0, locals := 64 } (fun G s vs => vs = [.ref a, .ref b1] ∧ zGK G ∧ zSK G s ∧ (gT G a = 9) ∧ (gT G b1 = 9)) (fun G s _ => pV (fun G2 s2 => G2 = G ∧ zSK G s2 ∧ zFr [1, 7, 9, 42, 43, 44] G s s2 ∧ True)) := by
  refine Con.mk hst (by decide) (fun G s vs h => by rw [h.1]; exact Nat.le_of_ble_eq_true rfl) ?_
  rintro X G s0 vs ⟨rfl, hG, hS0, ha, hb1⟩ rfl hx hq
  show JJ X E 3 G s0 0 0 [(0, .ref a), (1, .ref b1)] 0 []
  refine j_iconst hx dX8_become_0 ?_
  refine j_istore_n hx [(2, .int (zI 0)), (0, .ref a), (1, .ref b1)] dX8_become_1 (by decide) rfl ?_
  have c2_1 : ∀ (m_c2_1 : Nat) (v1 : Int) (s2 : zS), 2147483648 - v1 < m_c2_1 → (0 ≤ v1 ∧ v1 ≤ 15) → (zSK G s2) → (zFr [42] G s0 s2) → JJ X E 3 G s2 0 0 [(0, .ref a), (1, .ref b1), (2, .int (zI v1))] 2 [] := by
    intro m_c2_1
    induction m_c2_1 with
    | zero => intro v1 s2 hm_c2_1 fA3 hS_s2 hF_s2; exfalso; omega
    | succ m_c2_1 ih_c2_1 => 
      intro v1 s2 hm_c2_1 fA3 hS_s2 hF_s2
      refine j_iload_n hx 2 dX8_become_2 rfl ?_
      refine j_aload_n hx 0 dX8_become_3 rfl ?_
      refine g9_0 hx hG ha kf_RX8_11 dX8_become_4 ?_
      refine j_alen hx hG (zr (k := 0) (t2 := 42) hG ha rfl) (by decide) (by decide) (zlen hG (zr (k := 0) (t2 := 42) hG ha rfl) (n := 15) rfl rfl) dX8_become_7 ?_
      refine j_icmp_ge hx 38 dX8_become_8 rfl (by omega) ⟨by decide, by decide⟩ (fun h2 => ?_) (fun h2 => ?_)
      · skip
        refine j_iconst hx dX8_become_38 ?_
        refine j_istore_n hx [(2, .int (zI 0)), (0, .ref a), (1, .ref b1)] dX8_become_39 (by decide) rfl ?_
        have c40_6 : ∀ (m_c40_6 : Nat) (v3 : Int) (s7 : zS), 2147483648 - v3 < m_c40_6 → (0 ≤ v3 ∧ v3 ≤ 12) → (zSK G s7) → (zFr [43] G s2 s7) → JJ X E 3 G s7 0 0 [(0, .ref a), (1, .ref b1), (2, .int (zI v3))] 40 [] := by
          intro m_c40_6
          induction m_c40_6 with
          | zero => intro v3 s7 hm_c40_6 fA8 hS_s7 hF_s7; exfalso; omega
          | succ m_c40_6 ih_c40_6 => 
            intro v3 s7 hm_c40_6 fA8 hS_s7 hF_s7
            refine j_iload_n hx 2 dX8_become_40 rfl ?_
            refine j_aload_n hx 0 dX8_become_41 rfl ?_
            refine g9_1 hx hG ha kf_RX8_15 dX8_become_42 ?_
            refine j_alen hx hG (zr (k := 1) (t2 := 43) hG ha rfl) (by decide) (by decide) (zlen hG (zr (k := 1) (t2 := 43) hG ha rfl) (n := 12) rfl rfl) dX8_become_45 ?_
            refine j_icmp_ge hx 76 dX8_become_46 rfl (by omega) ⟨by decide, by decide⟩ (fun h4 => ?_) (fun h4 => ?_)
            · skip
              refine j_iconst hx dX8_become_76 ?_
              refine j_istore_n hx [(2, .int (zI 0)), (0, .ref a), (1, .ref b1)] dX8_become_77 (by decide) rfl ?_
              have c78_11 : ∀ (m_c78_11 : Nat) (v5 : Int) (s12 : zS), 2147483648 - v5 < m_c78_11 → (0 ≤ v5 ∧ v5 ≤ 3) → (zSK G s12) → (zFr [44] G s7 s12) → JJ X E 3 G s12 0 0 [(0, .ref a), (1, .ref b1), (2, .int (zI v5))] 78 [] := by
                intro m_c78_11
                induction m_c78_11 with
                | zero => intro v5 s12 hm_c78_11 fA13 hS_s12 hF_s12; exfalso; omega
                | succ m_c78_11 ih_c78_11 => 
                  intro v5 s12 hm_c78_11 fA13 hS_s12 hF_s12
                  refine j_iload_n hx 2 dX8_become_78 rfl ?_
                  refine j_aload_n hx 0 dX8_become_79 rfl ?_
                  refine g9_2 hx hG ha kf_RX8_18 dX8_become_80 ?_
                  refine j_alen hx hG (zr (k := 2) (t2 := 44) hG ha rfl) (by decide) (by decide) (zlen hG (zr (k := 2) (t2 := 44) hG ha rfl) (n := 3) rfl rfl) dX8_become_83 ?_
                  refine j_icmp_ge hx 114 dX8_become_84 rfl (by omega) ⟨by decide, by decide⟩ (fun h6 => ?_) (fun h6 => ?_)
                  · skip
                    refine j_aload_n hx 0 dX8_become_114 rfl ?_
                    refine g9_3 hx hG ha kf_RX8_24 dX8_become_115 ?_
                    refine j_aload_n hx 1 dX8_become_118 rfl ?_
                    refine g9_3 hx hG hb1 kf_RX8_24 dX8_become_119 ?_
                    refine j_callV hx hG (c_X0_become hst (gP G a 3) (gP G b1 3)) lk_RX8_36 (zr (k := 3) (t2 := 1) hG ha rfl) (by decide) rfl rfl rfl rfl [.ref (gP G b1 3)] ⟨rfl, hG, hS_s12, (zr (k := 3) (t2 := 1) hG ha rfl), (zr (k := 3) (t2 := 1) hG hb1 rfl)⟩ rfl rfl ⟨by decide, by decide⟩ ⟨by decide, by decide⟩ (k2 := 0) (n2 := 0) rfl rfl (Nat.le_of_ble_eq_true rfl) dX8_become_122 (kVM (fun s16 hS_s16 hF_s16 q8 => ?_))
                    refine j_aload_n hx 0 dX8_become_125 rfl ?_
                    refine j_aload_n hx 1 dX8_become_126 rfl ?_
                    have f9 := zf hS0 hb1 (k := 4) rfl
                    refine g9_4 hx hG hb1 kf_RX8_28 (v := (s0 b1 4)) (by rw [(zFr_g hF_s16 hb1 (by decide)), (zFr_g hF_s12 hb1 (by decide)), (zFr_g hF_s7 hb1 (by decide)), (zFr_g hF_s2 hb1 (by decide))]) dX8_become_127 ?_
                    refine p9_4 hx hG ha kf_RX8_28 dX8_become_130 ?_
                    obtain ⟨s17, e_s17⟩ : ∃ z, z = zU s16 a 4 ((s0 b1 4)) := ⟨_, rfl⟩
                    rw [← e_s17]
                    have hS_s17 : zSK G s17 := by rw [e_s17]; exact zSK_F hS_s16 ha rfl rfl rfl (by omega)
                    refine j_aload_n hx 0 dX8_become_133 rfl ?_
                    refine j_aload_n hx 1 dX8_become_134 rfl ?_
                    have f10 := zf hS_s17 hb1 (k := 5) rfl
                    refine g9_5 hx hG hb1 kf_RX8_40 rfl dX8_become_135 ?_
                    refine p9_5 hx hG ha kf_RX8_40 dX8_become_138 ?_
                    obtain ⟨s18, e_s18⟩ : ∃ z, z = zU s17 a 5 ((s17 b1 5)) := ⟨_, rfl⟩
                    rw [← e_s18]
                    have hS_s18 : zSK G s18 := by rw [e_s18]; exact zSK_F hS_s17 ha rfl rfl rfl (by omega)
                    exact j_vret hx hq rfl (by decide) (by decide) dX8_become_141 ⟨rfl, rfl, hS_s18, (zFr_u (zFr_u (zFr_t (zFr_t (zFr_t (zFr_t zFr_rf hF_s2 (by decide)) hF_s7 (by decide)) hF_s12 (by decide)) hF_s16 (by decide)) e_s17 ha (by decide)) e_s18 ha (by decide)), trivial⟩
                  · skip
                    refine j_iload_n hx 2 dX8_become_87 rfl ?_
                    refine j_aload_n hx 1 dX8_become_88 rfl ?_
                    refine g9_2 hx hG hb1 kf_RX8_18 dX8_become_89 ?_
                    refine j_alen hx hG (zr (k := 2) (t2 := 44) hG hb1 rfl) (by decide) (by decide) (zlen hG (zr (k := 2) (t2 := 44) hG hb1 rfl) (n := 3) rfl rfl) dX8_become_92 ?_
                    refine j_icmp_ge hx 114 dX8_become_93 rfl (by omega) ⟨by decide, by decide⟩ (fun h11 => absurd h11 (by omega)) (fun h11 => ?_)
                    refine j_aload_n hx 0 dX8_become_96 rfl ?_
                    refine g9_2 hx hG ha kf_RX8_18 dX8_become_97 ?_
                    refine j_iload_n hx 2 dX8_become_100 rfl ?_
                    refine j_aload_n hx 1 dX8_become_101 rfl ?_
                    refine g9_2 hx hG hb1 kf_RX8_18 dX8_become_102 ?_
                    refine j_iload_n hx 2 dX8_become_105 rfl ?_
                    have f12 := zaI (j := (v5).toNat) hS_s12 (zr (k := 2) (t2 := 44) hG hb1 rfl) rfl (zlen hG (zr (k := 2) (t2 := 44) hG hb1 rfl) (n := 3) rfl rfl) (show 0 ≤ v5 by omega) (by omega) rfl
                    refine j_iald hx hG (zr (k := 2) (t2 := 44) hG hb1 rfl) (by decide) rfl (zlen hG (zr (k := 2) (t2 := 44) hG hb1 rfl) (n := 3) rfl rfl) (by omega) (by omega) (j := (v5).toNat) rfl rfl dX8_become_106 ?_
                    refine j_iast hx hG (zr (k := 2) (t2 := 44) hG ha rfl) (by decide) rfl (zlen hG (zr (k := 2) (t2 := 44) hG ha rfl) (n := 3) rfl rfl) (by omega) (by omega) (j := (v5).toNat) rfl dX8_become_107 ?_
                    obtain ⟨s19, e_s19⟩ : ∃ z, z = zU s12 (gP G a 2) (v5).toNat ((s12 (gP G b1 2) (v5).toNat)) := ⟨_, rfl⟩
                    rw [← e_s19]
                    have hS_s19 : zSK G s19 := by rw [e_s19]; exact zSK_A hS_s12 (zr (k := 2) (t2 := 44) hG ha rfl) rfl rfl rfl (by omega)
                    refine j_iinc hx 2 [(2, .int (zI (v5 + 1))), (0, .ref a), (1, .ref b1)] dX8_become_108 rfl (by omega) (by decide) rfl ?_
                    refine j_goto hx 78 dX8_become_111 rfl ?_
                    exact j_sub [1, 2, 0] [(0, .ref a), (1, .ref b1), (2, .int (zI (v5 + 1)))] rfl (ih_c78_11 (v5 + 1) s19 (by omega) (by omega) hS_s19 (zFr_u (zFr_t zFr_rf hF_s12 (by decide)) e_s19 (zr (k := 2) (t2 := 44) hG ha rfl) (by decide)))
              exact j_sub [1, 2, 0] [(0, .ref a), (1, .ref b1), (2, .int (zI 0))] rfl (c78_11 (2147483648 * 4) 0 s7 (by omega) (by omega) hS_s7 zFr_rf)
            · skip
              refine j_iload_n hx 2 dX8_become_49 rfl ?_
              refine j_aload_n hx 1 dX8_become_50 rfl ?_
              refine g9_1 hx hG hb1 kf_RX8_15 dX8_become_51 ?_
              refine j_alen hx hG (zr (k := 1) (t2 := 43) hG hb1 rfl) (by decide) (by decide) (zlen hG (zr (k := 1) (t2 := 43) hG hb1 rfl) (n := 12) rfl rfl) dX8_become_54 ?_
              refine j_icmp_ge hx 76 dX8_become_55 rfl (by omega) ⟨by decide, by decide⟩ (fun h13 => absurd h13 (by omega)) (fun h13 => ?_)
              refine j_aload_n hx 0 dX8_become_58 rfl ?_
              refine g9_1 hx hG ha kf_RX8_15 dX8_become_59 ?_
              refine j_iload_n hx 2 dX8_become_62 rfl ?_
              refine j_aload_n hx 1 dX8_become_63 rfl ?_
              refine g9_1 hx hG hb1 kf_RX8_15 dX8_become_64 ?_
              refine j_iload_n hx 2 dX8_become_67 rfl ?_
              have f14 := zaI (j := (v3).toNat) hS_s7 (zr (k := 1) (t2 := 43) hG hb1 rfl) rfl (zlen hG (zr (k := 1) (t2 := 43) hG hb1 rfl) (n := 12) rfl rfl) (show 0 ≤ v3 by omega) (by omega) rfl
              refine j_iald hx hG (zr (k := 1) (t2 := 43) hG hb1 rfl) (by decide) rfl (zlen hG (zr (k := 1) (t2 := 43) hG hb1 rfl) (n := 12) rfl rfl) (by omega) (by omega) (j := (v3).toNat) rfl rfl dX8_become_68 ?_
              refine j_iast hx hG (zr (k := 1) (t2 := 43) hG ha rfl) (by decide) rfl (zlen hG (zr (k := 1) (t2 := 43) hG ha rfl) (n := 12) rfl rfl) (by omega) (by omega) (j := (v3).toNat) rfl dX8_become_69 ?_
              obtain ⟨s20, e_s20⟩ : ∃ z, z = zU s7 (gP G a 1) (v3).toNat ((s7 (gP G b1 1) (v3).toNat)) := ⟨_, rfl⟩
              rw [← e_s20]
              have hS_s20 : zSK G s20 := by rw [e_s20]; exact zSK_A hS_s7 (zr (k := 1) (t2 := 43) hG ha rfl) rfl rfl rfl (by omega)
              refine j_iinc hx 2 [(2, .int (zI (v3 + 1))), (0, .ref a), (1, .ref b1)] dX8_become_70 rfl (by omega) (by decide) rfl ?_
              refine j_goto hx 40 dX8_become_73 rfl ?_
              exact j_sub [1, 2, 0] [(0, .ref a), (1, .ref b1), (2, .int (zI (v3 + 1)))] rfl (ih_c40_6 (v3 + 1) s20 (by omega) (by omega) hS_s20 (zFr_u (zFr_t zFr_rf hF_s7 (by decide)) e_s20 (zr (k := 1) (t2 := 43) hG ha rfl) (by decide)))
        exact j_sub [1, 2, 0] [(0, .ref a), (1, .ref b1), (2, .int (zI 0))] rfl (c40_6 (2147483648 * 4) 0 s2 (by omega) (by omega) hS_s2 zFr_rf)
      · skip
        refine j_iload_n hx 2 dX8_become_11 rfl ?_
        refine j_aload_n hx 1 dX8_become_12 rfl ?_
        refine g9_0 hx hG hb1 kf_RX8_11 dX8_become_13 ?_
        refine j_alen hx hG (zr (k := 0) (t2 := 42) hG hb1 rfl) (by decide) (by decide) (zlen hG (zr (k := 0) (t2 := 42) hG hb1 rfl) (n := 15) rfl rfl) dX8_become_16 ?_
        refine j_icmp_ge hx 38 dX8_become_17 rfl (by omega) ⟨by decide, by decide⟩ (fun h15 => absurd h15 (by omega)) (fun h15 => ?_)
        refine j_aload_n hx 0 dX8_become_20 rfl ?_
        refine g9_0 hx hG ha kf_RX8_11 dX8_become_21 ?_
        refine j_iload_n hx 2 dX8_become_24 rfl ?_
        refine j_aload_n hx 1 dX8_become_25 rfl ?_
        refine g9_0 hx hG hb1 kf_RX8_11 dX8_become_26 ?_
        refine j_iload_n hx 2 dX8_become_29 rfl ?_
        have f16 := zaI (j := (v1).toNat) hS_s2 (zr (k := 0) (t2 := 42) hG hb1 rfl) rfl (zlen hG (zr (k := 0) (t2 := 42) hG hb1 rfl) (n := 15) rfl rfl) (show 0 ≤ v1 by omega) (by omega) rfl
        refine j_iald hx hG (zr (k := 0) (t2 := 42) hG hb1 rfl) (by decide) rfl (zlen hG (zr (k := 0) (t2 := 42) hG hb1 rfl) (n := 15) rfl rfl) (by omega) (by omega) (j := (v1).toNat) rfl rfl dX8_become_30 ?_
        refine j_iast hx hG (zr (k := 0) (t2 := 42) hG ha rfl) (by decide) rfl (zlen hG (zr (k := 0) (t2 := 42) hG ha rfl) (n := 15) rfl rfl) (by omega) (by omega) (j := (v1).toNat) rfl dX8_become_31 ?_
        obtain ⟨s21, e_s21⟩ : ∃ z, z = zU s2 (gP G a 0) (v1).toNat ((s2 (gP G b1 0) (v1).toNat)) := ⟨_, rfl⟩
        rw [← e_s21]
        have hS_s21 : zSK G s21 := by rw [e_s21]; exact zSK_A hS_s2 (zr (k := 0) (t2 := 42) hG ha rfl) rfl rfl rfl (by omega)
        refine j_iinc hx 2 [(2, .int (zI (v1 + 1))), (0, .ref a), (1, .ref b1)] dX8_become_32 rfl (by omega) (by decide) rfl ?_
        refine j_goto hx 2 dX8_become_35 rfl ?_
        exact j_sub [1, 2, 0] [(0, .ref a), (1, .ref b1), (2, .int (zI (v1 + 1)))] rfl (ih_c2_1 (v1 + 1) s21 (by omega) (by omega) hS_s21 (zFr_u (zFr_t zFr_rf hF_s2 (by decide)) e_s21 (zr (k := 0) (t2 := 42) hG ha rfl) (by decide)))
  exact j_sub [1, 2, 0] [(0, .ref a), (1, .ref b1), (2, .int (zI 0))] rfl (c2_1 (2147483648 * 4) 0 s0 (by omega) (by omega) hS0 zFr_rf)

set_option maxHeartbeats 4000000 in
set_option maxRecDepth 20000 in
theorem c_fill_50 {E : zE} {l : Launch} (hst : l.stackTraces = false) (b0 : Nat) (x1 : Int) : Con E l yJ7_fill_53178 cJ7_fill_53178 4 none { frames := 0, cells := 0, slots := 0, locals := 0 } (fun G s vs => vs = [.ref b0, .int (zI x1)] ∧ zGK G ∧ zSK G s ∧ (gT G b0 = 50) ∧ (0 ≤ x1 ∧ x1 ≤ 0)) (fun G s _ => pV (fun G2 s2 => G2 = G ∧ zSK G s2 ∧ zFr [50] G s s2 ∧ True)) := by
  refine Con.mk hst (by decide) (fun G s vs h => by rw [h.1]; exact Nat.le_of_ble_eq_true rfl) ?_
  rintro X G s0 vs ⟨rfl, hG, hS0, hb0, hx1⟩ rfl hx hq
  show JJ X E 4 G s0 0 0 [(0, .ref b0), (1, .int (zI x1))] 0 []
  refine j_iconst hx dJ7_fill_53178_0 ?_
  refine j_istore_n hx [(2, .int (zI 0)), (0, .ref b0), (1, .int (zI x1))] dJ7_fill_53178_1 (by decide) rfl ?_
  refine j_aload_n hx 1 dJ7_fill_53178_2 rfl ?_
  refine j_alen hx hG hb0 (by decide) (by decide) (zlen hG hb0 (n := 21) rfl rfl) dJ7_fill_53178_3 ?_
  refine j_istore_n hx [(3, .int (zI 21)), (2, .int (zI 0)), (0, .ref b0), (1, .int (zI x1))] dJ7_fill_53178_4 (by decide) rfl ?_
  have c5_1 : ∀ (m_c5_1 : Nat) (v1 : Int) (s2 : zS), 2147483648 - v1 < m_c5_1 → (0 ≤ v1 ∧ v1 ≤ 21) → (zSK G s2) → (zFr [50] G s0 s2) → JJ X E 4 G s2 0 0 [(0, .ref b0), (1, .int (zI x1)), (2, .int (zI v1)), (3, .int (zI 21))] 5 [] := by
    intro m_c5_1
    induction m_c5_1 with
    | zero => intro v1 s2 hm_c5_1 fA3 hS_s2 hF_s2; exfalso; omega
    | succ m_c5_1 ih_c5_1 => 
      intro v1 s2 hm_c5_1 fA3 hS_s2 hF_s2
      refine j_iload_n hx 2 dJ7_fill_53178_5 rfl ?_
      refine j_iload_n hx 3 dJ7_fill_53178_6 rfl ?_
      refine j_icmp_ge hx 20 dJ7_fill_53178_7 rfl (by omega) ⟨by decide, by decide⟩ (fun h2 => ?_) (fun h2 => ?_)
      · skip
        exact j_vret hx hq rfl (by decide) (by decide) dJ7_fill_53178_20 ⟨rfl, rfl, hS_s2, (zFr_t zFr_rf hF_s2 (by decide)), trivial⟩
      · skip
        refine j_aload_n hx 0 dJ7_fill_53178_10 rfl ?_
        refine j_iload_n hx 2 dJ7_fill_53178_11 rfl ?_
        refine j_iload_n hx 1 dJ7_fill_53178_12 rfl ?_
        refine j_iast hx hG hb0 (by decide) rfl (zlen hG hb0 (n := 21) rfl rfl) (by omega) (by omega) (j := (v1).toNat) rfl dJ7_fill_53178_13 ?_
        obtain ⟨s6, e_s6⟩ : ∃ z, z = zU s2 b0 (v1).toNat x1 := ⟨_, rfl⟩
        rw [← e_s6]
        have hS_s6 : zSK G s6 := by rw [e_s6]; exact zSK_A hS_s2 hb0 rfl rfl rfl (by omega)
        refine j_iinc hx 2 [(2, .int (zI (v1 + 1))), (0, .ref b0), (1, .int (zI x1)), (3, .int (zI 21))] dJ7_fill_53178_14 rfl (by omega) (by decide) rfl ?_
        refine j_goto hx 5 dJ7_fill_53178_17 rfl ?_
        exact j_sub [1, 2, 0, 3] [(0, .ref b0), (1, .int (zI x1)), (2, .int (zI (v1 + 1))), (3, .int (zI 21))] rfl (ih_c5_1 (v1 + 1) s6 (by omega) (by omega) hS_s6 (zFr_u (zFr_t zFr_rf hF_s2 (by decide)) e_s6 hb0 (by decide)))
  exact j_sub [2, 3, 1, 0] [(0, .ref b0), (1, .int (zI x1)), (2, .int (zI 0)), (3, .int (zI 21))] rfl (c5_1 (2147483648 * 4) 0 s0 (by omega) (by omega) hS0 zFr_rf)

theorem lk_RX3_50 : LkV RX3 50 RX0 yX0_become cX0_become 3 none 1 := ⟨km_RX3_50, ki_yX0_become, ks_RX0_yX0_become, kn_RX0, kc_yX0_become, rfl, by decide +kernel, by decide +kernel, by decide +kernel⟩
theorem lk_RX3_55 : LkS RX3 55 yJ7_fill_53178 cJ7_fill_53178 4 none 2 := ⟨km_RX3_55, kst_yJ7_fill_53178, kn_RJ7, kc_yJ7_fill_53178, by decide +kernel, by decide +kernel, by decide +kernel⟩
set_option maxHeartbeats 4000000 in
set_option maxRecDepth 20000 in
theorem c_X3_begin {E : zE} {l : Launch} (hst : l.stackTraces = false) (a : Nat) : Con E l yX3_begin cX3_begin 2 none { frames := 3, cells := 0, slots := 0, locals := 64 } (fun G s vs => vs = [.ref a] ∧ zGK G ∧ zSK G s ∧ (gT G a = 4)) (fun G s _ => pV (fun G2 s2 => G2 = G ∧ zSK G s2 ∧ zFr [1, 4, 7, 44, 49, 50] G s s2 ∧ True)) := by
  refine Con.mk hst (by decide) (fun G s vs h => by rw [h.1]; exact Nat.le_of_ble_eq_true rfl) ?_
  rintro X G s0 vs ⟨rfl, hG, hS0, ha⟩ rfl hx hq
  show JJ X E 2 G s0 0 0 [(0, .ref a)] 0 []
  refine j_aload_n hx 0 dX3_begin_0 rfl ?_
  refine g4_1 hx hG ha kf_RX3_14 dX3_begin_1 ?_
  refine j_aload_n hx 0 dX3_begin_4 rfl ?_
  refine g4_0 hx hG ha kf_RX3_41 dX3_begin_5 ?_
  refine gN9_3 hx hG (zr (k := 0) (t2 := 9) hG ha rfl) kf_RX3_45 dX3_begin_8 ?_
  refine j_callV hx hG (c_X0_become hst (gP G a 1) (gP G (gP G a 0) 3)) lk_RX3_50 (zr (k := 1) (t2 := 1) hG ha rfl) (by decide) rfl rfl rfl rfl [.ref (gP G (gP G a 0) 3)] ⟨rfl, hG, hS0, (zr (k := 1) (t2 := 1) hG ha rfl), (zr (k := 3) (t2 := 1) hG (zr (k := 0) (t2 := 9) hG ha rfl) rfl)⟩ rfl rfl ⟨by decide, by decide⟩ ⟨by decide, by decide⟩ (k2 := 0) (n2 := 0) rfl rfl (Nat.le_of_ble_eq_true rfl) dX3_begin_11 (kVM (fun s1 hS_s1 hF_s1 q2 => ?_))
  refine j_iconst hx dX3_begin_14 ?_
  refine j_istore_n hx [(1, .int (zI 0)), (0, .ref a)] dX3_begin_15 (by decide) rfl ?_
  have c16_2 : ∀ (m_c16_2 : Nat) (v3 : Int) (s3 : zS), 2147483648 - v3 < m_c16_2 → (0 ≤ v3 ∧ v3 ≤ 3) → (zSK G s3) → (zFr [44] G s1 s3) → JJ X E 2 G s3 0 0 [(0, .ref a), (1, .int (zI v3))] 16 [] := by
    intro m_c16_2
    induction m_c16_2 with
    | zero => intro v3 s3 hm_c16_2 fA4 hS_s3 hF_s3; exfalso; omega
    | succ m_c16_2 ih_c16_2 => 
      intro v3 s3 hm_c16_2 fA4 hS_s3 hF_s3
      refine j_iload_n hx 1 dX3_begin_16 rfl ?_
      refine j_aload_n hx 0 dX3_begin_17 rfl ?_
      refine g4_2 hx hG ha kf_RX3_18 dX3_begin_18 ?_
      refine j_alen hx hG (zr (k := 2) (t2 := 44) hG ha rfl) (by decide) (by decide) (zlen hG (zr (k := 2) (t2 := 44) hG ha rfl) (n := 3) rfl rfl) dX3_begin_21 ?_
      refine j_icmp_ge hx 58 dX3_begin_22 rfl (by omega) ⟨by decide, by decide⟩ (fun h4 => ?_) (fun h4 => ?_)
      · skip
        refine j_iconst hx dX3_begin_58 ?_
        refine j_istore_n hx [(1, .int (zI 0)), (0, .ref a)] dX3_begin_59 (by decide) rfl ?_
        have c60_7 : ∀ (m_c60_7 : Nat) (v5 : Int) (s8 : zS), 2147483648 - v5 < m_c60_7 → (0 ≤ v5 ∧ v5 ≤ 6) → (zSK G s8) → (zFr [49] G s3 s8) → JJ X E 2 G s8 0 0 [(0, .ref a), (1, .int (zI v5))] 60 [] := by
          intro m_c60_7
          induction m_c60_7 with
          | zero => intro v5 s8 hm_c60_7 fA9 hS_s8 hF_s8; exfalso; omega
          | succ m_c60_7 ih_c60_7 => 
            intro v5 s8 hm_c60_7 fA9 hS_s8 hF_s8
            refine j_iload_n hx 1 dX3_begin_60 rfl ?_
            refine j_aload_n hx 0 dX3_begin_61 rfl ?_
            refine g4_3 hx hG ha kf_RX3_24 dX3_begin_62 ?_
            refine j_alen hx hG (zr (k := 3) (t2 := 49) hG ha rfl) (by decide) (by decide) (zlen hG (zr (k := 3) (t2 := 49) hG ha rfl) (n := 6) rfl rfl) dX3_begin_65 ?_
            refine j_icmp_ge hx 82 dX3_begin_66 rfl (by omega) ⟨by decide, by decide⟩ (fun h6 => ?_) (fun h6 => ?_)
            · skip
              refine j_aload_n hx 0 dX3_begin_82 rfl ?_
              refine g4_4 hx hG ha kf_RX3_28 dX3_begin_83 ?_
              refine j_iconst hx dX3_begin_86 ?_
              refine j_callS hx (c_fill_50 hst (gP G a 4) 0) lk_RX3_55 [.ref (gP G a 4), .int (zI 0)] ⟨rfl, hG, hS_s8, (zr (k := 4) (t2 := 50) hG ha rfl), (by omega)⟩ rfl rfl ⟨by decide, by decide⟩ ⟨by decide, by decide⟩ (k2 := 0) (n2 := 0) rfl rfl (Nat.le_of_ble_eq_true rfl) dX3_begin_87 (kVM (fun s12 hS_s12 hF_s12 q8 => ?_))
              refine j_aload_n hx 0 dX3_begin_90 rfl ?_
              refine j_iconst hx dX3_begin_91 ?_
              refine p4_7 hx hG ha kf_RX3_61 (by omega) dX3_begin_92 ?_
              obtain ⟨s13, e_s13⟩ : ∃ z, z = zU s12 a 7 0 := ⟨_, rfl⟩
              rw [← e_s13]
              have hS_s13 : zSK G s13 := by rw [e_s13]; exact zSK_F hS_s12 ha rfl rfl rfl (by omega)
              refine j_aload_n hx 0 dX3_begin_95 rfl ?_
              refine j_iconst hx dX3_begin_96 ?_
              refine p4_8 hx hG ha kf_RX3_65 (by omega) dX3_begin_97 ?_
              obtain ⟨s14, e_s14⟩ : ∃ z, z = zU s13 a 8 0 := ⟨_, rfl⟩
              rw [← e_s14]
              have hS_s14 : zSK G s14 := by rw [e_s14]; exact zSK_F hS_s13 ha rfl rfl rfl (by omega)
              refine j_aload_n hx 0 dX3_begin_100 rfl ?_
              refine j_iconst hx dX3_begin_101 ?_
              refine p4_9 hx hG ha kf_RX3_68 dX3_begin_102 ?_
              obtain ⟨s15, e_s15⟩ : ∃ z, z = zU s14 a 9 0 := ⟨_, rfl⟩
              rw [← e_s15]
              have hS_s15 : zSK G s15 := by rw [e_s15]; exact zSK_F hS_s14 ha rfl rfl rfl (by omega)
              refine j_aload_n hx 0 dX3_begin_105 rfl ?_
              refine j_iconst hx dX3_begin_106 ?_
              refine p4_10 hx hG ha kf_RX3_71 dX3_begin_107 ?_
              obtain ⟨s16, e_s16⟩ : ∃ z, z = zU s15 a 10 0 := ⟨_, rfl⟩
              rw [← e_s16]
              have hS_s16 : zSK G s16 := by rw [e_s16]; exact zSK_F hS_s15 ha rfl rfl rfl (by omega)
              exact j_vret hx hq rfl (by decide) (by decide) dX3_begin_110 ⟨rfl, rfl, hS_s16, (zFr_u (zFr_u (zFr_u (zFr_u (zFr_t (zFr_t (zFr_t (zFr_t zFr_rf hF_s1 (by decide)) hF_s3 (by decide)) hF_s8 (by decide)) hF_s12 (by decide)) e_s13 ha (by decide)) e_s14 ha (by decide)) e_s15 ha (by decide)) e_s16 ha (by decide)), trivial⟩
            · skip
              refine j_aload_n hx 0 dX3_begin_69 rfl ?_
              refine g4_3 hx hG ha kf_RX3_24 dX3_begin_70 ?_
              refine j_iload_n hx 1 dX3_begin_73 rfl ?_
              refine j_null hx dX3_begin_74 ?_
              refine j_aastN hx hG (zr (k := 3) (t2 := 49) hG ha rfl) (by decide) rfl (zlen hG (zr (k := 3) (t2 := 49) hG ha rfl) (n := 6) rfl rfl) (by omega) (by omega) dX3_begin_75 ?_
              obtain ⟨s17, e_s17⟩ : ∃ z, z = zU s8 (gP G a 3) (v5).toNat 0 := ⟨_, rfl⟩
              rw [← e_s17]
              have hS_s17 : zSK G s17 := by rw [e_s17]; exact zSK_0 hS_s8 (zr (k := 3) (t2 := 49) hG ha rfl) (fun _ => rfl) (fun _ => rfl)
              refine j_iinc hx 1 [(1, .int (zI (v5 + 1))), (0, .ref a)] dX3_begin_76 rfl (by omega) (by decide) rfl ?_
              refine j_goto hx 60 dX3_begin_79 rfl ?_
              exact j_sub [1, 0] [(0, .ref a), (1, .int (zI (v5 + 1)))] rfl (ih_c60_7 (v5 + 1) s17 (by omega) (by omega) hS_s17 (zFr_u (zFr_t zFr_rf hF_s8 (by decide)) e_s17 (zr (k := 3) (t2 := 49) hG ha rfl) (by decide)))
        exact j_sub [1, 0] [(0, .ref a), (1, .int (zI 0))] rfl (c60_7 (2147483648 * 4) 0 s3 (by omega) (by omega) hS_s3 zFr_rf)
      · skip
        refine j_iload_n hx 1 dX3_begin_25 rfl ?_
        refine j_aload_n hx 0 dX3_begin_26 rfl ?_
        refine g4_0 hx hG ha kf_RX3_41 dX3_begin_27 ?_
        refine gN9_2 hx hG (zr (k := 0) (t2 := 9) hG ha rfl) kf_RX3_54 dX3_begin_30 ?_
        refine j_alen hx hG (zr (k := 2) (t2 := 44) hG (zr (k := 0) (t2 := 9) hG ha rfl) rfl) (by decide) (by decide) (zlen hG (zr (k := 2) (t2 := 44) hG (zr (k := 0) (t2 := 9) hG ha rfl) rfl) (n := 3) rfl rfl) dX3_begin_33 ?_
        refine j_icmp_ge hx 58 dX3_begin_34 rfl (by omega) ⟨by decide, by decide⟩ (fun h9 => absurd h9 (by omega)) (fun h9 => ?_)
        refine j_aload_n hx 0 dX3_begin_37 rfl ?_
        refine g4_2 hx hG ha kf_RX3_18 dX3_begin_38 ?_
        refine j_iload_n hx 1 dX3_begin_41 rfl ?_
        refine j_aload_n hx 0 dX3_begin_42 rfl ?_
        refine g4_0 hx hG ha kf_RX3_41 dX3_begin_43 ?_
        refine gN9_2 hx hG (zr (k := 0) (t2 := 9) hG ha rfl) kf_RX3_54 dX3_begin_46 ?_
        refine j_iload_n hx 1 dX3_begin_49 rfl ?_
        have f10 := zaI (j := (v3).toNat) hS_s3 (zr (k := 2) (t2 := 44) hG (zr (k := 0) (t2 := 9) hG ha rfl) rfl) rfl (zlen hG (zr (k := 2) (t2 := 44) hG (zr (k := 0) (t2 := 9) hG ha rfl) rfl) (n := 3) rfl rfl) (show 0 ≤ v3 by omega) (by omega) rfl
        refine j_iald hx hG (zr (k := 2) (t2 := 44) hG (zr (k := 0) (t2 := 9) hG ha rfl) rfl) (by decide) rfl (zlen hG (zr (k := 2) (t2 := 44) hG (zr (k := 0) (t2 := 9) hG ha rfl) rfl) (n := 3) rfl rfl) (by omega) (by omega) (j := (v3).toNat) rfl rfl dX3_begin_50 ?_
        refine j_iast hx hG (zr (k := 2) (t2 := 44) hG ha rfl) (by decide) rfl (zlen hG (zr (k := 2) (t2 := 44) hG ha rfl) (n := 3) rfl rfl) (by omega) (by omega) (j := (v3).toNat) rfl dX3_begin_51 ?_
        obtain ⟨s18, e_s18⟩ : ∃ z, z = zU s3 (gP G a 2) (v3).toNat ((s3 (gP G (gP G a 0) 2) (v3).toNat)) := ⟨_, rfl⟩
        rw [← e_s18]
        have hS_s18 : zSK G s18 := by rw [e_s18]; exact zSK_A hS_s3 (zr (k := 2) (t2 := 44) hG ha rfl) rfl rfl rfl (by omega)
        refine j_iinc hx 1 [(1, .int (zI (v3 + 1))), (0, .ref a)] dX3_begin_52 rfl (by omega) (by decide) rfl ?_
        refine j_goto hx 16 dX3_begin_55 rfl ?_
        exact j_sub [1, 0] [(0, .ref a), (1, .int (zI (v3 + 1)))] rfl (ih_c16_2 (v3 + 1) s18 (by omega) (by omega) hS_s18 (zFr_u (zFr_t zFr_rf hF_s3 (by decide)) e_s18 (zr (k := 2) (t2 := 44) hG ha rfl) (by decide)))
  exact j_sub [1, 0] [(0, .ref a), (1, .int (zI 0))] rfl (c16_2 (2147483648 * 4) 0 s1 (by omega) (by omega) hS_s1 zFr_rf)

set_option maxHeartbeats 4000000 in
set_option maxRecDepth 20000 in
theorem c_X4_settle {E : zE} {l : Launch} (hst : l.stackTraces = false) (a : Nat) (x1 : Int) : Con E l yX4_settle cX4_settle 2 none { frames := 0, cells := 0, slots := 0, locals := 0 } (fun G s vs => vs = [.ref a, .int (zI x1)] ∧ zGK G ∧ zSK G s ∧ (gT G a = 5) ∧ (0 ≤ x1 ∧ x1 ≤ 0)) (fun G s _ => pV (fun G2 s2 => G2 = G ∧ zSK G s2 ∧ zFr [5] G s s2 ∧ True)) := by
  refine Con.mk hst (by decide) (fun G s vs h => by rw [h.1]; exact Nat.le_of_ble_eq_true rfl) ?_
  rintro X G s0 vs ⟨rfl, hG, hS0, ha, hx1⟩ rfl hx hq
  show JJ X E 2 G s0 0 0 [(0, .ref a), (1, .int (zI x1))] 0 []
  refine j_aload_n hx 0 dX4_settle_0 rfl ?_
  refine j_iload_n hx 1 dX4_settle_1 rfl ?_
  refine p5_5 hx hG ha kf_RX4_27 dX4_settle_2 ?_
  obtain ⟨s1, e_s1⟩ : ∃ z, z = zU s0 a 5 x1 := ⟨_, rfl⟩
  rw [← e_s1]
  have hS_s1 : zSK G s1 := by rw [e_s1]; exact zSK_F hS0 ha rfl rfl rfl (by omega)
  refine j_aload_n hx 0 dX4_settle_5 rfl ?_
  refine j_iconst hx dX4_settle_6 ?_
  refine p5_4 hx hG ha kf_RX4_31 dX4_settle_7 ?_
  obtain ⟨s2, e_s2⟩ : ∃ z, z = zU s1 a 4 0 := ⟨_, rfl⟩
  rw [← e_s2]
  have hS_s2 : zSK G s2 := by rw [e_s2]; exact zSK_F hS_s1 ha rfl rfl rfl (by omega)
  exact j_vret hx hq rfl (by decide) (by decide) dX4_settle_10 ⟨rfl, rfl, hS_s2, (zFr_u (zFr_u zFr_rf e_s1 ha (by decide)) e_s2 ha (by decide)), trivial⟩

set_option maxHeartbeats 4000000 in
set_option maxRecDepth 20000 in
theorem c_X9_close {E : zE} {l : Launch} (hst : l.stackTraces = false) (a : Nat) (x1 : Int) : Con E l yX9_close cX9_close 2 (some .int) { frames := 0, cells := 0, slots := 0, locals := 0 } (fun G s vs => vs = [.ref a, .int (zI x1)] ∧ zGK G ∧ zSK G s ∧ (gT G a = 10) ∧ (0 ≤ x1 ∧ x1 ≤ 0) ∧ ((s a 4 = 0 ∨ s a 4 = 4))) (fun G s _ => pI (fun r G2 s2 => G2 = G ∧ zSK G s2 ∧ zFr [10] G s s2 ∧ ((-6) ≤ r ∧ r ≤ 0) ∧ ((s a 4 = 0 → r = 0) ∧ (s a 4 = 4 → r = -6)))) := by
  refine Con.mk hst (by decide) (fun G s vs h => by rw [h.1]; exact Nat.le_of_ble_eq_true rfl) ?_
  rintro X G s0 vs ⟨rfl, hG, hS0, ha, hx1, e0⟩ rfl hx hq
  show JJ X E 2 G s0 0 0 [(0, .ref a), (1, .int (zI x1))] 0 []
  refine j_aload_n hx 0 dX9_close_0 rfl ?_
  refine j_iconst hx dX9_close_1 ?_
  refine p10_1 hx hG ha kf_RX9_19 dX9_close_2 ?_
  obtain ⟨s1, e_s1⟩ : ∃ z, z = zU s0 a 1 0 := ⟨_, rfl⟩
  rw [← e_s1]
  have hS_s1 : zSK G s1 := by rw [e_s1]; exact zSK_F hS0 ha rfl rfl rfl (by omega)
  refine j_aload_n hx 0 dX9_close_5 rfl ?_
  have f1 := zf hS0 ha (k := 4) rfl
  refine g10_4 hx hG ha kf_RX9_34 (v := (s0 a 4)) (by rw [e_s1, zU_at (Or.inr (by decide))]) dX9_close_6 ?_
  refine j_if_ne hx 16 dX9_close_9 rfl (by omega) (fun h2 => ?_) (fun h2 => ?_)
  · skip
    refine j_aload_n hx 0 dX9_close_16 rfl ?_
    refine g10_4 hx hG ha kf_RX9_34 (v := (s0 a 4)) (by rw [e_s1, zU_at (Or.inr (by decide))]) dX9_close_17 ?_
    refine j_bipush hx dX9_close_20 rfl ?_
    refine j_isub hx (r := (s0 a 4) - 10) dX9_close_22 (by omega) ?_
    exact j_iret hx hq rfl (by decide) (by decide) dX9_close_23 ⟨(s0 a 4) - 10, rfl, rfl, hS_s1, (zFr_u zFr_rf e_s1 ha (by decide)), ⟨(by omega), by omega⟩⟩
  · skip
    refine j_iload_n hx 1 dX9_close_12 rfl ?_
    refine j_goto hx 23 dX9_close_13 rfl ?_
    exact j_iret hx hq rfl (by decide) (by decide) dX9_close_23 ⟨x1, rfl, rfl, hS_s1, (zFr_u zFr_rf e_s1 ha (by decide)), ⟨(by omega), by omega⟩⟩

theorem lk_RX11_98 : LkV RX11 98 RX11 yX11_needRange cX11_needRange 4 none 3 := ⟨km_RX11_98, ki_yX11_needRange, ks_RX11_yX11_needRange, kn_RX11, kc_yX11_needRange, rfl, by decide +kernel, by decide +kernel, by decide +kernel⟩
theorem lk_RX11_102 : LkV RX11 102 RX9 yX9_open cX9_open 2 none 1 := ⟨km_RX11_102, ki_yX9_open, ks_RX9_yX9_open, kn_RX9, kc_yX9_open, rfl, by decide +kernel, by decide +kernel, by decide +kernel⟩
theorem lk_RX11_105 : LkV RX11 105 RX8 yX8_read cX8_read 3 none 1 := ⟨km_RX11_105, ki_yX8_read, ks_RX8_yX8_read, kn_RX8, kc_yX8_read, rfl, by decide +kernel, by decide +kernel, by decide +kernel⟩
theorem lk_RX11_130 : LkV RX11 130 RX9 yX9_close cX9_close 2 (some .int) 1 := ⟨km_RX11_130, ki_yX9_close, ks_RX9_yX9_close, kn_RX9, kc_yX9_close, rfl, by decide +kernel, by decide +kernel, by decide +kernel⟩
set_option maxHeartbeats 4000000 in
set_option maxRecDepth 20000 in
theorem c_X11_table {E : zE} {l : Launch} (hst : l.stackTraces = false) (a : Nat) (x1 : Int) : ConX E l yX11_table cX11_table 2 (some .int) { frames := 7, cells := 1, slots := 6, locals := 113 } (fun G s vs => vs = [.ref a, .int (zI x1)] ∧ zGK G ∧ zSK G s ∧ (gT G a = 12) ∧ ((-2147483648) ≤ x1 ∧ x1 ≤ 2147483647) ∧ (zS0 G s)) (fun G s _ => pI (fun r G2 s2 => G2 = G ∧ zSK G s2 ∧ zFr [1, 2, 4, 5, 7, 9, 10, 12, 42, 43, 44, 49, 50] G s s2 ∧ ((-6) ≤ r ∧ r ≤ (-6)) ∧ x1 = 0)) (fun G s _ Ex G2 s2 => G2 = G ∧ zSK G s2 ∧ zFr [1, 2, 4, 5, 7, 9, 10, 12, 42, 43, 44, 49, 50] G s s2 ∧ ((Ex = "java/lang/IllegalArgumentException" ∧ (¬ (x1 = 0))))) := by
  refine ConX.mk hst (by decide) (fun G s vs h => by rw [h.1]; exact Nat.le_of_ble_eq_true rfl) ?_
  rintro X G s0 vs ⟨rfl, hG, hS0, ha, hx1, hF0⟩ rfl hx hq
  show JJ X E 2 G s0 0 0 [(0, .ref a), (1, .int (zI x1))] 0 []
  refine j_aload_n hx 0 dX11_table_0 rfl ?_
  refine j_iload_n hx 1 dX11_table_1 rfl ?_
  refine j_iconst hx dX11_table_2 ?_
  refine j_aload_n hx 0 dX11_table_3 rfl ?_
  refine g12_0 hx hG ha kf_RX11_10 dX11_table_4 ?_
  have f1 := z0f hF0 (zr (k := 0) (t2 := 10) hG ha rfl) (k := 1) rfl
  refine gN10_1 hx hG (zr (k := 0) (t2 := 10) hG ha rfl) kf_RX11_94 rfl dX11_table_7 ?_
  refine j_callVX hx hq hG (c_X11_needRange hst a x1 0 ((s0 (gP G a 0) 1))) lk_RX11_98 ha (by decide) rfl rfl rfl rfl [.int (zI x1), .int (zI 0), .int (zI ((s0 (gP G a 0) 1)))] ⟨rfl, hG, hS0, ha, (by omega), (by omega), (by omega), hF0⟩ rfl rfl ⟨by decide, by decide⟩ ⟨by decide, by decide⟩ (k2 := 1) (n2 := 6) rfl rfl (Nat.le_of_ble_eq_true rfl) ⟨by decide, by decide⟩ dX11_table_10 (by rintro Ex9 G9 s9 ⟨rfl, hS9, hF9, e9, c9⟩; exact ⟨rfl, hS9, (zFr_t zFr_rf hF9 (by decide)), ⟨e9, by first | trivial | omega⟩⟩) (kVP (fun q3 => ?_))
  refine j_aload_n hx 0 dX11_table_13 rfl ?_
  refine g12_0 hx hG ha kf_RX11_10 dX11_table_14 ?_
  refine j_iload_n hx 1 dX11_table_17 rfl ?_
  refine j_callV hx hG (c_X9_open hst (gP G a 0) x1) lk_RX11_102 (zr (k := 0) (t2 := 10) hG ha rfl) (by decide) rfl rfl rfl rfl [.int (zI x1)] ⟨rfl, hG, hS0, (zr (k := 0) (t2 := 10) hG ha rfl), (by omega)⟩ rfl rfl ⟨by decide, by decide⟩ ⟨by decide, by decide⟩ (k2 := 1) (n2 := 6) rfl rfl (Nat.le_of_ble_eq_true rfl) dX11_table_18 (kVM (fun s1 hS_s1 hF_s1 q5 => ?_))
  refine j_aload_n hx 0 dX11_table_21 rfl ?_
  refine g12_2 hx hG ha kf_RX11_23 dX11_table_22 ?_
  refine j_aload_n hx 0 dX11_table_25 rfl ?_
  refine g12_0 hx hG ha kf_RX11_10 dX11_table_26 ?_
  refine j_callV hx hG (c_X8_read hst (gP G a 2) (gP G a 0)) lk_RX11_105 (zr (k := 2) (t2 := 9) hG ha rfl) (by decide) rfl rfl rfl rfl [.ref (gP G a 0)] ⟨rfl, hG, hS_s1, (zr (k := 2) (t2 := 9) hG ha rfl), (zr (k := 0) (t2 := 10) hG ha rfl), (by omega)⟩ rfl rfl ⟨by decide, by decide⟩ ⟨by decide, by decide⟩ (k2 := 1) (n2 := 6) rfl rfl (Nat.le_of_ble_eq_true rfl) dX11_table_29 (kVM (fun s2 hS_s2 hF_s2 q7 => ?_))
  refine j_aload_n hx 0 dX11_table_32 rfl ?_
  refine g12_0 hx hG ha kf_RX11_10 dX11_table_33 ?_
  refine gN10_4 hx hG (zr (k := 0) (t2 := 10) hG ha rfl) kf_RX11_109 rfl dX11_table_36 ?_
  refine j_if_ne hx 81 dX11_table_39 rfl (by omega) (fun h8 => ?_) (fun h8 => absurd h8 (by omega))
  refine j_aload_n hx 0 dX11_table_81 rfl ?_
  refine g12_0 hx hG ha kf_RX11_10 dX11_table_82 ?_
  refine j_aload_n hx 0 dX11_table_85 rfl ?_
  refine g12_1 hx hG ha kf_RX11_19 dX11_table_86 ?_
  have f9 := zf hS_s2 (zr (k := 1) (t2 := 9) hG ha rfl) (k := 4) rfl
  refine gN9_4 hx hG (zr (k := 1) (t2 := 9) hG ha rfl) kf_RX11_127 rfl dX11_table_89 ?_
  refine j_callV hx hG (c_X9_close hst (gP G a 0) ((s2 (gP G a 1) 4))) lk_RX11_130 (zr (k := 0) (t2 := 10) hG ha rfl) (by decide) rfl rfl rfl rfl [.int (zI ((s2 (gP G a 1) 4)))] ⟨rfl, hG, hS_s2, (zr (k := 0) (t2 := 10) hG ha rfl), (by omega), (by omega)⟩ rfl rfl ⟨by decide, by decide⟩ ⟨by decide, by decide⟩ (k2 := 1) (n2 := 6) rfl rfl (Nat.le_of_ble_eq_true rfl) dX11_table_92 (kIM (fun v10 s3 hS_s3 hF_s3 q11 => ?_))
  exact j_iret hx hq.r rfl (by decide) (by decide) dX11_table_95 ⟨v10, rfl, rfl, hS_s3, (zFr_t (zFr_t (zFr_t zFr_rf hF_s1 (by decide)) hF_s2 (by decide)) hF_s3 (by decide)), ⟨(by omega), by omega⟩⟩

set_option maxHeartbeats 4000000 in
set_option maxRecDepth 20000 in
theorem c_X11_needPlayer {E : zE} {l : Launch} (hst : l.stackTraces = false) (a : Nat) (x1 : Int) : ConX E l yX11_needPlayer cX11_needPlayer 2 none { frames := 6, cells := 1, slots := 6, locals := 90 } (fun G s vs => vs = [.ref a, .int (zI x1)] ∧ zGK G ∧ zSK G s ∧ (gT G a = 12) ∧ ((-2147483648) ≤ x1 ∧ x1 ≤ 2147483647) ∧ (zS0 G s)) (fun G s _ => fun _ _ _ => False) (fun G s _ Ex G2 s2 => G2 = G ∧ zSK G s2 ∧ zFr [12] G s s2 ∧ ((Ex = "java/util/NoSuchElementException" ∧ (True)))) := by
  refine ConX.mk hst (by decide) (fun G s vs h => by rw [h.1]; exact Nat.le_of_ble_eq_true rfl) ?_
  rintro X G s0 vs ⟨rfl, hG, hS0, ha, hx1, hF0⟩ rfl hx hq
  show JJ X E 2 G s0 0 0 [(0, .ref a), (1, .int (zI x1))] 0 []
  refine j_iload_n hx 1 dX11_needPlayer_0 rfl ?_
  refine j_if_lt hx 15 dX11_needPlayer_1 rfl (by omega) (fun h1 => ?_) (fun h1 => ?_)
  · skip
    refine j_aload_n hx 0 dX11_needPlayer_15 rfl ?_
    refine j_dup hx dX11_needPlayer_16 rfl ?_
    have f2 := z0f hF0 ha (k := 14) rfl
    refine g12_14 hx hG ha kf_RX11_333 rfl dX11_needPlayer_17 ?_
    refine j_iconst hx dX11_needPlayer_20 ?_
    refine j_iadd hx (r := (s0 a 14) + 1) dX11_needPlayer_21 (by omega) ?_
    refine p12_14 hx hG ha kf_RX11_333 dX11_needPlayer_22 ?_
    obtain ⟨s1, e_s1⟩ : ∃ z, z = zU s0 a 14 ((s0 a 14) + 1) := ⟨_, rfl⟩
    rw [← e_s1]
    have hS_s1 : zSK G s1 := by rw [e_s1]; exact zSK_F hS0 ha rfl rfl rfl (by omega)
    exact j_throwN hx hq ⟨by decide, Nat.le_of_ble_eq_true rfl⟩ ⟨by decide, by decide⟩ ⟨by decide, by decide⟩ dX11_needPlayer_25 dX11_needPlayer_28 dX11_needPlayer_29 dX11_needPlayer_32 dX11_needPlayer_35 ⟨rfl, hS_s1, (zFr_u zFr_rf e_s1 ha (by decide)), ⟨rfl, by first | trivial | omega⟩⟩
  · skip
    refine j_iload_n hx 1 dX11_needPlayer_4 rfl ?_
    refine j_aload_n hx 0 dX11_needPlayer_5 rfl ?_
    refine g12_1 hx hG ha kf_RX11_19 dX11_needPlayer_6 ?_
    have f3 := z0f hF0 (zr (k := 1) (t2 := 9) hG ha rfl) (k := 4) rfl
    refine gN9_4 hx hG (zr (k := 1) (t2 := 9) hG ha rfl) kf_RX11_127 rfl dX11_needPlayer_9 ?_
    refine j_icmp_lt hx 36 dX11_needPlayer_12 rfl (by omega) (by omega) (fun h4 => absurd h4 (by omega)) (fun h4 => ?_)
    refine j_aload_n hx 0 dX11_needPlayer_15 rfl ?_
    refine j_dup hx dX11_needPlayer_16 rfl ?_
    have f5 := z0f hF0 ha (k := 14) rfl
    refine g12_14 hx hG ha kf_RX11_333 rfl dX11_needPlayer_17 ?_
    refine j_iconst hx dX11_needPlayer_20 ?_
    refine j_iadd hx (r := (s0 a 14) + 1) dX11_needPlayer_21 (by omega) ?_
    refine p12_14 hx hG ha kf_RX11_333 dX11_needPlayer_22 ?_
    obtain ⟨s2, e_s2⟩ : ∃ z, z = zU s0 a 14 ((s0 a 14) + 1) := ⟨_, rfl⟩
    rw [← e_s2]
    have hS_s2 : zSK G s2 := by rw [e_s2]; exact zSK_F hS0 ha rfl rfl rfl (by omega)
    exact j_throwN hx hq ⟨by decide, Nat.le_of_ble_eq_true rfl⟩ ⟨by decide, by decide⟩ ⟨by decide, by decide⟩ dX11_needPlayer_25 dX11_needPlayer_28 dX11_needPlayer_29 dX11_needPlayer_32 dX11_needPlayer_35 ⟨rfl, hS_s2, (zFr_u zFr_rf e_s2 ha (by decide)), ⟨rfl, by first | trivial | omega⟩⟩

theorem lk_RX11_134 : LkV RX11 134 RX11 yX11_needPlayer cX11_needPlayer 2 none 1 := ⟨km_RX11_134, ki_yX11_needPlayer, ks_RX11_yX11_needPlayer, kn_RX11, kc_yX11_needPlayer, rfl, by decide +kernel, by decide +kernel, by decide +kernel⟩
set_option maxHeartbeats 4000000 in
set_option maxRecDepth 20000 in
theorem c_X11_plan {E : zE} {l : Launch} (hst : l.stackTraces = false) (a : Nat) (x1 : Int) (x2 : Int) : ConX E l yX11_plan cX11_plan 3 (some .int) { frames := 7, cells := 1, slots := 6, locals := 111 } (fun G s vs => vs = [.ref a, .int (zI x1), .int (zI x2)] ∧ zGK G ∧ zSK G s ∧ (gT G a = 12) ∧ ((-2147483648) ≤ x1 ∧ x1 ≤ 2147483647) ∧ ((-2147483648) ≤ x2 ∧ x2 ≤ 2147483647) ∧ (zS0 G s)) (fun G s _ => fun _ _ _ => False) (fun G s _ Ex G2 s2 => G2 = G ∧ zSK G s2 ∧ zFr [12] G s s2 ∧ ((Ex = "java/util/NoSuchElementException" ∧ (True)))) := by
  refine ConX.mk hst (by decide) (fun G s vs h => by rw [h.1]; exact Nat.le_of_ble_eq_true rfl) ?_
  rintro X G s0 vs ⟨rfl, hG, hS0, ha, hx1, hx2, hF0⟩ rfl hx hq
  show JJ X E 3 G s0 0 0 [(0, .ref a), (1, .int (zI x1)), (2, .int (zI x2))] 0 []
  refine j_aload_n hx 0 dX11_plan_0 rfl ?_
  refine j_iload_n hx 1 dX11_plan_1 rfl ?_
  refine j_callVX hx hq hG (c_X11_needPlayer hst a x1) lk_RX11_134 ha (by decide) rfl rfl rfl rfl [.int (zI x1)] ⟨rfl, hG, hS0, ha, (by omega), hF0⟩ rfl rfl ⟨by decide, by decide⟩ ⟨by decide, by decide⟩ (k2 := 1) (n2 := 6) rfl rfl (Nat.le_of_ble_eq_true rfl) ⟨by decide, by decide⟩ dX11_plan_2 (by rintro Ex9 G9 s9 ⟨rfl, hS9, hF9, e9, c9⟩; exact ⟨rfl, hS9, (zFr_t zFr_rf hF9 (by decide)), ⟨e9, by first | trivial | omega⟩⟩) (fun _ _ _ h => h.elim)

set_option maxHeartbeats 4000000 in
set_option maxRecDepth 20000 in
theorem c_X11_guess {E : zE} {l : Launch} (hst : l.stackTraces = false) (a : Nat) (x1 : Int) (x2 : Int) : ConX E l yX11_guess cX11_guess 3 (some .int) { frames := 7, cells := 1, slots := 6, locals := 111 } (fun G s vs => vs = [.ref a, .int (zI x1), .int (zI x2)] ∧ zGK G ∧ zSK G s ∧ (gT G a = 12) ∧ ((-2147483648) ≤ x1 ∧ x1 ≤ 2147483647) ∧ ((-2147483648) ≤ x2 ∧ x2 ≤ 2147483647) ∧ (zS0 G s)) (fun G s _ => fun _ _ _ => False) (fun G s _ Ex G2 s2 => G2 = G ∧ zSK G s2 ∧ zFr [12] G s s2 ∧ ((Ex = "java/util/NoSuchElementException" ∧ (True)))) := by
  refine ConX.mk hst (by decide) (fun G s vs h => by rw [h.1]; exact Nat.le_of_ble_eq_true rfl) ?_
  rintro X G s0 vs ⟨rfl, hG, hS0, ha, hx1, hx2, hF0⟩ rfl hx hq
  show JJ X E 3 G s0 0 0 [(0, .ref a), (1, .int (zI x1)), (2, .int (zI x2))] 0 []
  refine j_aload_n hx 0 dX11_guess_0 rfl ?_
  refine j_iload_n hx 1 dX11_guess_1 rfl ?_
  refine j_callVX hx hq hG (c_X11_needPlayer hst a x1) lk_RX11_134 ha (by decide) rfl rfl rfl rfl [.int (zI x1)] ⟨rfl, hG, hS0, ha, (by omega), hF0⟩ rfl rfl ⟨by decide, by decide⟩ ⟨by decide, by decide⟩ (k2 := 1) (n2 := 6) rfl rfl (Nat.le_of_ble_eq_true rfl) ⟨by decide, by decide⟩ dX11_guess_2 (by rintro Ex9 G9 s9 ⟨rfl, hS9, hF9, e9, c9⟩; exact ⟨rfl, hS9, (zFr_t zFr_rf hF9 (by decide)), ⟨e9, by first | trivial | omega⟩⟩) (fun _ _ _ h => h.elim)

theorem lk_RX1_38 : LkV RX1 38 RX9 yX9_peek cX9_peek 2 (some .int) 0 := ⟨km_RX1_38, ki_yX9_peek, ks_RX9_yX9_peek, kn_RX9, kc_yX9_peek, rfl, by decide +kernel, by decide +kernel, by decide +kernel⟩
set_option maxHeartbeats 4000000 in
set_option maxRecDepth 20000 in
theorem c_X1_read {E : zE} {l : Launch} (hst : l.stackTraces = false) (a : Nat) (b1 : Nat) (x2 : Int) : Con E l yX1_read cX1_read 7 none { frames := 1, cells := 0, slots := 0, locals := 21 } (fun G s vs => vs = [.ref a, .ref b1, .int (zI x2)] ∧ zGK G ∧ zSK G s ∧ (gT G a = 2) ∧ (gT G b1 = 10) ∧ (0 ≤ x2 ∧ x2 ≤ 0)) (fun G s _ => pV (fun G2 s2 => G2 = G ∧ zSK G s2 ∧ zFr [2] G s s2 ∧ True)) := by
  refine Con.mk hst (by decide) (fun G s vs h => by rw [h.1]; exact Nat.le_of_ble_eq_true rfl) ?_
  rintro X G s0 vs ⟨rfl, hG, hS0, ha, hb1, hx2⟩ rfl hx hq
  show JJ X E 7 G s0 0 0 [(0, .ref a), (1, .ref b1), (2, .int (zI x2))] 0 []
  refine j_aload_n hx 0 dX1_read_0 rfl ?_
  refine j_iconst hx dX1_read_1 ?_
  refine p2_2 hx hG ha kf_RX1_18 dX1_read_2 ?_
  obtain ⟨s1, e_s1⟩ : ∃ z, z = zU s0 a 2 0 := ⟨_, rfl⟩
  rw [← e_s1]
  have hS_s1 : zSK G s1 := by rw [e_s1]; exact zSK_F hS0 ha rfl rfl rfl (by omega)
  refine j_iconst hx dX1_read_5 ?_
  refine j_istore_n hx [(3, .int (zI 0)), (0, .ref a), (1, .ref b1), (2, .int (zI x2))] dX1_read_6 (by decide) rfl ?_
  refine j_iload_n hx 0 dX1_read_7 rfl ?_
  refine j_bipush hx dX1_read_8 rfl ?_
  refine j_icmp_gt hx 92 dX1_read_10 rfl ⟨by decide, by decide⟩ ⟨by decide, by decide⟩ (fun h1 => absurd h1 (by omega)) (fun h1 => ?_)
  refine j_aload_n hx 2 dX1_read_13 rfl ?_
  have f2 := zf hS0 hb1 (k := 4) rfl
  refine gN10_4 hx hG hb1 kf_RX1_33 (v := (s0 b1 4)) (by rw [e_s1, zU_at (Or.inl (zne ha hb1 (by decide)))]) dX1_read_14 ?_
  refine j_if_ne hx 92 dX1_read_17 rfl (by omega) (fun h3 => ?_) (fun h3 => ?_)
  · skip
    exact j_vret hx hq rfl (by decide) (by decide) dX1_read_92 ⟨rfl, rfl, hS_s1, (zFr_u zFr_rf e_s1 ha (by decide)), trivial⟩
  · skip
    refine j_aload_n hx 2 dX1_read_20 rfl ?_
    refine j_callV hx hG (c_X9_peek hst b1) lk_RX1_38 hb1 (by decide) rfl rfl rfl rfl [] ⟨rfl, hG, hS_s1, hb1⟩ rfl rfl ⟨by decide, by decide⟩ ⟨by decide, by decide⟩ (k2 := 0) (n2 := 0) rfl rfl (Nat.le_of_ble_eq_true rfl) dX1_read_21 (kIP (fun v4 q5 => ?_))
    refine j_iconst hx dX1_read_24 ?_
    refine j_icmp_eq hx 92 dX1_read_25 rfl (by omega) ⟨by decide, by decide⟩ (fun h6 => ?_) (fun h6 => absurd h6 (by omega))
    exact j_vret hx hq rfl (by decide) (by decide) dX1_read_92 ⟨rfl, rfl, hS_s1, (zFr_u zFr_rf e_s1 ha (by decide)), trivial⟩

set_option maxHeartbeats 4000000 in
set_option maxRecDepth 20000 in
theorem c_X1_become {E : zE} {l : Launch} (hst : l.stackTraces = false) (a : Nat) (b1 : Nat) : Con E l yX1_become cX1_become 3 none { frames := 0, cells := 0, slots := 0, locals := 0 } (fun G s vs => vs = [.ref a, .ref b1] ∧ zGK G ∧ zSK G s ∧ (gT G a = 2) ∧ (gT G b1 = 2)) (fun G s _ => pV (fun G2 s2 => G2 = G ∧ zSK G s2 ∧ zFr [2] G s s2 ∧ True)) := by
  refine Con.mk hst (by decide) (fun G s vs h => by rw [h.1]; exact Nat.le_of_ble_eq_true rfl) ?_
  rintro X G s0 vs ⟨rfl, hG, hS0, ha, hb1⟩ rfl hx hq
  show JJ X E 3 G s0 0 0 [(0, .ref a), (1, .ref b1)] 0 []
  refine j_aload_n hx 0 dX1_become_0 rfl ?_
  refine j_iconst hx dX1_become_1 ?_
  refine p2_2 hx hG ha kf_RX1_18 dX1_become_2 ?_
  obtain ⟨s1, e_s1⟩ : ∃ z, z = zU s0 a 2 0 := ⟨_, rfl⟩
  rw [← e_s1]
  have hS_s1 : zSK G s1 := by rw [e_s1]; exact zSK_F hS0 ha rfl rfl rfl (by omega)
  refine j_iconst hx dX1_become_5 ?_
  refine j_istore_n hx [(2, .int (zI 0)), (0, .ref a), (1, .ref b1)] dX1_become_6 (by decide) rfl ?_
  refine j_iload_n hx 0 dX1_become_7 rfl ?_
  refine j_aload_n hx 2 dX1_become_8 rfl ?_
  have f1 := zf hS_s1 hb1 (k := 2) rfl
  refine g2_2 hx hG hb1 kf_RX1_18 rfl dX1_become_9 ?_
  refine j_icmp_ge hx 35 dX1_become_12 rfl ⟨by decide, by decide⟩ (by omega) (fun h2 => ?_) (fun h2 => absurd h2 (by omega))
  exact j_vret hx hq rfl (by decide) (by decide) dX1_become_35 ⟨rfl, rfl, hS_s1, (zFr_u zFr_rf e_s1 ha (by decide)), trivial⟩

theorem lk_RX11_146 : LkV RX11 146 RX1 yX1_read cX1_read 7 none 2 := ⟨km_RX11_146, ki_yX1_read, ks_RX1_yX1_read, kn_RX1, kc_yX1_read, rfl, by decide +kernel, by decide +kernel, by decide +kernel⟩
theorem lk_RX11_149 : LkV RX11 149 RX1 yX1_become cX1_become 3 none 1 := ⟨km_RX11_149, ki_yX1_become, ks_RX1_yX1_become, kn_RX1, kc_yX1_become, rfl, by decide +kernel, by decide +kernel, by decide +kernel⟩
set_option maxHeartbeats 4000000 in
set_option maxRecDepth 20000 in
theorem c_X11_book {E : zE} {l : Launch} (hst : l.stackTraces = false) (a : Nat) (x1 : Int) : ConX E l yX11_book cX11_book 2 (some .int) { frames := 7, cells := 1, slots := 6, locals := 113 } (fun G s vs => vs = [.ref a, .int (zI x1)] ∧ zGK G ∧ zSK G s ∧ (gT G a = 12) ∧ ((-2147483648) ≤ x1 ∧ x1 ≤ 2147483647) ∧ (zS0 G s)) (fun G s _ => pI (fun r G2 s2 => G2 = G ∧ zSK G s2 ∧ zFr [2, 10] G s s2 ∧ (0 ≤ r ∧ r ≤ 0) ∧ x1 = 0)) (fun G s _ Ex G2 s2 => G2 = G ∧ zSK G s2 ∧ zFr [2, 10, 12] G s s2 ∧ ((Ex = "java/lang/IllegalArgumentException" ∧ (¬ (x1 = 0))))) := by
  refine ConX.mk hst (by decide) (fun G s vs h => by rw [h.1]; exact Nat.le_of_ble_eq_true rfl) ?_
  rintro X G s0 vs ⟨rfl, hG, hS0, ha, hx1, hF0⟩ rfl hx hq
  show JJ X E 2 G s0 0 0 [(0, .ref a), (1, .int (zI x1))] 0 []
  refine j_aload_n hx 0 dX11_book_0 rfl ?_
  refine j_iload_n hx 1 dX11_book_1 rfl ?_
  refine j_iconst hx dX11_book_2 ?_
  refine j_bipush hx dX11_book_3 rfl ?_
  refine j_aload_n hx 0 dX11_book_5 rfl ?_
  refine g12_0 hx hG ha kf_RX11_10 dX11_book_6 ?_
  have f1 := z0f hF0 (zr (k := 0) (t2 := 10) hG ha rfl) (k := 1) rfl
  refine gN10_1 hx hG (zr (k := 0) (t2 := 10) hG ha rfl) kf_RX11_94 rfl dX11_book_9 ?_
  refine j_mmin hx km_RX11_137 kst_min kn_RJ9 kc_Lib_Math_min_name ⟨by decide, by decide⟩ (by omega) ⟨by decide, Nat.le_of_ble_eq_true rfl⟩ ⟨by decide, by decide⟩ dX11_book_12 (fun v2 f3 f4 f5 => ?_)
  refine j_callVX hx hq hG (c_X11_needRange hst a x1 0 v2) lk_RX11_98 ha (by decide) rfl rfl rfl rfl [.int (zI x1), .int (zI 0), .int (zI v2)] ⟨rfl, hG, hS0, ha, (by omega), (by omega), (by omega), hF0⟩ rfl rfl ⟨by decide, by decide⟩ ⟨by decide, by decide⟩ (k2 := 1) (n2 := 6) rfl rfl (Nat.le_of_ble_eq_true rfl) ⟨by decide, by decide⟩ dX11_book_15 (by rintro Ex9 G9 s9 ⟨rfl, hS9, hF9, e9, c9⟩; exact ⟨rfl, hS9, (zFr_t zFr_rf hF9 (by decide)), ⟨e9, by first | trivial | omega⟩⟩) (kVP (fun q7 => ?_))
  refine j_aload_n hx 0 dX11_book_18 rfl ?_
  refine g12_0 hx hG ha kf_RX11_10 dX11_book_19 ?_
  refine j_iload_n hx 1 dX11_book_22 rfl ?_
  refine j_callV hx hG (c_X9_open hst (gP G a 0) x1) lk_RX11_102 (zr (k := 0) (t2 := 10) hG ha rfl) (by decide) rfl rfl rfl rfl [.int (zI x1)] ⟨rfl, hG, hS0, (zr (k := 0) (t2 := 10) hG ha rfl), (by omega)⟩ rfl rfl ⟨by decide, by decide⟩ ⟨by decide, by decide⟩ (k2 := 1) (n2 := 6) rfl rfl (Nat.le_of_ble_eq_true rfl) dX11_book_23 (kVM (fun s1 hS_s1 hF_s1 q9 => ?_))
  refine j_aload_n hx 0 dX11_book_26 rfl ?_
  refine g12_5 hx hG ha kf_RX11_40 dX11_book_27 ?_
  refine j_aload_n hx 0 dX11_book_30 rfl ?_
  refine g12_0 hx hG ha kf_RX11_10 dX11_book_31 ?_
  refine j_aload_n hx 0 dX11_book_34 rfl ?_
  refine g12_1 hx hG ha kf_RX11_19 dX11_book_35 ?_
  have f10 := z0f hF0 (zr (k := 1) (t2 := 9) hG ha rfl) (k := 4) rfl
  refine gN9_4 hx hG (zr (k := 1) (t2 := 9) hG ha rfl) kf_RX11_127 (v := (s0 (gP G a 1) 4)) (by rw [(zFr_g hF_s1 (zr (k := 1) (t2 := 9) hG ha rfl) (by decide))]) dX11_book_38 ?_
  refine j_callV hx hG (c_X1_read hst (gP G a 5) (gP G a 0) ((s0 (gP G a 1) 4))) lk_RX11_146 (zr (k := 5) (t2 := 2) hG ha rfl) (by decide) rfl rfl rfl rfl [.ref (gP G a 0), .int (zI ((s0 (gP G a 1) 4)))] ⟨rfl, hG, hS_s1, (zr (k := 5) (t2 := 2) hG ha rfl), (zr (k := 0) (t2 := 10) hG ha rfl), (by omega)⟩ rfl rfl ⟨by decide, by decide⟩ ⟨by decide, by decide⟩ (k2 := 1) (n2 := 6) rfl rfl (Nat.le_of_ble_eq_true rfl) dX11_book_41 (kVM (fun s2 hS_s2 hF_s2 q12 => ?_))
  refine j_aload_n hx 0 dX11_book_44 rfl ?_
  refine g12_0 hx hG ha kf_RX11_10 dX11_book_45 ?_
  refine gN10_4 hx hG (zr (k := 0) (t2 := 10) hG ha rfl) kf_RX11_109 (v := (s1 (gP G a 0) 4)) (by rw [(zFr_g hF_s2 (zr (k := 0) (t2 := 10) hG ha rfl) (by decide))]) dX11_book_48 ?_
  refine j_if_ne hx 65 dX11_book_51 rfl (by omega) (fun h13 => absurd h13 (by omega)) (fun h13 => ?_)
  refine j_aload_n hx 0 dX11_book_54 rfl ?_
  refine g12_4 hx hG ha kf_RX11_36 dX11_book_55 ?_
  refine j_aload_n hx 0 dX11_book_58 rfl ?_
  refine g12_5 hx hG ha kf_RX11_40 dX11_book_59 ?_
  refine j_callV hx hG (c_X1_become hst (gP G a 4) (gP G a 5)) lk_RX11_149 (zr (k := 4) (t2 := 2) hG ha rfl) (by decide) rfl rfl rfl rfl [.ref (gP G a 5)] ⟨rfl, hG, hS_s2, (zr (k := 4) (t2 := 2) hG ha rfl), (zr (k := 5) (t2 := 2) hG ha rfl)⟩ rfl rfl ⟨by decide, by decide⟩ ⟨by decide, by decide⟩ (k2 := 1) (n2 := 6) rfl rfl (Nat.le_of_ble_eq_true rfl) dX11_book_62 (kVM (fun s3 hS_s3 hF_s3 q15 => ?_))
  refine j_aload_n hx 0 dX11_book_65 rfl ?_
  refine g12_0 hx hG ha kf_RX11_10 dX11_book_66 ?_
  refine j_aload_n hx 0 dX11_book_69 rfl ?_
  refine g12_4 hx hG ha kf_RX11_36 dX11_book_70 ?_
  have f16 := zf hS_s3 (zr (k := 4) (t2 := 2) hG ha rfl) (k := 2) rfl
  refine gN2_2 hx hG (zr (k := 4) (t2 := 2) hG ha rfl) kf_RX11_118 rfl dX11_book_73 ?_
  have g17 : s3 (gP G a 0) 4 = s1 (gP G a 0) 4 := (by rw [(zFr_g hF_s3 (zr (k := 0) (t2 := 10) hG ha rfl) (by decide)), (zFr_g hF_s2 (zr (k := 0) (t2 := 10) hG ha rfl) (by decide))])
  refine j_callV hx hG (c_X9_close hst (gP G a 0) ((s3 (gP G a 4) 2))) lk_RX11_130 (zr (k := 0) (t2 := 10) hG ha rfl) (by decide) rfl rfl rfl rfl [.int (zI ((s3 (gP G a 4) 2)))] ⟨rfl, hG, hS_s3, (zr (k := 0) (t2 := 10) hG ha rfl), (by omega), (by omega)⟩ rfl rfl ⟨by decide, by decide⟩ ⟨by decide, by decide⟩ (k2 := 1) (n2 := 6) rfl rfl (Nat.le_of_ble_eq_true rfl) dX11_book_76 (kIM (fun v18 s4 hS_s4 hF_s4 q19 => ?_))
  exact j_iret hx hq.r rfl (by decide) (by decide) dX11_book_79 ⟨v18, rfl, rfl, hS_s4, (zFr_t (zFr_t (zFr_t (zFr_t zFr_rf hF_s1 (by decide)) hF_s2 (by decide)) hF_s3 (by decide)) hF_s4 (by decide)), ⟨(by omega), by omega⟩⟩

set_option maxHeartbeats 4000000 in
set_option maxRecDepth 20000 in
theorem c_X11_fault {E : zE} {l : Launch} (hst : l.stackTraces = false) (a : Nat) : Con E l yX11_fault cX11_fault 1 (some .int) { frames := 0, cells := 0, slots := 0, locals := 0 } (fun G s vs => vs = [.ref a] ∧ zGK G ∧ zSK G s ∧ (gT G a = 12) ∧ (zS0 G s)) (fun G s _ => pI (fun r G2 s2 => G2 = G ∧ s2 = s ∧ ((-1) ≤ r ∧ r ≤ (-1)))) := by
  refine Con.mk hst (by decide) (fun G s vs h => by rw [h.1]; exact Nat.le_of_ble_eq_true rfl) ?_
  rintro X G s0 vs ⟨rfl, hG, hS0, ha, hF0⟩ rfl hx hq
  show JJ X E 1 G s0 0 0 [(0, .ref a)] 0 []
  refine j_aload_n hx 0 dX11_fault_0 rfl ?_
  refine g12_0 hx hG ha kf_RX11_10 dX11_fault_1 ?_
  have f1 := z0f hF0 (zr (k := 0) (t2 := 10) hG ha rfl) (k := 5) rfl
  refine gN10_5 hx hG (zr (k := 0) (t2 := 10) hG ha rfl) kf_RX11_152 rfl dX11_fault_4 ?_
  exact j_iret hx hq rfl (by decide) (by decide) dX11_fault_7 ⟨(s0 (gP G a 0) 5), rfl, rfl, rfl, (by omega)⟩

set_option maxHeartbeats 4000000 in
set_option maxRecDepth 20000 in
theorem c_X0_allCards {E : zE} {l : Launch} (hst : l.stackTraces = false) (a : Nat) : Con E l yX0_allCards cX0_allCards 3 (some .int) { frames := 2, cells := 0, slots := 0, locals := 42 } (fun G s vs => vs = [.ref a] ∧ zGK G ∧ zSK G s ∧ (gT G a = 1)) (fun G s _ => pI (fun r G2 s2 => G2 = G ∧ s2 = s ∧ (0 ≤ r ∧ r ≤ 0))) := by
  refine Con.mk hst (by decide) (fun G s vs h => by rw [h.1]; exact Nat.le_of_ble_eq_true rfl) ?_
  rintro X G s0 vs ⟨rfl, hG, hS0, ha⟩ rfl hx hq
  show JJ X E 3 G s0 0 0 [(0, .ref a)] 0 []
  refine j_iconst hx dX0_allCards_0 ?_
  refine j_istore_n hx [(1, .int (zI 0)), (0, .ref a)] dX0_allCards_1 (by decide) rfl ?_
  refine j_iconst hx dX0_allCards_2 ?_
  refine j_istore_n hx [(2, .int (zI 0)), (1, .int (zI 0)), (0, .ref a)] dX0_allCards_3 (by decide) rfl ?_
  have c4_1 : ∀ (m_c4_1 : Nat) (v1 : Int) (v2 : Int), 2147483648 - v2 < m_c4_1 → (0 ≤ v1 ∧ v1 ≤ 0) → (0 ≤ v2 ∧ v2 ≤ 7) → JJ X E 3 G s0 0 0 [(0, .ref a), (1, .int (zI v1)), (2, .int (zI v2))] 4 [] := by
    intro m_c4_1
    induction m_c4_1 with
    | zero => intro v1 v2 hm_c4_1 fA2 fA3; exfalso; omega
    | succ m_c4_1 ih_c4_1 => 
      intro v1 v2 hm_c4_1 fA2 fA3
      refine j_iload_n hx 2 dX0_allCards_4 rfl ?_
      refine j_bipush hx dX0_allCards_5 rfl ?_
      refine j_icmp_ge hx 27 dX0_allCards_7 rfl (by omega) ⟨by decide, by decide⟩ (fun h3 => ?_) (fun h3 => ?_)
      · skip
        refine j_iload_n hx 1 dX0_allCards_27 rfl ?_
        exact j_iret hx hq rfl (by decide) (by decide) dX0_allCards_28 ⟨v1, rfl, rfl, rfl, (by omega)⟩
      · skip
        refine j_iload_n hx 1 dX0_allCards_10 rfl ?_
        refine j_aload_n hx 0 dX0_allCards_11 rfl ?_
        refine j_iload_n hx 2 dX0_allCards_12 rfl ?_
        refine j_callV hx hG (c_X0_pileOf hst a v2) lk_RX0_47 ha (by decide) rfl rfl rfl rfl [.int (zI v2)] ⟨rfl, hG, hS0, ha, (by omega)⟩ rfl rfl ⟨by decide, by decide⟩ ⟨by decide, by decide⟩ (k2 := 0) (n2 := 0) rfl rfl (Nat.le_of_ble_eq_true rfl) dX0_allCards_13 (kRP (fun r4 q5 => ?_))
        have f6 := zf hS0 q5 (k := 1) rfl
        refine gN7_1 hx hG q5 kf_RX0_43 rfl dX0_allCards_16 ?_
        refine j_iadd hx (r := v1 + (s0 r4 1)) dX0_allCards_19 (by omega) ?_
        refine j_istore_n hx [(1, .int (zI (v1 + (s0 r4 1)))), (0, .ref a), (2, .int (zI v2))] dX0_allCards_20 (by decide) rfl ?_
        refine j_iinc hx 2 [(2, .int (zI (v2 + 1))), (1, .int (zI (v1 + (s0 r4 1)))), (0, .ref a)] dX0_allCards_21 rfl (by omega) (by decide) rfl ?_
        refine j_goto hx 4 dX0_allCards_24 rfl ?_
        exact j_sub [2, 1, 0] [(0, .ref a), (1, .int (zI (v1 + (s0 r4 1)))), (2, .int (zI (v2 + 1)))] rfl (ih_c4_1 (v1 + (s0 r4 1)) (v2 + 1) (by omega) (by omega) (by omega))
  exact j_sub [2, 1, 0] [(0, .ref a), (1, .int (zI 0)), (2, .int (zI 0))] rfl (c4_1 (2147483648 * 4) 0 0 (by omega) (by omega) (by omega))

set_option maxHeartbeats 4000000 in
set_option maxRecDepth 20000 in
theorem c_X0_remaining {E : zE} {l : Launch} (hst : l.stackTraces = false) (a : Nat) : Con E l yX0_remaining cX0_remaining 3 (some .int) { frames := 0, cells := 0, slots := 0, locals := 0 } (fun G s vs => vs = [.ref a] ∧ zGK G ∧ zSK G s ∧ (gT G a = 1)) (fun G s _ => pI (fun r G2 s2 => G2 = G ∧ s2 = s ∧ (0 ≤ r ∧ r ≤ 0))) := by
  refine Con.mk hst (by decide) (fun G s vs h => by rw [h.1]; exact Nat.le_of_ble_eq_true rfl) ?_
  rintro X G s0 vs ⟨rfl, hG, hS0, ha⟩ rfl hx hq
  show JJ X E 3 G s0 0 0 [(0, .ref a)] 0 []
  refine j_iconst hx dX0_remaining_0 ?_
  refine j_istore_n hx [(1, .int (zI 0)), (0, .ref a)] dX0_remaining_1 (by decide) rfl ?_
  refine j_iconst hx dX0_remaining_2 ?_
  refine j_istore_n hx [(2, .int (zI 0)), (1, .int (zI 0)), (0, .ref a)] dX0_remaining_3 (by decide) rfl ?_
  refine j_iload_n hx 0 dX0_remaining_4 rfl ?_
  refine j_aload_n hx 2 dX0_remaining_5 rfl ?_
  have f1 := zf hS0 ha (k := 7) rfl
  refine g1_7 hx hG ha kf_RX0_50 rfl dX0_remaining_6 ?_
  refine j_icmp_ge hx 34 dX0_remaining_9 rfl ⟨by decide, by decide⟩ (by omega) (fun h2 => ?_) (fun h2 => absurd h2 (by omega))
  refine j_iload_n hx 1 dX0_remaining_34 rfl ?_
  exact j_iret hx hq rfl (by decide) (by decide) dX0_remaining_35 ⟨0, rfl, rfl, rfl, (by omega)⟩

theorem lk_RX0_68 : LkV RX0 68 RX0 yX0_remaining cX0_remaining 3 (some .int) 0 := ⟨km_RX0_68, ki_yX0_remaining, ks_RX0_yX0_remaining, kn_RX0, kc_yX0_remaining, rfl, by decide +kernel, by decide +kernel, by decide +kernel⟩
set_option maxHeartbeats 4000000 in
set_option maxRecDepth 20000 in
theorem c_X0_whose {E : zE} {l : Launch} (hst : l.stackTraces = false) (a : Nat) : Con E l yX0_whose cX0_whose 1 (some .int) { frames := 1, cells := 0, slots := 0, locals := 22 } (fun G s vs => vs = [.ref a] ∧ zGK G ∧ zSK G s ∧ (gT G a = 1)) (fun G s _ => pI (fun r G2 s2 => G2 = G ∧ s2 = s ∧ ((-1) ≤ r ∧ r ≤ (-1)))) := by
  refine Con.mk hst (by decide) (fun G s vs h => by rw [h.1]; exact Nat.le_of_ble_eq_true rfl) ?_
  rintro X G s0 vs ⟨rfl, hG, hS0, ha⟩ rfl hx hq
  show JJ X E 1 G s0 0 0 [(0, .ref a)] 0 []
  refine j_aload_n hx 0 dX0_whose_0 rfl ?_
  refine j_callV hx hG (c_X0_remaining hst a) lk_RX0_68 ha (by decide) rfl rfl rfl rfl [] ⟨rfl, hG, hS0, ha⟩ rfl rfl ⟨by decide, by decide⟩ ⟨by decide, by decide⟩ (k2 := 0) (n2 := 0) rfl rfl (Nat.le_of_ble_eq_true rfl) dX0_whose_1 (kIP (fun v1 q2 => ?_))
  refine j_iconst hx dX0_whose_4 ?_
  refine j_icmp_gt hx 12 dX0_whose_5 rfl (by omega) ⟨by decide, by decide⟩ (fun h3 => absurd h3 (by omega)) (fun h3 => ?_)
  refine j_iconst hx dX0_whose_8 ?_
  refine j_goto hx 24 dX0_whose_9 rfl ?_
  exact j_iret hx hq rfl (by decide) (by decide) dX0_whose_24 ⟨(-1), rfl, rfl, rfl, (by omega)⟩

set_option maxHeartbeats 4000000 in
set_option maxRecDepth 20000 in
theorem c_X3_lawOf_f {E : zE} {l : Launch} (hst : l.stackTraces = false) (a : Nat) (x1 : Int) : Con E l yX3_lawOf cX3_lawOf 2 (some .int) { frames := 0, cells := 0, slots := 0, locals := 0 } (fun G s vs => vs = [.ref a, .int (zI x1)] ∧ zGK G ∧ zSK G s ∧ (gT G a = 4) ∧ ((-2147483648) ≤ x1 ∧ x1 ≤ 2147483647) ∧ (zS0 G s)) (fun G s _ => pI (fun r G2 s2 => G2 = G ∧ s2 = s ∧ (0 ≤ r ∧ r ≤ 0))) := by
  refine Con.mk hst (by decide) (fun G s vs h => by rw [h.1]; exact Nat.le_of_ble_eq_true rfl) ?_
  rintro X G s0 vs ⟨rfl, hG, hS0, ha, hx1, hF0⟩ rfl hx hq
  show JJ X E 2 G s0 0 0 [(0, .ref a), (1, .int (zI x1))] 0 []
  refine j_iload_n hx 1 dX3_lawOf_0 rfl ?_
  refine j_if_lt hx 22 dX3_lawOf_1 rfl (by omega) (fun h1 => ?_) (fun h1 => ?_)
  · skip
    refine j_iconst hx dX3_lawOf_22 ?_
    exact j_iret hx hq rfl (by decide) (by decide) dX3_lawOf_23 ⟨0, rfl, rfl, rfl, (by omega)⟩
  · skip
    refine j_iload_n hx 1 dX3_lawOf_4 rfl ?_
    refine j_aload_n hx 0 dX3_lawOf_5 rfl ?_
    refine g4_2 hx hG ha kf_RX3_18 dX3_lawOf_6 ?_
    refine j_alen hx hG (zr (k := 2) (t2 := 44) hG ha rfl) (by decide) (by decide) (zlen hG (zr (k := 2) (t2 := 44) hG ha rfl) (n := 3) rfl rfl) dX3_lawOf_9 ?_
    refine j_icmp_ge hx 22 dX3_lawOf_10 rfl (by omega) ⟨by decide, by decide⟩ (fun h2 => ?_) (fun h2 => ?_)
    · skip
      refine j_iconst hx dX3_lawOf_22 ?_
      exact j_iret hx hq rfl (by decide) (by decide) dX3_lawOf_23 ⟨0, rfl, rfl, rfl, (by omega)⟩
    · skip
      refine j_aload_n hx 0 dX3_lawOf_13 rfl ?_
      refine g4_2 hx hG ha kf_RX3_18 dX3_lawOf_14 ?_
      refine j_iload_n hx 1 dX3_lawOf_17 rfl ?_
      have f3 := z0a (j := (x1).toNat) hF0 (zr (k := 2) (t2 := 44) hG ha rfl) rfl (zlen hG (zr (k := 2) (t2 := 44) hG ha rfl) (n := 3) rfl rfl) (show 0 ≤ x1 by omega) (by omega) rfl
      refine j_iald hx hG (zr (k := 2) (t2 := 44) hG ha rfl) (by decide) rfl (zlen hG (zr (k := 2) (t2 := 44) hG ha rfl) (n := 3) rfl rfl) (by omega) (by omega) (j := (x1).toNat) rfl rfl dX3_lawOf_18 ?_
      refine j_goto hx 23 dX3_lawOf_19 rfl ?_
      exact j_iret hx hq rfl (by decide) (by decide) dX3_lawOf_23 ⟨(s0 (gP G a 2) (x1).toNat), rfl, rfl, rfl, (by omega)⟩

theorem lk_RX11_159 : LkV RX11 159 RX0 yX0_allCards cX0_allCards 3 (some .int) 0 := ⟨km_RX11_159, ki_yX0_allCards, ks_RX0_yX0_allCards, kn_RX0, kc_yX0_allCards, rfl, by decide +kernel, by decide +kernel, by decide +kernel⟩
theorem lk_RX11_168 : LkV RX11 168 RX0 yX0_whose cX0_whose 1 (some .int) 0 := ⟨km_RX11_168, ki_yX0_whose, ks_RX0_yX0_whose, kn_RX0, kc_yX0_whose, rfl, by decide +kernel, by decide +kernel, by decide +kernel⟩
theorem lk_RX11_178 : LkV RX11 178 RX3 yX3_lawOf cX3_lawOf 2 (some .int) 1 := ⟨km_RX11_178, ki_yX3_lawOf, ks_RX3_yX3_lawOf, kn_RX3, kc_yX3_lawOf, rfl, by decide +kernel, by decide +kernel, by decide +kernel⟩
set_option maxHeartbeats 4000000 in
set_option maxRecDepth 20000 in
theorem c_X11_told {E : zE} {l : Launch} (hst : l.stackTraces = false) (a : Nat) (x1 : Int) : ConX E l yX11_told cX11_told 2 (some .int) { frames := 7, cells := 1, slots := 6, locals := 113 } (fun G s vs => vs = [.ref a, .int (zI x1)] ∧ zGK G ∧ zSK G s ∧ (gT G a = 12) ∧ ((-2147483648) ≤ x1 ∧ x1 ≤ 2147483647) ∧ (zS0 G s)) (fun G s _ => pI (fun r G2 s2 => G2 = G ∧ s2 = s ∧ ((-1) ≤ r ∧ r ≤ 0) ∧ ((x1 = 3 → r = -1) ∧ (x1 ≠ 3 → r = 0)) ∧ (0 ≤ x1 ∧ x1 ≤ 8))) (fun G s _ Ex G2 s2 => G2 = G ∧ zSK G s2 ∧ zFr [12] G s s2 ∧ ((Ex = "java/lang/IllegalArgumentException" ∧ (¬ (0 ≤ x1 ∧ x1 ≤ 8))))) := by
  refine ConX.mk hst (by decide) (fun G s vs h => by rw [h.1]; exact Nat.le_of_ble_eq_true rfl) ?_
  rintro X G s0 vs ⟨rfl, hG, hS0, ha, hx1, hF0⟩ rfl hx hq
  show JJ X E 2 G s0 0 0 [(0, .ref a), (1, .int (zI x1))] 0 []
  refine j_aload_n hx 0 dX11_told_0 rfl ?_
  refine j_iload_n hx 1 dX11_told_1 rfl ?_
  refine j_iconst hx dX11_told_2 ?_
  refine j_bipush hx dX11_told_3 rfl ?_
  refine j_callVX hx hq hG (c_X11_needRange hst a x1 0 8) lk_RX11_98 ha (by decide) rfl rfl rfl rfl [.int (zI x1), .int (zI 0), .int (zI 8)] ⟨rfl, hG, hS0, ha, (by omega), (by omega), (by omega), hF0⟩ rfl rfl ⟨by decide, by decide⟩ ⟨by decide, by decide⟩ (k2 := 1) (n2 := 6) rfl rfl (Nat.le_of_ble_eq_true rfl) ⟨by decide, by decide⟩ dX11_told_5 (by rintro Ex9 G9 s9 ⟨rfl, hS9, hF9, e9, c9⟩; exact ⟨rfl, hS9, (zFr_t zFr_rf hF9 (by decide)), ⟨e9, by first | trivial | omega⟩⟩) (kVP (fun q2 => ?_))
  refine j_iload_n hx 1 dX11_told_8 rfl ?_
  have h3 : (x1 = 0) ∨ (x1 = 1) ∨ (x1 = 2) ∨ (x1 = 3) ∨ (x1 = 4) ∨ (x1 = 5) ∨ (x1 = 6) ∨ (x1 = 7) ∨ (x1 < 0 ∨ 7 < x1) := by omega
  rcases h3 with h3 | h3 | h3 | h3 | h3 | h3 | h3 | h3 | h3
  · skip
    refine j_switchIn hx 56 dX11_told_9 (by omega) (by omega) (by omega) (by rw [h3]; rfl) rfl ?_
    refine j_aload_n hx 0 dX11_told_56 rfl ?_
    refine g12_1 hx hG ha kf_RX11_19 dX11_told_57 ?_
    have f4 := z0f hF0 (zr (k := 1) (t2 := 9) hG ha rfl) (k := 4) rfl
    refine gN9_4 hx hG (zr (k := 1) (t2 := 9) hG ha rfl) kf_RX11_127 rfl dX11_told_60 ?_
    exact j_iret hx hq.r rfl (by decide) (by decide) dX11_told_63 ⟨(s0 (gP G a 1) 4), rfl, rfl, rfl, ⟨(by omega), by omega, by omega⟩⟩
  · skip
    refine j_switchIn hx 64 dX11_told_9 (by omega) (by omega) (by omega) (by rw [h3]; rfl) rfl ?_
    refine j_aload_n hx 0 dX11_told_64 rfl ?_
    refine g12_6 hx hG ha kf_RX11_48 dX11_told_65 ?_
    refine gN4_1 hx hG (zr (k := 6) (t2 := 4) hG ha rfl) kf_RX11_155 dX11_told_68 ?_
    refine j_callV hx hG (c_X0_allCards hst (gP G (gP G a 6) 1)) lk_RX11_159 (zr (k := 1) (t2 := 1) hG (zr (k := 6) (t2 := 4) hG ha rfl) rfl) (by decide) rfl rfl rfl rfl [] ⟨rfl, hG, hS0, (zr (k := 1) (t2 := 1) hG (zr (k := 6) (t2 := 4) hG ha rfl) rfl)⟩ rfl rfl ⟨by decide, by decide⟩ ⟨by decide, by decide⟩ (k2 := 1) (n2 := 6) rfl rfl (Nat.le_of_ble_eq_true rfl) dX11_told_71 (kIP (fun v5 q6 => ?_))
    exact j_iret hx hq.r rfl (by decide) (by decide) dX11_told_74 ⟨v5, rfl, rfl, rfl, ⟨(by omega), by omega, by omega⟩⟩
  · skip
    refine j_switchIn hx 75 dX11_told_9 (by omega) (by omega) (by omega) (by rw [h3]; rfl) rfl ?_
    refine j_aload_n hx 0 dX11_told_75 rfl ?_
    refine g12_6 hx hG ha kf_RX11_48 dX11_told_76 ?_
    have f7 := z0f hF0 (zr (k := 6) (t2 := 4) hG ha rfl) (k := 10) rfl
    refine gN4_10 hx hG (zr (k := 6) (t2 := 4) hG ha rfl) kf_RX11_165 rfl dX11_told_79 ?_
    exact j_iret hx hq.r rfl (by decide) (by decide) dX11_told_82 ⟨(s0 (gP G a 6) 10), rfl, rfl, rfl, ⟨(by omega), by omega, by omega⟩⟩
  · skip
    refine j_switchIn hx 83 dX11_told_9 (by omega) (by omega) (by omega) (by rw [h3]; rfl) rfl ?_
    refine j_aload_n hx 0 dX11_told_83 rfl ?_
    refine g12_6 hx hG ha kf_RX11_48 dX11_told_84 ?_
    refine gN4_1 hx hG (zr (k := 6) (t2 := 4) hG ha rfl) kf_RX11_155 dX11_told_87 ?_
    refine j_callV hx hG (c_X0_whose hst (gP G (gP G a 6) 1)) lk_RX11_168 (zr (k := 1) (t2 := 1) hG (zr (k := 6) (t2 := 4) hG ha rfl) rfl) (by decide) rfl rfl rfl rfl [] ⟨rfl, hG, hS0, (zr (k := 1) (t2 := 1) hG (zr (k := 6) (t2 := 4) hG ha rfl) rfl)⟩ rfl rfl ⟨by decide, by decide⟩ ⟨by decide, by decide⟩ (k2 := 1) (n2 := 6) rfl rfl (Nat.le_of_ble_eq_true rfl) dX11_told_90 (kIP (fun v8 q9 => ?_))
    exact j_iret hx hq.r rfl (by decide) (by decide) dX11_told_93 ⟨v8, rfl, rfl, rfl, ⟨(by omega), by omega, by omega⟩⟩
  · skip
    refine j_switchIn hx 94 dX11_told_9 (by omega) (by omega) (by omega) (by rw [h3]; rfl) rfl ?_
    refine j_aload_n hx 0 dX11_told_94 rfl ?_
    refine g12_6 hx hG ha kf_RX11_48 dX11_told_95 ?_
    refine gN4_1 hx hG (zr (k := 6) (t2 := 4) hG ha rfl) kf_RX11_155 dX11_told_98 ?_
    refine gN1_6 hx hG (zr (k := 1) (t2 := 1) hG (zr (k := 6) (t2 := 4) hG ha rfl) rfl) kf_RX11_171 dX11_told_101 ?_
    have f10 := z0f hF0 (zr (k := 6) (t2 := 7) hG (zr (k := 1) (t2 := 1) hG (zr (k := 6) (t2 := 4) hG ha rfl) rfl) rfl) (k := 1) rfl
    refine gN7_1 hx hG (zr (k := 6) (t2 := 7) hG (zr (k := 1) (t2 := 1) hG (zr (k := 6) (t2 := 4) hG ha rfl) rfl) rfl) kf_RX11_175 rfl dX11_told_104 ?_
    exact j_iret hx hq.r rfl (by decide) (by decide) dX11_told_107 ⟨(s0 (gP G (gP G (gP G a 6) 1) 6) 1), rfl, rfl, rfl, ⟨(by omega), by omega, by omega⟩⟩
  · skip
    refine j_switchIn hx 108 dX11_told_9 (by omega) (by omega) (by omega) (by rw [h3]; rfl) rfl ?_
    refine j_aload_n hx 0 dX11_told_108 rfl ?_
    refine g12_6 hx hG ha kf_RX11_48 dX11_told_109 ?_
    refine j_iconst hx dX11_told_112 ?_
    refine j_callV hx hG (c_X3_lawOf_f hst (gP G a 6) 0) lk_RX11_178 (zr (k := 6) (t2 := 4) hG ha rfl) (by decide) rfl rfl rfl rfl [.int (zI 0)] ⟨rfl, hG, hS0, (zr (k := 6) (t2 := 4) hG ha rfl), (by omega), hF0⟩ rfl rfl ⟨by decide, by decide⟩ ⟨by decide, by decide⟩ (k2 := 1) (n2 := 6) rfl rfl (Nat.le_of_ble_eq_true rfl) dX11_told_113 (kIP (fun v11 q12 => ?_))
    exact j_iret hx hq.r rfl (by decide) (by decide) dX11_told_116 ⟨v11, rfl, rfl, rfl, ⟨(by omega), by omega, by omega⟩⟩
  · skip
    refine j_switchIn hx 117 dX11_told_9 (by omega) (by omega) (by omega) (by rw [h3]; rfl) rfl ?_
    refine j_aload_n hx 0 dX11_told_117 rfl ?_
    refine g12_6 hx hG ha kf_RX11_48 dX11_told_118 ?_
    refine j_iconst hx dX11_told_121 ?_
    refine j_callV hx hG (c_X3_lawOf_f hst (gP G a 6) 1) lk_RX11_178 (zr (k := 6) (t2 := 4) hG ha rfl) (by decide) rfl rfl rfl rfl [.int (zI 1)] ⟨rfl, hG, hS0, (zr (k := 6) (t2 := 4) hG ha rfl), (by omega), hF0⟩ rfl rfl ⟨by decide, by decide⟩ ⟨by decide, by decide⟩ (k2 := 1) (n2 := 6) rfl rfl (Nat.le_of_ble_eq_true rfl) dX11_told_122 (kIP (fun v13 q14 => ?_))
    exact j_iret hx hq.r rfl (by decide) (by decide) dX11_told_125 ⟨v13, rfl, rfl, rfl, ⟨(by omega), by omega, by omega⟩⟩
  · skip
    refine j_switchIn hx 126 dX11_told_9 (by omega) (by omega) (by omega) (by rw [h3]; rfl) rfl ?_
    refine j_aload_n hx 0 dX11_told_126 rfl ?_
    refine g12_6 hx hG ha kf_RX11_48 dX11_told_127 ?_
    refine j_iconst hx dX11_told_130 ?_
    refine j_callV hx hG (c_X3_lawOf_f hst (gP G a 6) 2) lk_RX11_178 (zr (k := 6) (t2 := 4) hG ha rfl) (by decide) rfl rfl rfl rfl [.int (zI 2)] ⟨rfl, hG, hS0, (zr (k := 6) (t2 := 4) hG ha rfl), (by omega), hF0⟩ rfl rfl ⟨by decide, by decide⟩ ⟨by decide, by decide⟩ (k2 := 1) (n2 := 6) rfl rfl (Nat.le_of_ble_eq_true rfl) dX11_told_131 (kIP (fun v15 q16 => ?_))
    exact j_iret hx hq.r rfl (by decide) (by decide) dX11_told_134 ⟨v15, rfl, rfl, rfl, ⟨(by omega), by omega, by omega⟩⟩
  · skip
    refine j_switchOut hx 135 dX11_told_9 (by omega) (by omega) rfl ?_
    refine j_aload_n hx 0 dX11_told_135 rfl ?_
    refine g12_1 hx hG ha kf_RX11_19 dX11_told_136 ?_
    have f17 := z0f hF0 (zr (k := 1) (t2 := 9) hG ha rfl) (k := 5) rfl
    refine gN9_5 hx hG (zr (k := 1) (t2 := 9) hG ha rfl) kf_RX11_181 rfl dX11_told_139 ?_
    exact j_iret hx hq.r rfl (by decide) (by decide) dX11_told_142 ⟨(s0 (gP G a 1) 5), rfl, rfl, rfl, ⟨(by omega), by omega, by omega⟩⟩

set_option maxHeartbeats 4000000 in
set_option maxRecDepth 20000 in
theorem c_X11_player {E : zE} {l : Launch} (hst : l.stackTraces = false) (a : Nat) (x1 : Int) (x2 : Int) : ConX E l yX11_player cX11_player 3 (some .int) { frames := 7, cells := 1, slots := 6, locals := 111 } (fun G s vs => vs = [.ref a, .int (zI x1), .int (zI x2)] ∧ zGK G ∧ zSK G s ∧ (gT G a = 12) ∧ ((-2147483648) ≤ x1 ∧ x1 ≤ 2147483647) ∧ ((-2147483648) ≤ x2 ∧ x2 ≤ 2147483647) ∧ (zS0 G s)) (fun G s _ => fun _ _ _ => False) (fun G s _ Ex G2 s2 => G2 = G ∧ zSK G s2 ∧ zFr [12] G s s2 ∧ ((Ex = "java/util/NoSuchElementException" ∧ (True)))) := by
  refine ConX.mk hst (by decide) (fun G s vs h => by rw [h.1]; exact Nat.le_of_ble_eq_true rfl) ?_
  rintro X G s0 vs ⟨rfl, hG, hS0, ha, hx1, hx2, hF0⟩ rfl hx hq
  show JJ X E 3 G s0 0 0 [(0, .ref a), (1, .int (zI x1)), (2, .int (zI x2))] 0 []
  refine j_aload_n hx 0 dX11_player_0 rfl ?_
  refine j_iload_n hx 1 dX11_player_1 rfl ?_
  refine j_callVX hx hq hG (c_X11_needPlayer hst a x1) lk_RX11_134 ha (by decide) rfl rfl rfl rfl [.int (zI x1)] ⟨rfl, hG, hS0, ha, (by omega), hF0⟩ rfl rfl ⟨by decide, by decide⟩ ⟨by decide, by decide⟩ (k2 := 1) (n2 := 6) rfl rfl (Nat.le_of_ble_eq_true rfl) ⟨by decide, by decide⟩ dX11_player_2 (by rintro Ex9 G9 s9 ⟨rfl, hS9, hF9, e9, c9⟩; exact ⟨rfl, hS9, (zFr_t zFr_rf hF9 (by decide)), ⟨e9, by first | trivial | omega⟩⟩) (fun _ _ _ h => h.elim)
