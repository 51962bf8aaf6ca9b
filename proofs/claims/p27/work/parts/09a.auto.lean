set_option maxHeartbeats 4000000 in
set_option maxRecDepth 20000 in
theorem c_X9_hasRoom {E : zE} {l : Launch} (hst : l.stackTraces = false) (a : Nat) (x1 : Int) : Con E l yX9_hasRoom cX9_hasRoom 2 (some .boolean) { frames := 0, cells := 0, slots := 0, locals := 0 } (fun G s vs => vs = [.ref a, .int (zI x1)] ∧ zGK G ∧ zSK G s ∧ (gT G a = 10) ∧ ((-2147483648) ≤ x1 ∧ x1 ≤ 2147483647)) (fun G s _ => pI (fun r G2 s2 => G2 = G ∧ s2 = s ∧ (0 ≤ r ∧ r ≤ 1))) := by
  refine Con.mk hst (by decide) (fun G s vs h => by rw [h.1]; exact Nat.le_of_ble_eq_true rfl) ?_
  rintro X G s0 vs ⟨rfl, hG, hS0, ha, hx1⟩ rfl hx hq
  show JJ X E 2 G s0 0 0 [(0, .ref a), (1, .int (zI x1))] 0 []
  refine j_aload_n hx 0 dX9_hasRoom_0 rfl ?_
  have f1 := zf hS0 ha (k := 1) rfl
  refine g10_1 hx hG ha kf_RX9_19 rfl dX9_hasRoom_1 ?_
  refine j_iload_n hx 1 dX9_hasRoom_4 rfl ?_
  refine j_iadd hx (r := (s0 a 1) + x1) dX9_hasRoom_5 (by omega) ?_
  refine j_norm (fun v2 f3 f4 f5 => ?_)
  refine j_aload_n hx 0 dX9_hasRoom_6 rfl ?_
  refine g10_0 hx hG ha kf_RX9_11 dX9_hasRoom_7 ?_
  refine j_alen hx hG (zr (k := 0) (t2 := 45) hG ha rfl) (by decide) (by decide) (zlen hG (zr (k := 0) (t2 := 45) hG ha rfl) (n := 600) rfl rfl) dX9_hasRoom_10 ?_
  refine j_icmp_gt hx 18 dX9_hasRoom_11 rfl (by omega) ⟨by decide, by decide⟩ (fun h6 => ?_) (fun h6 => ?_)
  · skip
    refine j_iconst hx dX9_hasRoom_18 ?_
    exact j_zret hx hq rfl (by decide) (by decide) dX9_hasRoom_19 (by omega) ⟨0, rfl, rfl, rfl, (by omega)⟩
  · skip
    refine j_iconst hx dX9_hasRoom_14 ?_
    refine j_goto hx 19 dX9_hasRoom_15 rfl ?_
    exact j_zret hx hq rfl (by decide) (by decide) dX9_hasRoom_19 (by omega) ⟨1, rfl, rfl, rfl, (by omega)⟩

set_option maxHeartbeats 4000000 in
set_option maxRecDepth 20000 in
theorem c_X9_addFour {E : zE} {l : Launch} (hst : l.stackTraces = false) (a : Nat) (x1 : Int) : Con E l yX9_addFour cX9_addFour 3 none { frames := 0, cells := 0, slots := 0, locals := 0 } (fun G s vs => vs = [.ref a, .int (zI x1)] ∧ zGK G ∧ zSK G s ∧ (gT G a = 10) ∧ ((-2147483648) ≤ x1 ∧ x1 ≤ 2147483647)) (fun G s _ => pV (fun G2 s2 => G2 = G ∧ zSK G s2 ∧ zFr [10, 45] G s s2 ∧ True)) := by
  refine Con.mk hst (by decide) (fun G s vs h => by rw [h.1]; exact Nat.le_of_ble_eq_true rfl) ?_
  rintro X G s0 vs ⟨rfl, hG, hS0, ha, hx1⟩ rfl hx hq
  show JJ X E 3 G s0 0 0 [(0, .ref a), (1, .int (zI x1))] 0 []
  refine j_bipush hx dX9_addFour_0 rfl ?_
  refine j_istore_n hx [(2, .int (zI 24)), (0, .ref a), (1, .int (zI x1))] dX9_addFour_2 (by decide) rfl ?_
  have c3_1 : ∀ (m_c3_1 : Nat) (v1 : Int) (s2 : zS), v1 + 2147483648 < m_c3_1 → ((-8) ≤ v1 ∧ v1 ≤ 24) → (zSK G s2) → (zFr [10, 45] G s0 s2) → JJ X E 3 G s2 0 0 [(0, .ref a), (1, .int (zI x1)), (2, .int (zI v1))] 3 [] := by
    intro m_c3_1
    induction m_c3_1 with
    | zero => intro v1 s2 hm_c3_1 fA3 hS_s2 hF_s2; exfalso; omega
    | succ m_c3_1 ih_c3_1 => 
      intro v1 s2 hm_c3_1 fA3 hS_s2 hF_s2
      refine j_iload_n hx 2 dX9_addFour_3 rfl ?_
      refine j_if_lt hx 55 dX9_addFour_4 rfl (by omega) (fun h2 => ?_) (fun h2 => ?_)
      · skip
        exact j_vret hx hq rfl (by decide) (by decide) dX9_addFour_55 ⟨rfl, rfl, hS_s2, (zFr_t zFr_rf hF_s2 (by decide)), trivial⟩
      · skip
        refine j_aload_n hx 0 dX9_addFour_7 rfl ?_
        have f3 := zf hS_s2 ha (k := 1) rfl
        refine g10_1 hx hG ha kf_RX9_19 rfl dX9_addFour_8 ?_
        have c49_6 : ∀ (s7 : zS), (zSK G s7) → (zFr [10, 45] G s2 s7) → JJ X E 3 G s7 0 0 [(0, .ref a), (1, .int (zI x1)), (2, .int (zI v1))] 49 [] := by
          intro s7 hS_s7 hF_s7
          refine j_iinc hx 2 [(2, .int (zI (v1 - 8))), (0, .ref a), (1, .int (zI x1))] dX9_addFour_49 rfl (by omega) (by decide) rfl ?_
          refine j_goto hx 3 dX9_addFour_52 rfl ?_
          exact j_sub [1, 2, 0] [(0, .ref a), (1, .int (zI x1)), (2, .int (zI (v1 - 8)))] rfl (ih_c3_1 (v1 - 8) s7 (by omega) (by omega) hS_s7 (zFr_t (zFr_t zFr_rf hF_s2 (by decide)) hF_s7 (by decide)))
        refine j_if_lt hx 49 dX9_addFour_11 rfl (by omega) (fun h4 => ?_) (fun h4 => ?_)
        · skip
          exact j_sub [0, 1, 2] [(0, .ref a), (1, .int (zI x1)), (2, .int (zI v1))] rfl (c49_6 s2 hS_s2 zFr_rf)
        · skip
          refine j_aload_n hx 0 dX9_addFour_14 rfl ?_
          refine g10_1 hx hG ha kf_RX9_19 rfl dX9_addFour_15 ?_
          refine j_aload_n hx 0 dX9_addFour_18 rfl ?_
          refine g10_0 hx hG ha kf_RX9_11 dX9_addFour_19 ?_
          refine j_alen hx hG (zr (k := 0) (t2 := 45) hG ha rfl) (by decide) (by decide) (zlen hG (zr (k := 0) (t2 := 45) hG ha rfl) (n := 600) rfl rfl) dX9_addFour_22 ?_
          refine j_icmp_ge hx 49 dX9_addFour_23 rfl (by omega) ⟨by decide, by decide⟩ (fun h5 => ?_) (fun h5 => ?_)
          · skip
            exact j_sub [0, 1, 2] [(0, .ref a), (1, .int (zI x1)), (2, .int (zI v1))] rfl (c49_6 s2 hS_s2 zFr_rf)
          · skip
            refine j_aload_n hx 0 dX9_addFour_26 rfl ?_
            refine g10_0 hx hG ha kf_RX9_11 dX9_addFour_27 ?_
            refine j_aload_n hx 0 dX9_addFour_30 rfl ?_
            refine g10_1 hx hG ha kf_RX9_19 rfl dX9_addFour_31 ?_
            refine j_iload_n hx 1 dX9_addFour_34 rfl ?_
            refine j_iload_n hx 2 dX9_addFour_35 rfl ?_
            refine j_iushr hx dX9_addFour_36 (fun v6 f7 f8 => ?_)
            refine j_i2b hx dX9_addFour_37 (fun v9 f10 f11 => ?_)
            refine j_bast hx hG (zr (k := 0) (t2 := 45) hG ha rfl) (by decide) rfl (zlen hG (zr (k := 0) (t2 := 45) hG ha rfl) (n := 600) rfl rfl) (by omega) (by omega) (j := ((s2 a 1)).toNat) rfl (znar_b (by omega)) dX9_addFour_38 ?_
            obtain ⟨s10, e_s10⟩ : ∃ z, z = zU s2 (gP G a 0) ((s2 a 1)).toNat v9 := ⟨_, rfl⟩
            rw [← e_s10]
            have hS_s10 : zSK G s10 := by rw [e_s10]; exact zSK_A hS_s2 (zr (k := 0) (t2 := 45) hG ha rfl) rfl rfl rfl (by omega)
            refine j_aload_n hx 0 dX9_addFour_39 rfl ?_
            refine j_dup hx dX9_addFour_40 rfl ?_
            refine g10_1 hx hG ha kf_RX9_19 (v := (s2 a 1)) (by rw [e_s10, zU_at (Or.inl (zne (zr (k := 0) (t2 := 45) hG ha rfl) ha (by decide)))]) dX9_addFour_41 ?_
            refine j_iconst hx dX9_addFour_44 ?_
            refine j_iadd hx (r := (s2 a 1) + 1) dX9_addFour_45 (by omega) ?_
            refine p10_1 hx hG ha kf_RX9_19 dX9_addFour_46 ?_
            obtain ⟨s11, e_s11⟩ : ∃ z, z = zU s10 a 1 ((s2 a 1) + 1) := ⟨_, rfl⟩
            rw [← e_s11]
            have hS_s11 : zSK G s11 := by rw [e_s11]; exact zSK_F hS_s10 ha rfl rfl rfl (by omega)
            exact j_sub [0, 1, 2] [(0, .ref a), (1, .int (zI x1)), (2, .int (zI v1))] rfl (c49_6 s11 hS_s11 (zFr_u (zFr_u zFr_rf e_s10 (zr (k := 0) (t2 := 45) hG ha rfl) (by decide)) e_s11 ha (by decide)))
  exact j_sub [1, 2, 0] [(0, .ref a), (1, .int (zI x1)), (2, .int (zI 24))] rfl (c3_1 (2147483648 * 4) 24 s0 (by omega) (by omega) hS0 zFr_rf)

theorem lk_RX11_86 : LkV RX11 86 RX9 yX9_hasRoom cX9_hasRoom 2 (some .boolean) 1 := ⟨km_RX11_86, ki_yX9_hasRoom, ks_RX9_yX9_hasRoom, kn_RX9, kc_yX9_hasRoom, rfl, by decide +kernel, by decide +kernel, by decide +kernel⟩
theorem lk_RX11_90 : LkV RX11 90 RX9 yX9_addFour cX9_addFour 3 none 1 := ⟨km_RX11_90, ki_yX9_addFour, ks_RX9_yX9_addFour, kn_RX9, kc_yX9_addFour, rfl, by decide +kernel, by decide +kernel, by decide +kernel⟩
set_option maxHeartbeats 4000000 in
set_option maxRecDepth 20000 in
theorem c_X11_feed {E : zE} {l : Launch} (hst : l.stackTraces = false) (a : Nat) (x1 : Int) (x2 : Int) (x3 : Int) (x4 : Int) (x5 : Int) : Con E l yX11_feed cX11_feed 6 (some .int) { frames := 1, cells := 0, slots := 0, locals := 22 } (fun G s vs => vs = [.ref a, .int (zI x1), .int (zI x2), .int (zI x3), .int (zI x4), .int (zI x5)] ∧ zGK G ∧ zSK G s ∧ (gT G a = 12) ∧ ((-2147483648) ≤ x1 ∧ x1 ≤ 2147483647) ∧ ((-2147483648) ≤ x2 ∧ x2 ≤ 2147483647) ∧ ((-2147483648) ≤ x3 ∧ x3 ≤ 2147483647) ∧ ((-2147483648) ≤ x4 ∧ x4 ≤ 2147483647) ∧ ((-2147483648) ≤ x5 ∧ x5 ≤ 2147483647)) (fun G s _ => pI (fun r G2 s2 => G2 = G ∧ zSK G s2 ∧ zFr [10, 45] G s s2 ∧ ((-2147483648) ≤ r ∧ r ≤ 2147483647))) := by
  refine Con.mk hst (by decide) (fun G s vs h => by rw [h.1]; exact Nat.le_of_ble_eq_true rfl) ?_
  rintro X G s0 vs ⟨rfl, hG, hS0, ha, hx1, hx2, hx3, hx4, hx5⟩ rfl hx hq
  show JJ X E 6 G s0 0 0 [(0, .ref a), (1, .int (zI x1)), (2, .int (zI x2)), (3, .int (zI x3)), (4, .int (zI x4)), (5, .int (zI x5))] 0 []
  refine j_aload_n hx 0 dX11_feed_0 rfl ?_
  refine g12_0 hx hG ha kf_RX11_10 dX11_feed_1 ?_
  refine j_bipush hx dX11_feed_4 rfl ?_
  refine j_callV hx hG (c_X9_hasRoom hst (gP G a 0) 20) lk_RX11_86 (zr (k := 0) (t2 := 10) hG ha rfl) (by decide) rfl rfl rfl rfl [.int (zI 20)] ⟨rfl, hG, hS0, (zr (k := 0) (t2 := 10) hG ha rfl), (by omega)⟩ rfl rfl ⟨by decide, by decide⟩ ⟨by decide, by decide⟩ (k2 := 0) (n2 := 0) rfl rfl (Nat.le_of_ble_eq_true rfl) dX11_feed_6 (kIP (fun v1 q2 => ?_))
  refine j_if_ne hx 14 dX11_feed_9 rfl (by omega) (fun h3 => ?_) (fun h3 => ?_)
  · skip
    refine j_aload_n hx 0 dX11_feed_14 rfl ?_
    refine g12_0 hx hG ha kf_RX11_10 dX11_feed_15 ?_
    refine j_iload_n hx 1 dX11_feed_18 rfl ?_
    refine j_callV hx hG (c_X9_addFour hst (gP G a 0) x1) lk_RX11_90 (zr (k := 0) (t2 := 10) hG ha rfl) (by decide) rfl rfl rfl rfl [.int (zI x1)] ⟨rfl, hG, hS0, (zr (k := 0) (t2 := 10) hG ha rfl), (by omega)⟩ rfl rfl ⟨by decide, by decide⟩ ⟨by decide, by decide⟩ (k2 := 0) (n2 := 0) rfl rfl (Nat.le_of_ble_eq_true rfl) dX11_feed_19 (kVM (fun s1 hS_s1 hF_s1 q5 => ?_))
    refine j_aload_n hx 0 dX11_feed_22 rfl ?_
    refine g12_0 hx hG ha kf_RX11_10 dX11_feed_23 ?_
    refine j_iload_n hx 2 dX11_feed_26 rfl ?_
    refine j_callV hx hG (c_X9_addFour hst (gP G a 0) x2) lk_RX11_90 (zr (k := 0) (t2 := 10) hG ha rfl) (by decide) rfl rfl rfl rfl [.int (zI x2)] ⟨rfl, hG, hS_s1, (zr (k := 0) (t2 := 10) hG ha rfl), (by omega)⟩ rfl rfl ⟨by decide, by decide⟩ ⟨by decide, by decide⟩ (k2 := 0) (n2 := 0) rfl rfl (Nat.le_of_ble_eq_true rfl) dX11_feed_27 (kVM (fun s2 hS_s2 hF_s2 q7 => ?_))
    refine j_aload_n hx 0 dX11_feed_30 rfl ?_
    refine g12_0 hx hG ha kf_RX11_10 dX11_feed_31 ?_
    refine j_iload_n hx 3 dX11_feed_34 rfl ?_
    refine j_callV hx hG (c_X9_addFour hst (gP G a 0) x3) lk_RX11_90 (zr (k := 0) (t2 := 10) hG ha rfl) (by decide) rfl rfl rfl rfl [.int (zI x3)] ⟨rfl, hG, hS_s2, (zr (k := 0) (t2 := 10) hG ha rfl), (by omega)⟩ rfl rfl ⟨by decide, by decide⟩ ⟨by decide, by decide⟩ (k2 := 0) (n2 := 0) rfl rfl (Nat.le_of_ble_eq_true rfl) dX11_feed_35 (kVM (fun s3 hS_s3 hF_s3 q9 => ?_))
    refine j_aload_n hx 0 dX11_feed_38 rfl ?_
    refine g12_0 hx hG ha kf_RX11_10 dX11_feed_39 ?_
    refine j_iload hx 4 dX11_feed_42 rfl ?_
    refine j_callV hx hG (c_X9_addFour hst (gP G a 0) x4) lk_RX11_90 (zr (k := 0) (t2 := 10) hG ha rfl) (by decide) rfl rfl rfl rfl [.int (zI x4)] ⟨rfl, hG, hS_s3, (zr (k := 0) (t2 := 10) hG ha rfl), (by omega)⟩ rfl rfl ⟨by decide, by decide⟩ ⟨by decide, by decide⟩ (k2 := 0) (n2 := 0) rfl rfl (Nat.le_of_ble_eq_true rfl) dX11_feed_44 (kVM (fun s4 hS_s4 hF_s4 q11 => ?_))
    refine j_aload_n hx 0 dX11_feed_47 rfl ?_
    refine g12_0 hx hG ha kf_RX11_10 dX11_feed_48 ?_
    refine j_iload hx 5 dX11_feed_51 rfl ?_
    refine j_callV hx hG (c_X9_addFour hst (gP G a 0) x5) lk_RX11_90 (zr (k := 0) (t2 := 10) hG ha rfl) (by decide) rfl rfl rfl rfl [.int (zI x5)] ⟨rfl, hG, hS_s4, (zr (k := 0) (t2 := 10) hG ha rfl), (by omega)⟩ rfl rfl ⟨by decide, by decide⟩ ⟨by decide, by decide⟩ (k2 := 0) (n2 := 0) rfl rfl (Nat.le_of_ble_eq_true rfl) dX11_feed_53 (kVM (fun s5 hS_s5 hF_s5 q13 => ?_))
    refine j_aload_n hx 0 dX11_feed_56 rfl ?_
    refine g12_0 hx hG ha kf_RX11_10 dX11_feed_57 ?_
    have f14 := zf hS_s5 (zr (k := 0) (t2 := 10) hG ha rfl) (k := 1) rfl
    refine gN10_1 hx hG (zr (k := 0) (t2 := 10) hG ha rfl) kf_RX11_94 rfl dX11_feed_60 ?_
    exact j_iret hx hq rfl (by decide) (by decide) dX11_feed_63 ⟨(s5 (gP G a 0) 1), rfl, rfl, hS_s5, (zFr_t (zFr_t (zFr_t (zFr_t (zFr_t zFr_rf hF_s1 (by decide)) hF_s2 (by decide)) hF_s3 (by decide)) hF_s4 (by decide)) hF_s5 (by decide)), (by omega)⟩
  · skip
    refine j_iconst hx dX11_feed_12 ?_
    exact j_iret hx hq rfl (by decide) (by decide) dX11_feed_13 ⟨(-1), rfl, rfl, hS0, zFr_rf, (by omega)⟩

set_option maxHeartbeats 4000000 in
set_option maxRecDepth 20000 in
theorem c_X11_needRange {E : zE} {l : Launch} (hst : l.stackTraces = false) (a : Nat) (x1 : Int) (x2 : Int) (x3 : Int) : ConX E l yX11_needRange cX11_needRange 4 none { frames := 6, cells := 1, slots := 6, locals := 90 } (fun G s vs => vs = [.ref a, .int (zI x1), .int (zI x2), .int (zI x3)] ∧ zGK G ∧ zSK G s ∧ (gT G a = 12) ∧ ((-2147483648) ≤ x1 ∧ x1 ≤ 2147483647) ∧ ((-2147483648) ≤ x2 ∧ x2 ≤ 2147483647) ∧ ((-2147483648) ≤ x3 ∧ x3 ≤ 2147483647)) (fun G s _ => pV (fun G2 s2 => G2 = G ∧ s2 = s ∧ True)) (fun G s _ Ex G2 s2 => G2 = G ∧ zSK G s2 ∧ zFr [12] G s s2 ∧ ((Ex = "java/lang/IllegalArgumentException" ∧ (True)))) := by
  refine ConX.mk hst (by decide) (fun G s vs h => by rw [h.1]; exact Nat.le_of_ble_eq_true rfl) ?_
  rintro X G s0 vs ⟨rfl, hG, hS0, ha, hx1, hx2, hx3⟩ rfl hx hq
  show JJ X E 4 G s0 0 0 [(0, .ref a), (1, .int (zI x1)), (2, .int (zI x2)), (3, .int (zI x3))] 0 []
  refine j_iload_n hx 1 dX11_needRange_0 rfl ?_
  refine j_iload_n hx 2 dX11_needRange_1 rfl ?_
  refine j_icmp_lt hx 10 dX11_needRange_2 rfl (by omega) (by omega) (fun h1 => ?_) (fun h1 => ?_)
  · skip
    refine j_aload_n hx 0 dX11_needRange_10 rfl ?_
    refine j_dup hx dX11_needRange_11 rfl ?_
    have f2 := zf hS0 ha (k := 15) rfl
    refine g12_15 hx hG ha kf_RX11_336 rfl dX11_needRange_12 ?_
    refine j_iconst hx dX11_needRange_15 ?_
    refine j_iadd hx (r := (s0 a 15) + 1) dX11_needRange_16 (by omega) ?_
    refine j_norm (fun v3 f4 f5 f6 => ?_)
    refine p12_15 hx hG ha kf_RX11_336 dX11_needRange_17 ?_
    obtain ⟨s1, e_s1⟩ : ∃ z, z = zU s0 a 15 v3 := ⟨_, rfl⟩
    rw [← e_s1]
    have hS_s1 : zSK G s1 := by rw [e_s1]; exact zSK_F hS0 ha rfl rfl rfl (by omega)
    exact j_throwI hx hq ⟨by decide, Nat.le_of_ble_eq_true rfl⟩ ⟨by decide, by decide⟩ ⟨by decide, by decide⟩ dX11_needRange_20 dX11_needRange_23 dX11_needRange_24 dX11_needRange_27 dX11_needRange_30 ⟨rfl, hS_s1, (zFr_u zFr_rf e_s1 ha (by decide)), ⟨rfl, by first | trivial | omega⟩⟩
  · skip
    refine j_iload_n hx 1 dX11_needRange_5 rfl ?_
    refine j_iload_n hx 3 dX11_needRange_6 rfl ?_
    refine j_icmp_le hx 31 dX11_needRange_7 rfl (by omega) (by omega) (fun h7 => ?_) (fun h7 => ?_)
    · skip
      exact j_vret hx hq.r rfl (by decide) (by decide) dX11_needRange_31 ⟨rfl, rfl, rfl, trivial⟩
    · skip
      refine j_aload_n hx 0 dX11_needRange_10 rfl ?_
      refine j_dup hx dX11_needRange_11 rfl ?_
      have f8 := zf hS0 ha (k := 15) rfl
      refine g12_15 hx hG ha kf_RX11_336 rfl dX11_needRange_12 ?_
      refine j_iconst hx dX11_needRange_15 ?_
      refine j_iadd hx (r := (s0 a 15) + 1) dX11_needRange_16 (by omega) ?_
      refine j_norm (fun v9 f10 f11 f12 => ?_)
      refine p12_15 hx hG ha kf_RX11_336 dX11_needRange_17 ?_
      obtain ⟨s2, e_s2⟩ : ∃ z, z = zU s0 a 15 v9 := ⟨_, rfl⟩
      rw [← e_s2]
      have hS_s2 : zSK G s2 := by rw [e_s2]; exact zSK_F hS0 ha rfl rfl rfl (by omega)
      exact j_throwI hx hq ⟨by decide, Nat.le_of_ble_eq_true rfl⟩ ⟨by decide, by decide⟩ ⟨by decide, by decide⟩ dX11_needRange_20 dX11_needRange_23 dX11_needRange_24 dX11_needRange_27 dX11_needRange_30 ⟨rfl, hS_s2, (zFr_u zFr_rf e_s2 ha (by decide)), ⟨rfl, by first | trivial | omega⟩⟩

set_option maxHeartbeats 4000000 in
set_option maxRecDepth 20000 in
theorem c_X9_open {E : zE} {l : Launch} (hst : l.stackTraces = false) (a : Nat) (x1 : Int) : Con E l yX9_open cX9_open 2 none { frames := 1, cells := 0, slots := 0, locals := 33 } (fun G s vs => vs = [.ref a, .int (zI x1)] ∧ zGK G ∧ zSK G s ∧ (gT G a = 10) ∧ ((-2147483648) ≤ x1 ∧ x1 ≤ 2147483647)) (fun G s _ => pV (fun G2 s2 => G2 = G ∧ zSK G s2 ∧ zFr [10] G s s2 ∧ True)) := by
  refine Con.mk hst (by decide) (fun G s vs h => by rw [h.1]; exact Nat.le_of_ble_eq_true rfl) ?_
  rintro X G s0 vs ⟨rfl, hG, hS0, ha, hx1⟩ rfl hx hq
  show JJ X E 2 G s0 0 0 [(0, .ref a), (1, .int (zI x1))] 0 []
  refine j_aload_n hx 0 dX9_open_0 rfl ?_
  refine j_iload_n hx 1 dX9_open_1 rfl ?_
  refine j_aload_n hx 0 dX9_open_2 rfl ?_
  refine g10_0 hx hG ha kf_RX9_11 dX9_open_3 ?_
  refine j_alen hx hG (zr (k := 0) (t2 := 45) hG ha rfl) (by decide) (by decide) (zlen hG (zr (k := 0) (t2 := 45) hG ha rfl) (n := 600) rfl rfl) dX9_open_6 ?_
  refine j_mmin hx km_RX9_22 kst_min kn_RJ9 kc_Lib_Math_min_name (by omega) ⟨by decide, by decide⟩ ⟨by decide, Nat.le_of_ble_eq_true rfl⟩ ⟨by decide, by decide⟩ dX9_open_7 (fun v1 f2 f3 f4 => ?_)
  refine p10_2 hx hG ha kf_RX9_28 dX9_open_10 ?_
  obtain ⟨s1, e_s1⟩ : ∃ z, z = zU s0 a 2 v1 := ⟨_, rfl⟩
  rw [← e_s1]
  have hS_s1 : zSK G s1 := by rw [e_s1]; exact zSK_F hS0 ha rfl rfl rfl (by omega)
  refine j_aload_n hx 0 dX9_open_13 rfl ?_
  refine j_iconst hx dX9_open_14 ?_
  refine p10_3 hx hG ha kf_RX9_31 dX9_open_15 ?_
  obtain ⟨s2, e_s2⟩ : ∃ z, z = zU s1 a 3 0 := ⟨_, rfl⟩
  rw [← e_s2]
  have hS_s2 : zSK G s2 := by rw [e_s2]; exact zSK_F hS_s1 ha rfl rfl rfl (by omega)
  refine j_aload_n hx 0 dX9_open_18 rfl ?_
  refine j_iconst hx dX9_open_19 ?_
  refine p10_4 hx hG ha kf_RX9_34 dX9_open_20 ?_
  obtain ⟨s3, e_s3⟩ : ∃ z, z = zU s2 a 4 0 := ⟨_, rfl⟩
  rw [← e_s3]
  have hS_s3 : zSK G s3 := by rw [e_s3]; exact zSK_F hS_s2 ha rfl rfl rfl (by omega)
  refine j_aload_n hx 0 dX9_open_23 rfl ?_
  refine j_iconst hx dX9_open_24 ?_
  refine p10_5 hx hG ha kf_RX9_15 dX9_open_25 ?_
  obtain ⟨s4, e_s4⟩ : ∃ z, z = zU s3 a 5 (-1) := ⟨_, rfl⟩
  rw [← e_s4]
  have hS_s4 : zSK G s4 := by rw [e_s4]; exact zSK_F hS_s3 ha rfl rfl rfl (by omega)
  exact j_vret hx hq rfl (by decide) (by decide) dX9_open_28 ⟨rfl, rfl, hS_s4, (zFr_u (zFr_u (zFr_u (zFr_u zFr_rf e_s1 ha (by decide)) e_s2 ha (by decide)) e_s3 ha (by decide)) e_s4 ha (by decide)), trivial⟩

set_option maxHeartbeats 4000000 in
set_option maxRecDepth 20000 in
theorem c_fill_44 {E : zE} {l : Launch} (hst : l.stackTraces = false) (b0 : Nat) (x1 : Int) : Con E l yJ7_fill_53178 cJ7_fill_53178 4 none { frames := 0, cells := 0, slots := 0, locals := 0 } (fun G s vs => vs = [.ref b0, .int (zI x1)] ∧ zGK G ∧ zSK G s ∧ (gT G b0 = 44) ∧ (0 ≤ x1 ∧ x1 ≤ 0)) (fun G s _ => pV (fun G2 s2 => G2 = G ∧ zSK G s2 ∧ zFr [44] G s s2 ∧ True)) := by
  refine Con.mk hst (by decide) (fun G s vs h => by rw [h.1]; exact Nat.le_of_ble_eq_true rfl) ?_
  rintro X G s0 vs ⟨rfl, hG, hS0, hb0, hx1⟩ rfl hx hq
  show JJ X E 4 G s0 0 0 [(0, .ref b0), (1, .int (zI x1))] 0 []
  refine j_iconst hx dJ7_fill_53178_0 ?_
  refine j_istore_n hx [(2, .int (zI 0)), (0, .ref b0), (1, .int (zI x1))] dJ7_fill_53178_1 (by decide) rfl ?_
  refine j_aload_n hx 1 dJ7_fill_53178_2 rfl ?_
  refine j_alen hx hG hb0 (by decide) (by decide) (zlen hG hb0 (n := 3) rfl rfl) dJ7_fill_53178_3 ?_
  refine j_istore_n hx [(3, .int (zI 3)), (2, .int (zI 0)), (0, .ref b0), (1, .int (zI x1))] dJ7_fill_53178_4 (by decide) rfl ?_
  have c5_1 : ∀ (m_c5_1 : Nat) (v1 : Int) (s2 : zS), 2147483648 - v1 < m_c5_1 → (0 ≤ v1 ∧ v1 ≤ 3) → (zSK G s2) → (zFr [44] G s0 s2) → JJ X E 4 G s2 0 0 [(0, .ref b0), (1, .int (zI x1)), (2, .int (zI v1)), (3, .int (zI 3))] 5 [] := by
    intro m_c5_1
    induction m_c5_1 with
    | zero => intro v1 s2 hm_c5_1 fA3 hS_s2 hF_s2; exfalso; omega
    | succ m_c5_1 ih_c5_1 => 
      intro v1 s2 hm_c5_1 fA3 hS_s2 hF_s2
      refine j_iload_n hx 2 dJ7_fill_53178_5 rfl ?_
      refine j_iload_n hx 3 dJ7_fill_53178_6 rfl ?_
      refine j_icmp_ge hx 20 dJ7_fill_53178_7 rfl (by omega) ⟨by decide, by decide⟩ (fun h2 => ?_) (fun h2 => ?_)
      · skip
        exact j_vret hx hq rfl (by decide) (by decide) dJ7_fill_53178_20 ⟨rfl, rfl, hS_s2, (zFr_t zFr_rf hF_s2 (by decide)), trivial⟩
      · skip
        refine j_aload_n hx 0 dJ7_fill_53178_10 rfl ?_
        refine j_iload_n hx 2 dJ7_fill_53178_11 rfl ?_
        refine j_iload_n hx 1 dJ7_fill_53178_12 rfl ?_
        refine j_iast hx hG hb0 (by decide) rfl (zlen hG hb0 (n := 3) rfl rfl) (by omega) (by omega) (j := (v1).toNat) rfl dJ7_fill_53178_13 ?_
        obtain ⟨s6, e_s6⟩ : ∃ z, z = zU s2 b0 (v1).toNat x1 := ⟨_, rfl⟩
        rw [← e_s6]
        have hS_s6 : zSK G s6 := by rw [e_s6]; exact zSK_A hS_s2 hb0 rfl rfl rfl (by omega)
        refine j_iinc hx 2 [(2, .int (zI (v1 + 1))), (0, .ref b0), (1, .int (zI x1)), (3, .int (zI 3))] dJ7_fill_53178_14 rfl (by omega) (by decide) rfl ?_
        refine j_goto hx 5 dJ7_fill_53178_17 rfl ?_
        exact j_sub [1, 2, 0, 3] [(0, .ref b0), (1, .int (zI x1)), (2, .int (zI (v1 + 1))), (3, .int (zI 3))] rfl (ih_c5_1 (v1 + 1) s6 (by omega) (by omega) hS_s6 (zFr_u (zFr_t zFr_rf hF_s2 (by decide)) e_s6 hb0 (by decide)))
  exact j_sub [2, 3, 1, 0] [(0, .ref b0), (1, .int (zI x1)), (2, .int (zI 0)), (3, .int (zI 3))] rfl (c5_1 (2147483648 * 4) 0 s0 (by omega) (by omega) hS0 zFr_rf)

set_option maxHeartbeats 4000000 in
set_option maxRecDepth 20000 in
theorem c_X0_rowOf {E : zE} {l : Launch} (hst : l.stackTraces = false) (a : Nat) (x1 : Int) : Con E l yX0_rowOf cX0_rowOf 2 (some (.object "SnapHeaps$Pile")) { frames := 0, cells := 0, slots := 0, locals := 0 } (fun G s vs => vs = [.ref a, .int (zI x1)] ∧ zGK G ∧ zSK G s ∧ (gT G a = 1) ∧ ((-2147483648) ≤ x1 ∧ x1 ≤ 2147483647)) (fun G s _ => pR (fun r G2 s2 => G2 = G ∧ s2 = s ∧ gT G r = 7)) := by
  refine Con.mk hst (by decide) (fun G s vs h => by rw [h.1]; exact Nat.le_of_ble_eq_true rfl) ?_
  rintro X G s0 vs ⟨rfl, hG, hS0, ha, hx1⟩ rfl hx hq
  show JJ X E 2 G s0 0 0 [(0, .ref a), (1, .int (zI x1))] 0 []
  refine j_iload_n hx 1 dX0_rowOf_0 rfl ?_
  refine j_if_gt hx 9 dX0_rowOf_1 rfl (by omega) (fun h1 => ?_) (fun h1 => ?_)
  · skip
    refine j_iload_n hx 1 dX0_rowOf_9 rfl ?_
    refine j_iconst hx dX0_rowOf_10 ?_
    refine j_icmp_ne hx 21 dX0_rowOf_11 rfl (by omega) ⟨by decide, by decide⟩ (fun h2 => ?_) (fun h2 => ?_)
    · skip
      refine j_aload_n hx 0 dX0_rowOf_21 rfl ?_
      refine g1_2 hx hG ha kf_RX0_21 dX0_rowOf_22 ?_
      exact j_aret hx hq rfl (by decide) (by decide) dX0_rowOf_25 (Or.inr ⟨_, rfl⟩) ⟨_, rfl, rfl, rfl, (zr (k := 2) (t2 := 7) hG ha rfl)⟩
    · skip
      refine j_aload_n hx 0 dX0_rowOf_14 rfl ?_
      refine g1_1 hx hG ha kf_RX0_18 dX0_rowOf_15 ?_
      refine j_goto hx 25 dX0_rowOf_18 rfl ?_
      exact j_aret hx hq rfl (by decide) (by decide) dX0_rowOf_25 (Or.inr ⟨_, rfl⟩) ⟨_, rfl, rfl, rfl, (zr (k := 1) (t2 := 7) hG ha rfl)⟩
  · skip
    refine j_aload_n hx 0 dX0_rowOf_4 rfl ?_
    refine g1_0 hx hG ha kf_RX0_12 dX0_rowOf_5 ?_
    exact j_aret hx hq rfl (by decide) (by decide) dX0_rowOf_8 (Or.inr ⟨_, rfl⟩) ⟨_, rfl, rfl, rfl, (zr (k := 0) (t2 := 7) hG ha rfl)⟩

set_option maxHeartbeats 4000000 in
set_option maxRecDepth 20000 in
theorem c_X0_heapOf {E : zE} {l : Launch} (hst : l.stackTraces = false) (a : Nat) (x1 : Int) : Con E l yX0_heapOf cX0_heapOf 2 (some (.object "SnapHeaps$Pile")) { frames := 0, cells := 0, slots := 0, locals := 0 } (fun G s vs => vs = [.ref a, .int (zI x1)] ∧ zGK G ∧ zSK G s ∧ (gT G a = 1) ∧ ((-2147483648) ≤ x1 ∧ x1 ≤ 2147483647)) (fun G s _ => pR (fun r G2 s2 => G2 = G ∧ s2 = s ∧ gT G r = 7)) := by
  refine Con.mk hst (by decide) (fun G s vs h => by rw [h.1]; exact Nat.le_of_ble_eq_true rfl) ?_
  rintro X G s0 vs ⟨rfl, hG, hS0, ha, hx1⟩ rfl hx hq
  show JJ X E 2 G s0 0 0 [(0, .ref a), (1, .int (zI x1))] 0 []
  refine j_iload_n hx 1 dX0_heapOf_0 rfl ?_
  refine j_if_gt hx 9 dX0_heapOf_1 rfl (by omega) (fun h1 => ?_) (fun h1 => ?_)
  · skip
    refine j_iload_n hx 1 dX0_heapOf_9 rfl ?_
    refine j_iconst hx dX0_heapOf_10 ?_
    refine j_icmp_ne hx 21 dX0_heapOf_11 rfl (by omega) ⟨by decide, by decide⟩ (fun h2 => ?_) (fun h2 => ?_)
    · skip
      refine j_aload_n hx 0 dX0_heapOf_21 rfl ?_
      refine g1_5 hx hG ha kf_RX0_30 dX0_heapOf_22 ?_
      exact j_aret hx hq rfl (by decide) (by decide) dX0_heapOf_25 (Or.inr ⟨_, rfl⟩) ⟨_, rfl, rfl, rfl, (zr (k := 5) (t2 := 7) hG ha rfl)⟩
    · skip
      refine j_aload_n hx 0 dX0_heapOf_14 rfl ?_
      refine g1_4 hx hG ha kf_RX0_27 dX0_heapOf_15 ?_
      refine j_goto hx 25 dX0_heapOf_18 rfl ?_
      exact j_aret hx hq rfl (by decide) (by decide) dX0_heapOf_25 (Or.inr ⟨_, rfl⟩) ⟨_, rfl, rfl, rfl, (zr (k := 4) (t2 := 7) hG ha rfl)⟩
  · skip
    refine j_aload_n hx 0 dX0_heapOf_4 rfl ?_
    refine g1_3 hx hG ha kf_RX0_24 dX0_heapOf_5 ?_
    exact j_aret hx hq rfl (by decide) (by decide) dX0_heapOf_8 (Or.inr ⟨_, rfl⟩) ⟨_, rfl, rfl, rfl, (zr (k := 3) (t2 := 7) hG ha rfl)⟩

theorem lk_RX0_40 : LkV RX0 40 RX0 yX0_heapOf cX0_heapOf 2 (some (.object "SnapHeaps$Pile")) 1 := ⟨km_RX0_40, ki_yX0_heapOf, ks_RX0_yX0_heapOf, kn_RX0, kc_yX0_heapOf, rfl, by decide +kernel, by decide +kernel, by decide +kernel⟩
theorem lk_RX0_36 : LkV RX0 36 RX0 yX0_rowOf cX0_rowOf 2 (some (.object "SnapHeaps$Pile")) 1 := ⟨km_RX0_36, ki_yX0_rowOf, ks_RX0_yX0_rowOf, kn_RX0, kc_yX0_rowOf, rfl, by decide +kernel, by decide +kernel, by decide +kernel⟩
set_option maxHeartbeats 4000000 in
set_option maxRecDepth 20000 in
theorem c_X0_pileOf {E : zE} {l : Launch} (hst : l.stackTraces = false) (a : Nat) (x1 : Int) : Con E l yX0_pileOf cX0_pileOf 2 (some (.object "SnapHeaps$Pile")) { frames := 1, cells := 0, slots := 0, locals := 21 } (fun G s vs => vs = [.ref a, .int (zI x1)] ∧ zGK G ∧ zSK G s ∧ (gT G a = 1) ∧ ((-2147483648) ≤ x1 ∧ x1 ≤ 2147483647)) (fun G s _ => pR (fun r G2 s2 => G2 = G ∧ s2 = s ∧ gT G r = 7)) := by
  refine Con.mk hst (by decide) (fun G s vs h => by rw [h.1]; exact Nat.le_of_ble_eq_true rfl) ?_
  rintro X G s0 vs ⟨rfl, hG, hS0, ha, hx1⟩ rfl hx hq
  show JJ X E 2 G s0 0 0 [(0, .ref a), (1, .int (zI x1))] 0 []
  refine j_iload_n hx 1 dX0_pileOf_0 rfl ?_
  refine j_bipush hx dX0_pileOf_1 rfl ?_
  refine j_icmp_lt hx 11 dX0_pileOf_3 rfl (by omega) ⟨by decide, by decide⟩ (fun h1 => ?_) (fun h1 => ?_)
  · skip
    refine j_iload_n hx 1 dX0_pileOf_11 rfl ?_
    refine j_iconst hx dX0_pileOf_12 ?_
    refine j_iand hx dX0_pileOf_13 (by omega) ⟨by decide, by decide⟩ (fun v2 f3 f4 f5 f6 _ => ?_)
    refine j_if_ne hx 27 dX0_pileOf_14 rfl (by omega) (fun h8 => ?_) (fun h8 => ?_)
    · skip
      refine j_aload_n hx 0 dX0_pileOf_27 rfl ?_
      refine j_iload_n hx 1 dX0_pileOf_28 rfl ?_
      refine j_iconst hx dX0_pileOf_29 ?_
      refine j_ishr hx 1 2 dX0_pileOf_30 (by omega) rfl (by decide) (by decide) (fun v9 f10 f11 f12 f13 => ?_)
      refine j_callV hx hG (c_X0_heapOf hst a v9) lk_RX0_40 ha (by decide) rfl rfl rfl rfl [.int (zI v9)] ⟨rfl, hG, hS0, ha, (by omega)⟩ rfl rfl ⟨by decide, by decide⟩ ⟨by decide, by decide⟩ (k2 := 0) (n2 := 0) rfl rfl (Nat.le_of_ble_eq_true rfl) dX0_pileOf_31 (kRP (fun r14 q15 => ?_))
      exact j_aret hx hq rfl (by decide) (by decide) dX0_pileOf_34 (Or.inr ⟨_, rfl⟩) ⟨_, rfl, rfl, rfl, q15⟩
    · skip
      refine j_aload_n hx 0 dX0_pileOf_17 rfl ?_
      refine j_iload_n hx 1 dX0_pileOf_18 rfl ?_
      refine j_iconst hx dX0_pileOf_19 ?_
      refine j_ishr hx 1 2 dX0_pileOf_20 (by omega) rfl (by decide) (by decide) (fun v16 f17 f18 f19 f20 => ?_)
      refine j_callV hx hG (c_X0_rowOf hst a v16) lk_RX0_36 ha (by decide) rfl rfl rfl rfl [.int (zI v16)] ⟨rfl, hG, hS0, ha, (by omega)⟩ rfl rfl ⟨by decide, by decide⟩ ⟨by decide, by decide⟩ (k2 := 0) (n2 := 0) rfl rfl (Nat.le_of_ble_eq_true rfl) dX0_pileOf_21 (kRP (fun r21 q22 => ?_))
      refine j_goto hx 34 dX0_pileOf_24 rfl ?_
      exact j_aret hx hq rfl (by decide) (by decide) dX0_pileOf_34 (Or.inr ⟨_, rfl⟩) ⟨_, rfl, rfl, rfl, q22⟩
  · skip
    refine j_aload_n hx 0 dX0_pileOf_6 rfl ?_
    refine g1_6 hx hG ha kf_RX0_33 dX0_pileOf_7 ?_
    exact j_aret hx hq rfl (by decide) (by decide) dX0_pileOf_10 (Or.inr ⟨_, rfl⟩) ⟨_, rfl, rfl, rfl, (zr (k := 6) (t2 := 7) hG ha rfl)⟩

theorem lk_RX0_47 : LkV RX0 47 RX0 yX0_pileOf cX0_pileOf 2 (some (.object "SnapHeaps$Pile")) 1 := ⟨km_RX0_47, ki_yX0_pileOf, ks_RX0_yX0_pileOf, kn_RX0, kc_yX0_pileOf, rfl, by decide +kernel, by decide +kernel, by decide +kernel⟩
set_option maxHeartbeats 4000000 in
set_option maxRecDepth 20000 in
theorem c_X0_clear {E : zE} {l : Launch} (hst : l.stackTraces = false) (a : Nat) : Con E l yX0_clear cX0_clear 2 none { frames := 2, cells := 0, slots := 0, locals := 42 } (fun G s vs => vs = [.ref a] ∧ zGK G ∧ zSK G s ∧ (gT G a = 1)) (fun G s _ => pV (fun G2 s2 => G2 = G ∧ zSK G s2 ∧ zFr [1, 7] G s s2 ∧ True)) := by
  refine Con.mk hst (by decide) (fun G s vs h => by rw [h.1]; exact Nat.le_of_ble_eq_true rfl) ?_
  rintro X G s0 vs ⟨rfl, hG, hS0, ha⟩ rfl hx hq
  show JJ X E 2 G s0 0 0 [(0, .ref a)] 0 []
  refine j_iconst hx dX0_clear_0 ?_
  refine j_istore_n hx [(1, .int (zI 0)), (0, .ref a)] dX0_clear_1 (by decide) rfl ?_
  have c2_1 : ∀ (m_c2_1 : Nat) (v1 : Int) (s2 : zS), 2147483648 - v1 < m_c2_1 → (0 ≤ v1 ∧ v1 ≤ 7) → (zSK G s2) → (zFr [7] G s0 s2) → JJ X E 2 G s2 0 0 [(0, .ref a), (1, .int (zI v1))] 2 [] := by
    intro m_c2_1
    induction m_c2_1 with
    | zero => intro v1 s2 hm_c2_1 fA3 hS_s2 hF_s2; exfalso; omega
    | succ m_c2_1 ih_c2_1 => 
      intro v1 s2 hm_c2_1 fA3 hS_s2 hF_s2
      refine j_iload_n hx 1 dX0_clear_2 rfl ?_
      refine j_bipush hx dX0_clear_3 rfl ?_
      refine j_icmp_ge hx 23 dX0_clear_5 rfl (by omega) ⟨by decide, by decide⟩ (fun h2 => ?_) (fun h2 => ?_)
      · skip
        refine j_aload_n hx 0 dX0_clear_23 rfl ?_
        refine j_iconst hx dX0_clear_24 ?_
        refine p1_7 hx hG ha kf_RX0_50 dX0_clear_25 ?_
        obtain ⟨s6, e_s6⟩ : ∃ z, z = zU s2 a 7 0 := ⟨_, rfl⟩
        rw [← e_s6]
        have hS_s6 : zSK G s6 := by rw [e_s6]; exact zSK_F hS_s2 ha rfl rfl rfl (by omega)
        refine j_aload_n hx 0 dX0_clear_28 rfl ?_
        refine j_iconst hx dX0_clear_29 ?_
        refine p1_8 hx hG ha kf_RX0_53 dX0_clear_30 ?_
        obtain ⟨s7, e_s7⟩ : ∃ z, z = zU s6 a 8 0 := ⟨_, rfl⟩
        rw [← e_s7]
        have hS_s7 : zSK G s7 := by rw [e_s7]; exact zSK_F hS_s6 ha rfl rfl rfl (by omega)
        exact j_vret hx hq rfl (by decide) (by decide) dX0_clear_33 ⟨rfl, rfl, hS_s7, (zFr_u (zFr_u (zFr_t zFr_rf hF_s2 (by decide)) e_s6 ha (by decide)) e_s7 ha (by decide)), trivial⟩
      · skip
        refine j_aload_n hx 0 dX0_clear_8 rfl ?_
        refine j_iload_n hx 1 dX0_clear_9 rfl ?_
        refine j_callV hx hG (c_X0_pileOf hst a v1) lk_RX0_47 ha (by decide) rfl rfl rfl rfl [.int (zI v1)] ⟨rfl, hG, hS_s2, ha, (by omega)⟩ rfl rfl ⟨by decide, by decide⟩ ⟨by decide, by decide⟩ (k2 := 0) (n2 := 0) rfl rfl (Nat.le_of_ble_eq_true rfl) dX0_clear_10 (kRP (fun r3 q4 => ?_))
        refine j_iconst hx dX0_clear_13 ?_
        refine pN7_1 hx hG q4 kf_RX0_43 dX0_clear_14 ?_
        obtain ⟨s8, e_s8⟩ : ∃ z, z = zU s2 r3 1 0 := ⟨_, rfl⟩
        rw [← e_s8]
        have hS_s8 : zSK G s8 := by rw [e_s8]; exact zSK_F hS_s2 q4 rfl rfl rfl (by omega)
        refine j_iinc hx 1 [(1, .int (zI (v1 + 1))), (0, .ref a)] dX0_clear_17 rfl (by omega) (by decide) rfl ?_
        refine j_goto hx 2 dX0_clear_20 rfl ?_
        exact j_sub [1, 0] [(0, .ref a), (1, .int (zI (v1 + 1)))] rfl (ih_c2_1 (v1 + 1) s8 (by omega) (by omega) hS_s8 (zFr_u (zFr_t zFr_rf hF_s2 (by decide)) e_s8 q4 (by decide)))
  exact j_sub [1, 0] [(0, .ref a), (1, .int (zI 0))] rfl (c2_1 (2147483648 * 4) 0 s0 (by omega) (by omega) hS0 zFr_rf)

set_option maxHeartbeats 4000000 in
set_option maxRecDepth 20000 in
theorem c_X9_peek {E : zE} {l : Launch} (hst : l.stackTraces = false) (a : Nat) : Con E l yX9_peek cX9_peek 2 (some .int) { frames := 0, cells := 0, slots := 0, locals := 0 } (fun G s vs => vs = [.ref a] ∧ zGK G ∧ zSK G s ∧ (gT G a = 10)) (fun G s _ => pI (fun r G2 s2 => G2 = G ∧ zSK G s2 ∧ zFr [10] G s s2 ∧ ((-2147483648) ≤ r ∧ r ≤ 2147483647))) := by
  refine Con.mk hst (by decide) (fun G s vs h => by rw [h.1]; exact Nat.le_of_ble_eq_true rfl) ?_
  rintro X G s0 vs ⟨rfl, hG, hS0, ha⟩ rfl hx hq
  show JJ X E 2 G s0 0 0 [(0, .ref a)] 0 []
  refine j_iconst hx dX9_peek_0 ?_
  refine j_istore_n hx [(1, .int (zI 0)), (0, .ref a)] dX9_peek_1 (by decide) rfl ?_
  have c2_1 : ∀ (m_c2_1 : Nat) (v1 : Int) (s2 : zS), 2147483648 - v1 < m_c2_1 → (0 ≤ v1 ∧ v1 ≤ 600) → (zSK G s2) → (zFr [10] G s0 s2) → JJ X E 2 G s2 0 0 [(0, .ref a), (1, .int (zI v1))] 2 [] := by
    intro m_c2_1
    induction m_c2_1 with
    | zero => intro v1 s2 hm_c2_1 fA3 hS_s2 hF_s2; exfalso; omega
    | succ m_c2_1 ih_c2_1 => 
      intro v1 s2 hm_c2_1 fA3 hS_s2 hF_s2
      refine j_iload_n hx 1 dX9_peek_2 rfl ?_
      refine j_sipush hx dX9_peek_3 rfl ?_
      refine j_icmp_ge hx 83 dX9_peek_6 rfl (by omega) ⟨by decide, by decide⟩ (fun h2 => ?_) (fun h2 => ?_)
      · skip
        refine j_iconst hx dX9_peek_83 ?_
        exact j_iret hx hq rfl (by decide) (by decide) dX9_peek_84 ⟨(-1), rfl, rfl, hS_s2, (zFr_t zFr_rf hF_s2 (by decide)), (by omega)⟩
      · skip
        refine j_aload_n hx 0 dX9_peek_9 rfl ?_
        have f3 := zf hS_s2 ha (k := 3) rfl
        refine g10_3 hx hG ha kf_RX9_31 rfl dX9_peek_10 ?_
        refine j_if_lt hx 83 dX9_peek_13 rfl (by omega) (fun h4 => ?_) (fun h4 => ?_)
        · skip
          refine j_iconst hx dX9_peek_83 ?_
          exact j_iret hx hq rfl (by decide) (by decide) dX9_peek_84 ⟨(-1), rfl, rfl, hS_s2, (zFr_t zFr_rf hF_s2 (by decide)), (by omega)⟩
        · skip
          refine j_aload_n hx 0 dX9_peek_16 rfl ?_
          refine g10_3 hx hG ha kf_RX9_31 rfl dX9_peek_17 ?_
          refine j_aload_n hx 0 dX9_peek_20 rfl ?_
          have f5 := zf hS_s2 ha (k := 2) rfl
          refine g10_2 hx hG ha kf_RX9_28 rfl dX9_peek_21 ?_
          refine j_icmp_ge hx 83 dX9_peek_24 rfl (by omega) (by omega) (fun h6 => ?_) (fun h6 => ?_)
          · skip
            refine j_iconst hx dX9_peek_83 ?_
            exact j_iret hx hq rfl (by decide) (by decide) dX9_peek_84 ⟨(-1), rfl, rfl, hS_s2, (zFr_t zFr_rf hF_s2 (by decide)), (by omega)⟩
          · skip
            refine j_aload_n hx 0 dX9_peek_27 rfl ?_
            refine g10_3 hx hG ha kf_RX9_31 rfl dX9_peek_28 ?_
            refine j_aload_n hx 0 dX9_peek_31 rfl ?_
            refine g10_0 hx hG ha kf_RX9_11 dX9_peek_32 ?_
            refine j_alen hx hG (zr (k := 0) (t2 := 45) hG ha rfl) (by decide) (by decide) (zlen hG (zr (k := 0) (t2 := 45) hG ha rfl) (n := 600) rfl rfl) dX9_peek_35 ?_
            refine j_icmp_ge hx 83 dX9_peek_36 rfl (by omega) ⟨by decide, by decide⟩ (fun h7 => ?_) (fun h7 => ?_)
            · skip
              refine j_iconst hx dX9_peek_83 ?_
              exact j_iret hx hq rfl (by decide) (by decide) dX9_peek_84 ⟨(-1), rfl, rfl, hS_s2, (zFr_t zFr_rf hF_s2 (by decide)), (by omega)⟩
            · skip
              refine j_aload_n hx 0 dX9_peek_39 rfl ?_
              refine g10_0 hx hG ha kf_RX9_11 dX9_peek_40 ?_
              refine j_aload_n hx 0 dX9_peek_43 rfl ?_
              refine g10_3 hx hG ha kf_RX9_31 rfl dX9_peek_44 ?_
              have f8 := zaI (j := ((s2 a 3)).toNat) hS0 (zr (k := 0) (t2 := 45) hG ha rfl) rfl (zlen hG (zr (k := 0) (t2 := 45) hG ha rfl) (n := 600) rfl rfl) (show 0 ≤ (s2 a 3) by omega) (by omega) rfl
              refine j_bald hx hG (zr (k := 0) (t2 := 45) hG ha rfl) (by decide) rfl (zlen hG (zr (k := 0) (t2 := 45) hG ha rfl) (n := 600) rfl rfl) (by omega) (by omega) (j := ((s2 a 3)).toNat) rfl (v := (s0 (gP G a 0) ((s2 a 3)).toNat)) (by rw [(zFr_g hF_s2 (zr (k := 0) (t2 := 45) hG ha rfl) (by decide))]) dX9_peek_47 ?_
              refine j_bipush hx dX9_peek_48 rfl ?_
              refine j_icmp_eq hx 67 dX9_peek_50 rfl (by omega) ⟨by decide, by decide⟩ (fun h9 => ?_) (fun h9 => ?_)
              · skip
                refine j_aload_n hx 0 dX9_peek_67 rfl ?_
                refine j_dup hx dX9_peek_68 rfl ?_
                refine g10_3 hx hG ha kf_RX9_31 rfl dX9_peek_69 ?_
                refine j_iconst hx dX9_peek_72 ?_
                refine j_iadd hx (r := (s2 a 3) + 1) dX9_peek_73 (by omega) ?_
                refine p10_3 hx hG ha kf_RX9_31 dX9_peek_74 ?_
                obtain ⟨s6, e_s6⟩ : ∃ z, z = zU s2 a 3 ((s2 a 3) + 1) := ⟨_, rfl⟩
                rw [← e_s6]
                have hS_s6 : zSK G s6 := by rw [e_s6]; exact zSK_F hS_s2 ha rfl rfl rfl (by omega)
                refine j_iinc hx 1 [(1, .int (zI (v1 + 1))), (0, .ref a)] dX9_peek_77 rfl (by omega) (by decide) rfl ?_
                refine j_goto hx 2 dX9_peek_80 rfl ?_
                exact j_sub [1, 0] [(0, .ref a), (1, .int (zI (v1 + 1)))] rfl (ih_c2_1 (v1 + 1) s6 (by omega) (by omega) hS_s6 (zFr_u (zFr_t zFr_rf hF_s2 (by decide)) e_s6 ha (by decide)))
              · skip
                refine j_aload_n hx 0 dX9_peek_53 rfl ?_
                refine g10_0 hx hG ha kf_RX9_11 dX9_peek_54 ?_
                refine j_aload_n hx 0 dX9_peek_57 rfl ?_
                refine g10_3 hx hG ha kf_RX9_31 rfl dX9_peek_58 ?_
                refine j_bald hx hG (zr (k := 0) (t2 := 45) hG ha rfl) (by decide) rfl (zlen hG (zr (k := 0) (t2 := 45) hG ha rfl) (n := 600) rfl rfl) (by omega) (by omega) (j := ((s2 a 3)).toNat) rfl (v := (s0 (gP G a 0) ((s2 a 3)).toNat)) (by rw [(zFr_g hF_s2 (zr (k := 0) (t2 := 45) hG ha rfl) (by decide))]) dX9_peek_61 ?_
                refine j_sipush hx dX9_peek_62 rfl ?_
                refine j_iand hx dX9_peek_65 (by omega) ⟨by decide, by decide⟩ (fun v10 f11 f12 f13 f14 _ => ?_)
                exact j_iret hx hq rfl (by decide) (by decide) dX9_peek_66 ⟨v10, rfl, rfl, hS_s2, (zFr_t zFr_rf hF_s2 (by decide)), (by omega)⟩
  exact j_sub [1, 0] [(0, .ref a), (1, .int (zI 0))] rfl (c2_1 (2147483648 * 4) 0 s0 (by omega) (by omega) hS0 zFr_rf)

set_option maxHeartbeats 4000000 in
set_option maxRecDepth 20000 in
theorem c_X9_signAt {E : zE} {l : Launch} (hst : l.stackTraces = false) (a : Nat) (x1 : Int) : Con E l yX9_signAt cX9_signAt 2 (some .int) { frames := 0, cells := 0, slots := 0, locals := 0 } (fun G s vs => vs = [.ref a, .int (zI x1)] ∧ zGK G ∧ zSK G s ∧ (gT G a = 10) ∧ ((-2147483648) ≤ x1 ∧ x1 ≤ 2147483647)) (fun G s _ => pI (fun r G2 s2 => G2 = G ∧ s2 = s ∧ ((-2147483648) ≤ r ∧ r ≤ 2147483647))) := by
  refine Con.mk hst (by decide) (fun G s vs h => by rw [h.1]; exact Nat.le_of_ble_eq_true rfl) ?_
  rintro X G s0 vs ⟨rfl, hG, hS0, ha, hx1⟩ rfl hx hq
  show JJ X E 2 G s0 0 0 [(0, .ref a), (1, .int (zI x1))] 0 []
  refine j_iload_n hx 1 dX9_signAt_0 rfl ?_
  refine j_if_lt hx 34 dX9_signAt_1 rfl (by omega) (fun h1 => ?_) (fun h1 => ?_)
  · skip
    refine j_iconst hx dX9_signAt_34 ?_
    exact j_iret hx hq rfl (by decide) (by decide) dX9_signAt_35 ⟨(-1), rfl, rfl, rfl, (by omega)⟩
  · skip
    refine j_iload_n hx 1 dX9_signAt_4 rfl ?_
    refine j_aload_n hx 0 dX9_signAt_5 rfl ?_
    have f2 := zf hS0 ha (k := 2) rfl
    refine g10_2 hx hG ha kf_RX9_28 rfl dX9_signAt_6 ?_
    refine j_icmp_ge hx 34 dX9_signAt_9 rfl (by omega) (by omega) (fun h3 => ?_) (fun h3 => ?_)
    · skip
      refine j_iconst hx dX9_signAt_34 ?_
      exact j_iret hx hq rfl (by decide) (by decide) dX9_signAt_35 ⟨(-1), rfl, rfl, rfl, (by omega)⟩
    · skip
      refine j_iload_n hx 1 dX9_signAt_12 rfl ?_
      refine j_aload_n hx 0 dX9_signAt_13 rfl ?_
      refine g10_0 hx hG ha kf_RX9_11 dX9_signAt_14 ?_
      refine j_alen hx hG (zr (k := 0) (t2 := 45) hG ha rfl) (by decide) (by decide) (zlen hG (zr (k := 0) (t2 := 45) hG ha rfl) (n := 600) rfl rfl) dX9_signAt_17 ?_
      refine j_icmp_ge hx 34 dX9_signAt_18 rfl (by omega) ⟨by decide, by decide⟩ (fun h4 => ?_) (fun h4 => ?_)
      · skip
        refine j_iconst hx dX9_signAt_34 ?_
        exact j_iret hx hq rfl (by decide) (by decide) dX9_signAt_35 ⟨(-1), rfl, rfl, rfl, (by omega)⟩
      · skip
        refine j_aload_n hx 0 dX9_signAt_21 rfl ?_
        refine g10_0 hx hG ha kf_RX9_11 dX9_signAt_22 ?_
        refine j_iload_n hx 1 dX9_signAt_25 rfl ?_
        have f5 := zaI (j := (x1).toNat) hS0 (zr (k := 0) (t2 := 45) hG ha rfl) rfl (zlen hG (zr (k := 0) (t2 := 45) hG ha rfl) (n := 600) rfl rfl) (show 0 ≤ x1 by omega) (by omega) rfl
        refine j_bald hx hG (zr (k := 0) (t2 := 45) hG ha rfl) (by decide) rfl (zlen hG (zr (k := 0) (t2 := 45) hG ha rfl) (n := 600) rfl rfl) (by omega) (by omega) (j := (x1).toNat) rfl rfl dX9_signAt_26 ?_
        refine j_sipush hx dX9_signAt_27 rfl ?_
        refine j_iand hx dX9_signAt_30 (by omega) ⟨by decide, by decide⟩ (fun v6 f7 f8 f9 f10 _ => ?_)
        refine j_goto hx 35 dX9_signAt_31 rfl ?_
        exact j_iret hx hq rfl (by decide) (by decide) dX9_signAt_35 ⟨v6, rfl, rfl, rfl, (by omega)⟩

set_option maxHeartbeats 4000000 in
set_option maxRecDepth 20000 in
theorem c_X9_isLetter {E : zE} {l : Launch} (hst : l.stackTraces = false) (x0 : Int) : Con E l yX9_isLetter cX9_isLetter 1 (some .boolean) { frames := 0, cells := 0, slots := 0, locals := 0 } (fun G s vs => vs = [.int (zI x0)] ∧ zGK G ∧ zSK G s ∧ ((-2147483648) ≤ x0 ∧ x0 ≤ 2147483647)) (fun G s _ => pI (fun r G2 s2 => G2 = G ∧ s2 = s ∧ (0 ≤ r ∧ r ≤ 1))) := by
  refine Con.mk hst (by decide) (fun G s vs h => by rw [h.1]; exact Nat.le_of_ble_eq_true rfl) ?_
  rintro X G s0 vs ⟨rfl, hG, hS0, hx0⟩ rfl hx hq
  show JJ X E 1 G s0 0 0 [(0, .int (zI x0))] 0 []
  refine j_iload_n hx 0 dX9_isLetter_0 rfl ?_
  refine j_bipush hx dX9_isLetter_1 rfl ?_
  refine j_icmp_lt hx 16 dX9_isLetter_3 rfl (by omega) ⟨by decide, by decide⟩ (fun h1 => ?_) (fun h1 => ?_)
  · skip
    refine j_iconst hx dX9_isLetter_16 ?_
    exact j_zret hx hq rfl (by decide) (by decide) dX9_isLetter_17 (by omega) ⟨0, rfl, rfl, rfl, (by omega)⟩
  · skip
    refine j_iload_n hx 0 dX9_isLetter_6 rfl ?_
    refine j_bipush hx dX9_isLetter_7 rfl ?_
    refine j_icmp_gt hx 16 dX9_isLetter_9 rfl (by omega) ⟨by decide, by decide⟩ (fun h2 => ?_) (fun h2 => ?_)
    · skip
      refine j_iconst hx dX9_isLetter_16 ?_
      exact j_zret hx hq rfl (by decide) (by decide) dX9_isLetter_17 (by omega) ⟨0, rfl, rfl, rfl, (by omega)⟩
    · skip
      refine j_iconst hx dX9_isLetter_12 ?_
      refine j_goto hx 17 dX9_isLetter_13 rfl ?_
      exact j_zret hx hq rfl (by decide) (by decide) dX9_isLetter_17 (by omega) ⟨1, rfl, rfl, rfl, (by omega)⟩

theorem lk_RX9_41 : LkV RX9 41 RX9 yX9_signAt cX9_signAt 2 (some .int) 1 := ⟨km_RX9_41, ki_yX9_signAt, ks_RX9_yX9_signAt, kn_RX9, kc_yX9_signAt, rfl, by decide +kernel, by decide +kernel, by decide +kernel⟩
theorem lk_RX9_45 : LkS RX9 45 yX9_isLetter cX9_isLetter 1 (some .boolean) 1 := ⟨km_RX9_45, kst_yX9_isLetter, kn_RX9, kc_yX9_isLetter, by decide +kernel, by decide +kernel, by decide +kernel⟩
set_option maxHeartbeats 4000000 in
set_option maxRecDepth 20000 in
theorem c_X9_lettersHere {E : zE} {l : Launch} (hst : l.stackTraces = false) (a : Nat) : Con E l yX9_lettersHere cX9_lettersHere 3 (some .int) { frames := 1, cells := 0, slots := 0, locals := 21 } (fun G s vs => vs = [.ref a] ∧ zGK G ∧ zSK G s ∧ (gT G a = 10)) (fun G s _ => pI (fun r G2 s2 => G2 = G ∧ s2 = s ∧ ((-2147483648) ≤ r ∧ r ≤ 2147483647))) := by
  refine Con.mk hst (by decide) (fun G s vs h => by rw [h.1]; exact Nat.le_of_ble_eq_true rfl) ?_
  rintro X G s0 vs ⟨rfl, hG, hS0, ha⟩ rfl hx hq
  show JJ X E 3 G s0 0 0 [(0, .ref a)] 0 []
  refine j_iconst hx dX9_lettersHere_0 ?_
  refine j_istore_n hx [(1, .int (zI 0)), (0, .ref a)] dX9_lettersHere_1 (by decide) rfl ?_
  refine j_iconst hx dX9_lettersHere_2 ?_
  refine j_istore_n hx [(2, .int (zI 0)), (1, .int (zI 0)), (0, .ref a)] dX9_lettersHere_3 (by decide) rfl ?_
  have c4_1 : ∀ (m_c4_1 : Nat) (v1 : Int) (v2 : Int), 2147483648 - v2 < m_c4_1 → ((-2147483648) ≤ v1 ∧ v1 ≤ 2147483647) → (0 ≤ v2 ∧ v2 ≤ 600) → JJ X E 3 G s0 0 0 [(0, .ref a), (1, .int (zI v1)), (2, .int (zI v2))] 4 [] := by
    intro m_c4_1
    induction m_c4_1 with
    | zero => intro v1 v2 hm_c4_1 fA2 fA3; exfalso; omega
    | succ m_c4_1 ih_c4_1 => 
      intro v1 v2 hm_c4_1 fA2 fA3
      refine j_iload_n hx 2 dX9_lettersHere_4 rfl ?_
      refine j_aload_n hx 0 dX9_lettersHere_5 rfl ?_
      refine g10_0 hx hG ha kf_RX9_11 dX9_lettersHere_6 ?_
      refine j_alen hx hG (zr (k := 0) (t2 := 45) hG ha rfl) (by decide) (by decide) (zlen hG (zr (k := 0) (t2 := 45) hG ha rfl) (n := 600) rfl rfl) dX9_lettersHere_9 ?_
      refine j_icmp_ge hx 38 dX9_lettersHere_10 rfl (by omega) ⟨by decide, by decide⟩ (fun h3 => ?_) (fun h3 => ?_)
      · skip
        refine j_iload_n hx 1 dX9_lettersHere_38 rfl ?_
        exact j_iret hx hq rfl (by decide) (by decide) dX9_lettersHere_39 ⟨v1, rfl, rfl, rfl, (by omega)⟩
      · skip
        refine j_aload_n hx 0 dX9_lettersHere_13 rfl ?_
        refine j_aload_n hx 0 dX9_lettersHere_14 rfl ?_
        have f4 := zf hS0 ha (k := 3) rfl
        refine g10_3 hx hG ha kf_RX9_31 rfl dX9_lettersHere_15 ?_
        refine j_iload_n hx 2 dX9_lettersHere_18 rfl ?_
        refine j_iadd hx (r := (s0 a 3) + v2) dX9_lettersHere_19 (by omega) ?_
        refine j_norm (fun v5 f6 f7 f8 => ?_)
        refine j_callV hx hG (c_X9_signAt hst a v5) lk_RX9_41 ha (by decide) rfl rfl rfl rfl [.int (zI v5)] ⟨rfl, hG, hS0, ha, (by omega)⟩ rfl rfl ⟨by decide, by decide⟩ ⟨by decide, by decide⟩ (k2 := 0) (n2 := 0) rfl rfl (Nat.le_of_ble_eq_true rfl) dX9_lettersHere_20 (kIP (fun v9 q10 => ?_))
        refine j_callS hx (c_X9_isLetter hst v9) lk_RX9_45 [.int (zI v9)] ⟨rfl, hG, hS0, (by omega)⟩ rfl rfl ⟨by decide, by decide⟩ ⟨by decide, by decide⟩ (k2 := 0) (n2 := 0) rfl rfl (Nat.le_of_ble_eq_true rfl) dX9_lettersHere_23 (kIP (fun v11 q12 => ?_))
        refine j_if_eq hx 38 dX9_lettersHere_26 rfl (by omega) (fun h13 => ?_) (fun h13 => ?_)
        · skip
          refine j_iload_n hx 1 dX9_lettersHere_38 rfl ?_
          exact j_iret hx hq rfl (by decide) (by decide) dX9_lettersHere_39 ⟨v1, rfl, rfl, rfl, (by omega)⟩
        · skip
          refine j_iincN hx 1 (fun v14 => [(1, .int (zI v14)), (0, .ref a), (2, .int (zI v2))]) dX9_lettersHere_29 rfl (by decide) (fun _ => rfl) (fun v14 f15 f16 f17 => ?_)
          refine j_iinc hx 2 [(2, .int (zI (v2 + 1))), (1, .int (zI v14)), (0, .ref a)] dX9_lettersHere_32 rfl (by omega) (by decide) rfl ?_
          refine j_goto hx 4 dX9_lettersHere_35 rfl ?_
          exact j_sub [2, 1, 0] [(0, .ref a), (1, .int (zI v14)), (2, .int (zI (v2 + 1)))] rfl (ih_c4_1 v14 (v2 + 1) (by omega) (by omega) (by omega))
  exact j_sub [2, 1, 0] [(0, .ref a), (1, .int (zI 0)), (2, .int (zI 0))] rfl (c4_1 (2147483648 * 4) 0 0 (by omega) (by omega) (by omega))

set_option maxHeartbeats 4000000 in
set_option maxRecDepth 20000 in
theorem c_X11_needPlayer {E : zE} {l : Launch} (hst : l.stackTraces = false) (a : Nat) (x1 : Int) : ConX E l yX11_needPlayer cX11_needPlayer 2 none { frames := 6, cells := 1, slots := 6, locals := 90 } (fun G s vs => vs = [.ref a, .int (zI x1)] ∧ zGK G ∧ zSK G s ∧ (gT G a = 12) ∧ ((-2147483648) ≤ x1 ∧ x1 ≤ 2147483647)) (fun G s _ => pV (fun G2 s2 => G2 = G ∧ s2 = s ∧ True)) (fun G s _ Ex G2 s2 => G2 = G ∧ zSK G s2 ∧ zFr [12] G s s2 ∧ ((Ex = "java/util/NoSuchElementException" ∧ (True)))) := by
  refine ConX.mk hst (by decide) (fun G s vs h => by rw [h.1]; exact Nat.le_of_ble_eq_true rfl) ?_
  rintro X G s0 vs ⟨rfl, hG, hS0, ha, hx1⟩ rfl hx hq
  show JJ X E 2 G s0 0 0 [(0, .ref a), (1, .int (zI x1))] 0 []
  refine j_iload_n hx 1 dX11_needPlayer_0 rfl ?_
  refine j_if_lt hx 15 dX11_needPlayer_1 rfl (by omega) (fun h1 => ?_) (fun h1 => ?_)
  · skip
    refine j_aload_n hx 0 dX11_needPlayer_15 rfl ?_
    refine j_dup hx dX11_needPlayer_16 rfl ?_
    have f2 := zf hS0 ha (k := 14) rfl
    refine g12_14 hx hG ha kf_RX11_333 rfl dX11_needPlayer_17 ?_
    refine j_iconst hx dX11_needPlayer_20 ?_
    refine j_iadd hx (r := (s0 a 14) + 1) dX11_needPlayer_21 (by omega) ?_
    refine j_norm (fun v3 f4 f5 f6 => ?_)
    refine p12_14 hx hG ha kf_RX11_333 dX11_needPlayer_22 ?_
    obtain ⟨s1, e_s1⟩ : ∃ z, z = zU s0 a 14 v3 := ⟨_, rfl⟩
    rw [← e_s1]
    have hS_s1 : zSK G s1 := by rw [e_s1]; exact zSK_F hS0 ha rfl rfl rfl (by omega)
    exact j_throwN hx hq ⟨by decide, Nat.le_of_ble_eq_true rfl⟩ ⟨by decide, by decide⟩ ⟨by decide, by decide⟩ dX11_needPlayer_25 dX11_needPlayer_28 dX11_needPlayer_29 dX11_needPlayer_32 dX11_needPlayer_35 ⟨rfl, hS_s1, (zFr_u zFr_rf e_s1 ha (by decide)), ⟨rfl, by first | trivial | omega⟩⟩
  · skip
    refine j_iload_n hx 1 dX11_needPlayer_4 rfl ?_
    refine j_aload_n hx 0 dX11_needPlayer_5 rfl ?_
    refine g12_1 hx hG ha kf_RX11_19 dX11_needPlayer_6 ?_
    have f7 := zf hS0 (zr (k := 1) (t2 := 9) hG ha rfl) (k := 4) rfl
    refine gN9_4 hx hG (zr (k := 1) (t2 := 9) hG ha rfl) kf_RX11_127 rfl dX11_needPlayer_9 ?_
    refine j_icmp_lt hx 36 dX11_needPlayer_12 rfl (by omega) (by omega) (fun h8 => ?_) (fun h8 => ?_)
    · skip
      exact j_vret hx hq.r rfl (by decide) (by decide) dX11_needPlayer_36 ⟨rfl, rfl, rfl, trivial⟩
    · skip
      refine j_aload_n hx 0 dX11_needPlayer_15 rfl ?_
      refine j_dup hx dX11_needPlayer_16 rfl ?_
      have f9 := zf hS0 ha (k := 14) rfl
      refine g12_14 hx hG ha kf_RX11_333 rfl dX11_needPlayer_17 ?_
      refine j_iconst hx dX11_needPlayer_20 ?_
      refine j_iadd hx (r := (s0 a 14) + 1) dX11_needPlayer_21 (by omega) ?_
      refine j_norm (fun v10 f11 f12 f13 => ?_)
      refine p12_14 hx hG ha kf_RX11_333 dX11_needPlayer_22 ?_
      obtain ⟨s2, e_s2⟩ : ∃ z, z = zU s0 a 14 v10 := ⟨_, rfl⟩
      rw [← e_s2]
      have hS_s2 : zSK G s2 := by rw [e_s2]; exact zSK_F hS0 ha rfl rfl rfl (by omega)
      exact j_throwN hx hq ⟨by decide, Nat.le_of_ble_eq_true rfl⟩ ⟨by decide, by decide⟩ ⟨by decide, by decide⟩ dX11_needPlayer_25 dX11_needPlayer_28 dX11_needPlayer_29 dX11_needPlayer_32 dX11_needPlayer_35 ⟨rfl, hS_s2, (zFr_u zFr_rf e_s2 ha (by decide)), ⟨rfl, by first | trivial | omega⟩⟩

theorem lk_RX9_49 : LkV RX9 49 RX9 yX9_peek cX9_peek 2 (some .int) 0 := ⟨km_RX9_49, ki_yX9_peek, ks_RX9_yX9_peek, kn_RX9, kc_yX9_peek, rfl, by decide +kernel, by decide +kernel, by decide +kernel⟩
set_option maxHeartbeats 4000000 in
set_option maxRecDepth 20000 in
theorem c_X9_takeSign {E : zE} {l : Launch} (hst : l.stackTraces = false) (a : Nat) (x1 : Int) : Con E l yX9_takeSign cX9_takeSign 2 (some .boolean) { frames := 1, cells := 0, slots := 0, locals := 21 } (fun G s vs => vs = [.ref a, .int (zI x1)] ∧ zGK G ∧ zSK G s ∧ (gT G a = 10) ∧ (0 ≤ x1 ∧ x1 ≤ 65535)) (fun G s _ => pI (fun r G2 s2 => G2 = G ∧ zSK G s2 ∧ zFr [10] G s s2 ∧ (0 ≤ r ∧ r ≤ 1))) := by
  refine Con.mk hst (by decide) (fun G s vs h => by rw [h.1]; exact Nat.le_of_ble_eq_true rfl) ?_
  rintro X G s0 vs ⟨rfl, hG, hS0, ha, hx1⟩ rfl hx hq
  show JJ X E 2 G s0 0 0 [(0, .ref a), (1, .int (zI x1))] 0 []
  refine j_aload_n hx 0 dX9_takeSign_0 rfl ?_
  have f1 := zf hS0 ha (k := 4) rfl
  refine g10_4 hx hG ha kf_RX9_34 rfl dX9_takeSign_1 ?_
  refine j_if_ne hx 15 dX9_takeSign_4 rfl (by omega) (fun h2 => ?_) (fun h2 => ?_)
  · skip
    refine j_iconst hx dX9_takeSign_15 ?_
    exact j_zret hx hq rfl (by decide) (by decide) dX9_takeSign_16 (by omega) ⟨0, rfl, rfl, hS0, zFr_rf, (by omega)⟩
  · skip
    refine j_aload_n hx 0 dX9_takeSign_7 rfl ?_
    refine j_callV hx hG (c_X9_peek hst a) lk_RX9_49 ha (by decide) rfl rfl rfl rfl [] ⟨rfl, hG, hS0, ha⟩ rfl rfl ⟨by decide, by decide⟩ ⟨by decide, by decide⟩ (k2 := 0) (n2 := 0) rfl rfl (Nat.le_of_ble_eq_true rfl) dX9_takeSign_8 (kIM (fun v3 s1 hS_s1 hF_s1 q4 => ?_))
    refine j_iload_n hx 1 dX9_takeSign_11 rfl ?_
    refine j_icmp_eq hx 17 dX9_takeSign_12 rfl (by omega) (by omega) (fun h5 => ?_) (fun h5 => ?_)
    · skip
      refine j_aload_n hx 0 dX9_takeSign_17 rfl ?_
      refine j_dup hx dX9_takeSign_18 rfl ?_
      have f6 := zf hS_s1 ha (k := 3) rfl
      refine g10_3 hx hG ha kf_RX9_31 rfl dX9_takeSign_19 ?_
      refine j_iconst hx dX9_takeSign_22 ?_
      refine j_iadd hx (r := (s1 a 3) + 1) dX9_takeSign_23 (by omega) ?_
      refine j_norm (fun v7 f8 f9 f10 => ?_)
      refine p10_3 hx hG ha kf_RX9_31 dX9_takeSign_24 ?_
      obtain ⟨s2, e_s2⟩ : ∃ z, z = zU s1 a 3 v7 := ⟨_, rfl⟩
      rw [← e_s2]
      have hS_s2 : zSK G s2 := by rw [e_s2]; exact zSK_F hS_s1 ha rfl rfl rfl (by omega)
      refine j_iconst hx dX9_takeSign_27 ?_
      exact j_zret hx hq rfl (by decide) (by decide) dX9_takeSign_28 (by omega) ⟨1, rfl, rfl, hS_s2, (zFr_u (zFr_t zFr_rf hF_s1 (by decide)) e_s2 ha (by decide)), (by omega)⟩
    · skip
      refine j_iconst hx dX9_takeSign_15 ?_
      exact j_zret hx hq rfl (by decide) (by decide) dX9_takeSign_16 (by omega) ⟨0, rfl, rfl, hS_s1, (zFr_t zFr_rf hF_s1 (by decide)), (by omega)⟩

set_option maxHeartbeats 4000000 in
set_option maxRecDepth 20000 in
theorem c_X9_failIf {E : zE} {l : Launch} (hst : l.stackTraces = false) (a : Nat) (x1 : Int) (x2 : Int) (x3 : Int) : Con E l yX9_failIf cX9_failIf 4 none { frames := 0, cells := 0, slots := 0, locals := 0 } (fun G s vs => vs = [.ref a, .int (zI x1), .int (zI x2), .int (zI x3)] ∧ zGK G ∧ zSK G s ∧ (gT G a = 10) ∧ (0 ≤ x1 ∧ x1 ≤ 1) ∧ ((-2147483648) ≤ x2 ∧ x2 ≤ 2147483647) ∧ ((-2147483648) ≤ x3 ∧ x3 ≤ 2147483647)) (fun G s _ => pV (fun G2 s2 => G2 = G ∧ zSK G s2 ∧ zFr [10] G s s2 ∧ True)) := by
  refine Con.mk hst (by decide) (fun G s vs h => by rw [h.1]; exact Nat.le_of_ble_eq_true rfl) ?_
  rintro X G s0 vs ⟨rfl, hG, hS0, ha, hx1, hx2, hx3⟩ rfl hx hq
  show JJ X E 4 G s0 0 0 [(0, .ref a), (1, .int (zI x1)), (2, .int (zI x2)), (3, .int (zI x3))] 0 []
  refine j_iload_n hx 1 dX9_failIf_0 rfl ?_
  refine j_if_eq hx 21 dX9_failIf_1 rfl (by omega) (fun h1 => ?_) (fun h1 => ?_)
  · skip
    exact j_vret hx hq rfl (by decide) (by decide) dX9_failIf_21 ⟨rfl, rfl, hS0, zFr_rf, trivial⟩
  · skip
    refine j_aload_n hx 0 dX9_failIf_4 rfl ?_
    have f2 := zf hS0 ha (k := 4) rfl
    refine g10_4 hx hG ha kf_RX9_34 rfl dX9_failIf_5 ?_
    refine j_if_ne hx 21 dX9_failIf_8 rfl (by omega) (fun h3 => ?_) (fun h3 => ?_)
    · skip
      exact j_vret hx hq rfl (by decide) (by decide) dX9_failIf_21 ⟨rfl, rfl, hS0, zFr_rf, trivial⟩
    · skip
      refine j_aload_n hx 0 dX9_failIf_11 rfl ?_
      refine j_iload_n hx 2 dX9_failIf_12 rfl ?_
      refine p10_4 hx hG ha kf_RX9_34 dX9_failIf_13 ?_
      obtain ⟨s1, e_s1⟩ : ∃ z, z = zU s0 a 4 x2 := ⟨_, rfl⟩
      rw [← e_s1]
      have hS_s1 : zSK G s1 := by rw [e_s1]; exact zSK_F hS0 ha rfl rfl rfl (by omega)
      refine j_aload_n hx 0 dX9_failIf_16 rfl ?_
      refine j_iload_n hx 3 dX9_failIf_17 rfl ?_
      refine p10_5 hx hG ha kf_RX9_15 dX9_failIf_18 ?_
      obtain ⟨s2, e_s2⟩ : ∃ z, z = zU s1 a 5 x3 := ⟨_, rfl⟩
      rw [← e_s2]
      have hS_s2 : zSK G s2 := by rw [e_s2]; exact zSK_F hS_s1 ha rfl rfl rfl (by omega)
      exact j_vret hx hq rfl (by decide) (by decide) dX9_failIf_21 ⟨rfl, rfl, hS_s2, (zFr_u (zFr_u zFr_rf e_s1 ha (by decide)) e_s2 ha (by decide)), trivial⟩

set_option maxHeartbeats 4000000 in
set_option maxRecDepth 20000 in
theorem c_X9_isDigit {E : zE} {l : Launch} (hst : l.stackTraces = false) (x0 : Int) : Con E l yX9_isDigit cX9_isDigit 1 (some .boolean) { frames := 0, cells := 0, slots := 0, locals := 0 } (fun G s vs => vs = [.int (zI x0)] ∧ zGK G ∧ zSK G s ∧ ((-2147483648) ≤ x0 ∧ x0 ≤ 2147483647)) (fun G s _ => pI (fun r G2 s2 => G2 = G ∧ s2 = s ∧ (0 ≤ r ∧ r ≤ 1))) := by
  refine Con.mk hst (by decide) (fun G s vs h => by rw [h.1]; exact Nat.le_of_ble_eq_true rfl) ?_
  rintro X G s0 vs ⟨rfl, hG, hS0, hx0⟩ rfl hx hq
  show JJ X E 1 G s0 0 0 [(0, .int (zI x0))] 0 []
  refine j_iload_n hx 0 dX9_isDigit_0 rfl ?_
  refine j_bipush hx dX9_isDigit_1 rfl ?_
  refine j_icmp_lt hx 16 dX9_isDigit_3 rfl (by omega) ⟨by decide, by decide⟩ (fun h1 => ?_) (fun h1 => ?_)
  · skip
    refine j_iconst hx dX9_isDigit_16 ?_
    exact j_zret hx hq rfl (by decide) (by decide) dX9_isDigit_17 (by omega) ⟨0, rfl, rfl, rfl, (by omega)⟩
  · skip
    refine j_iload_n hx 0 dX9_isDigit_6 rfl ?_
    refine j_bipush hx dX9_isDigit_7 rfl ?_
    refine j_icmp_gt hx 16 dX9_isDigit_9 rfl (by omega) ⟨by decide, by decide⟩ (fun h2 => ?_) (fun h2 => ?_)
    · skip
      refine j_iconst hx dX9_isDigit_16 ?_
      exact j_zret hx hq rfl (by decide) (by decide) dX9_isDigit_17 (by omega) ⟨0, rfl, rfl, rfl, (by omega)⟩
    · skip
      refine j_iconst hx dX9_isDigit_12 ?_
      refine j_goto hx 17 dX9_isDigit_13 rfl ?_
      exact j_zret hx hq rfl (by decide) (by decide) dX9_isDigit_17 (by omega) ⟨1, rfl, rfl, rfl, (by omega)⟩

set_option maxHeartbeats 4000000 in
set_option maxRecDepth 20000 in
theorem c_X9_here {E : zE} {l : Launch} (hst : l.stackTraces = false) (a : Nat) : Con E l yX9_here cX9_here 1 (some .int) { frames := 0, cells := 0, slots := 0, locals := 0 } (fun G s vs => vs = [.ref a] ∧ zGK G ∧ zSK G s ∧ (gT G a = 10)) (fun G s _ => pI (fun r G2 s2 => G2 = G ∧ s2 = s ∧ ((-2147483648) ≤ r ∧ r ≤ 2147483647))) := by
  refine Con.mk hst (by decide) (fun G s vs h => by rw [h.1]; exact Nat.le_of_ble_eq_true rfl) ?_
  rintro X G s0 vs ⟨rfl, hG, hS0, ha⟩ rfl hx hq
  show JJ X E 1 G s0 0 0 [(0, .ref a)] 0 []
  refine j_aload_n hx 0 dX9_here_0 rfl ?_
  have f1 := zf hS0 ha (k := 3) rfl
  refine g10_3 hx hG ha kf_RX9_31 rfl dX9_here_1 ?_
  refine j_if_lt hx 46 dX9_here_4 rfl (by omega) (fun h2 => ?_) (fun h2 => ?_)
  · skip
    refine j_iconst hx dX9_here_46 ?_
    exact j_iret hx hq rfl (by decide) (by decide) dX9_here_47 ⟨(-1), rfl, rfl, rfl, (by omega)⟩
  · skip
    refine j_aload_n hx 0 dX9_here_7 rfl ?_
    refine g10_3 hx hG ha kf_RX9_31 rfl dX9_here_8 ?_
    refine j_aload_n hx 0 dX9_here_11 rfl ?_
    have f3 := zf hS0 ha (k := 2) rfl
    refine g10_2 hx hG ha kf_RX9_28 rfl dX9_here_12 ?_
    refine j_icmp_ge hx 46 dX9_here_15 rfl (by omega) (by omega) (fun h4 => ?_) (fun h4 => ?_)
    · skip
      refine j_iconst hx dX9_here_46 ?_
      exact j_iret hx hq rfl (by decide) (by decide) dX9_here_47 ⟨(-1), rfl, rfl, rfl, (by omega)⟩
    · skip
      refine j_aload_n hx 0 dX9_here_18 rfl ?_
      refine g10_3 hx hG ha kf_RX9_31 rfl dX9_here_19 ?_
      refine j_aload_n hx 0 dX9_here_22 rfl ?_
      refine g10_0 hx hG ha kf_RX9_11 dX9_here_23 ?_
      refine j_alen hx hG (zr (k := 0) (t2 := 45) hG ha rfl) (by decide) (by decide) (zlen hG (zr (k := 0) (t2 := 45) hG ha rfl) (n := 600) rfl rfl) dX9_here_26 ?_
      refine j_icmp_ge hx 46 dX9_here_27 rfl (by omega) ⟨by decide, by decide⟩ (fun h5 => ?_) (fun h5 => ?_)
      · skip
        refine j_iconst hx dX9_here_46 ?_
        exact j_iret hx hq rfl (by decide) (by decide) dX9_here_47 ⟨(-1), rfl, rfl, rfl, (by omega)⟩
      · skip
        refine j_aload_n hx 0 dX9_here_30 rfl ?_
        refine g10_0 hx hG ha kf_RX9_11 dX9_here_31 ?_
        refine j_aload_n hx 0 dX9_here_34 rfl ?_
        refine g10_3 hx hG ha kf_RX9_31 rfl dX9_here_35 ?_
        have f6 := zaI (j := ((s0 a 3)).toNat) hS0 (zr (k := 0) (t2 := 45) hG ha rfl) rfl (zlen hG (zr (k := 0) (t2 := 45) hG ha rfl) (n := 600) rfl rfl) (show 0 ≤ (s0 a 3) by omega) (by omega) rfl
        refine j_bald hx hG (zr (k := 0) (t2 := 45) hG ha rfl) (by decide) rfl (zlen hG (zr (k := 0) (t2 := 45) hG ha rfl) (n := 600) rfl rfl) (by omega) (by omega) (j := ((s0 a 3)).toNat) rfl rfl dX9_here_38 ?_
        refine j_sipush hx dX9_here_39 rfl ?_
        refine j_iand hx dX9_here_42 (by omega) ⟨by decide, by decide⟩ (fun v7 f8 f9 f10 f11 _ => ?_)
        refine j_goto hx 47 dX9_here_43 rfl ?_
        exact j_iret hx hq rfl (by decide) (by decide) dX9_here_47 ⟨v7, rfl, rfl, rfl, (by omega)⟩

theorem lk_RX9_65 : LkS RX9 65 yX9_isDigit cX9_isDigit 1 (some .boolean) 1 := ⟨km_RX9_65, kst_yX9_isDigit, kn_RX9, kc_yX9_isDigit, by decide +kernel, by decide +kernel, by decide +kernel⟩
theorem lk_RX9_37 : LkV RX9 37 RX9 yX9_failIf cX9_failIf 4 none 3 := ⟨km_RX9_37, ki_yX9_failIf, ks_RX9_yX9_failIf, kn_RX9, kc_yX9_failIf, rfl, by decide +kernel, by decide +kernel, by decide +kernel⟩
theorem lk_RX9_68 : LkV RX9 68 RX9 yX9_here cX9_here 1 (some .int) 0 := ⟨km_RX9_68, ki_yX9_here, ks_RX9_yX9_here, kn_RX9, kc_yX9_here, rfl, by decide +kernel, by decide +kernel, by decide +kernel⟩
set_option maxHeartbeats 4000000 in
set_option maxRecDepth 20000 in
theorem c_X9_takeNumber {E : zE} {l : Launch} (hst : l.stackTraces = false) (a : Nat) (x1 : Int) (x2 : Int) : Con E l yX9_takeNumber cX9_takeNumber 6 (some .int) { frames := 1, cells := 0, slots := 0, locals := 33 } (fun G s vs => vs = [.ref a, .int (zI x1), .int (zI x2)] ∧ zGK G ∧ zSK G s ∧ (gT G a = 10) ∧ ((-2147483648) ≤ x1 ∧ x1 ≤ 2147483647) ∧ ((-2147483648) ≤ x2 ∧ x2 ≤ 2147483647)) (fun G s _ => pI (fun r G2 s2 => G2 = G ∧ zSK G s2 ∧ zFr [10] G s s2 ∧ ((-2147483648) ≤ r ∧ r ≤ 2147483647))) := by
  refine Con.mk hst (by decide) (fun G s vs h => by rw [h.1]; exact Nat.le_of_ble_eq_true rfl) ?_
  rintro X G s0 vs ⟨rfl, hG, hS0, ha, hx1, hx2⟩ rfl hx hq
  show JJ X E 6 G s0 0 0 [(0, .ref a), (1, .int (zI x1)), (2, .int (zI x2))] 0 []
  refine j_aload_n hx 0 dX9_takeNumber_0 rfl ?_
  have f1 := zf hS0 ha (k := 4) rfl
  refine g10_4 hx hG ha kf_RX9_34 rfl dX9_takeNumber_1 ?_
  refine j_if_eq hx 9 dX9_takeNumber_4 rfl (by omega) (fun h2 => ?_) (fun h2 => ?_)
  · skip
    refine j_aload_n hx 0 dX9_takeNumber_9 rfl ?_
    refine j_callV hx hG (c_X9_peek hst a) lk_RX9_49 ha (by decide) rfl rfl rfl rfl [] ⟨rfl, hG, hS0, ha⟩ rfl rfl ⟨by decide, by decide⟩ ⟨by decide, by decide⟩ (k2 := 0) (n2 := 0) rfl rfl (Nat.le_of_ble_eq_true rfl) dX9_takeNumber_10 (kIM (fun v3 s1 hS_s1 hF_s1 q4 => ?_))
    refine j_callS hx (c_X9_isDigit hst v3) lk_RX9_65 [.int (zI v3)] ⟨rfl, hG, hS_s1, (by omega)⟩ rfl rfl ⟨by decide, by decide⟩ ⟨by decide, by decide⟩ (k2 := 0) (n2 := 0) rfl rfl (Nat.le_of_ble_eq_true rfl) dX9_takeNumber_13 (kIP (fun v5 q6 => ?_))
    refine j_if_ne hx 31 dX9_takeNumber_16 rfl (by omega) (fun h7 => ?_) (fun h7 => ?_)
    · skip
      refine j_aload_n hx 0 dX9_takeNumber_31 rfl ?_
      have f8 := zf hS_s1 ha (k := 3) rfl
      refine g10_3 hx hG ha kf_RX9_31 rfl dX9_takeNumber_32 ?_
      refine j_istore_n hx [(3, .int (zI ((s1 a 3)))), (0, .ref a), (1, .int (zI x1)), (2, .int (zI x2))] dX9_takeNumber_35 (by decide) rfl ?_
      refine j_iconst hx dX9_takeNumber_36 ?_
      refine j_istore hx [(4, .int (zI 0)), (3, .int (zI ((s1 a 3)))), (0, .ref a), (1, .int (zI x1)), (2, .int (zI x2))] dX9_takeNumber_37 (by decide) rfl ?_
      refine j_iconst hx dX9_takeNumber_39 ?_
      refine j_istore hx [(5, .int (zI 0)), (4, .int (zI 0)), (3, .int (zI ((s1 a 3)))), (0, .ref a), (1, .int (zI x1)), (2, .int (zI x2))] dX9_takeNumber_40 (by decide) rfl ?_
      have c42_2 : ∀ (m_c42_2 : Nat) (v9 : Int) (v10 : Int) (s3 : zS), 2147483648 - v10 < m_c42_2 → ((-2147483648) ≤ v9 ∧ v9 ≤ 1000000) → (0 ≤ v10 ∧ v10 ≤ 600) → (zSK G s3) → (zFr [10] G s1 s3) → JJ X E 6 G s3 0 0 [(0, .ref a), (1, .int (zI x1)), (2, .int (zI x2)), (3, .int (zI ((s1 a 3)))), (4, .int (zI v9)), (5, .int (zI v10))] 42 [] := by
        intro m_c42_2
        induction m_c42_2 with
        | zero => intro v9 v10 s3 hm_c42_2 fA4 fA5 hS_s3 hF_s3; exfalso; omega
        | succ m_c42_2 ih_c42_2 => 
          intro v9 v10 s3 hm_c42_2 fA4 fA5 hS_s3 hF_s3
          refine j_iload hx 5 dX9_takeNumber_42 rfl ?_
          refine j_aload_n hx 0 dX9_takeNumber_44 rfl ?_
          refine g10_0 hx hG ha kf_RX9_11 dX9_takeNumber_45 ?_
          refine j_alen hx hG (zr (k := 0) (t2 := 45) hG ha rfl) (by decide) (by decide) (zlen hG (zr (k := 0) (t2 := 45) hG ha rfl) (n := 600) rfl rfl) dX9_takeNumber_48 ?_
          have c98_8 : JJ X E 6 G s3 0 0 [(0, .ref a), (1, .int (zI x1)), (2, .int (zI x2)), (3, .int (zI ((s1 a 3)))), (4, .int (zI v9))] 98 [] := by
            refine j_aload_n hx 0 dX9_takeNumber_98 rfl ?_
            refine j_iload hx 4 dX9_takeNumber_99 rfl ?_
            refine j_iload_n hx 1 dX9_takeNumber_101 rfl ?_
            have c116_9 : ∀ (v11 : Int), (0 ≤ v11 ∧ v11 ≤ 1) → JJ X E 6 G s3 0 0 [(0, .ref a), (1, .int (zI x1)), (3, .int (zI ((s1 a 3)))), (4, .int (zI v9))] 116 [.int (zI v11), .ref a] := by
              intro v11 fA10
              refine j_iconst hx dX9_takeNumber_116 ?_
              refine j_iload_n hx 2 dX9_takeNumber_117 rfl ?_
              refine j_callV hx hG (c_X9_failIf hst a v11 2 ((s1 a 3))) lk_RX9_37 ha (by decide) rfl rfl rfl rfl [.int (zI v11), .int (zI 2), .int (zI ((s1 a 3)))] ⟨rfl, hG, hS_s3, ha, (by omega), (by omega), (by omega)⟩ rfl rfl ⟨by decide, by decide⟩ ⟨by decide, by decide⟩ (k2 := 0) (n2 := 0) rfl rfl (Nat.le_of_ble_eq_true rfl) dX9_takeNumber_118 (kVM (fun s11 hS_s11 hF_s11 q13 => ?_))
              refine j_aload_n hx 0 dX9_takeNumber_121 rfl ?_
              have f14 := zf hS_s11 ha (k := 4) rfl
              refine g10_4 hx hG ha kf_RX9_34 rfl dX9_takeNumber_122 ?_
              refine j_if_ne hx 133 dX9_takeNumber_125 rfl (by omega) (fun h15 => ?_) (fun h15 => ?_)
              · skip
                refine j_iload_n hx 1 dX9_takeNumber_133 rfl ?_
                exact j_iret hx hq rfl (by decide) (by decide) dX9_takeNumber_134 ⟨x1, rfl, rfl, hS_s11, (zFr_t (zFr_t (zFr_t zFr_rf hF_s1 (by decide)) hF_s3 (by decide)) hF_s11 (by decide)), (by omega)⟩
              · skip
                refine j_iload hx 3 dX9_takeNumber_128 rfl ?_
                refine j_goto hx 134 dX9_takeNumber_130 rfl ?_
                exact j_iret hx hq rfl (by decide) (by decide) dX9_takeNumber_134 ⟨v9, rfl, rfl, hS_s11, (zFr_t (zFr_t (zFr_t zFr_rf hF_s1 (by decide)) hF_s3 (by decide)) hF_s11 (by decide)), (by omega)⟩
            have c111_12 : JJ X E 6 G s3 0 0 [(0, .ref a), (1, .int (zI x1)), (3, .int (zI ((s1 a 3)))), (4, .int (zI v9))] 111 [.ref a] := by
              refine j_iconst hx dX9_takeNumber_111 ?_
              refine j_goto hx 116 dX9_takeNumber_112 rfl ?_
              exact j_sub [0, 1, 2, 3] [(0, .ref a), (1, .int (zI x1)), (3, .int (zI ((s1 a 3)))), (4, .int (zI v9))] rfl (c116_9 1 (by omega))
            refine j_icmp_lt hx 111 dX9_takeNumber_102 rfl (by omega) (by omega) (fun h16 => ?_) (fun h16 => ?_)
            · skip
              exact j_sub [0, 1, 3, 4] [(0, .ref a), (1, .int (zI x1)), (3, .int (zI ((s1 a 3)))), (4, .int (zI v9))] rfl (c111_12  )
            · skip
              refine j_iload hx 4 dX9_takeNumber_105 rfl ?_
              refine j_iload_n hx 2 dX9_takeNumber_107 rfl ?_
              refine j_icmp_le hx 115 dX9_takeNumber_108 rfl (by omega) (by omega) (fun h17 => ?_) (fun h17 => ?_)
              · skip
                refine j_iconst hx dX9_takeNumber_115 ?_
                exact j_sub [0, 1, 3, 4] [(0, .ref a), (1, .int (zI x1)), (3, .int (zI ((s1 a 3)))), (4, .int (zI v9))] rfl (c116_9 0 (by omega))
              · skip
                exact j_sub [0, 1, 3, 4] [(0, .ref a), (1, .int (zI x1)), (3, .int (zI ((s1 a 3)))), (4, .int (zI v9))] rfl (c111_12  )
          refine j_icmp_ge hx 98 dX9_takeNumber_49 rfl (by omega) ⟨by decide, by decide⟩ (fun h18 => ?_) (fun h18 => ?_)
          · skip
            exact j_sub [0, 1, 2, 3, 4] [(0, .ref a), (1, .int (zI x1)), (2, .int (zI x2)), (3, .int (zI ((s1 a 3)))), (4, .int (zI v9))] rfl (c98_8  )
          · skip
            refine j_aload_n hx 0 dX9_takeNumber_52 rfl ?_
            refine j_callV hx hG (c_X9_here hst a) lk_RX9_68 ha (by decide) rfl rfl rfl rfl [] ⟨rfl, hG, hS_s3, ha⟩ rfl rfl ⟨by decide, by decide⟩ ⟨by decide, by decide⟩ (k2 := 0) (n2 := 0) rfl rfl (Nat.le_of_ble_eq_true rfl) dX9_takeNumber_53 (kIP (fun v19 q20 => ?_))
            refine j_callS hx (c_X9_isDigit hst v19) lk_RX9_65 [.int (zI v19)] ⟨rfl, hG, hS_s3, (by omega)⟩ rfl rfl ⟨by decide, by decide⟩ ⟨by decide, by decide⟩ (k2 := 0) (n2 := 0) rfl rfl (Nat.le_of_ble_eq_true rfl) dX9_takeNumber_56 (kIP (fun v21 q22 => ?_))
            refine j_if_eq hx 98 dX9_takeNumber_59 rfl (by omega) (fun h23 => ?_) (fun h23 => ?_)
            · skip
              exact j_sub [0, 1, 2, 3, 4] [(0, .ref a), (1, .int (zI x1)), (2, .int (zI x2)), (3, .int (zI ((s1 a 3)))), (4, .int (zI v9))] rfl (c98_8  )
            · skip
              refine j_ldc hx (c := 1000000) dX9_takeNumber_62 kk_RX9_71 (by decide) ?_
              refine j_iload hx 4 dX9_takeNumber_64 rfl ?_
              refine j_bipush hx dX9_takeNumber_66 rfl ?_
              refine j_imul hx (r := 10 * v9) dX9_takeNumber_68 (by omega) ?_
              refine j_norm (fun v24 f25 f26 f27 => ?_)
              refine j_aload_n hx 0 dX9_takeNumber_69 rfl ?_
              refine j_callV hx hG (c_X9_here hst a) lk_RX9_68 ha (by decide) rfl rfl rfl rfl [] ⟨rfl, hG, hS_s3, ha⟩ rfl rfl ⟨by decide, by decide⟩ ⟨by decide, by decide⟩ (k2 := 0) (n2 := 0) rfl rfl (Nat.le_of_ble_eq_true rfl) dX9_takeNumber_70 (kIP (fun v28 q29 => ?_))
              refine j_iadd hx (r := v24 + v28) dX9_takeNumber_73 rfl ?_
              refine j_norm (fun v30 f31 f32 f33 => ?_)
              refine j_bipush hx dX9_takeNumber_74 rfl ?_
              refine j_isub hx (r := v30 - 48) dX9_takeNumber_76 rfl ?_
              refine j_norm (fun v34 f35 f36 f37 => ?_)
              refine j_mmin hx km_RX9_22 kst_min kn_RJ9 kc_Lib_Math_min_name ⟨by decide, by decide⟩ (by omega) ⟨by decide, Nat.le_of_ble_eq_true rfl⟩ ⟨by decide, by decide⟩ dX9_takeNumber_77 (fun v38 f39 f40 f41 => ?_)
              refine j_istore hx [(4, .int (zI v38)), (0, .ref a), (1, .int (zI x1)), (2, .int (zI x2)), (3, .int (zI ((s1 a 3)))), (5, .int (zI v10))] dX9_takeNumber_80 (by decide) rfl ?_
              refine j_aload_n hx 1 dX9_takeNumber_82 rfl ?_
              refine j_dup hx dX9_takeNumber_83 rfl ?_
              have f42 := zf hS_s3 ha (k := 3) rfl
              refine g10_3 hx hG ha kf_RX9_31 rfl dX9_takeNumber_84 ?_
              refine j_iconst hx dX9_takeNumber_87 ?_
              refine j_iadd hx (r := (s3 a 3) + 1) dX9_takeNumber_88 (by omega) ?_
              refine j_norm (fun v43 f44 f45 f46 => ?_)
              refine p10_3 hx hG ha kf_RX9_31 dX9_takeNumber_89 ?_
              obtain ⟨s13, e_s13⟩ : ∃ z, z = zU s3 a 3 v43 := ⟨_, rfl⟩
              rw [← e_s13]
              have hS_s13 : zSK G s13 := by rw [e_s13]; exact zSK_F hS_s3 ha rfl rfl rfl (by omega)
              refine j_iinc hx 5 [(5, .int (zI (v10 + 1))), (4, .int (zI v38)), (0, .ref a), (1, .int (zI x1)), (2, .int (zI x2)), (3, .int (zI ((s1 a 3))))] dX9_takeNumber_92 rfl (by omega) (by decide) rfl ?_
              refine j_goto hx 42 dX9_takeNumber_95 rfl ?_
              exact j_sub [2, 3, 4, 5, 1, 0] [(0, .ref a), (1, .int (zI x1)), (2, .int (zI x2)), (3, .int (zI ((s1 a 3)))), (4, .int (zI v38)), (5, .int (zI (v10 + 1)))] rfl (ih_c42_2 v38 (v10 + 1) s13 (by omega) (by omega) (by omega) hS_s13 (zFr_u (zFr_t zFr_rf hF_s3 (by decide)) e_s13 ha (by decide)))
      exact j_sub [3, 4, 5, 2, 1, 0] [(0, .ref a), (1, .int (zI x1)), (2, .int (zI x2)), (3, .int (zI ((s1 a 3)))), (4, .int (zI 0)), (5, .int (zI 0))] rfl (c42_2 (2147483648 * 4) 0 0 s1 (by omega) (by omega) (by omega) hS_s1 zFr_rf)
    · skip
      refine j_aload_n hx 0 dX9_takeNumber_19 rfl ?_
      refine j_iconst hx dX9_takeNumber_20 ?_
      refine j_iconst hx dX9_takeNumber_21 ?_
      refine j_aload_n hx 0 dX9_takeNumber_22 rfl ?_
      have f47 := zf hS_s1 ha (k := 3) rfl
      refine g10_3 hx hG ha kf_RX9_31 rfl dX9_takeNumber_23 ?_
      refine j_callV hx hG (c_X9_failIf hst a 1 1 ((s1 a 3))) lk_RX9_37 ha (by decide) rfl rfl rfl rfl [.int (zI 1), .int (zI 1), .int (zI ((s1 a 3)))] ⟨rfl, hG, hS_s1, ha, (by omega), (by omega), (by omega)⟩ rfl rfl ⟨by decide, by decide⟩ ⟨by decide, by decide⟩ (k2 := 0) (n2 := 0) rfl rfl (Nat.le_of_ble_eq_true rfl) dX9_takeNumber_26 (kVM (fun s14 hS_s14 hF_s14 q49 => ?_))
      refine j_iload_n hx 1 dX9_takeNumber_29 rfl ?_
      exact j_iret hx hq rfl (by decide) (by decide) dX9_takeNumber_30 ⟨x1, rfl, rfl, hS_s14, (zFr_t (zFr_t zFr_rf hF_s1 (by decide)) hF_s14 (by decide)), (by omega)⟩
  · skip
    refine j_iload_n hx 1 dX9_takeNumber_7 rfl ?_
    exact j_iret hx hq rfl (by decide) (by decide) dX9_takeNumber_8 ⟨x1, rfl, rfl, hS0, zFr_rf, (by omega)⟩

set_option maxHeartbeats 4000000 in
set_option maxRecDepth 20000 in
theorem c_X9_needSign {E : zE} {l : Launch} (hst : l.stackTraces = false) (a : Nat) (x1 : Int) : Con E l yX9_needSign cX9_needSign 3 none { frames := 1, cells := 0, slots := 0, locals := 23 } (fun G s vs => vs = [.ref a, .int (zI x1)] ∧ zGK G ∧ zSK G s ∧ (gT G a = 10) ∧ (0 ≤ x1 ∧ x1 ≤ 65535)) (fun G s _ => pV (fun G2 s2 => G2 = G ∧ zSK G s2 ∧ zFr [10] G s s2 ∧ True)) := by
  refine Con.mk hst (by decide) (fun G s vs h => by rw [h.1]; exact Nat.le_of_ble_eq_true rfl) ?_
  rintro X G s0 vs ⟨rfl, hG, hS0, ha, hx1⟩ rfl hx hq
  show JJ X E 3 G s0 0 0 [(0, .ref a), (1, .int (zI x1))] 0 []
  refine j_aload_n hx 0 dX9_needSign_0 rfl ?_
  refine j_callV hx hG (c_X9_peek hst a) lk_RX9_49 ha (by decide) rfl rfl rfl rfl [] ⟨rfl, hG, hS0, ha⟩ rfl rfl ⟨by decide, by decide⟩ ⟨by decide, by decide⟩ (k2 := 0) (n2 := 0) rfl rfl (Nat.le_of_ble_eq_true rfl) dX9_needSign_1 (kIM (fun v1 s1 hS_s1 hF_s1 q2 => ?_))
  refine j_iload_n hx 1 dX9_needSign_4 rfl ?_
  have c13_2 : ∀ (v3 : Int), (0 ≤ v3 ∧ v3 ≤ 1) → JJ X E 3 G s1 0 0 [(0, .ref a)] 13 [.int (zI v3)] := by
    intro v3 fA3
    refine j_istore_n hx [(2, .int (zI v3)), (0, .ref a)] dX9_needSign_13 (by decide) rfl ?_
    refine j_aload_n hx 1 dX9_needSign_14 rfl ?_
    refine j_iload_n hx 0 dX9_needSign_15 rfl ?_
    have c24_4 : ∀ (v4 : Int), (0 ≤ v4 ∧ v4 ≤ 1) → JJ X E 3 G s1 0 0 [(0, .ref a), (2, .int (zI v3))] 24 [.int (zI v4), .ref a] := by
      intro v4 fA5
      refine j_iconst hx dX9_needSign_24 ?_
      refine j_aload_n hx 0 dX9_needSign_25 rfl ?_
      have f5 := zf hS_s1 ha (k := 3) rfl
      refine g10_3 hx hG ha kf_RX9_31 rfl dX9_needSign_26 ?_
      refine j_callV hx hG (c_X9_failIf hst a v4 1 ((s1 a 3))) lk_RX9_37 ha (by decide) rfl rfl rfl rfl [.int (zI v4), .int (zI 1), .int (zI ((s1 a 3)))] ⟨rfl, hG, hS_s1, ha, (by omega), (by omega), (by omega)⟩ rfl rfl ⟨by decide, by decide⟩ ⟨by decide, by decide⟩ (k2 := 0) (n2 := 0) rfl rfl (Nat.le_of_ble_eq_true rfl) dX9_needSign_29 (kVM (fun s6 hS_s6 hF_s6 q7 => ?_))
      refine j_aload_n hx 0 dX9_needSign_32 rfl ?_
      refine j_dup hx dX9_needSign_33 rfl ?_
      have f8 := zf hS_s6 ha (k := 3) rfl
      refine g10_3 hx hG ha kf_RX9_31 rfl dX9_needSign_34 ?_
      refine j_iload_n hx 1 dX9_needSign_37 rfl ?_
      refine j_if_eq hx 45 dX9_needSign_38 rfl (by omega) (fun h9 => ?_) (fun h9 => ?_)
      · skip
        refine j_iconst hx dX9_needSign_45 ?_
        refine j_iadd hx (r := (s6 a 3)) dX9_needSign_46 (by omega) ?_
        refine p10_3 hx hG ha kf_RX9_31 dX9_needSign_47 ?_
        obtain ⟨s7, e_s7⟩ : ∃ z, z = zU s6 a 3 ((s6 a 3)) := ⟨_, rfl⟩
        rw [← e_s7]
        have hS_s7 : zSK G s7 := by rw [e_s7]; exact zSK_F hS_s6 ha rfl rfl rfl (by omega)
        exact j_vret hx hq rfl (by decide) (by decide) dX9_needSign_50 ⟨rfl, rfl, hS_s7, (zFr_u (zFr_t (zFr_t zFr_rf hF_s1 (by decide)) hF_s6 (by decide)) e_s7 ha (by decide)), trivial⟩
      · skip
        refine j_iconst hx dX9_needSign_41 ?_
        refine j_goto hx 46 dX9_needSign_42 rfl ?_
        refine j_iadd hx (r := (s6 a 3) + 1) dX9_needSign_46 (by omega) ?_
        refine j_norm (fun v10 f11 f12 f13 => ?_)
        refine p10_3 hx hG ha kf_RX9_31 dX9_needSign_47 ?_
        obtain ⟨s8, e_s8⟩ : ∃ z, z = zU s6 a 3 v10 := ⟨_, rfl⟩
        rw [← e_s8]
        have hS_s8 : zSK G s8 := by rw [e_s8]; exact zSK_F hS_s6 ha rfl rfl rfl (by omega)
        exact j_vret hx hq rfl (by decide) (by decide) dX9_needSign_50 ⟨rfl, rfl, hS_s8, (zFr_u (zFr_t (zFr_t zFr_rf hF_s1 (by decide)) hF_s6 (by decide)) e_s8 ha (by decide)), trivial⟩
    refine j_if_ne hx 23 dX9_needSign_16 rfl (by omega) (fun h14 => ?_) (fun h14 => ?_)
    · skip
      refine j_iconst hx dX9_needSign_23 ?_
      exact j_sub [1, 0] [(0, .ref a), (2, .int (zI v3))] rfl (c24_4 0 (by omega))
    · skip
      refine j_iconst hx dX9_needSign_19 ?_
      refine j_goto hx 24 dX9_needSign_20 rfl ?_
      exact j_sub [1, 0] [(0, .ref a), (2, .int (zI v3))] rfl (c24_4 1 (by omega))
  refine j_icmp_ne hx 12 dX9_needSign_5 rfl (by omega) (by omega) (fun h15 => ?_) (fun h15 => ?_)
  · skip
    refine j_iconst hx dX9_needSign_12 ?_
    exact j_sub [0] [(0, .ref a)] rfl (c13_2 0 (by omega))
  · skip
    refine j_iconst hx dX9_needSign_8 ?_
    refine j_goto hx 13 dX9_needSign_9 rfl ?_
    exact j_sub [0] [(0, .ref a)] rfl (c13_2 1 (by omega))

set_option maxHeartbeats 4000000 in
set_option maxRecDepth 20000 in
theorem c_X1_add {E : zE} {l : Launch} (hst : l.stackTraces = false) (a : Nat) (x1 : Int) (x2 : Int) : Con E l yX1_add cX1_add 3 none { frames := 0, cells := 0, slots := 0, locals := 0 } (fun G s vs => vs = [.ref a, .int (zI x1), .int (zI x2)] ∧ zGK G ∧ zSK G s ∧ (gT G a = 2) ∧ ((-2147483648) ≤ x1 ∧ x1 ≤ 2147483647) ∧ ((-2147483648) ≤ x2 ∧ x2 ≤ 2147483647)) (fun G s _ => pV (fun G2 s2 => G2 = G ∧ zSK G s2 ∧ zFr [2, 47, 48] G s s2 ∧ True)) := by
  refine Con.mk hst (by decide) (fun G s vs h => by rw [h.1]; exact Nat.le_of_ble_eq_true rfl) ?_
  rintro X G s0 vs ⟨rfl, hG, hS0, ha, hx1, hx2⟩ rfl hx hq
  show JJ X E 3 G s0 0 0 [(0, .ref a), (1, .int (zI x1)), (2, .int (zI x2))] 0 []
  refine j_aload_n hx 0 dX1_add_0 rfl ?_
  have f1 := zf hS0 ha (k := 2) rfl
  refine g2_2 hx hG ha kf_RX1_18 rfl dX1_add_1 ?_
  refine j_if_lt hx 61 dX1_add_4 rfl (by omega) (fun h2 => ?_) (fun h2 => ?_)
  · skip
    exact j_vret hx hq rfl (by decide) (by decide) dX1_add_61 ⟨rfl, rfl, hS0, zFr_rf, trivial⟩
  · skip
    refine j_aload_n hx 0 dX1_add_7 rfl ?_
    refine g2_2 hx hG ha kf_RX1_18 rfl dX1_add_8 ?_
    refine j_aload_n hx 0 dX1_add_11 rfl ?_
    refine g2_0 hx hG ha kf_RX1_11 dX1_add_12 ?_
    refine j_alen hx hG (zr (k := 0) (t2 := 47) hG ha rfl) (by decide) (by decide) (zlen hG (zr (k := 0) (t2 := 47) hG ha rfl) (n := 12) rfl rfl) dX1_add_15 ?_
    refine j_icmp_ge hx 61 dX1_add_16 rfl (by omega) ⟨by decide, by decide⟩ (fun h3 => ?_) (fun h3 => ?_)
    · skip
      exact j_vret hx hq rfl (by decide) (by decide) dX1_add_61 ⟨rfl, rfl, hS0, zFr_rf, trivial⟩
    · skip
      refine j_aload_n hx 0 dX1_add_19 rfl ?_
      refine g2_2 hx hG ha kf_RX1_18 rfl dX1_add_20 ?_
      refine j_aload_n hx 0 dX1_add_23 rfl ?_
      refine g2_1 hx hG ha kf_RX1_15 dX1_add_24 ?_
      refine j_alen hx hG (zr (k := 1) (t2 := 48) hG ha rfl) (by decide) (by decide) (zlen hG (zr (k := 1) (t2 := 48) hG ha rfl) (n := 12) rfl rfl) dX1_add_27 ?_
      refine j_icmp_ge hx 61 dX1_add_28 rfl (by omega) ⟨by decide, by decide⟩ (fun h4 => absurd h4 (by omega)) (fun h4 => ?_)
      refine j_aload_n hx 0 dX1_add_31 rfl ?_
      refine g2_0 hx hG ha kf_RX1_11 dX1_add_32 ?_
      refine j_aload_n hx 0 dX1_add_35 rfl ?_
      refine g2_2 hx hG ha kf_RX1_18 rfl dX1_add_36 ?_
      refine j_iload_n hx 1 dX1_add_39 rfl ?_
      refine j_iast hx hG (zr (k := 0) (t2 := 47) hG ha rfl) (by decide) rfl (zlen hG (zr (k := 0) (t2 := 47) hG ha rfl) (n := 12) rfl rfl) (by omega) (by omega) (j := ((s0 a 2)).toNat) rfl dX1_add_40 ?_
      obtain ⟨s1, e_s1⟩ : ∃ z, z = zU s0 (gP G a 0) ((s0 a 2)).toNat x1 := ⟨_, rfl⟩
      rw [← e_s1]
      have hS_s1 : zSK G s1 := by rw [e_s1]; exact zSK_A hS0 (zr (k := 0) (t2 := 47) hG ha rfl) rfl rfl rfl (by omega)
      refine j_aload_n hx 0 dX1_add_41 rfl ?_
      refine g2_1 hx hG ha kf_RX1_15 dX1_add_42 ?_
      refine j_aload_n hx 0 dX1_add_45 rfl ?_
      refine g2_2 hx hG ha kf_RX1_18 (v := (s0 a 2)) (by rw [e_s1, zU_at (Or.inl (zne (zr (k := 0) (t2 := 47) hG ha rfl) ha (by decide)))]) dX1_add_46 ?_
      refine j_iload_n hx 2 dX1_add_49 rfl ?_
      refine j_iast hx hG (zr (k := 1) (t2 := 48) hG ha rfl) (by decide) rfl (zlen hG (zr (k := 1) (t2 := 48) hG ha rfl) (n := 12) rfl rfl) (by omega) (by omega) (j := ((s0 a 2)).toNat) rfl dX1_add_50 ?_
      obtain ⟨s2, e_s2⟩ : ∃ z, z = zU s1 (gP G a 1) ((s0 a 2)).toNat x2 := ⟨_, rfl⟩
      rw [← e_s2]
      have hS_s2 : zSK G s2 := by rw [e_s2]; exact zSK_A hS_s1 (zr (k := 1) (t2 := 48) hG ha rfl) rfl rfl rfl (by omega)
      refine j_aload_n hx 0 dX1_add_51 rfl ?_
      refine j_dup hx dX1_add_52 rfl ?_
      refine g2_2 hx hG ha kf_RX1_18 (v := (s0 a 2)) (by rw [e_s2, zU_at (Or.inl (zne (zr (k := 1) (t2 := 48) hG ha rfl) ha (by decide))), e_s1, zU_at (Or.inl (zne (zr (k := 0) (t2 := 47) hG ha rfl) ha (by decide)))]) dX1_add_53 ?_
      refine j_iconst hx dX1_add_56 ?_
      refine j_iadd hx (r := (s0 a 2) + 1) dX1_add_57 (by omega) ?_
      refine p2_2 hx hG ha kf_RX1_18 dX1_add_58 ?_
      obtain ⟨s3, e_s3⟩ : ∃ z, z = zU s2 a 2 ((s0 a 2) + 1) := ⟨_, rfl⟩
      rw [← e_s3]
      have hS_s3 : zSK G s3 := by rw [e_s3]; exact zSK_F hS_s2 ha rfl rfl rfl (by omega)
      exact j_vret hx hq rfl (by decide) (by decide) dX1_add_61 ⟨rfl, rfl, hS_s3, (zFr_u (zFr_u (zFr_u zFr_rf e_s1 (zr (k := 0) (t2 := 47) hG ha rfl) (by decide)) e_s2 (zr (k := 1) (t2 := 48) hG ha rfl) (by decide)) e_s3 ha (by decide)), trivial⟩

theorem lk_RX1_38 : LkV RX1 38 RX9 yX9_peek cX9_peek 2 (some .int) 0 := ⟨km_RX1_38, ki_yX9_peek, ks_RX9_yX9_peek, kn_RX9, kc_yX9_peek, rfl, by decide +kernel, by decide +kernel, by decide +kernel⟩
theorem lk_RX1_45 : LkV RX1 45 RX9 yX9_takeNumber cX9_takeNumber 6 (some .int) 2 := ⟨km_RX1_45, ki_yX9_takeNumber, ks_RX9_yX9_takeNumber, kn_RX9, kc_yX9_takeNumber, rfl, by decide +kernel, by decide +kernel, by decide +kernel⟩
theorem lk_RX1_49 : LkV RX1 49 RX9 yX9_failIf cX9_failIf 4 none 3 := ⟨km_RX1_49, ki_yX9_failIf, ks_RX9_yX9_failIf, kn_RX9, kc_yX9_failIf, rfl, by decide +kernel, by decide +kernel, by decide +kernel⟩
theorem lk_RX1_53 : LkV RX1 53 RX9 yX9_needSign cX9_needSign 3 none 1 := ⟨km_RX1_53, ki_yX9_needSign, ks_RX9_yX9_needSign, kn_RX9, kc_yX9_needSign, rfl, by decide +kernel, by decide +kernel, by decide +kernel⟩
theorem lk_RX1_29 : LkV RX1 29 RX1 yX1_add cX1_add 3 none 2 := ⟨km_RX1_29, ki_yX1_add, ks_RX1_yX1_add, kn_RX1, kc_yX1_add, rfl, by decide +kernel, by decide +kernel, by decide +kernel⟩
set_option maxHeartbeats 4000000 in
set_option maxRecDepth 20000 in
theorem c_X1_read {E : zE} {l : Launch} (hst : l.stackTraces = false) (a : Nat) (b1 : Nat) (x2 : Int) : Con E l yX1_read cX1_read 7 none { frames := 2, cells := 0, slots := 0, locals := 58 } (fun G s vs => vs = [.ref a, .ref b1, .int (zI x2)] ∧ zGK G ∧ zSK G s ∧ (gT G a = 2) ∧ (gT G b1 = 10) ∧ ((-2147483648) ≤ x2 ∧ x2 ≤ 2147483647)) (fun G s _ => pV (fun G2 s2 => G2 = G ∧ zSK G s2 ∧ zFr [2, 10, 47, 48] G s s2 ∧ True)) := by
  refine Con.mk hst (by decide) (fun G s vs h => by rw [h.1]; exact Nat.le_of_ble_eq_true rfl) ?_
  rintro X G s0 vs ⟨rfl, hG, hS0, ha, hb1, hx2⟩ rfl hx hq
  show JJ X E 7 G s0 0 0 [(0, .ref a), (1, .ref b1), (2, .int (zI x2))] 0 []
  refine j_aload_n hx 0 dX1_read_0 rfl ?_
  refine j_iconst hx dX1_read_1 ?_
  refine p2_2 hx hG ha kf_RX1_18 dX1_read_2 ?_
  obtain ⟨s1, e_s1⟩ : ∃ z, z = zU s0 a 2 0 := ⟨_, rfl⟩
  rw [← e_s1]
  have hS_s1 : zSK G s1 := by rw [e_s1]; exact zSK_F hS0 ha rfl rfl rfl (by omega)
  refine j_iconst hx dX1_read_5 ?_
  refine j_istore_n hx [(3, .int (zI 0)), (0, .ref a), (1, .ref b1), (2, .int (zI x2))] dX1_read_6 (by decide) rfl ?_
  have c7_2 : ∀ (m_c7_2 : Nat) (v1 : Int) (s3 : zS), 2147483648 - v1 < m_c7_2 → (0 ≤ v1 ∧ v1 ≤ 13) → (zSK G s3) → (zFr [2, 10, 47, 48] G s1 s3) → JJ X E 7 G s3 0 0 [(0, .ref a), (1, .ref b1), (2, .int (zI x2)), (3, .int (zI v1))] 7 [] := by
    intro m_c7_2
    induction m_c7_2 with
    | zero => intro v1 s3 hm_c7_2 fA4 hS_s3 hF_s3; exfalso; omega
    | succ m_c7_2 ih_c7_2 => 
      intro v1 s3 hm_c7_2 fA4 hS_s3 hF_s3
      refine j_iload_n hx 3 dX1_read_7 rfl ?_
      refine j_bipush hx dX1_read_8 rfl ?_
      refine j_icmp_gt hx 92 dX1_read_10 rfl (by omega) ⟨by decide, by decide⟩ (fun h2 => ?_) (fun h2 => ?_)
      · skip
        exact j_vret hx hq rfl (by decide) (by decide) dX1_read_92 ⟨rfl, rfl, hS_s3, (zFr_t (zFr_u zFr_rf e_s1 ha (by decide)) hF_s3 (by decide)), trivial⟩
      · skip
        refine j_aload_n hx 1 dX1_read_13 rfl ?_
        have f3 := zf hS_s3 hb1 (k := 4) rfl
        refine gN10_4 hx hG hb1 kf_RX1_33 rfl dX1_read_14 ?_
        refine j_if_ne hx 92 dX1_read_17 rfl (by omega) (fun h4 => ?_) (fun h4 => ?_)
        · skip
          exact j_vret hx hq rfl (by decide) (by decide) dX1_read_92 ⟨rfl, rfl, hS_s3, (zFr_t (zFr_u zFr_rf e_s1 ha (by decide)) hF_s3 (by decide)), trivial⟩
        · skip
          refine j_aload_n hx 1 dX1_read_20 rfl ?_
          refine j_callV hx hG (c_X9_peek hst b1) lk_RX1_38 hb1 (by decide) rfl rfl rfl rfl [] ⟨rfl, hG, hS_s3, hb1⟩ rfl rfl ⟨by decide, by decide⟩ ⟨by decide, by decide⟩ (k2 := 0) (n2 := 0) rfl rfl (Nat.le_of_ble_eq_true rfl) dX1_read_21 (kIM (fun v5 s7 hS_s7 hF_s7 q6 => ?_))
          refine j_iconst hx dX1_read_24 ?_
          refine j_icmp_eq hx 92 dX1_read_25 rfl (by omega) ⟨by decide, by decide⟩ (fun h7 => ?_) (fun h7 => ?_)
          · skip
            exact j_vret hx hq rfl (by decide) (by decide) dX1_read_92 ⟨rfl, rfl, hS_s7, (zFr_t (zFr_t (zFr_u zFr_rf e_s1 ha (by decide)) hF_s3 (by decide)) hF_s7 (by decide)), trivial⟩
          · skip
            refine j_aload_n hx 1 dX1_read_28 rfl ?_
            have f8 := zf hS_s7 hb1 (k := 3) rfl
            refine gN10_3 hx hG hb1 kf_RX1_42 rfl dX1_read_29 ?_
            refine j_istore hx [(4, .int (zI ((s7 b1 3)))), (0, .ref a), (1, .ref b1), (2, .int (zI x2)), (3, .int (zI v1))] dX1_read_32 (by decide) rfl ?_
            refine j_aload_n hx 2 dX1_read_34 rfl ?_
            refine j_iconst hx dX1_read_35 ?_
            refine j_sipush hx dX1_read_36 rfl ?_
            refine j_callV hx hG (c_X9_takeNumber hst b1 0 9999) lk_RX1_45 hb1 (by decide) rfl rfl rfl rfl [.int (zI 0), .int (zI 9999)] ⟨rfl, hG, hS_s7, hb1, (by omega), (by omega)⟩ rfl rfl ⟨by decide, by decide⟩ ⟨by decide, by decide⟩ (k2 := 0) (n2 := 0) rfl rfl (Nat.le_of_ble_eq_true rfl) dX1_read_39 (kIM (fun v9 s8 hS_s8 hF_s8 q10 => ?_))
            refine j_istore hx [(5, .int (zI v9)), (4, .int (zI ((s7 b1 3)))), (0, .ref a), (1, .ref b1), (2, .int (zI x2)), (3, .int (zI v1))] dX1_read_42 (by decide) rfl ?_
            refine j_aload_n hx 3 dX1_read_44 rfl ?_
            refine j_iload_n hx 5 dX1_read_45 rfl ?_
            refine j_bipush hx dX1_read_46 rfl ?_
            have c56_9 : ∀ (v11 : Int), (0 ≤ v11 ∧ v11 ≤ 1) → JJ X E 7 G s8 0 0 [(0, .ref a), (1, .ref b1), (2, .int (zI x2)), (3, .int (zI v1)), (4, .int (zI ((s7 b1 3)))), (5, .int (zI v9))] 56 [.int (zI v11), .ref b1] := by
              intro v11 fA10
              refine j_iconst hx dX1_read_56 ?_
              refine j_iload hx 4 dX1_read_57 rfl ?_
              refine j_callV hx hG (c_X9_failIf hst b1 v11 3 ((s7 b1 3))) lk_RX1_49 hb1 (by decide) rfl rfl rfl rfl [.int (zI v11), .int (zI 3), .int (zI ((s7 b1 3)))] ⟨rfl, hG, hS_s8, hb1, (by omega), (by omega), (by omega)⟩ rfl rfl ⟨by decide, by decide⟩ ⟨by decide, by decide⟩ (k2 := 0) (n2 := 0) rfl rfl (Nat.le_of_ble_eq_true rfl) dX1_read_59 (kVM (fun s11 hS_s11 hF_s11 q13 => ?_))
              refine j_aload_n hx 1 dX1_read_62 rfl ?_
              refine j_iconst hx dX1_read_63 ?_
              refine j_iload_n hx 2 dX1_read_64 rfl ?_
              refine j_iconst hx dX1_read_65 ?_
              refine j_isub hx (r := x2 - 1) dX1_read_66 rfl ?_
              refine j_norm (fun v14 f15 f16 f17 => ?_)
              refine j_callV hx hG (c_X9_takeNumber hst b1 0 v14) lk_RX1_45 hb1 (by decide) rfl rfl rfl rfl [.int (zI 0), .int (zI v14)] ⟨rfl, hG, hS_s11, hb1, (by omega), (by omega)⟩ rfl rfl ⟨by decide, by decide⟩ ⟨by decide, by decide⟩ (k2 := 0) (n2 := 0) rfl rfl (Nat.le_of_ble_eq_true rfl) dX1_read_67 (kIM (fun v18 s12 hS_s12 hF_s12 q19 => ?_))
              refine j_istore hx [(6, .int (zI v18)), (0, .ref a), (1, .ref b1), (2, .int (zI x2)), (3, .int (zI v1)), (4, .int (zI ((s7 b1 3)))), (5, .int (zI v9))] dX1_read_70 (by decide) rfl ?_
              refine j_aload_n hx 2 dX1_read_72 rfl ?_
              refine j_bipush hx dX1_read_73 rfl ?_
              refine j_callV hx hG (c_X9_needSign hst b1 59) lk_RX1_53 hb1 (by decide) rfl rfl rfl rfl [.int (zI 59)] ⟨rfl, hG, hS_s12, hb1, (by omega)⟩ rfl rfl ⟨by decide, by decide⟩ ⟨by decide, by decide⟩ (k2 := 0) (n2 := 0) rfl rfl (Nat.le_of_ble_eq_true rfl) dX1_read_75 (kVM (fun s13 hS_s13 hF_s13 q21 => ?_))
              refine j_aload_n hx 1 dX1_read_78 rfl ?_
              refine j_iload hx 6 dX1_read_79 rfl ?_
              refine j_iload hx 0 dX1_read_81 rfl ?_
              refine j_callV hx hG (c_X1_add hst a v9 v18) lk_RX1_29 ha (by decide) rfl rfl rfl rfl [.int (zI v9), .int (zI v18)] ⟨rfl, hG, hS_s13, ha, (by omega), (by omega)⟩ rfl rfl ⟨by decide, by decide⟩ ⟨by decide, by decide⟩ (k2 := 0) (n2 := 0) rfl rfl (Nat.le_of_ble_eq_true rfl) dX1_read_83 (kVM (fun s14 hS_s14 hF_s14 q23 => ?_))
              refine j_iinc hx 4 [(3, .int (zI (v1 + 1))), (6, .int (zI v18)), (0, .ref a), (1, .ref b1), (2, .int (zI x2)), (4, .int (zI ((s7 b1 3)))), (5, .int (zI v9))] dX1_read_86 rfl (by omega) (by decide) rfl ?_
              refine j_goto hx 7 dX1_read_89 rfl ?_
              exact j_sub [2, 3, 4, 0] [(0, .ref a), (1, .ref b1), (2, .int (zI x2)), (3, .int (zI (v1 + 1)))] rfl (ih_c7_2 (v1 + 1) s14 (by omega) (by omega) hS_s14 (zFr_t (zFr_t (zFr_t (zFr_t (zFr_t (zFr_t (zFr_t zFr_rf hF_s3 (by decide)) hF_s7 (by decide)) hF_s8 (by decide)) hF_s11 (by decide)) hF_s12 (by decide)) hF_s13 (by decide)) hF_s14 (by decide)))
            refine j_icmp_lt hx 55 dX1_read_48 rfl (by omega) ⟨by decide, by decide⟩ (fun h24 => ?_) (fun h24 => ?_)
            · skip
              refine j_iconst hx dX1_read_55 ?_
              exact j_sub [2, 3, 4, 5, 1, 0] [(0, .ref a), (1, .ref b1), (2, .int (zI x2)), (3, .int (zI v1)), (4, .int (zI ((s7 b1 3)))), (5, .int (zI v9))] rfl (c56_9 0 (by omega))
            · skip
              refine j_iconst hx dX1_read_51 ?_
              refine j_goto hx 56 dX1_read_52 rfl ?_
              exact j_sub [2, 3, 4, 5, 1, 0] [(0, .ref a), (1, .ref b1), (2, .int (zI x2)), (3, .int (zI v1)), (4, .int (zI ((s7 b1 3)))), (5, .int (zI v9))] rfl (c56_9 1 (by omega))
  exact j_sub [1, 2, 3, 0] [(0, .ref a), (1, .ref b1), (2, .int (zI x2)), (3, .int (zI 0))] rfl (c7_2 (2147483648 * 4) 0 s1 (by omega) (by omega) hS_s1 zFr_rf)

set_option maxHeartbeats 4000000 in
set_option maxRecDepth 20000 in
theorem c_X1_turnAt {E : zE} {l : Launch} (hst : l.stackTraces = false) (a : Nat) (x1 : Int) : Con E l yX1_turnAt cX1_turnAt 2 (some .int) { frames := 0, cells := 0, slots := 0, locals := 0 } (fun G s vs => vs = [.ref a, .int (zI x1)] ∧ zGK G ∧ zSK G s ∧ (gT G a = 2) ∧ ((-2147483648) ≤ x1 ∧ x1 ≤ 2147483647)) (fun G s _ => pI (fun r G2 s2 => G2 = G ∧ s2 = s ∧ ((-2147483648) ≤ r ∧ r ≤ 2147483647))) := by
  refine Con.mk hst (by decide) (fun G s vs h => by rw [h.1]; exact Nat.le_of_ble_eq_true rfl) ?_
  rintro X G s0 vs ⟨rfl, hG, hS0, ha, hx1⟩ rfl hx hq
  show JJ X E 2 G s0 0 0 [(0, .ref a), (1, .int (zI x1))] 0 []
  refine j_iload_n hx 1 dX1_turnAt_0 rfl ?_
  refine j_if_lt hx 30 dX1_turnAt_1 rfl (by omega) (fun h1 => ?_) (fun h1 => ?_)
  · skip
    refine j_iconst hx dX1_turnAt_30 ?_
    exact j_iret hx hq rfl (by decide) (by decide) dX1_turnAt_31 ⟨(-1), rfl, rfl, rfl, (by omega)⟩
  · skip
    refine j_iload_n hx 1 dX1_turnAt_4 rfl ?_
    refine j_aload_n hx 0 dX1_turnAt_5 rfl ?_
    have f2 := zf hS0 ha (k := 2) rfl
    refine g2_2 hx hG ha kf_RX1_18 rfl dX1_turnAt_6 ?_
    refine j_icmp_ge hx 30 dX1_turnAt_9 rfl (by omega) (by omega) (fun h3 => ?_) (fun h3 => ?_)
    · skip
      refine j_iconst hx dX1_turnAt_30 ?_
      exact j_iret hx hq rfl (by decide) (by decide) dX1_turnAt_31 ⟨(-1), rfl, rfl, rfl, (by omega)⟩
    · skip
      refine j_iload_n hx 1 dX1_turnAt_12 rfl ?_
      refine j_aload_n hx 0 dX1_turnAt_13 rfl ?_
      refine g2_0 hx hG ha kf_RX1_11 dX1_turnAt_14 ?_
      refine j_alen hx hG (zr (k := 0) (t2 := 47) hG ha rfl) (by decide) (by decide) (zlen hG (zr (k := 0) (t2 := 47) hG ha rfl) (n := 12) rfl rfl) dX1_turnAt_17 ?_
      refine j_icmp_ge hx 30 dX1_turnAt_18 rfl (by omega) ⟨by decide, by decide⟩ (fun h4 => ?_) (fun h4 => ?_)
      · skip
        refine j_iconst hx dX1_turnAt_30 ?_
        exact j_iret hx hq rfl (by decide) (by decide) dX1_turnAt_31 ⟨(-1), rfl, rfl, rfl, (by omega)⟩
      · skip
        refine j_aload_n hx 0 dX1_turnAt_21 rfl ?_
        refine g2_0 hx hG ha kf_RX1_11 dX1_turnAt_22 ?_
        refine j_iload_n hx 1 dX1_turnAt_25 rfl ?_
        have f5 := zaI (j := (x1).toNat) hS0 (zr (k := 0) (t2 := 47) hG ha rfl) rfl (zlen hG (zr (k := 0) (t2 := 47) hG ha rfl) (n := 12) rfl rfl) (show 0 ≤ x1 by omega) (by omega) rfl
        refine j_iald hx hG (zr (k := 0) (t2 := 47) hG ha rfl) (by decide) rfl (zlen hG (zr (k := 0) (t2 := 47) hG ha rfl) (n := 12) rfl rfl) (by omega) (by omega) (j := (x1).toNat) rfl rfl dX1_turnAt_26 ?_
        refine j_goto hx 31 dX1_turnAt_27 rfl ?_
        exact j_iret hx hq rfl (by decide) (by decide) dX1_turnAt_31 ⟨(s0 (gP G a 0) (x1).toNat), rfl, rfl, rfl, (by omega)⟩

set_option maxHeartbeats 4000000 in
set_option maxRecDepth 20000 in
theorem c_X1_playerAt {E : zE} {l : Launch} (hst : l.stackTraces = false) (a : Nat) (x1 : Int) : Con E l yX1_playerAt cX1_playerAt 2 (some .int) { frames := 0, cells := 0, slots := 0, locals := 0 } (fun G s vs => vs = [.ref a, .int (zI x1)] ∧ zGK G ∧ zSK G s ∧ (gT G a = 2) ∧ ((-2147483648) ≤ x1 ∧ x1 ≤ 2147483647)) (fun G s _ => pI (fun r G2 s2 => G2 = G ∧ s2 = s ∧ ((-2147483648) ≤ r ∧ r ≤ 2147483647))) := by
  refine Con.mk hst (by decide) (fun G s vs h => by rw [h.1]; exact Nat.le_of_ble_eq_true rfl) ?_
  rintro X G s0 vs ⟨rfl, hG, hS0, ha, hx1⟩ rfl hx hq
  show JJ X E 2 G s0 0 0 [(0, .ref a), (1, .int (zI x1))] 0 []
  refine j_iload_n hx 1 dX1_playerAt_0 rfl ?_
  refine j_if_lt hx 30 dX1_playerAt_1 rfl (by omega) (fun h1 => ?_) (fun h1 => ?_)
  · skip
    refine j_iconst hx dX1_playerAt_30 ?_
    exact j_iret hx hq rfl (by decide) (by decide) dX1_playerAt_31 ⟨(-1), rfl, rfl, rfl, (by omega)⟩
  · skip
    refine j_iload_n hx 1 dX1_playerAt_4 rfl ?_
    refine j_aload_n hx 0 dX1_playerAt_5 rfl ?_
    have f2 := zf hS0 ha (k := 2) rfl
    refine g2_2 hx hG ha kf_RX1_18 rfl dX1_playerAt_6 ?_
    refine j_icmp_ge hx 30 dX1_playerAt_9 rfl (by omega) (by omega) (fun h3 => ?_) (fun h3 => ?_)
    · skip
      refine j_iconst hx dX1_playerAt_30 ?_
      exact j_iret hx hq rfl (by decide) (by decide) dX1_playerAt_31 ⟨(-1), rfl, rfl, rfl, (by omega)⟩
    · skip
      refine j_iload_n hx 1 dX1_playerAt_12 rfl ?_
      refine j_aload_n hx 0 dX1_playerAt_13 rfl ?_
      refine g2_1 hx hG ha kf_RX1_15 dX1_playerAt_14 ?_
      refine j_alen hx hG (zr (k := 1) (t2 := 48) hG ha rfl) (by decide) (by decide) (zlen hG (zr (k := 1) (t2 := 48) hG ha rfl) (n := 12) rfl rfl) dX1_playerAt_17 ?_
      refine j_icmp_ge hx 30 dX1_playerAt_18 rfl (by omega) ⟨by decide, by decide⟩ (fun h4 => ?_) (fun h4 => ?_)
      · skip
        refine j_iconst hx dX1_playerAt_30 ?_
        exact j_iret hx hq rfl (by decide) (by decide) dX1_playerAt_31 ⟨(-1), rfl, rfl, rfl, (by omega)⟩
      · skip
        refine j_aload_n hx 0 dX1_playerAt_21 rfl ?_
        refine g2_1 hx hG ha kf_RX1_15 dX1_playerAt_22 ?_
        refine j_iload_n hx 1 dX1_playerAt_25 rfl ?_
        have f5 := zaI (j := (x1).toNat) hS0 (zr (k := 1) (t2 := 48) hG ha rfl) rfl (zlen hG (zr (k := 1) (t2 := 48) hG ha rfl) (n := 12) rfl rfl) (show 0 ≤ x1 by omega) (by omega) rfl
        refine j_iald hx hG (zr (k := 1) (t2 := 48) hG ha rfl) (by decide) rfl (zlen hG (zr (k := 1) (t2 := 48) hG ha rfl) (n := 12) rfl rfl) (by omega) (by omega) (j := (x1).toNat) rfl rfl dX1_playerAt_26 ?_
        refine j_goto hx 31 dX1_playerAt_27 rfl ?_
        exact j_iret hx hq rfl (by decide) (by decide) dX1_playerAt_31 ⟨(s0 (gP G a 1) (x1).toNat), rfl, rfl, rfl, (by omega)⟩

theorem lk_RX1_22 : LkV RX1 22 RX1 yX1_turnAt cX1_turnAt 2 (some .int) 1 := ⟨km_RX1_22, ki_yX1_turnAt, ks_RX1_yX1_turnAt, kn_RX1, kc_yX1_turnAt, rfl, by decide +kernel, by decide +kernel, by decide +kernel⟩
theorem lk_RX1_26 : LkV RX1 26 RX1 yX1_playerAt cX1_playerAt 2 (some .int) 1 := ⟨km_RX1_26, ki_yX1_playerAt, ks_RX1_yX1_playerAt, kn_RX1, kc_yX1_playerAt, rfl, by decide +kernel, by decide +kernel, by decide +kernel⟩
set_option maxHeartbeats 4000000 in
set_option maxRecDepth 20000 in
theorem c_X1_become {E : zE} {l : Launch} (hst : l.stackTraces = false) (a : Nat) (b1 : Nat) : Con E l yX1_become cX1_become 3 none { frames := 1, cells := 0, slots := 0, locals := 22 } (fun G s vs => vs = [.ref a, .ref b1] ∧ zGK G ∧ zSK G s ∧ (gT G a = 2) ∧ (gT G b1 = 2)) (fun G s _ => pV (fun G2 s2 => G2 = G ∧ zSK G s2 ∧ zFr [2, 47, 48] G s s2 ∧ True)) := by
  refine Con.mk hst (by decide) (fun G s vs h => by rw [h.1]; exact Nat.le_of_ble_eq_true rfl) ?_
  rintro X G s0 vs ⟨rfl, hG, hS0, ha, hb1⟩ rfl hx hq
  show JJ X E 3 G s0 0 0 [(0, .ref a), (1, .ref b1)] 0 []
  refine j_aload_n hx 0 dX1_become_0 rfl ?_
  refine j_iconst hx dX1_become_1 ?_
  refine p2_2 hx hG ha kf_RX1_18 dX1_become_2 ?_
  obtain ⟨s1, e_s1⟩ : ∃ z, z = zU s0 a 2 0 := ⟨_, rfl⟩
  rw [← e_s1]
  have hS_s1 : zSK G s1 := by rw [e_s1]; exact zSK_F hS0 ha rfl rfl rfl (by omega)
  refine j_iconst hx dX1_become_5 ?_
  refine j_istore_n hx [(2, .int (zI 0)), (0, .ref a), (1, .ref b1)] dX1_become_6 (by decide) rfl ?_
  have c7_2 : ∀ (m_c7_2 : Nat) (v1 : Int) (s3 : zS), 2147483648 - v1 < m_c7_2 → (0 ≤ v1 ∧ v1 ≤ 2147483647) → (zSK G s3) → (zFr [2, 47, 48] G s1 s3) → JJ X E 3 G s3 0 0 [(0, .ref a), (1, .ref b1), (2, .int (zI v1))] 7 [] := by
    intro m_c7_2
    induction m_c7_2 with
    | zero => intro v1 s3 hm_c7_2 fA4 hS_s3 hF_s3; exfalso; omega
    | succ m_c7_2 ih_c7_2 => 
      intro v1 s3 hm_c7_2 fA4 hS_s3 hF_s3
      refine j_iload_n hx 2 dX1_become_7 rfl ?_
      refine j_aload_n hx 1 dX1_become_8 rfl ?_
      have f2 := zf hS_s3 hb1 (k := 2) rfl
      refine g2_2 hx hG hb1 kf_RX1_18 rfl dX1_become_9 ?_
      refine j_icmp_ge hx 35 dX1_become_12 rfl (by omega) (by omega) (fun h3 => ?_) (fun h3 => ?_)
      · skip
        exact j_vret hx hq rfl (by decide) (by decide) dX1_become_35 ⟨rfl, rfl, hS_s3, (zFr_t (zFr_u zFr_rf e_s1 ha (by decide)) hF_s3 (by decide)), trivial⟩
      · skip
        refine j_aload_n hx 0 dX1_become_15 rfl ?_
        refine j_aload_n hx 1 dX1_become_16 rfl ?_
        refine j_iload_n hx 2 dX1_become_17 rfl ?_
        refine j_callV hx hG (c_X1_turnAt hst b1 v1) lk_RX1_22 hb1 (by decide) rfl rfl rfl rfl [.int (zI v1)] ⟨rfl, hG, hS_s3, hb1, (by omega)⟩ rfl rfl ⟨by decide, by decide⟩ ⟨by decide, by decide⟩ (k2 := 0) (n2 := 0) rfl rfl (Nat.le_of_ble_eq_true rfl) dX1_become_18 (kIP (fun v4 q5 => ?_))
        refine j_aload_n hx 1 dX1_become_21 rfl ?_
        refine j_iload_n hx 2 dX1_become_22 rfl ?_
        refine j_callV hx hG (c_X1_playerAt hst b1 v1) lk_RX1_26 hb1 (by decide) rfl rfl rfl rfl [.int (zI v1)] ⟨rfl, hG, hS_s3, hb1, (by omega)⟩ rfl rfl ⟨by decide, by decide⟩ ⟨by decide, by decide⟩ (k2 := 0) (n2 := 0) rfl rfl (Nat.le_of_ble_eq_true rfl) dX1_become_23 (kIP (fun v6 q7 => ?_))
        refine j_callV hx hG (c_X1_add hst a v4 v6) lk_RX1_29 ha (by decide) rfl rfl rfl rfl [.int (zI v4), .int (zI v6)] ⟨rfl, hG, hS_s3, ha, (by omega), (by omega)⟩ rfl rfl ⟨by decide, by decide⟩ ⟨by decide, by decide⟩ (k2 := 0) (n2 := 0) rfl rfl (Nat.le_of_ble_eq_true rfl) dX1_become_26 (kVM (fun s7 hS_s7 hF_s7 q9 => ?_))
        refine j_iinc hx 2 [(2, .int (zI (v1 + 1))), (0, .ref a), (1, .ref b1)] dX1_become_29 rfl (by omega) (by decide) rfl ?_
        refine j_goto hx 7 dX1_become_32 rfl ?_
        exact j_sub [1, 2, 0] [(0, .ref a), (1, .ref b1), (2, .int (zI (v1 + 1)))] rfl (ih_c7_2 (v1 + 1) s7 (by omega) (by omega) hS_s7 (zFr_t (zFr_t zFr_rf hF_s3 (by decide)) hF_s7 (by decide)))
  exact j_sub [1, 2, 0] [(0, .ref a), (1, .ref b1), (2, .int (zI 0))] rfl (c7_2 (2147483648 * 4) 0 s1 (by omega) (by omega) hS_s1 zFr_rf)

set_option maxHeartbeats 4000000 in
set_option maxRecDepth 20000 in
theorem c_X9_close {E : zE} {l : Launch} (hst : l.stackTraces = false) (a : Nat) (x1 : Int) : Con E l yX9_close cX9_close 2 (some .int) { frames := 0, cells := 0, slots := 0, locals := 0 } (fun G s vs => vs = [.ref a, .int (zI x1)] ∧ zGK G ∧ zSK G s ∧ (gT G a = 10) ∧ ((-2147483648) ≤ x1 ∧ x1 ≤ 2147483647)) (fun G s _ => pI (fun r G2 s2 => G2 = G ∧ zSK G s2 ∧ zFr [10] G s s2 ∧ ((-2147483648) ≤ r ∧ r ≤ 2147483647))) := by
  refine Con.mk hst (by decide) (fun G s vs h => by rw [h.1]; exact Nat.le_of_ble_eq_true rfl) ?_
  rintro X G s0 vs ⟨rfl, hG, hS0, ha, hx1⟩ rfl hx hq
  show JJ X E 2 G s0 0 0 [(0, .ref a), (1, .int (zI x1))] 0 []
  refine j_aload_n hx 0 dX9_close_0 rfl ?_
  refine j_iconst hx dX9_close_1 ?_
  refine p10_1 hx hG ha kf_RX9_19 dX9_close_2 ?_
  obtain ⟨s1, e_s1⟩ : ∃ z, z = zU s0 a 1 0 := ⟨_, rfl⟩
  rw [← e_s1]
  have hS_s1 : zSK G s1 := by rw [e_s1]; exact zSK_F hS0 ha rfl rfl rfl (by omega)
  refine j_aload_n hx 0 dX9_close_5 rfl ?_
  have f1 := zf hS0 ha (k := 4) rfl
  refine g10_4 hx hG ha kf_RX9_34 (v := (s0 a 4)) (by rw [e_s1, zU_at (Or.inr (by decide))]) dX9_close_6 ?_
  refine j_if_ne hx 16 dX9_close_9 rfl (by omega) (fun h2 => ?_) (fun h2 => ?_)
  · skip
    refine j_aload_n hx 0 dX9_close_16 rfl ?_
    refine g10_4 hx hG ha kf_RX9_34 (v := (s0 a 4)) (by rw [e_s1, zU_at (Or.inr (by decide))]) dX9_close_17 ?_
    refine j_bipush hx dX9_close_20 rfl ?_
    refine j_isub hx (r := (s0 a 4) - 10) dX9_close_22 (by omega) ?_
    refine j_norm (fun v3 f4 f5 f6 => ?_)
    exact j_iret hx hq rfl (by decide) (by decide) dX9_close_23 ⟨v3, rfl, rfl, hS_s1, (zFr_u zFr_rf e_s1 ha (by decide)), (by omega)⟩
  · skip
    refine j_iload_n hx 1 dX9_close_12 rfl ?_
    refine j_goto hx 23 dX9_close_13 rfl ?_
    exact j_iret hx hq rfl (by decide) (by decide) dX9_close_23 ⟨x1, rfl, rfl, hS_s1, (zFr_u zFr_rf e_s1 ha (by decide)), (by omega)⟩

theorem lk_RX11_98 : LkV RX11 98 RX11 yX11_needRange cX11_needRange 4 none 3 := ⟨km_RX11_98, ki_yX11_needRange, ks_RX11_yX11_needRange, kn_RX11, kc_yX11_needRange, rfl, by decide +kernel, by decide +kernel, by decide +kernel⟩
theorem lk_RX11_102 : LkV RX11 102 RX9 yX9_open cX9_open 2 none 1 := ⟨km_RX11_102, ki_yX9_open, ks_RX9_yX9_open, kn_RX9, kc_yX9_open, rfl, by decide +kernel, by decide +kernel, by decide +kernel⟩
theorem lk_RX11_146 : LkV RX11 146 RX1 yX1_read cX1_read 7 none 2 := ⟨km_RX11_146, ki_yX1_read, ks_RX1_yX1_read, kn_RX1, kc_yX1_read, rfl, by decide +kernel, by decide +kernel, by decide +kernel⟩
theorem lk_RX11_130 : LkV RX11 130 RX9 yX9_close cX9_close 2 (some .int) 1 := ⟨km_RX11_130, ki_yX9_close, ks_RX9_yX9_close, kn_RX9, kc_yX9_close, rfl, by decide +kernel, by decide +kernel, by decide +kernel⟩
theorem lk_RX11_149 : LkV RX11 149 RX1 yX1_become cX1_become 3 none 1 := ⟨km_RX11_149, ki_yX1_become, ks_RX1_yX1_become, kn_RX1, kc_yX1_become, rfl, by decide +kernel, by decide +kernel, by decide +kernel⟩
set_option maxHeartbeats 4000000 in
set_option maxRecDepth 20000 in
theorem c_X11_book {E : zE} {l : Launch} (hst : l.stackTraces = false) (a : Nat) (x1 : Int) : ConX E l yX11_book cX11_book 2 (some .int) { frames := 7, cells := 1, slots := 6, locals := 113 } (fun G s vs => vs = [.ref a, .int (zI x1)] ∧ zGK G ∧ zSK G s ∧ (gT G a = 12) ∧ ((-2147483648) ≤ x1 ∧ x1 ≤ 2147483647)) (fun G s _ => pI (fun r G2 s2 => G2 = G ∧ zSK G s2 ∧ zFr [2, 10, 47, 48] G s s2 ∧ ((-2147483648) ≤ r ∧ r ≤ 2147483647))) (fun G s _ Ex G2 s2 => G2 = G ∧ zSK G s2 ∧ zFr [2, 10, 12, 47, 48] G s s2 ∧ ((Ex = "java/lang/IllegalArgumentException" ∧ (True)))) := by
  refine ConX.mk hst (by decide) (fun G s vs h => by rw [h.1]; exact Nat.le_of_ble_eq_true rfl) ?_
  rintro X G s0 vs ⟨rfl, hG, hS0, ha, hx1⟩ rfl hx hq
  show JJ X E 2 G s0 0 0 [(0, .ref a), (1, .int (zI x1))] 0 []
  refine j_aload_n hx 0 dX11_book_0 rfl ?_
  refine j_iload_n hx 1 dX11_book_1 rfl ?_
  refine j_iconst hx dX11_book_2 ?_
  refine j_bipush hx dX11_book_3 rfl ?_
  refine j_aload_n hx 0 dX11_book_5 rfl ?_
  refine g12_0 hx hG ha kf_RX11_10 dX11_book_6 ?_
  have f1 := zf hS0 (zr (k := 0) (t2 := 10) hG ha rfl) (k := 1) rfl
  refine gN10_1 hx hG (zr (k := 0) (t2 := 10) hG ha rfl) kf_RX11_94 rfl dX11_book_9 ?_
  refine j_mmin hx km_RX11_137 kst_min kn_RJ9 kc_Lib_Math_min_name ⟨by decide, by decide⟩ (by omega) ⟨by decide, Nat.le_of_ble_eq_true rfl⟩ ⟨by decide, by decide⟩ dX11_book_12 (fun v2 f3 f4 f5 => ?_)
  refine j_callVX hx hq hG (c_X11_needRange hst a x1 0 v2) lk_RX11_98 ha (by decide) rfl rfl rfl rfl [.int (zI x1), .int (zI 0), .int (zI v2)] ⟨rfl, hG, hS0, ha, (by omega), (by omega), (by omega)⟩ rfl rfl ⟨by decide, by decide⟩ ⟨by decide, by decide⟩ (k2 := 1) (n2 := 6) rfl rfl (Nat.le_of_ble_eq_true rfl) ⟨by decide, by decide⟩ dX11_book_15 (by rintro Ex9 G9 s9 ⟨rfl, hS9, hF9, e9, c9⟩; exact ⟨rfl, hS9, (zFr_t zFr_rf hF9 (by decide)), ⟨e9, by first | trivial | omega⟩⟩) (kVP (fun q7 => ?_))
  refine j_aload_n hx 0 dX11_book_18 rfl ?_
  refine g12_0 hx hG ha kf_RX11_10 dX11_book_19 ?_
  refine j_iload_n hx 1 dX11_book_22 rfl ?_
  refine j_callV hx hG (c_X9_open hst (gP G a 0) x1) lk_RX11_102 (zr (k := 0) (t2 := 10) hG ha rfl) (by decide) rfl rfl rfl rfl [.int (zI x1)] ⟨rfl, hG, hS0, (zr (k := 0) (t2 := 10) hG ha rfl), (by omega)⟩ rfl rfl ⟨by decide, by decide⟩ ⟨by decide, by decide⟩ (k2 := 1) (n2 := 6) rfl rfl (Nat.le_of_ble_eq_true rfl) dX11_book_23 (kVM (fun s1 hS_s1 hF_s1 q9 => ?_))
  refine j_aload_n hx 0 dX11_book_26 rfl ?_
  refine g12_5 hx hG ha kf_RX11_40 dX11_book_27 ?_
  refine j_aload_n hx 0 dX11_book_30 rfl ?_
  refine g12_0 hx hG ha kf_RX11_10 dX11_book_31 ?_
  refine j_aload_n hx 0 dX11_book_34 rfl ?_
  refine g12_1 hx hG ha kf_RX11_19 dX11_book_35 ?_
  have f10 := zf hS0 (zr (k := 1) (t2 := 9) hG ha rfl) (k := 4) rfl
  refine gN9_4 hx hG (zr (k := 1) (t2 := 9) hG ha rfl) kf_RX11_127 (v := (s0 (gP G a 1) 4)) (by rw [(zFr_g hF_s1 (zr (k := 1) (t2 := 9) hG ha rfl) (by decide))]) dX11_book_38 ?_
  refine j_callV hx hG (c_X1_read hst (gP G a 5) (gP G a 0) ((s0 (gP G a 1) 4))) lk_RX11_146 (zr (k := 5) (t2 := 2) hG ha rfl) (by decide) rfl rfl rfl rfl [.ref (gP G a 0), .int (zI ((s0 (gP G a 1) 4)))] ⟨rfl, hG, hS_s1, (zr (k := 5) (t2 := 2) hG ha rfl), (zr (k := 0) (t2 := 10) hG ha rfl), (by omega)⟩ rfl rfl ⟨by decide, by decide⟩ ⟨by decide, by decide⟩ (k2 := 1) (n2 := 6) rfl rfl (Nat.le_of_ble_eq_true rfl) dX11_book_41 (kVM (fun s2 hS_s2 hF_s2 q12 => ?_))
  refine j_aload_n hx 0 dX11_book_44 rfl ?_
  refine g12_0 hx hG ha kf_RX11_10 dX11_book_45 ?_
  have f13 := zf hS_s2 (zr (k := 0) (t2 := 10) hG ha rfl) (k := 4) rfl
  refine gN10_4 hx hG (zr (k := 0) (t2 := 10) hG ha rfl) kf_RX11_109 rfl dX11_book_48 ?_
  refine j_if_ne hx 65 dX11_book_51 rfl (by omega) (fun h14 => ?_) (fun h14 => ?_)
  · skip
    refine j_aload_n hx 0 dX11_book_65 rfl ?_
    refine g12_0 hx hG ha kf_RX11_10 dX11_book_66 ?_
    refine j_aload_n hx 0 dX11_book_69 rfl ?_
    refine g12_4 hx hG ha kf_RX11_36 dX11_book_70 ?_
    have f15 := zf hS_s2 (zr (k := 4) (t2 := 2) hG ha rfl) (k := 2) rfl
    refine gN2_2 hx hG (zr (k := 4) (t2 := 2) hG ha rfl) kf_RX11_118 rfl dX11_book_73 ?_
    refine j_callV hx hG (c_X9_close hst (gP G a 0) ((s2 (gP G a 4) 2))) lk_RX11_130 (zr (k := 0) (t2 := 10) hG ha rfl) (by decide) rfl rfl rfl rfl [.int (zI ((s2 (gP G a 4) 2)))] ⟨rfl, hG, hS_s2, (zr (k := 0) (t2 := 10) hG ha rfl), (by omega)⟩ rfl rfl ⟨by decide, by decide⟩ ⟨by decide, by decide⟩ (k2 := 1) (n2 := 6) rfl rfl (Nat.le_of_ble_eq_true rfl) dX11_book_76 (kIM (fun v16 s3 hS_s3 hF_s3 q17 => ?_))
    exact j_iret hx hq.r rfl (by decide) (by decide) dX11_book_79 ⟨v16, rfl, rfl, hS_s3, (zFr_t (zFr_t (zFr_t zFr_rf hF_s1 (by decide)) hF_s2 (by decide)) hF_s3 (by decide)), (by omega)⟩
  · skip
    refine j_aload_n hx 0 dX11_book_54 rfl ?_
    refine g12_4 hx hG ha kf_RX11_36 dX11_book_55 ?_
    refine j_aload_n hx 0 dX11_book_58 rfl ?_
    refine g12_5 hx hG ha kf_RX11_40 dX11_book_59 ?_
    refine j_callV hx hG (c_X1_become hst (gP G a 4) (gP G a 5)) lk_RX11_149 (zr (k := 4) (t2 := 2) hG ha rfl) (by decide) rfl rfl rfl rfl [.ref (gP G a 5)] ⟨rfl, hG, hS_s2, (zr (k := 4) (t2 := 2) hG ha rfl), (zr (k := 5) (t2 := 2) hG ha rfl)⟩ rfl rfl ⟨by decide, by decide⟩ ⟨by decide, by decide⟩ (k2 := 1) (n2 := 6) rfl rfl (Nat.le_of_ble_eq_true rfl) dX11_book_62 (kVM (fun s4 hS_s4 hF_s4 q19 => ?_))
    refine j_aload_n hx 0 dX11_book_65 rfl ?_
    refine g12_0 hx hG ha kf_RX11_10 dX11_book_66 ?_
    refine j_aload_n hx 0 dX11_book_69 rfl ?_
    refine g12_4 hx hG ha kf_RX11_36 dX11_book_70 ?_
    have f20 := zf hS_s4 (zr (k := 4) (t2 := 2) hG ha rfl) (k := 2) rfl
    refine gN2_2 hx hG (zr (k := 4) (t2 := 2) hG ha rfl) kf_RX11_118 rfl dX11_book_73 ?_
    refine j_callV hx hG (c_X9_close hst (gP G a 0) ((s4 (gP G a 4) 2))) lk_RX11_130 (zr (k := 0) (t2 := 10) hG ha rfl) (by decide) rfl rfl rfl rfl [.int (zI ((s4 (gP G a 4) 2)))] ⟨rfl, hG, hS_s4, (zr (k := 0) (t2 := 10) hG ha rfl), (by omega)⟩ rfl rfl ⟨by decide, by decide⟩ ⟨by decide, by decide⟩ (k2 := 1) (n2 := 6) rfl rfl (Nat.le_of_ble_eq_true rfl) dX11_book_76 (kIM (fun v21 s5 hS_s5 hF_s5 q22 => ?_))
    exact j_iret hx hq.r rfl (by decide) (by decide) dX11_book_79 ⟨v21, rfl, rfl, hS_s5, (zFr_t (zFr_t (zFr_t (zFr_t zFr_rf hF_s1 (by decide)) hF_s2 (by decide)) hF_s4 (by decide)) hF_s5 (by decide)), (by omega)⟩

set_option maxHeartbeats 4000000 in
set_option maxRecDepth 20000 in
theorem c_X11_fault {E : zE} {l : Launch} (hst : l.stackTraces = false) (a : Nat) : Con E l yX11_fault cX11_fault 1 (some .int) { frames := 0, cells := 0, slots := 0, locals := 0 } (fun G s vs => vs = [.ref a] ∧ zGK G ∧ zSK G s ∧ (gT G a = 12)) (fun G s _ => pI (fun r G2 s2 => G2 = G ∧ s2 = s ∧ ((-2147483648) ≤ r ∧ r ≤ 2147483647))) := by
  refine Con.mk hst (by decide) (fun G s vs h => by rw [h.1]; exact Nat.le_of_ble_eq_true rfl) ?_
  rintro X G s0 vs ⟨rfl, hG, hS0, ha⟩ rfl hx hq
  show JJ X E 1 G s0 0 0 [(0, .ref a)] 0 []
  refine j_aload_n hx 0 dX11_fault_0 rfl ?_
  refine g12_0 hx hG ha kf_RX11_10 dX11_fault_1 ?_
  have f1 := zf hS0 (zr (k := 0) (t2 := 10) hG ha rfl) (k := 5) rfl
  refine gN10_5 hx hG (zr (k := 0) (t2 := 10) hG ha rfl) kf_RX11_152 rfl dX11_fault_4 ?_
  exact j_iret hx hq rfl (by decide) (by decide) dX11_fault_7 ⟨(s0 (gP G a 0) 5), rfl, rfl, rfl, (by omega)⟩

set_option maxHeartbeats 4000000 in
set_option maxRecDepth 20000 in
theorem c_X0_allCards {E : zE} {l : Launch} (hst : l.stackTraces = false) (a : Nat) : Con E l yX0_allCards cX0_allCards 3 (some .int) { frames := 2, cells := 0, slots := 0, locals := 42 } (fun G s vs => vs = [.ref a] ∧ zGK G ∧ zSK G s ∧ (gT G a = 1)) (fun G s _ => pI (fun r G2 s2 => G2 = G ∧ s2 = s ∧ ((-2147483648) ≤ r ∧ r ≤ 2147483647))) := by
  refine Con.mk hst (by decide) (fun G s vs h => by rw [h.1]; exact Nat.le_of_ble_eq_true rfl) ?_
  rintro X G s0 vs ⟨rfl, hG, hS0, ha⟩ rfl hx hq
  show JJ X E 3 G s0 0 0 [(0, .ref a)] 0 []
  refine j_iconst hx dX0_allCards_0 ?_
  refine j_istore_n hx [(1, .int (zI 0)), (0, .ref a)] dX0_allCards_1 (by decide) rfl ?_
  refine j_iconst hx dX0_allCards_2 ?_
  refine j_istore_n hx [(2, .int (zI 0)), (1, .int (zI 0)), (0, .ref a)] dX0_allCards_3 (by decide) rfl ?_
  have c4_1 : ∀ (m_c4_1 : Nat) (v1 : Int) (v2 : Int), 2147483648 - v2 < m_c4_1 → ((-2147483648) ≤ v1 ∧ v1 ≤ 2147483647) → (0 ≤ v2 ∧ v2 ≤ 7) → JJ X E 3 G s0 0 0 [(0, .ref a), (1, .int (zI v1)), (2, .int (zI v2))] 4 [] := by
    intro m_c4_1
    induction m_c4_1 with
    | zero => intro v1 v2 hm_c4_1 fA2 fA3; exfalso; omega
    | succ m_c4_1 ih_c4_1 => 
      intro v1 v2 hm_c4_1 fA2 fA3
      refine j_iload_n hx 2 dX0_allCards_4 rfl ?_
      refine j_bipush hx dX0_allCards_5 rfl ?_
      refine j_icmp_ge hx 27 dX0_allCards_7 rfl (by omega) ⟨by decide, by decide⟩ (fun h3 => ?_) (fun h3 => ?_)
      · skip
        refine j_iload_n hx 1 dX0_allCards_27 rfl ?_
        exact j_iret hx hq rfl (by decide) (by decide) dX0_allCards_28 ⟨v1, rfl, rfl, rfl, (by omega)⟩
      · skip
        refine j_iload_n hx 1 dX0_allCards_10 rfl ?_
        refine j_aload_n hx 0 dX0_allCards_11 rfl ?_
        refine j_iload_n hx 2 dX0_allCards_12 rfl ?_
        refine j_callV hx hG (c_X0_pileOf hst a v2) lk_RX0_47 ha (by decide) rfl rfl rfl rfl [.int (zI v2)] ⟨rfl, hG, hS0, ha, (by omega)⟩ rfl rfl ⟨by decide, by decide⟩ ⟨by decide, by decide⟩ (k2 := 0) (n2 := 0) rfl rfl (Nat.le_of_ble_eq_true rfl) dX0_allCards_13 (kRP (fun r4 q5 => ?_))
        have f6 := zf hS0 q5 (k := 1) rfl
        refine gN7_1 hx hG q5 kf_RX0_43 rfl dX0_allCards_16 ?_
        refine j_iadd hx (r := v1 + (s0 r4 1)) dX0_allCards_19 (by omega) ?_
        refine j_norm (fun v7 f8 f9 f10 => ?_)
        refine j_istore_n hx [(1, .int (zI v7)), (0, .ref a), (2, .int (zI v2))] dX0_allCards_20 (by decide) rfl ?_
        refine j_iinc hx 2 [(2, .int (zI (v2 + 1))), (1, .int (zI v7)), (0, .ref a)] dX0_allCards_21 rfl (by omega) (by decide) rfl ?_
        refine j_goto hx 4 dX0_allCards_24 rfl ?_
        exact j_sub [2, 1, 0] [(0, .ref a), (1, .int (zI v7)), (2, .int (zI (v2 + 1)))] rfl (ih_c4_1 v7 (v2 + 1) (by omega) (by omega) (by omega))
  exact j_sub [2, 1, 0] [(0, .ref a), (1, .int (zI 0)), (2, .int (zI 0))] rfl (c4_1 (2147483648 * 4) 0 0 (by omega) (by omega) (by omega))

set_option maxHeartbeats 4000000 in
set_option maxRecDepth 20000 in
theorem c_X0_isOut {E : zE} {l : Launch} (hst : l.stackTraces = false) (a : Nat) (x1 : Int) : Con E l yX0_isOut cX0_isOut 2 (some .boolean) { frames := 0, cells := 0, slots := 0, locals := 0 } (fun G s vs => vs = [.ref a, .int (zI x1)] ∧ zGK G ∧ zSK G s ∧ (gT G a = 1) ∧ ((-2147483648) ≤ x1 ∧ x1 ≤ 2147483647)) (fun G s _ => pI (fun r G2 s2 => G2 = G ∧ s2 = s ∧ (0 ≤ r ∧ r ≤ 1) ∧ ((r = 0 → 0 ≤ x1 ∧ x1 ≤ 2)))) := by
  refine Con.mk hst (by decide) (fun G s vs h => by rw [h.1]; exact Nat.le_of_ble_eq_true rfl) ?_
  rintro X G s0 vs ⟨rfl, hG, hS0, ha, hx1⟩ rfl hx hq
  show JJ X E 2 G s0 0 0 [(0, .ref a), (1, .int (zI x1))] 0 []
  refine j_iload_n hx 1 dX0_isOut_0 rfl ?_
  refine j_if_lt hx 12 dX0_isOut_1 rfl (by omega) (fun h1 => ?_) (fun h1 => ?_)
  · skip
    refine j_iconst hx dX0_isOut_12 ?_
    exact j_zret hx hq rfl (by decide) (by decide) dX0_isOut_13 (by omega) ⟨1, rfl, rfl, rfl, ⟨(by omega), (by omega)⟩⟩
  · skip
    refine j_iload_n hx 1 dX0_isOut_4 rfl ?_
    refine j_aload_n hx 0 dX0_isOut_5 rfl ?_
    have f2 := zf hS0 ha (k := 7) rfl
    refine g1_7 hx hG ha kf_RX0_50 rfl dX0_isOut_6 ?_
    refine j_icmp_lt hx 14 dX0_isOut_9 rfl (by omega) (by omega) (fun h3 => ?_) (fun h3 => ?_)
    · skip
      refine j_iload_n hx 1 dX0_isOut_14 rfl ?_
      refine j_if_ne hx 42 dX0_isOut_15 rfl (by omega) (fun h4 => ?_) (fun h4 => ?_)
      · skip
        refine j_iload_n hx 1 dX0_isOut_42 rfl ?_
        refine j_iconst hx dX0_isOut_43 ?_
        refine j_icmp_ne hx 73 dX0_isOut_44 rfl (by omega) ⟨by decide, by decide⟩ (fun h5 => ?_) (fun h5 => ?_)
        · skip
          refine j_aload_n hx 0 dX0_isOut_73 rfl ?_
          refine g1_2 hx hG ha kf_RX0_21 dX0_isOut_74 ?_
          have f6 := zf hS0 (zr (k := 2) (t2 := 7) hG ha rfl) (k := 1) rfl
          refine gN7_1 hx hG (zr (k := 2) (t2 := 7) hG ha rfl) kf_RX0_43 rfl dX0_isOut_77 ?_
          refine j_aload_n hx 0 dX0_isOut_80 rfl ?_
          refine g1_5 hx hG ha kf_RX0_30 dX0_isOut_81 ?_
          have f7 := zf hS0 (zr (k := 5) (t2 := 7) hG ha rfl) (k := 1) rfl
          refine gN7_1 hx hG (zr (k := 5) (t2 := 7) hG ha rfl) kf_RX0_43 rfl dX0_isOut_84 ?_
          refine j_iadd hx (r := (s0 (gP G a 2) 1) + (s0 (gP G a 5) 1)) dX0_isOut_87 (by omega) ?_
          refine j_if_ne hx 95 dX0_isOut_88 rfl (by omega) (fun h8 => ?_) (fun h8 => ?_)
          · skip
            refine j_iconst hx dX0_isOut_95 ?_
            exact j_zret hx hq rfl (by decide) (by decide) dX0_isOut_96 (by omega) ⟨0, rfl, rfl, rfl, ⟨(by omega), (by omega)⟩⟩
          · skip
            refine j_iconst hx dX0_isOut_91 ?_
            refine j_goto hx 96 dX0_isOut_92 rfl ?_
            exact j_zret hx hq rfl (by decide) (by decide) dX0_isOut_96 (by omega) ⟨1, rfl, rfl, rfl, ⟨(by omega), (by omega)⟩⟩
        · skip
          refine j_aload_n hx 0 dX0_isOut_47 rfl ?_
          refine g1_1 hx hG ha kf_RX0_18 dX0_isOut_48 ?_
          have f9 := zf hS0 (zr (k := 1) (t2 := 7) hG ha rfl) (k := 1) rfl
          refine gN7_1 hx hG (zr (k := 1) (t2 := 7) hG ha rfl) kf_RX0_43 rfl dX0_isOut_51 ?_
          refine j_aload_n hx 0 dX0_isOut_54 rfl ?_
          refine g1_4 hx hG ha kf_RX0_27 dX0_isOut_55 ?_
          have f10 := zf hS0 (zr (k := 4) (t2 := 7) hG ha rfl) (k := 1) rfl
          refine gN7_1 hx hG (zr (k := 4) (t2 := 7) hG ha rfl) kf_RX0_43 rfl dX0_isOut_58 ?_
          refine j_iadd hx (r := (s0 (gP G a 1) 1) + (s0 (gP G a 4) 1)) dX0_isOut_61 (by omega) ?_
          refine j_if_ne hx 69 dX0_isOut_62 rfl (by omega) (fun h11 => ?_) (fun h11 => ?_)
          · skip
            refine j_iconst hx dX0_isOut_69 ?_
            refine j_goto hx 96 dX0_isOut_70 rfl ?_
            exact j_zret hx hq rfl (by decide) (by decide) dX0_isOut_96 (by omega) ⟨0, rfl, rfl, rfl, ⟨(by omega), (by omega)⟩⟩
          · skip
            refine j_iconst hx dX0_isOut_65 ?_
            refine j_goto hx 96 dX0_isOut_66 rfl ?_
            exact j_zret hx hq rfl (by decide) (by decide) dX0_isOut_96 (by omega) ⟨1, rfl, rfl, rfl, ⟨(by omega), (by omega)⟩⟩
      · skip
        refine j_aload_n hx 0 dX0_isOut_18 rfl ?_
        refine g1_0 hx hG ha kf_RX0_12 dX0_isOut_19 ?_
        have f12 := zf hS0 (zr (k := 0) (t2 := 7) hG ha rfl) (k := 1) rfl
        refine gN7_1 hx hG (zr (k := 0) (t2 := 7) hG ha rfl) kf_RX0_43 rfl dX0_isOut_22 ?_
        refine j_aload_n hx 0 dX0_isOut_25 rfl ?_
        refine g1_3 hx hG ha kf_RX0_24 dX0_isOut_26 ?_
        have f13 := zf hS0 (zr (k := 3) (t2 := 7) hG ha rfl) (k := 1) rfl
        refine gN7_1 hx hG (zr (k := 3) (t2 := 7) hG ha rfl) kf_RX0_43 rfl dX0_isOut_29 ?_
        refine j_iadd hx (r := (s0 (gP G a 0) 1) + (s0 (gP G a 3) 1)) dX0_isOut_32 (by omega) ?_
        refine j_if_ne hx 40 dX0_isOut_33 rfl (by omega) (fun h14 => ?_) (fun h14 => ?_)
        · skip
          refine j_iconst hx dX0_isOut_40 ?_
          exact j_zret hx hq rfl (by decide) (by decide) dX0_isOut_41 (by omega) ⟨0, rfl, rfl, rfl, ⟨(by omega), (by omega)⟩⟩
        · skip
          refine j_iconst hx dX0_isOut_36 ?_
          refine j_goto hx 41 dX0_isOut_37 rfl ?_
          exact j_zret hx hq rfl (by decide) (by decide) dX0_isOut_41 (by omega) ⟨1, rfl, rfl, rfl, ⟨(by omega), (by omega)⟩⟩
    · skip
      refine j_iconst hx dX0_isOut_12 ?_
      exact j_zret hx hq rfl (by decide) (by decide) dX0_isOut_13 (by omega) ⟨1, rfl, rfl, rfl, ⟨(by omega), (by omega)⟩⟩

theorem lk_RX0_60 : LkV RX0 60 RX0 yX0_isOut cX0_isOut 2 (some .boolean) 1 := ⟨km_RX0_60, ki_yX0_isOut, ks_RX0_yX0_isOut, kn_RX0, kc_yX0_isOut, rfl, by decide +kernel, by decide +kernel, by decide +kernel⟩
set_option maxHeartbeats 4000000 in
set_option maxRecDepth 20000 in
theorem c_X0_remaining {E : zE} {l : Launch} (hst : l.stackTraces = false) (a : Nat) : Con E l yX0_remaining cX0_remaining 3 (some .int) { frames := 1, cells := 0, slots := 0, locals := 21 } (fun G s vs => vs = [.ref a] ∧ zGK G ∧ zSK G s ∧ (gT G a = 1)) (fun G s _ => pI (fun r G2 s2 => G2 = G ∧ s2 = s ∧ ((-2147483648) ≤ r ∧ r ≤ 2147483647))) := by
  refine Con.mk hst (by decide) (fun G s vs h => by rw [h.1]; exact Nat.le_of_ble_eq_true rfl) ?_
  rintro X G s0 vs ⟨rfl, hG, hS0, ha⟩ rfl hx hq
  show JJ X E 3 G s0 0 0 [(0, .ref a)] 0 []
  refine j_iconst hx dX0_remaining_0 ?_
  refine j_istore_n hx [(1, .int (zI 0)), (0, .ref a)] dX0_remaining_1 (by decide) rfl ?_
  refine j_iconst hx dX0_remaining_2 ?_
  refine j_istore_n hx [(2, .int (zI 0)), (1, .int (zI 0)), (0, .ref a)] dX0_remaining_3 (by decide) rfl ?_
  have c4_1 : ∀ (m_c4_1 : Nat) (v1 : Int) (v2 : Int), 2147483648 - v2 < m_c4_1 → ((-2147483648) ≤ v1 ∧ v1 ≤ 2147483647) → (0 ≤ v2 ∧ v2 ≤ 3) → JJ X E 3 G s0 0 0 [(0, .ref a), (1, .int (zI v1)), (2, .int (zI v2))] 4 [] := by
    intro m_c4_1
    induction m_c4_1 with
    | zero => intro v1 v2 hm_c4_1 fA2 fA3; exfalso; omega
    | succ m_c4_1 ih_c4_1 => 
      intro v1 v2 hm_c4_1 fA2 fA3
      refine j_iload_n hx 2 dX0_remaining_4 rfl ?_
      refine j_aload_n hx 0 dX0_remaining_5 rfl ?_
      have f3 := zf hS0 ha (k := 7) rfl
      refine g1_7 hx hG ha kf_RX0_50 rfl dX0_remaining_6 ?_
      refine j_icmp_ge hx 34 dX0_remaining_9 rfl (by omega) (by omega) (fun h4 => ?_) (fun h4 => ?_)
      · skip
        refine j_iload_n hx 1 dX0_remaining_34 rfl ?_
        exact j_iret hx hq rfl (by decide) (by decide) dX0_remaining_35 ⟨v1, rfl, rfl, rfl, (by omega)⟩
      · skip
        refine j_iload_n hx 1 dX0_remaining_12 rfl ?_
        refine j_aload_n hx 0 dX0_remaining_13 rfl ?_
        refine j_iload_n hx 2 dX0_remaining_14 rfl ?_
        refine j_callV hx hG (c_X0_isOut hst a v2) lk_RX0_60 ha (by decide) rfl rfl rfl rfl [.int (zI v2)] ⟨rfl, hG, hS0, ha, (by omega)⟩ rfl rfl ⟨by decide, by decide⟩ ⟨by decide, by decide⟩ (k2 := 0) (n2 := 0) rfl rfl (Nat.le_of_ble_eq_true rfl) dX0_remaining_15 (kIP (fun v5 q6 => ?_))
        have c26_4 : ∀ (v7 : Int), (0 ≤ v7 ∧ v7 ≤ 1) → JJ X E 3 G s0 0 0 [(0, .ref a), (2, .int (zI v2))] 26 [.int (zI v7), .int (zI v1)] := by
          intro v7 fA5
          refine j_iadd hx (r := v1 + v7) dX0_remaining_26 rfl ?_
          refine j_norm (fun v8 f9 f10 f11 => ?_)
          refine j_istore_n hx [(1, .int (zI v8)), (0, .ref a), (2, .int (zI v2))] dX0_remaining_27 (by decide) rfl ?_
          refine j_iinc hx 2 [(2, .int (zI (v2 + 1))), (1, .int (zI v8)), (0, .ref a)] dX0_remaining_28 rfl (by omega) (by decide) rfl ?_
          refine j_goto hx 4 dX0_remaining_31 rfl ?_
          exact j_sub [2, 1, 0] [(0, .ref a), (1, .int (zI v8)), (2, .int (zI (v2 + 1)))] rfl (ih_c4_1 v8 (v2 + 1) (by omega) (by omega) (by omega))
        refine j_if_eq hx 25 dX0_remaining_18 rfl (by omega) (fun h12 => ?_) (fun h12 => ?_)
        · skip
          refine j_iconst hx dX0_remaining_25 ?_
          exact j_sub [0, 2] [(0, .ref a), (2, .int (zI v2))] rfl (c26_4 1 (by omega))
        · skip
          refine j_iconst hx dX0_remaining_21 ?_
          refine j_goto hx 26 dX0_remaining_22 rfl ?_
          exact j_sub [0, 2] [(0, .ref a), (2, .int (zI v2))] rfl (c26_4 0 (by omega))
  exact j_sub [2, 1, 0] [(0, .ref a), (1, .int (zI 0)), (2, .int (zI 0))] rfl (c4_1 (2147483648 * 4) 0 0 (by omega) (by omega) (by omega))

set_option maxHeartbeats 4000000 in
set_option maxRecDepth 20000 in
theorem c_X0_firstIn {E : zE} {l : Launch} (hst : l.stackTraces = false) (a : Nat) (x1 : Int) (x2 : Int) : Con E l yX0_firstIn cX0_firstIn 5 (some .int) { frames := 1, cells := 0, slots := 0, locals := 21 } (fun G s vs => vs = [.ref a, .int (zI x1), .int (zI x2)] ∧ zGK G ∧ zSK G s ∧ (gT G a = 1) ∧ ((-2147483648) ≤ x1 ∧ x1 ≤ 2147483647) ∧ ((-2147483648) ≤ x2 ∧ x2 ≤ 2147483647)) (fun G s _ => pI (fun r G2 s2 => G2 = G ∧ s2 = s ∧ ((-1) ≤ r ∧ r ≤ 2))) := by
  refine Con.mk hst (by decide) (fun G s vs h => by rw [h.1]; exact Nat.le_of_ble_eq_true rfl) ?_
  rintro X G s0 vs ⟨rfl, hG, hS0, ha, hx1, hx2⟩ rfl hx hq
  show JJ X E 5 G s0 0 0 [(0, .ref a), (1, .int (zI x1)), (2, .int (zI x2))] 0 []
  refine j_iload_n hx 1 dX0_firstIn_0 rfl ?_
  refine j_istore_n hx [(3, .int (zI x1)), (0, .ref a), (1, .int (zI x1)), (2, .int (zI x2))] dX0_firstIn_1 (by decide) rfl ?_
  refine j_iconst hx dX0_firstIn_2 ?_
  refine j_istore hx [(4, .int (zI 0)), (3, .int (zI x1)), (0, .ref a), (1, .int (zI x1)), (2, .int (zI x2))] dX0_firstIn_3 (by decide) rfl ?_
  have c5_1 : ∀ (m_c5_1 : Nat) (v1 : Int) (v2 : Int), 2147483648 - v2 < m_c5_1 → ((-2147483648) ≤ v1 ∧ v1 ≤ 2147483647) → (0 ≤ v2 ∧ v2 ≤ 3) → JJ X E 5 G s0 0 0 [(0, .ref a), (2, .int (zI x2)), (3, .int (zI v1)), (4, .int (zI v2))] 5 [] := by
    intro m_c5_1
    induction m_c5_1 with
    | zero => intro v1 v2 hm_c5_1 fA2 fA3; exfalso; omega
    | succ m_c5_1 ih_c5_1 => 
      intro v1 v2 hm_c5_1 fA2 fA3
      refine j_iload hx 3 dX0_firstIn_5 rfl ?_
      refine j_iload_n hx 1 dX0_firstIn_7 rfl ?_
      refine j_icmp_ge hx 55 dX0_firstIn_8 rfl (by omega) (by omega) (fun h3 => ?_) (fun h3 => ?_)
      · skip
        refine j_iconst hx dX0_firstIn_55 ?_
        exact j_iret hx hq rfl (by decide) (by decide) dX0_firstIn_56 ⟨(-1), rfl, rfl, rfl, (by omega)⟩
      · skip
        refine j_iload hx 3 dX0_firstIn_11 rfl ?_
        refine j_iconst hx dX0_firstIn_13 ?_
        refine j_icmp_ge hx 55 dX0_firstIn_14 rfl (by omega) ⟨by decide, by decide⟩ (fun h4 => ?_) (fun h4 => ?_)
        · skip
          refine j_iconst hx dX0_firstIn_55 ?_
          exact j_iret hx hq rfl (by decide) (by decide) dX0_firstIn_56 ⟨(-1), rfl, rfl, rfl, (by omega)⟩
        · skip
          refine j_iload_n hx 2 dX0_firstIn_17 rfl ?_
          refine j_aload_n hx 0 dX0_firstIn_18 rfl ?_
          have f5 := zf hS0 ha (k := 7) rfl
          refine g1_7 hx hG ha kf_RX0_50 rfl dX0_firstIn_19 ?_
          have c35_4 : ∀ (v6 : Int), ((-2147483648) ≤ v6 ∧ v6 ≤ 2147483647) → JJ X E 5 G s0 0 0 [(0, .ref a), (2, .int (zI x2)), (4, .int (zI v2))] 35 [.int (zI v6)] := by
            intro v6 fA5
            refine j_istore_n hx [(3, .int (zI v6)), (0, .ref a), (2, .int (zI x2)), (4, .int (zI v2))] dX0_firstIn_35 (by decide) rfl ?_
            refine j_aload_n hx 1 dX0_firstIn_36 rfl ?_
            refine j_iload_n hx 0 dX0_firstIn_37 rfl ?_
            refine j_callV hx hG (c_X0_isOut hst a v6) lk_RX0_60 ha (by decide) rfl rfl rfl rfl [.int (zI v6)] ⟨rfl, hG, hS0, ha, (by omega)⟩ rfl rfl ⟨by decide, by decide⟩ ⟨by decide, by decide⟩ (k2 := 0) (n2 := 0) rfl rfl (Nat.le_of_ble_eq_true rfl) dX0_firstIn_38 (kIP (fun v7 q8 => ?_))
            refine j_if_ne hx 46 dX0_firstIn_41 rfl (by omega) (fun h9 => ?_) (fun h9 => ?_)
            · skip
              refine j_iincN hx 0 (fun v10 => [(3, .int (zI v10)), (0, .ref a), (2, .int (zI x2)), (4, .int (zI v2))]) dX0_firstIn_46 rfl (by decide) (fun _ => rfl) (fun v10 f11 f12 f13 => ?_)
              refine j_iinc hx 3 [(4, .int (zI (v2 + 1))), (3, .int (zI v10)), (0, .ref a), (2, .int (zI x2))] dX0_firstIn_49 rfl (by omega) (by decide) rfl ?_
              refine j_goto hx 5 dX0_firstIn_52 rfl ?_
              exact j_sub [2, 3, 1, 0] [(0, .ref a), (2, .int (zI x2)), (3, .int (zI v10)), (4, .int (zI (v2 + 1)))] rfl (ih_c5_1 v10 (v2 + 1) (by omega) (by omega) (by omega))
            · skip
              refine j_iload_n hx 0 dX0_firstIn_44 rfl ?_
              exact j_iret hx hq rfl (by decide) (by decide) dX0_firstIn_45 ⟨v6, rfl, rfl, rfl, (by omega)⟩
          refine j_icmp_lt hx 34 dX0_firstIn_22 rfl (by omega) (by omega) (fun h14 => ?_) (fun h14 => ?_)
          · skip
            refine j_iload_n hx 2 dX0_firstIn_34 rfl ?_
            exact j_sub [0, 1, 3] [(0, .ref a), (2, .int (zI x2)), (4, .int (zI v2))] rfl (c35_4 v1 (by omega))
          · skip
            refine j_iload_n hx 2 dX0_firstIn_25 rfl ?_
            refine j_aload_n hx 0 dX0_firstIn_26 rfl ?_
            refine g1_7 hx hG ha kf_RX0_50 rfl dX0_firstIn_27 ?_
            refine j_isub hx (r := v1 - (s0 a 7)) dX0_firstIn_30 (by omega) ?_
            refine j_goto hx 35 dX0_firstIn_31 rfl ?_
            exact j_sub [0, 1, 3] [(0, .ref a), (2, .int (zI x2)), (4, .int (zI v2))] rfl (c35_4 (v1 - (s0 a 7)) (by omega))
  exact j_sub [2, 4, 1, 0] [(0, .ref a), (2, .int (zI x2)), (3, .int (zI x1)), (4, .int (zI 0))] rfl (c5_1 (2147483648 * 4) x1 0 (by omega) (by omega) (by omega))

theorem lk_RX0_68 : LkV RX0 68 RX0 yX0_remaining cX0_remaining 3 (some .int) 0 := ⟨km_RX0_68, ki_yX0_remaining, ks_RX0_yX0_remaining, kn_RX0, kc_yX0_remaining, rfl, by decide +kernel, by decide +kernel, by decide +kernel⟩
theorem lk_RX0_64 : LkV RX0 64 RX0 yX0_firstIn cX0_firstIn 5 (some .int) 2 := ⟨km_RX0_64, ki_yX0_firstIn, ks_RX0_yX0_firstIn, kn_RX0, kc_yX0_firstIn, rfl, by decide +kernel, by decide +kernel, by decide +kernel⟩
set_option maxHeartbeats 4000000 in
set_option maxRecDepth 20000 in
theorem c_X0_whose {E : zE} {l : Launch} (hst : l.stackTraces = false) (a : Nat) : Con E l yX0_whose cX0_whose 1 (some .int) { frames := 2, cells := 0, slots := 0, locals := 45 } (fun G s vs => vs = [.ref a] ∧ zGK G ∧ zSK G s ∧ (gT G a = 1)) (fun G s _ => pI (fun r G2 s2 => G2 = G ∧ s2 = s ∧ ((-1) ≤ r ∧ r ≤ 2))) := by
  refine Con.mk hst (by decide) (fun G s vs h => by rw [h.1]; exact Nat.le_of_ble_eq_true rfl) ?_
  rintro X G s0 vs ⟨rfl, hG, hS0, ha⟩ rfl hx hq
  show JJ X E 1 G s0 0 0 [(0, .ref a)] 0 []
  refine j_aload_n hx 0 dX0_whose_0 rfl ?_
  refine j_callV hx hG (c_X0_remaining hst a) lk_RX0_68 ha (by decide) rfl rfl rfl rfl [] ⟨rfl, hG, hS0, ha⟩ rfl rfl ⟨by decide, by decide⟩ ⟨by decide, by decide⟩ (k2 := 0) (n2 := 0) rfl rfl (Nat.le_of_ble_eq_true rfl) dX0_whose_1 (kIP (fun v1 q2 => ?_))
  refine j_iconst hx dX0_whose_4 ?_
  refine j_icmp_gt hx 12 dX0_whose_5 rfl (by omega) ⟨by decide, by decide⟩ (fun h3 => ?_) (fun h3 => ?_)
  · skip
    refine j_aload_n hx 0 dX0_whose_12 rfl ?_
    refine j_aload_n hx 0 dX0_whose_13 rfl ?_
    have f4 := zf hS0 ha (k := 8) rfl
    refine g1_8 hx hG ha kf_RX0_53 rfl dX0_whose_14 ?_
    refine j_aload_n hx 0 dX0_whose_17 rfl ?_
    have f5 := zf hS0 ha (k := 7) rfl
    refine g1_7 hx hG ha kf_RX0_50 rfl dX0_whose_18 ?_
    refine j_callV hx hG (c_X0_firstIn hst a ((s0 a 8)) ((s0 a 7))) lk_RX0_64 ha (by decide) rfl rfl rfl rfl [.int (zI ((s0 a 8))), .int (zI ((s0 a 7)))] ⟨rfl, hG, hS0, ha, (by omega), (by omega)⟩ rfl rfl ⟨by decide, by decide⟩ ⟨by decide, by decide⟩ (k2 := 0) (n2 := 0) rfl rfl (Nat.le_of_ble_eq_true rfl) dX0_whose_21 (kIP (fun v6 q7 => ?_))
    exact j_iret hx hq rfl (by decide) (by decide) dX0_whose_24 ⟨v6, rfl, rfl, rfl, (by omega)⟩
  · skip
    refine j_iconst hx dX0_whose_8 ?_
    refine j_goto hx 24 dX0_whose_9 rfl ?_
    exact j_iret hx hq rfl (by decide) (by decide) dX0_whose_24 ⟨(-1), rfl, rfl, rfl, (by omega)⟩

set_option maxHeartbeats 4000000 in
set_option maxRecDepth 20000 in
theorem c_X3_lawOf {E : zE} {l : Launch} (hst : l.stackTraces = false) (a : Nat) (x1 : Int) : Con E l yX3_lawOf cX3_lawOf 2 (some .int) { frames := 0, cells := 0, slots := 0, locals := 0 } (fun G s vs => vs = [.ref a, .int (zI x1)] ∧ zGK G ∧ zSK G s ∧ (gT G a = 4) ∧ ((-2147483648) ≤ x1 ∧ x1 ≤ 2147483647)) (fun G s _ => pI (fun r G2 s2 => G2 = G ∧ s2 = s ∧ ((-2147483648) ≤ r ∧ r ≤ 2147483647))) := by
  refine Con.mk hst (by decide) (fun G s vs h => by rw [h.1]; exact Nat.le_of_ble_eq_true rfl) ?_
  rintro X G s0 vs ⟨rfl, hG, hS0, ha, hx1⟩ rfl hx hq
  show JJ X E 2 G s0 0 0 [(0, .ref a), (1, .int (zI x1))] 0 []
  refine j_iload_n hx 1 dX3_lawOf_0 rfl ?_
  refine j_if_lt hx 22 dX3_lawOf_1 rfl (by omega) (fun h1 => ?_) (fun h1 => ?_)
  · skip
    refine j_iconst hx dX3_lawOf_22 ?_
    exact j_iret hx hq rfl (by decide) (by decide) dX3_lawOf_23 ⟨0, rfl, rfl, rfl, (by omega)⟩
  · skip
    refine j_iload_n hx 1 dX3_lawOf_4 rfl ?_
    refine j_aload_n hx 0 dX3_lawOf_5 rfl ?_
    refine g4_2 hx hG ha kf_RX3_18 dX3_lawOf_6 ?_
    refine j_alen hx hG (zr (k := 2) (t2 := 44) hG ha rfl) (by decide) (by decide) (zlen hG (zr (k := 2) (t2 := 44) hG ha rfl) (n := 3) rfl rfl) dX3_lawOf_9 ?_
    refine j_icmp_ge hx 22 dX3_lawOf_10 rfl (by omega) ⟨by decide, by decide⟩ (fun h2 => ?_) (fun h2 => ?_)
    · skip
      refine j_iconst hx dX3_lawOf_22 ?_
      exact j_iret hx hq rfl (by decide) (by decide) dX3_lawOf_23 ⟨0, rfl, rfl, rfl, (by omega)⟩
    · skip
      refine j_aload_n hx 0 dX3_lawOf_13 rfl ?_
      refine g4_2 hx hG ha kf_RX3_18 dX3_lawOf_14 ?_
      refine j_iload_n hx 1 dX3_lawOf_17 rfl ?_
      have f3 := zaI (j := (x1).toNat) hS0 (zr (k := 2) (t2 := 44) hG ha rfl) rfl (zlen hG (zr (k := 2) (t2 := 44) hG ha rfl) (n := 3) rfl rfl) (show 0 ≤ x1 by omega) (by omega) rfl
      refine j_iald hx hG (zr (k := 2) (t2 := 44) hG ha rfl) (by decide) rfl (zlen hG (zr (k := 2) (t2 := 44) hG ha rfl) (n := 3) rfl rfl) (by omega) (by omega) (j := (x1).toNat) rfl rfl dX3_lawOf_18 ?_
      refine j_goto hx 23 dX3_lawOf_19 rfl ?_
      exact j_iret hx hq rfl (by decide) (by decide) dX3_lawOf_23 ⟨(s0 (gP G a 2) (x1).toNat), rfl, rfl, rfl, (by omega)⟩

theorem lk_RX11_159 : LkV RX11 159 RX0 yX0_allCards cX0_allCards 3 (some .int) 0 := ⟨km_RX11_159, ki_yX0_allCards, ks_RX0_yX0_allCards, kn_RX0, kc_yX0_allCards, rfl, by decide +kernel, by decide +kernel, by decide +kernel⟩
theorem lk_RX11_168 : LkV RX11 168 RX0 yX0_whose cX0_whose 1 (some .int) 0 := ⟨km_RX11_168, ki_yX0_whose, ks_RX0_yX0_whose, kn_RX0, kc_yX0_whose, rfl, by decide +kernel, by decide +kernel, by decide +kernel⟩
theorem lk_RX11_178 : LkV RX11 178 RX3 yX3_lawOf cX3_lawOf 2 (some .int) 1 := ⟨km_RX11_178, ki_yX3_lawOf, ks_RX3_yX3_lawOf, kn_RX3, kc_yX3_lawOf, rfl, by decide +kernel, by decide +kernel, by decide +kernel⟩
set_option maxHeartbeats 4000000 in
set_option maxRecDepth 20000 in
theorem c_X11_told {E : zE} {l : Launch} (hst : l.stackTraces = false) (a : Nat) (x1 : Int) : ConX E l yX11_told cX11_told 2 (some .int) { frames := 7, cells := 1, slots := 6, locals := 113 } (fun G s vs => vs = [.ref a, .int (zI x1)] ∧ zGK G ∧ zSK G s ∧ (gT G a = 12) ∧ ((-2147483648) ≤ x1 ∧ x1 ≤ 2147483647)) (fun G s _ => pI (fun r G2 s2 => G2 = G ∧ s2 = s ∧ ((-2147483648) ≤ r ∧ r ≤ 2147483647))) (fun G s _ Ex G2 s2 => G2 = G ∧ zSK G s2 ∧ zFr [12] G s s2 ∧ ((Ex = "java/lang/IllegalArgumentException" ∧ (True)))) := by
  refine ConX.mk hst (by decide) (fun G s vs h => by rw [h.1]; exact Nat.le_of_ble_eq_true rfl) ?_
  rintro X G s0 vs ⟨rfl, hG, hS0, ha, hx1⟩ rfl hx hq
  show JJ X E 2 G s0 0 0 [(0, .ref a), (1, .int (zI x1))] 0 []
  refine j_aload_n hx 0 dX11_told_0 rfl ?_
  refine j_iload_n hx 1 dX11_told_1 rfl ?_
  refine j_iconst hx dX11_told_2 ?_
  refine j_bipush hx dX11_told_3 rfl ?_
  refine j_callVX hx hq hG (c_X11_needRange hst a x1 0 8) lk_RX11_98 ha (by decide) rfl rfl rfl rfl [.int (zI x1), .int (zI 0), .int (zI 8)] ⟨rfl, hG, hS0, ha, (by omega), (by omega), (by omega)⟩ rfl rfl ⟨by decide, by decide⟩ ⟨by decide, by decide⟩ (k2 := 1) (n2 := 6) rfl rfl (Nat.le_of_ble_eq_true rfl) ⟨by decide, by decide⟩ dX11_told_5 (by rintro Ex9 G9 s9 ⟨rfl, hS9, hF9, e9, c9⟩; exact ⟨rfl, hS9, (zFr_t zFr_rf hF9 (by decide)), ⟨e9, by first | trivial | omega⟩⟩) (kVP (fun q2 => ?_))
  refine j_iload_n hx 1 dX11_told_8 rfl ?_
  have h3 : (x1 = 0) ∨ (x1 = 1) ∨ (x1 = 2) ∨ (x1 = 3) ∨ (x1 = 4) ∨ (x1 = 5) ∨ (x1 = 6) ∨ (x1 = 7) ∨ (x1 < 0 ∨ 7 < x1) := by omega
  rcases h3 with h3 | h3 | h3 | h3 | h3 | h3 | h3 | h3 | h3
  · skip
    refine j_switchIn hx 56 dX11_told_9 (by omega) (by omega) (by omega) (by rw [h3]; rfl) rfl ?_
    refine j_aload_n hx 0 dX11_told_56 rfl ?_
    refine g12_1 hx hG ha kf_RX11_19 dX11_told_57 ?_
    have f4 := zf hS0 (zr (k := 1) (t2 := 9) hG ha rfl) (k := 4) rfl
    refine gN9_4 hx hG (zr (k := 1) (t2 := 9) hG ha rfl) kf_RX11_127 rfl dX11_told_60 ?_
    exact j_iret hx hq.r rfl (by decide) (by decide) dX11_told_63 ⟨(s0 (gP G a 1) 4), rfl, rfl, rfl, (by omega)⟩
  · skip
    refine j_switchIn hx 64 dX11_told_9 (by omega) (by omega) (by omega) (by rw [h3]; rfl) rfl ?_
    refine j_aload_n hx 0 dX11_told_64 rfl ?_
    refine g12_6 hx hG ha kf_RX11_48 dX11_told_65 ?_
    refine gN4_1 hx hG (zr (k := 6) (t2 := 4) hG ha rfl) kf_RX11_155 dX11_told_68 ?_
    refine j_callV hx hG (c_X0_allCards hst (gP G (gP G a 6) 1)) lk_RX11_159 (zr (k := 1) (t2 := 1) hG (zr (k := 6) (t2 := 4) hG ha rfl) rfl) (by decide) rfl rfl rfl rfl [] ⟨rfl, hG, hS0, (zr (k := 1) (t2 := 1) hG (zr (k := 6) (t2 := 4) hG ha rfl) rfl)⟩ rfl rfl ⟨by decide, by decide⟩ ⟨by decide, by decide⟩ (k2 := 1) (n2 := 6) rfl rfl (Nat.le_of_ble_eq_true rfl) dX11_told_71 (kIP (fun v5 q6 => ?_))
    exact j_iret hx hq.r rfl (by decide) (by decide) dX11_told_74 ⟨v5, rfl, rfl, rfl, (by omega)⟩
  · skip
    refine j_switchIn hx 75 dX11_told_9 (by omega) (by omega) (by omega) (by rw [h3]; rfl) rfl ?_
    refine j_aload_n hx 0 dX11_told_75 rfl ?_
    refine g12_6 hx hG ha kf_RX11_48 dX11_told_76 ?_
    have f7 := zf hS0 (zr (k := 6) (t2 := 4) hG ha rfl) (k := 10) rfl
    refine gN4_10 hx hG (zr (k := 6) (t2 := 4) hG ha rfl) kf_RX11_165 rfl dX11_told_79 ?_
    exact j_iret hx hq.r rfl (by decide) (by decide) dX11_told_82 ⟨(s0 (gP G a 6) 10), rfl, rfl, rfl, (by omega)⟩
  · skip
    refine j_switchIn hx 83 dX11_told_9 (by omega) (by omega) (by omega) (by rw [h3]; rfl) rfl ?_
    refine j_aload_n hx 0 dX11_told_83 rfl ?_
    refine g12_6 hx hG ha kf_RX11_48 dX11_told_84 ?_
    refine gN4_1 hx hG (zr (k := 6) (t2 := 4) hG ha rfl) kf_RX11_155 dX11_told_87 ?_
    refine j_callV hx hG (c_X0_whose hst (gP G (gP G a 6) 1)) lk_RX11_168 (zr (k := 1) (t2 := 1) hG (zr (k := 6) (t2 := 4) hG ha rfl) rfl) (by decide) rfl rfl rfl rfl [] ⟨rfl, hG, hS0, (zr (k := 1) (t2 := 1) hG (zr (k := 6) (t2 := 4) hG ha rfl) rfl)⟩ rfl rfl ⟨by decide, by decide⟩ ⟨by decide, by decide⟩ (k2 := 1) (n2 := 6) rfl rfl (Nat.le_of_ble_eq_true rfl) dX11_told_90 (kIP (fun v8 q9 => ?_))
    exact j_iret hx hq.r rfl (by decide) (by decide) dX11_told_93 ⟨v8, rfl, rfl, rfl, (by omega)⟩
  · skip
    refine j_switchIn hx 94 dX11_told_9 (by omega) (by omega) (by omega) (by rw [h3]; rfl) rfl ?_
    refine j_aload_n hx 0 dX11_told_94 rfl ?_
    refine g12_6 hx hG ha kf_RX11_48 dX11_told_95 ?_
    refine gN4_1 hx hG (zr (k := 6) (t2 := 4) hG ha rfl) kf_RX11_155 dX11_told_98 ?_
    refine gN1_6 hx hG (zr (k := 1) (t2 := 1) hG (zr (k := 6) (t2 := 4) hG ha rfl) rfl) kf_RX11_171 dX11_told_101 ?_
    have f10 := zf hS0 (zr (k := 6) (t2 := 7) hG (zr (k := 1) (t2 := 1) hG (zr (k := 6) (t2 := 4) hG ha rfl) rfl) rfl) (k := 1) rfl
    refine gN7_1 hx hG (zr (k := 6) (t2 := 7) hG (zr (k := 1) (t2 := 1) hG (zr (k := 6) (t2 := 4) hG ha rfl) rfl) rfl) kf_RX11_175 rfl dX11_told_104 ?_
    exact j_iret hx hq.r rfl (by decide) (by decide) dX11_told_107 ⟨(s0 (gP G (gP G (gP G a 6) 1) 6) 1), rfl, rfl, rfl, (by omega)⟩
  · skip
    refine j_switchIn hx 108 dX11_told_9 (by omega) (by omega) (by omega) (by rw [h3]; rfl) rfl ?_
    refine j_aload_n hx 0 dX11_told_108 rfl ?_
    refine g12_6 hx hG ha kf_RX11_48 dX11_told_109 ?_
    refine j_iconst hx dX11_told_112 ?_
    refine j_callV hx hG (c_X3_lawOf hst (gP G a 6) 0) lk_RX11_178 (zr (k := 6) (t2 := 4) hG ha rfl) (by decide) rfl rfl rfl rfl [.int (zI 0)] ⟨rfl, hG, hS0, (zr (k := 6) (t2 := 4) hG ha rfl), (by omega)⟩ rfl rfl ⟨by decide, by decide⟩ ⟨by decide, by decide⟩ (k2 := 1) (n2 := 6) rfl rfl (Nat.le_of_ble_eq_true rfl) dX11_told_113 (kIP (fun v11 q12 => ?_))
    exact j_iret hx hq.r rfl (by decide) (by decide) dX11_told_116 ⟨v11, rfl, rfl, rfl, (by omega)⟩
  · skip
    refine j_switchIn hx 117 dX11_told_9 (by omega) (by omega) (by omega) (by rw [h3]; rfl) rfl ?_
    refine j_aload_n hx 0 dX11_told_117 rfl ?_
    refine g12_6 hx hG ha kf_RX11_48 dX11_told_118 ?_
    refine j_iconst hx dX11_told_121 ?_
    refine j_callV hx hG (c_X3_lawOf hst (gP G a 6) 1) lk_RX11_178 (zr (k := 6) (t2 := 4) hG ha rfl) (by decide) rfl rfl rfl rfl [.int (zI 1)] ⟨rfl, hG, hS0, (zr (k := 6) (t2 := 4) hG ha rfl), (by omega)⟩ rfl rfl ⟨by decide, by decide⟩ ⟨by decide, by decide⟩ (k2 := 1) (n2 := 6) rfl rfl (Nat.le_of_ble_eq_true rfl) dX11_told_122 (kIP (fun v13 q14 => ?_))
    exact j_iret hx hq.r rfl (by decide) (by decide) dX11_told_125 ⟨v13, rfl, rfl, rfl, (by omega)⟩
  · skip
    refine j_switchIn hx 126 dX11_told_9 (by omega) (by omega) (by omega) (by rw [h3]; rfl) rfl ?_
    refine j_aload_n hx 0 dX11_told_126 rfl ?_
    refine g12_6 hx hG ha kf_RX11_48 dX11_told_127 ?_
    refine j_iconst hx dX11_told_130 ?_
    refine j_callV hx hG (c_X3_lawOf hst (gP G a 6) 2) lk_RX11_178 (zr (k := 6) (t2 := 4) hG ha rfl) (by decide) rfl rfl rfl rfl [.int (zI 2)] ⟨rfl, hG, hS0, (zr (k := 6) (t2 := 4) hG ha rfl), (by omega)⟩ rfl rfl ⟨by decide, by decide⟩ ⟨by decide, by decide⟩ (k2 := 1) (n2 := 6) rfl rfl (Nat.le_of_ble_eq_true rfl) dX11_told_131 (kIP (fun v15 q16 => ?_))
    exact j_iret hx hq.r rfl (by decide) (by decide) dX11_told_134 ⟨v15, rfl, rfl, rfl, (by omega)⟩
  · skip
    refine j_switchOut hx 135 dX11_told_9 (by omega) (by omega) rfl ?_
    refine j_aload_n hx 0 dX11_told_135 rfl ?_
    refine g12_1 hx hG ha kf_RX11_19 dX11_told_136 ?_
    have f17 := zf hS0 (zr (k := 1) (t2 := 9) hG ha rfl) (k := 5) rfl
    refine gN9_5 hx hG (zr (k := 1) (t2 := 9) hG ha rfl) kf_RX11_181 rfl dX11_told_139 ?_
    exact j_iret hx hq.r rfl (by decide) (by decide) dX11_told_142 ⟨(s0 (gP G a 1) 5), rfl, rfl, rfl, (by omega)⟩

set_option maxHeartbeats 4000000 in
set_option maxRecDepth 20000 in
theorem c_X8_trait {E : zE} {l : Launch} (hst : l.stackTraces = false) (a : Nat) (x1 : Int) (x2 : Int) : Con E l yX8_trait cX8_trait 4 (some .int) { frames := 0, cells := 0, slots := 0, locals := 0 } (fun G s vs => vs = [.ref a, .int (zI x1), .int (zI x2)] ∧ zGK G ∧ zSK G s ∧ (gT G a = 9) ∧ ((-2147483648) ≤ x1 ∧ x1 ≤ 2147483647) ∧ ((-2147483648) ≤ x2 ∧ x2 ≤ 2147483647)) (fun G s _ => pI (fun r G2 s2 => G2 = G ∧ s2 = s ∧ ((-2147483648) ≤ r ∧ r ≤ 2147483647))) := by
  refine Con.mk hst (by decide) (fun G s vs h => by rw [h.1]; exact Nat.le_of_ble_eq_true rfl) ?_
  rintro X G s0 vs ⟨rfl, hG, hS0, ha, hx1, hx2⟩ rfl hx hq
  show JJ X E 4 G s0 0 0 [(0, .ref a), (1, .int (zI x1)), (2, .int (zI x2))] 0 []
  refine j_iload_n hx 1 dX8_trait_0 rfl ?_
  refine j_iconst hx dX8_trait_1 ?_
  refine j_imul hx (r := 5 * x1) dX8_trait_2 (by omega) ?_
  refine j_norm (fun v1 f2 f3 f4 => ?_)
  refine j_iload_n hx 2 dX8_trait_3 rfl ?_
  refine j_iadd hx (r := v1 + x2) dX8_trait_4 rfl ?_
  refine j_norm (fun v5 f6 f7 f8 => ?_)
  refine j_istore_n hx [(3, .int (zI v5)), (0, .ref a), (1, .int (zI x1)), (2, .int (zI x2))] dX8_trait_5 (by decide) rfl ?_
  refine j_iload_n hx 0 dX8_trait_6 rfl ?_
  refine j_if_lt hx 28 dX8_trait_7 rfl (by omega) (fun h9 => ?_) (fun h9 => ?_)
  · skip
    refine j_iconst hx dX8_trait_28 ?_
    exact j_iret hx hq rfl (by decide) (by decide) dX8_trait_29 ⟨0, rfl, rfl, rfl, (by omega)⟩
  · skip
    refine j_iload_n hx 0 dX8_trait_10 rfl ?_
    refine j_aload_n hx 1 dX8_trait_11 rfl ?_
    refine g9_0 hx hG ha kf_RX8_11 dX8_trait_12 ?_
    refine j_alen hx hG (zr (k := 0) (t2 := 42) hG ha rfl) (by decide) (by decide) (zlen hG (zr (k := 0) (t2 := 42) hG ha rfl) (n := 15) rfl rfl) dX8_trait_15 ?_
    refine j_icmp_ge hx 28 dX8_trait_16 rfl (by omega) ⟨by decide, by decide⟩ (fun h10 => ?_) (fun h10 => ?_)
    · skip
      refine j_iconst hx dX8_trait_28 ?_
      exact j_iret hx hq rfl (by decide) (by decide) dX8_trait_29 ⟨0, rfl, rfl, rfl, (by omega)⟩
    · skip
      refine j_aload_n hx 1 dX8_trait_19 rfl ?_
      refine g9_0 hx hG ha kf_RX8_11 dX8_trait_20 ?_
      refine j_iload_n hx 0 dX8_trait_23 rfl ?_
      have f11 := zaI (j := (v5).toNat) hS0 (zr (k := 0) (t2 := 42) hG ha rfl) rfl (zlen hG (zr (k := 0) (t2 := 42) hG ha rfl) (n := 15) rfl rfl) (show 0 ≤ v5 by omega) (by omega) rfl
      refine j_iald hx hG (zr (k := 0) (t2 := 42) hG ha rfl) (by decide) rfl (zlen hG (zr (k := 0) (t2 := 42) hG ha rfl) (n := 15) rfl rfl) (by omega) (by omega) (j := (v5).toNat) rfl rfl dX8_trait_24 ?_
      refine j_goto hx 29 dX8_trait_25 rfl ?_
      exact j_iret hx hq rfl (by decide) (by decide) dX8_trait_29 ⟨(s0 (gP G a 0) (v5).toNat), rfl, rfl, rfl, (by omega)⟩

theorem lk_RX11_134 : LkV RX11 134 RX11 yX11_needPlayer cX11_needPlayer 2 none 1 := ⟨km_RX11_134, ki_yX11_needPlayer, ks_RX11_yX11_needPlayer, kn_RX11, kc_yX11_needPlayer, rfl, by decide +kernel, by decide +kernel, by decide +kernel⟩
theorem lk_RX11_194 : LkV RX11 194 RX0 yX0_isOut cX0_isOut 2 (some .boolean) 1 := ⟨km_RX11_194, ki_yX0_isOut, ks_RX0_yX0_isOut, kn_RX0, kc_yX0_isOut, rfl, by decide +kernel, by decide +kernel, by decide +kernel⟩
theorem lk_RX11_191 : LkV RX11 191 RX0 yX0_heapOf cX0_heapOf 2 (some (.object "SnapHeaps$Pile")) 1 := ⟨km_RX11_191, ki_yX0_heapOf, ks_RX0_yX0_heapOf, kn_RX0, kc_yX0_heapOf, rfl, by decide +kernel, by decide +kernel, by decide +kernel⟩
theorem lk_RX11_187 : LkV RX11 187 RX0 yX0_rowOf cX0_rowOf 2 (some (.object "SnapHeaps$Pile")) 1 := ⟨km_RX11_187, ki_yX0_rowOf, ks_RX0_yX0_rowOf, kn_RX0, kc_yX0_rowOf, rfl, by decide +kernel, by decide +kernel, by decide +kernel⟩
theorem lk_RX11_184 : LkV RX11 184 RX8 yX8_trait cX8_trait 4 (some .int) 2 := ⟨km_RX11_184, ki_yX8_trait, ks_RX8_yX8_trait, kn_RX8, kc_yX8_trait, rfl, by decide +kernel, by decide +kernel, by decide +kernel⟩
set_option maxHeartbeats 4000000 in
set_option maxRecDepth 20000 in
theorem c_X11_player {E : zE} {l : Launch} (hst : l.stackTraces = false) (a : Nat) (x1 : Int) (x2 : Int) : ConX E l yX11_player cX11_player 3 (some .int) { frames := 7, cells := 2, slots := 12, locals := 113 } (fun G s vs => vs = [.ref a, .int (zI x1), .int (zI x2)] ∧ zGK G ∧ zSK G s ∧ (gT G a = 12) ∧ ((-2147483648) ≤ x1 ∧ x1 ≤ 2147483647) ∧ ((-2147483648) ≤ x2 ∧ x2 ≤ 2147483647)) (fun G s _ => pI (fun r G2 s2 => G2 = G ∧ s2 = s ∧ ((-2147483648) ≤ r ∧ r ≤ 2147483647))) (fun G s _ Ex G2 s2 => G2 = G ∧ zSK G s2 ∧ zFr [12] G s s2 ∧ ((Ex = "java/lang/IllegalArgumentException" ∧ (True)) ∨ (Ex = "java/util/NoSuchElementException" ∧ (True)))) := by
  refine ConX.mk hst (by decide) (fun G s vs h => by rw [h.1]; exact Nat.le_of_ble_eq_true rfl) ?_
  rintro X G s0 vs ⟨rfl, hG, hS0, ha, hx1, hx2⟩ rfl hx hq
  show JJ X E 3 G s0 0 0 [(0, .ref a), (1, .int (zI x1)), (2, .int (zI x2))] 0 []
  refine j_aload_n hx 0 dX11_player_0 rfl ?_
  refine j_iload_n hx 1 dX11_player_1 rfl ?_
  refine j_callVX hx hq hG (c_X11_needPlayer hst a x1) lk_RX11_134 ha (by decide) rfl rfl rfl rfl [.int (zI x1)] ⟨rfl, hG, hS0, ha, (by omega)⟩ rfl rfl ⟨by decide, by decide⟩ ⟨by decide, by decide⟩ (k2 := 1) (n2 := 6) rfl rfl (Nat.le_of_ble_eq_true rfl) ⟨by decide, by decide⟩ dX11_player_2 (by rintro Ex9 G9 s9 ⟨rfl, hS9, hF9, e9, c9⟩; exact ⟨rfl, hS9, (zFr_t zFr_rf hF9 (by decide)), Or.inr ⟨e9, by first | trivial | omega⟩⟩) (kVP (fun q2 => ?_))
  refine j_aload_n hx 0 dX11_player_5 rfl ?_
  refine j_iload_n hx 2 dX11_player_6 rfl ?_
  refine j_iconst hx dX11_player_7 ?_
  refine j_bipush hx dX11_player_8 rfl ?_
  refine j_callVX hx hq hG (c_X11_needRange hst a x2 0 7) lk_RX11_98 ha (by decide) rfl rfl rfl rfl [.int (zI x2), .int (zI 0), .int (zI 7)] ⟨rfl, hG, hS0, ha, (by omega), (by omega), (by omega)⟩ rfl rfl ⟨by decide, by decide⟩ ⟨by decide, by decide⟩ (k2 := 2) (n2 := 12) rfl rfl (Nat.le_of_ble_eq_true rfl) ⟨by decide, by decide⟩ dX11_player_10 (by rintro Ex9 G9 s9 ⟨rfl, hS9, hF9, e9, c9⟩; exact ⟨rfl, hS9, (zFr_t zFr_rf hF9 (by decide)), Or.inl ⟨e9, by first | trivial | omega⟩⟩) (kVP (fun q4 => ?_))
  refine j_iload_n hx 2 dX11_player_13 rfl ?_
  refine j_iconst hx dX11_player_14 ?_
  refine j_icmp_gt hx 28 dX11_player_15 rfl (by omega) ⟨by decide, by decide⟩ (fun h5 => ?_) (fun h5 => ?_)
  · skip
    refine j_iload_n hx 2 dX11_player_28 rfl ?_
    refine j_iconst hx dX11_player_29 ?_
    refine j_icmp_ne hx 48 dX11_player_30 rfl (by omega) ⟨by decide, by decide⟩ (fun h6 => ?_) (fun h6 => ?_)
    · skip
      refine j_iload_n hx 2 dX11_player_48 rfl ?_
      refine j_bipush hx dX11_player_49 rfl ?_
      refine j_icmp_ne hx 69 dX11_player_51 rfl (by omega) ⟨by decide, by decide⟩ (fun h7 => ?_) (fun h7 => ?_)
      · skip
        refine j_aload_n hx 0 dX11_player_69 rfl ?_
        refine g12_6 hx hG ha kf_RX11_48 dX11_player_70 ?_
        refine gN4_1 hx hG (zr (k := 6) (t2 := 4) hG ha rfl) kf_RX11_155 dX11_player_73 ?_
        refine j_iload_n hx 1 dX11_player_76 rfl ?_
        refine j_callV hx hG (c_X0_isOut hst (gP G (gP G a 6) 1) x1) lk_RX11_194 (zr (k := 1) (t2 := 1) hG (zr (k := 6) (t2 := 4) hG ha rfl) rfl) (by decide) rfl rfl rfl rfl [.int (zI x1)] ⟨rfl, hG, hS0, (zr (k := 1) (t2 := 1) hG (zr (k := 6) (t2 := 4) hG ha rfl) rfl), (by omega)⟩ rfl rfl ⟨by decide, by decide⟩ ⟨by decide, by decide⟩ (k2 := 2) (n2 := 12) rfl rfl (Nat.le_of_ble_eq_true rfl) dX11_player_77 (kIP (fun v8 q9 => ?_))
        refine j_if_eq hx 87 dX11_player_80 rfl (by omega) (fun h10 => ?_) (fun h10 => ?_)
        · skip
          refine j_iconst hx dX11_player_87 ?_
          exact j_iret hx hq.r rfl (by decide) (by decide) dX11_player_88 ⟨0, rfl, rfl, rfl, (by omega)⟩
        · skip
          refine j_iconst hx dX11_player_83 ?_
          refine j_goto hx 88 dX11_player_84 rfl ?_
          exact j_iret hx hq.r rfl (by decide) (by decide) dX11_player_88 ⟨1, rfl, rfl, rfl, (by omega)⟩
      · skip
        refine j_aload_n hx 0 dX11_player_54 rfl ?_
        refine g12_6 hx hG ha kf_RX11_48 dX11_player_55 ?_
        refine gN4_1 hx hG (zr (k := 6) (t2 := 4) hG ha rfl) kf_RX11_155 dX11_player_58 ?_
        refine j_iload_n hx 1 dX11_player_61 rfl ?_
        refine j_callV hx hG (c_X0_heapOf hst (gP G (gP G a 6) 1) x1) lk_RX11_191 (zr (k := 1) (t2 := 1) hG (zr (k := 6) (t2 := 4) hG ha rfl) rfl) (by decide) rfl rfl rfl rfl [.int (zI x1)] ⟨rfl, hG, hS0, (zr (k := 1) (t2 := 1) hG (zr (k := 6) (t2 := 4) hG ha rfl) rfl), (by omega)⟩ rfl rfl ⟨by decide, by decide⟩ ⟨by decide, by decide⟩ (k2 := 2) (n2 := 12) rfl rfl (Nat.le_of_ble_eq_true rfl) dX11_player_62 (kRP (fun r11 q12 => ?_))
        have f13 := zf hS0 q12 (k := 1) rfl
        refine gN7_1 hx hG q12 kf_RX11_175 rfl dX11_player_65 ?_
        exact j_iret hx hq.r rfl (by decide) (by decide) dX11_player_68 ⟨(s0 r11 1), rfl, rfl, rfl, (by omega)⟩
    · skip
      refine j_aload_n hx 0 dX11_player_33 rfl ?_
      refine g12_6 hx hG ha kf_RX11_48 dX11_player_34 ?_
      refine gN4_1 hx hG (zr (k := 6) (t2 := 4) hG ha rfl) kf_RX11_155 dX11_player_37 ?_
      refine j_iload_n hx 1 dX11_player_40 rfl ?_
      refine j_callV hx hG (c_X0_rowOf hst (gP G (gP G a 6) 1) x1) lk_RX11_187 (zr (k := 1) (t2 := 1) hG (zr (k := 6) (t2 := 4) hG ha rfl) rfl) (by decide) rfl rfl rfl rfl [.int (zI x1)] ⟨rfl, hG, hS0, (zr (k := 1) (t2 := 1) hG (zr (k := 6) (t2 := 4) hG ha rfl) rfl), (by omega)⟩ rfl rfl ⟨by decide, by decide⟩ ⟨by decide, by decide⟩ (k2 := 2) (n2 := 12) rfl rfl (Nat.le_of_ble_eq_true rfl) dX11_player_41 (kRP (fun r14 q15 => ?_))
      have f16 := zf hS0 q15 (k := 1) rfl
      refine gN7_1 hx hG q15 kf_RX11_175 rfl dX11_player_44 ?_
      exact j_iret hx hq.r rfl (by decide) (by decide) dX11_player_47 ⟨(s0 r14 1), rfl, rfl, rfl, (by omega)⟩
  · skip
    refine j_aload_n hx 0 dX11_player_18 rfl ?_
    refine g12_1 hx hG ha kf_RX11_19 dX11_player_19 ?_
    refine j_iload_n hx 1 dX11_player_22 rfl ?_
    refine j_iload_n hx 2 dX11_player_23 rfl ?_
    refine j_callV hx hG (c_X8_trait hst (gP G a 1) x1 x2) lk_RX11_184 (zr (k := 1) (t2 := 9) hG ha rfl) (by decide) rfl rfl rfl rfl [.int (zI x1), .int (zI x2)] ⟨rfl, hG, hS0, (zr (k := 1) (t2 := 9) hG ha rfl), (by omega), (by omega)⟩ rfl rfl ⟨by decide, by decide⟩ ⟨by decide, by decide⟩ (k2 := 2) (n2 := 12) rfl rfl (Nat.le_of_ble_eq_true rfl) dX11_player_24 (kIP (fun v17 q18 => ?_))
    exact j_iret hx hq.r rfl (by decide) (by decide) dX11_player_27 ⟨v17, rfl, rfl, rfl, (by omega)⟩

set_option maxHeartbeats 4000000 in
set_option maxRecDepth 20000 in
theorem c_X6_kindAt {E : zE} {l : Launch} (hst : l.stackTraces = false) (a : Nat) (x1 : Int) : Con E l yX6_kindAt cX6_kindAt 2 (some .int) { frames := 0, cells := 0, slots := 0, locals := 0 } (fun G s vs => vs = [.ref a, .int (zI x1)] ∧ zGK G ∧ zSK G s ∧ (gT G a = 7) ∧ ((-2147483648) ≤ x1 ∧ x1 ≤ 2147483647)) (fun G s _ => pI (fun r G2 s2 => G2 = G ∧ s2 = s ∧ ((-2147483648) ≤ r ∧ r ≤ 2147483647))) := by
  refine Con.mk hst (by decide) (fun G s vs h => by rw [h.1]; exact Nat.le_of_ble_eq_true rfl) ?_
  rintro X G s0 vs ⟨rfl, hG, hS0, ha, hx1⟩ rfl hx hq
  show JJ X E 2 G s0 0 0 [(0, .ref a), (1, .int (zI x1))] 0 []
  refine j_iload_n hx 1 dX6_kindAt_0 rfl ?_
  refine j_if_lt hx 32 dX6_kindAt_1 rfl (by omega) (fun h1 => ?_) (fun h1 => ?_)
  · skip
    refine j_iconst hx dX6_kindAt_32 ?_
    exact j_iret hx hq rfl (by decide) (by decide) dX6_kindAt_33 ⟨(-1), rfl, rfl, rfl, (by omega)⟩
  · skip
    refine j_iload_n hx 1 dX6_kindAt_4 rfl ?_
    refine j_aload_n hx 0 dX6_kindAt_5 rfl ?_
    have f2 := zf hS0 ha (k := 1) rfl
    refine g7_1 hx hG ha kf_RX6_15 rfl dX6_kindAt_6 ?_
    refine j_icmp_ge hx 32 dX6_kindAt_9 rfl (by omega) (by omega) (fun h3 => ?_) (fun h3 => ?_)
    · skip
      refine j_iconst hx dX6_kindAt_32 ?_
      exact j_iret hx hq rfl (by decide) (by decide) dX6_kindAt_33 ⟨(-1), rfl, rfl, rfl, (by omega)⟩
    · skip
      refine j_iload_n hx 1 dX6_kindAt_12 rfl ?_
      refine j_aload_n hx 0 dX6_kindAt_13 rfl ?_
      refine g7_0 hx hG ha kf_RX6_9 dX6_kindAt_14 ?_
      refine j_alen hx hG (zr (k := 0) (t2 := 41) hG ha rfl) (by decide) (by decide) (zlen hG (zr (k := 0) (t2 := 41) hG ha rfl) (n := 60) rfl rfl) dX6_kindAt_17 ?_
      refine j_icmp_ge hx 32 dX6_kindAt_18 rfl (by omega) ⟨by decide, by decide⟩ (fun h4 => absurd h4 (by omega)) (fun h4 => ?_)
      refine j_aload_n hx 0 dX6_kindAt_21 rfl ?_
      refine g7_0 hx hG ha kf_RX6_9 dX6_kindAt_22 ?_
      refine j_iload_n hx 1 dX6_kindAt_25 rfl ?_
      have f5 := zaI (j := (x1).toNat) hS0 (zr (k := 0) (t2 := 41) hG ha rfl) rfl (zlen hG (zr (k := 0) (t2 := 41) hG ha rfl) (n := 60) rfl rfl) (show 0 ≤ x1 by omega) (by omega) rfl
      refine j_iald hx hG (zr (k := 0) (t2 := 41) hG ha rfl) (by decide) rfl (zlen hG (zr (k := 0) (t2 := 41) hG ha rfl) (n := 60) rfl rfl) (by omega) (by omega) (j := (x1).toNat) rfl rfl dX6_kindAt_26 ?_
      refine j_iconst hx dX6_kindAt_27 ?_
      refine j_ishr hx 1 2 dX6_kindAt_28 (by omega) rfl (by decide) (by decide) (fun v6 f7 f8 f9 f10 => ?_)
      refine j_goto hx 33 dX6_kindAt_29 rfl ?_
      exact j_iret hx hq rfl (by decide) (by decide) dX6_kindAt_33 ⟨v6, rfl, rfl, rfl, (by omega)⟩

theorem lk_RX11_197 : LkV RX11 197 RX6 yX6_kindAt cX6_kindAt 2 (some .int) 1 := ⟨km_RX11_197, ki_yX6_kindAt, ks_RX6_yX6_kindAt, kn_RX6, kc_yX6_kindAt, rfl, by decide +kernel, by decide +kernel, by decide +kernel⟩
set_option maxHeartbeats 4000000 in
set_option maxRecDepth 20000 in
theorem c_X11_row {E : zE} {l : Launch} (hst : l.stackTraces = false) (a : Nat) (x1 : Int) (x2 : Int) : ConX E l yX11_row cX11_row 3 (some .int) { frames := 7, cells := 1, slots := 6, locals := 111 } (fun G s vs => vs = [.ref a, .int (zI x1), .int (zI x2)] ∧ zGK G ∧ zSK G s ∧ (gT G a = 12) ∧ ((-2147483648) ≤ x1 ∧ x1 ≤ 2147483647) ∧ ((-2147483648) ≤ x2 ∧ x2 ≤ 2147483647)) (fun G s _ => pI (fun r G2 s2 => G2 = G ∧ s2 = s ∧ ((-2147483648) ≤ r ∧ r ≤ 2147483647))) (fun G s _ Ex G2 s2 => G2 = G ∧ zSK G s2 ∧ zFr [12] G s s2 ∧ ((Ex = "java/util/NoSuchElementException" ∧ (True)))) := by
  refine ConX.mk hst (by decide) (fun G s vs h => by rw [h.1]; exact Nat.le_of_ble_eq_true rfl) ?_
  rintro X G s0 vs ⟨rfl, hG, hS0, ha, hx1, hx2⟩ rfl hx hq
  show JJ X E 3 G s0 0 0 [(0, .ref a), (1, .int (zI x1)), (2, .int (zI x2))] 0 []
  refine j_aload_n hx 0 dX11_row_0 rfl ?_
  refine j_iload_n hx 1 dX11_row_1 rfl ?_
  refine j_callVX hx hq hG (c_X11_needPlayer hst a x1) lk_RX11_134 ha (by decide) rfl rfl rfl rfl [.int (zI x1)] ⟨rfl, hG, hS0, ha, (by omega)⟩ rfl rfl ⟨by decide, by decide⟩ ⟨by decide, by decide⟩ (k2 := 1) (n2 := 6) rfl rfl (Nat.le_of_ble_eq_true rfl) ⟨by decide, by decide⟩ dX11_row_2 (by rintro Ex9 G9 s9 ⟨rfl, hS9, hF9, e9, c9⟩; exact ⟨rfl, hS9, (zFr_t zFr_rf hF9 (by decide)), ⟨e9, by first | trivial | omega⟩⟩) (kVP (fun q2 => ?_))
  refine j_aload_n hx 0 dX11_row_5 rfl ?_
  refine g12_6 hx hG ha kf_RX11_48 dX11_row_6 ?_
  refine gN4_1 hx hG (zr (k := 6) (t2 := 4) hG ha rfl) kf_RX11_155 dX11_row_9 ?_
  refine j_iload_n hx 1 dX11_row_12 rfl ?_
  refine j_callV hx hG (c_X0_rowOf hst (gP G (gP G a 6) 1) x1) lk_RX11_187 (zr (k := 1) (t2 := 1) hG (zr (k := 6) (t2 := 4) hG ha rfl) rfl) (by decide) rfl rfl rfl rfl [.int (zI x1)] ⟨rfl, hG, hS0, (zr (k := 1) (t2 := 1) hG (zr (k := 6) (t2 := 4) hG ha rfl) rfl), (by omega)⟩ rfl rfl ⟨by decide, by decide⟩ ⟨by decide, by decide⟩ (k2 := 1) (n2 := 6) rfl rfl (Nat.le_of_ble_eq_true rfl) dX11_row_13 (kRP (fun r3 q4 => ?_))
  refine j_iload_n hx 2 dX11_row_16 rfl ?_
  refine j_callV hx hG (c_X6_kindAt hst r3 x2) lk_RX11_197 q4 (by decide) rfl rfl rfl rfl [.int (zI x2)] ⟨rfl, hG, hS0, q4, (by omega)⟩ rfl rfl ⟨by decide, by decide⟩ ⟨by decide, by decide⟩ (k2 := 1) (n2 := 6) rfl rfl (Nat.le_of_ble_eq_true rfl) dX11_row_17 (kIP (fun v5 q6 => ?_))
  exact j_iret hx hq.r rfl (by decide) (by decide) dX11_row_20 ⟨v5, rfl, rfl, rfl, (by omega)⟩

set_option maxHeartbeats 4000000 in
set_option maxRecDepth 20000 in
theorem c_X11_heap {E : zE} {l : Launch} (hst : l.stackTraces = false) (a : Nat) (x1 : Int) (x2 : Int) : ConX E l yX11_heap cX11_heap 3 (some .int) { frames := 7, cells := 1, slots := 6, locals := 111 } (fun G s vs => vs = [.ref a, .int (zI x1), .int (zI x2)] ∧ zGK G ∧ zSK G s ∧ (gT G a = 12) ∧ ((-2147483648) ≤ x1 ∧ x1 ≤ 2147483647) ∧ ((-2147483648) ≤ x2 ∧ x2 ≤ 2147483647)) (fun G s _ => pI (fun r G2 s2 => G2 = G ∧ s2 = s ∧ ((-2147483648) ≤ r ∧ r ≤ 2147483647))) (fun G s _ Ex G2 s2 => G2 = G ∧ zSK G s2 ∧ zFr [12] G s s2 ∧ ((Ex = "java/util/NoSuchElementException" ∧ (True)))) := by
  refine ConX.mk hst (by decide) (fun G s vs h => by rw [h.1]; exact Nat.le_of_ble_eq_true rfl) ?_
  rintro X G s0 vs ⟨rfl, hG, hS0, ha, hx1, hx2⟩ rfl hx hq
  show JJ X E 3 G s0 0 0 [(0, .ref a), (1, .int (zI x1)), (2, .int (zI x2))] 0 []
  refine j_aload_n hx 0 dX11_heap_0 rfl ?_
  refine j_iload_n hx 1 dX11_heap_1 rfl ?_
  refine j_callVX hx hq hG (c_X11_needPlayer hst a x1) lk_RX11_134 ha (by decide) rfl rfl rfl rfl [.int (zI x1)] ⟨rfl, hG, hS0, ha, (by omega)⟩ rfl rfl ⟨by decide, by decide⟩ ⟨by decide, by decide⟩ (k2 := 1) (n2 := 6) rfl rfl (Nat.le_of_ble_eq_true rfl) ⟨by decide, by decide⟩ dX11_heap_2 (by rintro Ex9 G9 s9 ⟨rfl, hS9, hF9, e9, c9⟩; exact ⟨rfl, hS9, (zFr_t zFr_rf hF9 (by decide)), ⟨e9, by first | trivial | omega⟩⟩) (kVP (fun q2 => ?_))
  refine j_aload_n hx 0 dX11_heap_5 rfl ?_
  refine g12_6 hx hG ha kf_RX11_48 dX11_heap_6 ?_
  refine gN4_1 hx hG (zr (k := 6) (t2 := 4) hG ha rfl) kf_RX11_155 dX11_heap_9 ?_
  refine j_iload_n hx 1 dX11_heap_12 rfl ?_
  refine j_callV hx hG (c_X0_heapOf hst (gP G (gP G a 6) 1) x1) lk_RX11_191 (zr (k := 1) (t2 := 1) hG (zr (k := 6) (t2 := 4) hG ha rfl) rfl) (by decide) rfl rfl rfl rfl [.int (zI x1)] ⟨rfl, hG, hS0, (zr (k := 1) (t2 := 1) hG (zr (k := 6) (t2 := 4) hG ha rfl) rfl), (by omega)⟩ rfl rfl ⟨by decide, by decide⟩ ⟨by decide, by decide⟩ (k2 := 1) (n2 := 6) rfl rfl (Nat.le_of_ble_eq_true rfl) dX11_heap_13 (kRP (fun r3 q4 => ?_))
  refine j_iload_n hx 2 dX11_heap_16 rfl ?_
  refine j_callV hx hG (c_X6_kindAt hst r3 x2) lk_RX11_197 q4 (by decide) rfl rfl rfl rfl [.int (zI x2)] ⟨rfl, hG, hS0, q4, (by omega)⟩ rfl rfl ⟨by decide, by decide⟩ ⟨by decide, by decide⟩ (k2 := 1) (n2 := 6) rfl rfl (Nat.le_of_ble_eq_true rfl) dX11_heap_17 (kIP (fun v5 q6 => ?_))
  exact j_iret hx hq.r rfl (by decide) (by decide) dX11_heap_20 ⟨v5, rfl, rfl, rfl, (by omega)⟩

set_option maxHeartbeats 4000000 in
set_option maxRecDepth 20000 in
theorem c_X11_pool {E : zE} {l : Launch} (hst : l.stackTraces = false) (a : Nat) (x1 : Int) : Con E l yX11_pool cX11_pool 2 (some .int) { frames := 1, cells := 0, slots := 0, locals := 21 } (fun G s vs => vs = [.ref a, .int (zI x1)] ∧ zGK G ∧ zSK G s ∧ (gT G a = 12) ∧ ((-2147483648) ≤ x1 ∧ x1 ≤ 2147483647)) (fun G s _ => pI (fun r G2 s2 => G2 = G ∧ s2 = s ∧ ((-2147483648) ≤ r ∧ r ≤ 2147483647))) := by
  refine Con.mk hst (by decide) (fun G s vs h => by rw [h.1]; exact Nat.le_of_ble_eq_true rfl) ?_
  rintro X G s0 vs ⟨rfl, hG, hS0, ha, hx1⟩ rfl hx hq
  show JJ X E 2 G s0 0 0 [(0, .ref a), (1, .int (zI x1))] 0 []
  refine j_aload_n hx 0 dX11_pool_0 rfl ?_
  refine g12_6 hx hG ha kf_RX11_48 dX11_pool_1 ?_
  refine gN4_1 hx hG (zr (k := 6) (t2 := 4) hG ha rfl) kf_RX11_155 dX11_pool_4 ?_
  refine gN1_6 hx hG (zr (k := 1) (t2 := 1) hG (zr (k := 6) (t2 := 4) hG ha rfl) rfl) kf_RX11_171 dX11_pool_7 ?_
  refine j_iload_n hx 1 dX11_pool_10 rfl ?_
  refine j_callV hx hG (c_X6_kindAt hst (gP G (gP G (gP G a 6) 1) 6) x1) lk_RX11_197 (zr (k := 6) (t2 := 7) hG (zr (k := 1) (t2 := 1) hG (zr (k := 6) (t2 := 4) hG ha rfl) rfl) rfl) (by decide) rfl rfl rfl rfl [.int (zI x1)] ⟨rfl, hG, hS0, (zr (k := 6) (t2 := 7) hG (zr (k := 1) (t2 := 1) hG (zr (k := 6) (t2 := 4) hG ha rfl) rfl) rfl), (by omega)⟩ rfl rfl ⟨by decide, by decide⟩ ⟨by decide, by decide⟩ (k2 := 0) (n2 := 0) rfl rfl (Nat.le_of_ble_eq_true rfl) dX11_pool_11 (kIP (fun v1 q2 => ?_))
  exact j_iret hx hq rfl (by decide) (by decide) dX11_pool_14 ⟨v1, rfl, rfl, rfl, (by omega)⟩

set_option maxHeartbeats 4000000 in
set_option maxRecDepth 20000 in
theorem c_X6_cardAt {E : zE} {l : Launch} (hst : l.stackTraces = false) (a : Nat) (x1 : Int) : Con E l yX6_cardAt cX6_cardAt 2 (some .int) { frames := 0, cells := 0, slots := 0, locals := 0 } (fun G s vs => vs = [.ref a, .int (zI x1)] ∧ zGK G ∧ zSK G s ∧ (gT G a = 7) ∧ ((-2147483648) ≤ x1 ∧ x1 ≤ 2147483647)) (fun G s _ => pI (fun r G2 s2 => G2 = G ∧ s2 = s ∧ ((-2147483648) ≤ r ∧ r ≤ 2147483647))) := by
  refine Con.mk hst (by decide) (fun G s vs h => by rw [h.1]; exact Nat.le_of_ble_eq_true rfl) ?_
  rintro X G s0 vs ⟨rfl, hG, hS0, ha, hx1⟩ rfl hx hq
  show JJ X E 2 G s0 0 0 [(0, .ref a), (1, .int (zI x1))] 0 []
  refine j_iload_n hx 1 dX6_cardAt_0 rfl ?_
  refine j_if_lt hx 30 dX6_cardAt_1 rfl (by omega) (fun h1 => ?_) (fun h1 => ?_)
  · skip
    refine j_iconst hx dX6_cardAt_30 ?_
    exact j_iret hx hq rfl (by decide) (by decide) dX6_cardAt_31 ⟨(-1), rfl, rfl, rfl, (by omega)⟩
  · skip
    refine j_iload_n hx 1 dX6_cardAt_4 rfl ?_
    refine j_aload_n hx 0 dX6_cardAt_5 rfl ?_
    have f2 := zf hS0 ha (k := 1) rfl
    refine g7_1 hx hG ha kf_RX6_15 rfl dX6_cardAt_6 ?_
    refine j_icmp_ge hx 30 dX6_cardAt_9 rfl (by omega) (by omega) (fun h3 => ?_) (fun h3 => ?_)
    · skip
      refine j_iconst hx dX6_cardAt_30 ?_
      exact j_iret hx hq rfl (by decide) (by decide) dX6_cardAt_31 ⟨(-1), rfl, rfl, rfl, (by omega)⟩
    · skip
      refine j_iload_n hx 1 dX6_cardAt_12 rfl ?_
      refine j_aload_n hx 0 dX6_cardAt_13 rfl ?_
      refine g7_0 hx hG ha kf_RX6_9 dX6_cardAt_14 ?_
      refine j_alen hx hG (zr (k := 0) (t2 := 41) hG ha rfl) (by decide) (by decide) (zlen hG (zr (k := 0) (t2 := 41) hG ha rfl) (n := 60) rfl rfl) dX6_cardAt_17 ?_
      refine j_icmp_ge hx 30 dX6_cardAt_18 rfl (by omega) ⟨by decide, by decide⟩ (fun h4 => absurd h4 (by omega)) (fun h4 => ?_)
      refine j_aload_n hx 0 dX6_cardAt_21 rfl ?_
      refine g7_0 hx hG ha kf_RX6_9 dX6_cardAt_22 ?_
      refine j_iload_n hx 1 dX6_cardAt_25 rfl ?_
      have f5 := zaI (j := (x1).toNat) hS0 (zr (k := 0) (t2 := 41) hG ha rfl) rfl (zlen hG (zr (k := 0) (t2 := 41) hG ha rfl) (n := 60) rfl rfl) (show 0 ≤ x1 by omega) (by omega) rfl
      refine j_iald hx hG (zr (k := 0) (t2 := 41) hG ha rfl) (by decide) rfl (zlen hG (zr (k := 0) (t2 := 41) hG ha rfl) (n := 60) rfl rfl) (by omega) (by omega) (j := (x1).toNat) rfl rfl dX6_cardAt_26 ?_
      refine j_goto hx 31 dX6_cardAt_27 rfl ?_
      exact j_iret hx hq rfl (by decide) (by decide) dX6_cardAt_31 ⟨(s0 (gP G a 0) (x1).toNat), rfl, rfl, rfl, (by omega)⟩

theorem lk_RX11_200 : LkV RX11 200 RX6 yX6_cardAt cX6_cardAt 2 (some .int) 1 := ⟨km_RX11_200, ki_yX6_cardAt, ks_RX6_yX6_cardAt, kn_RX6, kc_yX6_cardAt, rfl, by decide +kernel, by decide +kernel, by decide +kernel⟩
set_option maxHeartbeats 4000000 in
set_option maxRecDepth 20000 in
theorem c_X11_lain {E : zE} {l : Launch} (hst : l.stackTraces = false) (a : Nat) (x1 : Int) (x2 : Int) : ConX E l yX11_lain cX11_lain 4 (some .int) { frames := 7, cells := 1, slots := 6, locals := 111 } (fun G s vs => vs = [.ref a, .int (zI x1), .int (zI x2)] ∧ zGK G ∧ zSK G s ∧ (gT G a = 12) ∧ ((-2147483648) ≤ x1 ∧ x1 ≤ 2147483647) ∧ ((-2147483648) ≤ x2 ∧ x2 ≤ 2147483647)) (fun G s _ => pI (fun r G2 s2 => G2 = G ∧ s2 = s ∧ ((-2147483648) ≤ r ∧ r ≤ 2147483647))) (fun G s _ Ex G2 s2 => G2 = G ∧ zSK G s2 ∧ zFr [12] G s s2 ∧ ((Ex = "java/util/NoSuchElementException" ∧ (True)))) := by
  refine ConX.mk hst (by decide) (fun G s vs h => by rw [h.1]; exact Nat.le_of_ble_eq_true rfl) ?_
  rintro X G s0 vs ⟨rfl, hG, hS0, ha, hx1, hx2⟩ rfl hx hq
  show JJ X E 4 G s0 0 0 [(0, .ref a), (1, .int (zI x1)), (2, .int (zI x2))] 0 []
  refine j_aload_n hx 0 dX11_lain_0 rfl ?_
  refine j_iload_n hx 1 dX11_lain_1 rfl ?_
  refine j_callVX hx hq hG (c_X11_needPlayer hst a x1) lk_RX11_134 ha (by decide) rfl rfl rfl rfl [.int (zI x1)] ⟨rfl, hG, hS0, ha, (by omega)⟩ rfl rfl ⟨by decide, by decide⟩ ⟨by decide, by decide⟩ (k2 := 1) (n2 := 6) rfl rfl (Nat.le_of_ble_eq_true rfl) ⟨by decide, by decide⟩ dX11_lain_2 (by rintro Ex9 G9 s9 ⟨rfl, hS9, hF9, e9, c9⟩; exact ⟨rfl, hS9, (zFr_t zFr_rf hF9 (by decide)), ⟨e9, by first | trivial | omega⟩⟩) (kVP (fun q2 => ?_))
  refine j_aload_n hx 0 dX11_lain_5 rfl ?_
  refine g12_6 hx hG ha kf_RX11_48 dX11_lain_6 ?_
  refine gN4_1 hx hG (zr (k := 6) (t2 := 4) hG ha rfl) kf_RX11_155 dX11_lain_9 ?_
  refine j_iload_n hx 1 dX11_lain_12 rfl ?_
  refine j_callV hx hG (c_X0_rowOf hst (gP G (gP G a 6) 1) x1) lk_RX11_187 (zr (k := 1) (t2 := 1) hG (zr (k := 6) (t2 := 4) hG ha rfl) rfl) (by decide) rfl rfl rfl rfl [.int (zI x1)] ⟨rfl, hG, hS0, (zr (k := 1) (t2 := 1) hG (zr (k := 6) (t2 := 4) hG ha rfl) rfl), (by omega)⟩ rfl rfl ⟨by decide, by decide⟩ ⟨by decide, by decide⟩ (k2 := 1) (n2 := 6) rfl rfl (Nat.le_of_ble_eq_true rfl) dX11_lain_13 (kRP (fun r3 q4 => ?_))
  refine j_iload_n hx 2 dX11_lain_16 rfl ?_
  refine j_callV hx hG (c_X6_cardAt hst r3 x2) lk_RX11_200 q4 (by decide) rfl rfl rfl rfl [.int (zI x2)] ⟨rfl, hG, hS0, q4, (by omega)⟩ rfl rfl ⟨by decide, by decide⟩ ⟨by decide, by decide⟩ (k2 := 1) (n2 := 6) rfl rfl (Nat.le_of_ble_eq_true rfl) dX11_lain_17 (kIP (fun v5 q6 => ?_))
  refine j_istore_n hx [(3, .int (zI v5)), (0, .ref a), (1, .int (zI x1)), (2, .int (zI x2))] dX11_lain_20 (by decide) rfl ?_
  refine j_iload_n hx 0 dX11_lain_21 rfl ?_
  refine j_iconst hx dX11_lain_22 ?_
  refine j_icmp_ne hx 30 dX11_lain_23 rfl (by omega) ⟨by decide, by decide⟩ (fun h7 => ?_) (fun h7 => ?_)
  · skip
    refine j_iload_n hx 0 dX11_lain_30 rfl ?_
    refine j_iconst hx dX11_lain_31 ?_
    refine j_iand hx dX11_lain_32 (by omega) ⟨by decide, by decide⟩ (fun v8 f9 f10 f11 f12 _ => ?_)
    exact j_iret hx hq.r rfl (by decide) (by decide) dX11_lain_33 ⟨v8, rfl, rfl, rfl, (by omega)⟩
  · skip
    refine j_iconst hx dX11_lain_26 ?_
    refine j_goto hx 33 dX11_lain_27 rfl ?_
    exact j_iret hx hq.r rfl (by decide) (by decide) dX11_lain_33 ⟨(-1), rfl, rfl, rfl, (by omega)⟩

set_option maxHeartbeats 4000000 in
set_option maxRecDepth 20000 in
theorem c_X6_topKind {E : zE} {l : Launch} (hst : l.stackTraces = false) (a : Nat) : Con E l yX6_topKind cX6_topKind 1 (some .int) { frames := 0, cells := 0, slots := 0, locals := 0 } (fun G s vs => vs = [.ref a] ∧ zGK G ∧ zSK G s ∧ (gT G a = 7)) (fun G s _ => pI (fun r G2 s2 => G2 = G ∧ s2 = s ∧ ((-2147483648) ≤ r ∧ r ≤ 2147483647))) := by
  refine Con.mk hst (by decide) (fun G s vs h => by rw [h.1]; exact Nat.le_of_ble_eq_true rfl) ?_
  rintro X G s0 vs ⟨rfl, hG, hS0, ha⟩ rfl hx hq
  show JJ X E 1 G s0 0 0 [(0, .ref a)] 0 []
  refine j_aload_n hx 0 dX6_topKind_0 rfl ?_
  have f1 := zf hS0 ha (k := 1) rfl
  refine g7_1 hx hG ha kf_RX6_15 rfl dX6_topKind_1 ?_
  refine j_if_le hx 35 dX6_topKind_4 rfl (by omega) (fun h2 => ?_) (fun h2 => ?_)
  · skip
    refine j_iconst hx dX6_topKind_35 ?_
    exact j_iret hx hq rfl (by decide) (by decide) dX6_topKind_36 ⟨(-1), rfl, rfl, rfl, (by omega)⟩
  · skip
    refine j_aload_n hx 0 dX6_topKind_7 rfl ?_
    refine g7_1 hx hG ha kf_RX6_15 rfl dX6_topKind_8 ?_
    refine j_aload_n hx 0 dX6_topKind_11 rfl ?_
    refine g7_0 hx hG ha kf_RX6_9 dX6_topKind_12 ?_
    refine j_alen hx hG (zr (k := 0) (t2 := 41) hG ha rfl) (by decide) (by decide) (zlen hG (zr (k := 0) (t2 := 41) hG ha rfl) (n := 60) rfl rfl) dX6_topKind_15 ?_
    refine j_icmp_gt hx 35 dX6_topKind_16 rfl (by omega) ⟨by decide, by decide⟩ (fun h3 => absurd h3 (by omega)) (fun h3 => ?_)
    refine j_aload_n hx 0 dX6_topKind_19 rfl ?_
    refine g7_0 hx hG ha kf_RX6_9 dX6_topKind_20 ?_
    refine j_aload_n hx 0 dX6_topKind_23 rfl ?_
    refine g7_1 hx hG ha kf_RX6_15 rfl dX6_topKind_24 ?_
    refine j_iconst hx dX6_topKind_27 ?_
    refine j_isub hx (r := (s0 a 1) - 1) dX6_topKind_28 (by omega) ?_
    have f4 := zaI (j := ((s0 a 1) - 1).toNat) hS0 (zr (k := 0) (t2 := 41) hG ha rfl) rfl (zlen hG (zr (k := 0) (t2 := 41) hG ha rfl) (n := 60) rfl rfl) (show 0 ≤ (s0 a 1) - 1 by omega) (by omega) rfl
    refine j_iald hx hG (zr (k := 0) (t2 := 41) hG ha rfl) (by decide) rfl (zlen hG (zr (k := 0) (t2 := 41) hG ha rfl) (n := 60) rfl rfl) (by omega) (by omega) (j := ((s0 a 1) - 1).toNat) rfl rfl dX6_topKind_29 ?_
    refine j_iconst hx dX6_topKind_30 ?_
    refine j_ishr hx 1 2 dX6_topKind_31 (by omega) rfl (by decide) (by decide) (fun v5 f6 f7 f8 f9 => ?_)
    refine j_goto hx 36 dX6_topKind_32 rfl ?_
    exact j_iret hx hq rfl (by decide) (by decide) dX6_topKind_36 ⟨v5, rfl, rfl, rfl, (by omega)⟩

theorem lk_RX0_75 : LkV RX0 75 RX6 yX6_topKind cX6_topKind 1 (some .int) 0 := ⟨km_RX0_75, ki_yX6_topKind, ks_RX6_yX6_topKind, kn_RX6, kc_yX6_topKind, rfl, by decide +kernel, by decide +kernel, by decide +kernel⟩
set_option maxHeartbeats 4000000 in
set_option maxRecDepth 20000 in
theorem c_X0_likeTopsIf {E : zE} {l : Launch} (hst : l.stackTraces = false) (a : Nat) (x1 : Int) (x2 : Int) : Con E l yX0_likeTopsIf cX0_likeTopsIf 6 (some .int) { frames := 1, cells := 0, slots := 0, locals := 20 } (fun G s vs => vs = [.ref a, .int (zI x1), .int (zI x2)] ∧ zGK G ∧ zSK G s ∧ (gT G a = 1) ∧ ((-2147483648) ≤ x1 ∧ x1 ≤ 2147483647) ∧ ((-2147483648) ≤ x2 ∧ x2 ≤ 2147483647)) (fun G s _ => pI (fun r G2 s2 => G2 = G ∧ s2 = s ∧ ((-2147483648) ≤ r ∧ r ≤ 2147483647))) := by
  refine Con.mk hst (by decide) (fun G s vs h => by rw [h.1]; exact Nat.le_of_ble_eq_true rfl) ?_
  rintro X G s0 vs ⟨rfl, hG, hS0, ha, hx1, hx2⟩ rfl hx hq
  show JJ X E 6 G s0 0 0 [(0, .ref a), (1, .int (zI x1)), (2, .int (zI x2))] 0 []
  refine j_iload_n hx 1 dX0_likeTopsIf_0 rfl ?_
  have c15_1 : ∀ (v1 : Int), ((-2147483648) ≤ v1 ∧ v1 ≤ 2147483647) → JJ X E 6 G s0 0 0 [(0, .ref a), (1, .int (zI x1)), (2, .int (zI x2))] 15 [.int (zI v1)] := by
    intro v1 fA2
    refine j_istore_n hx [(3, .int (zI v1)), (0, .ref a), (1, .int (zI x1)), (2, .int (zI x2))] dX0_likeTopsIf_15 (by decide) rfl ?_
    refine j_iload_n hx 2 dX0_likeTopsIf_16 rfl ?_
    refine j_iconst hx dX0_likeTopsIf_17 ?_
    have c32_3 : ∀ (v2 : Int), ((-2147483648) ≤ v2 ∧ v2 ≤ 2147483647) → JJ X E 6 G s0 0 0 [(0, .ref a), (1, .int (zI x1)), (2, .int (zI x2)), (3, .int (zI v1))] 32 [.int (zI v2)] := by
      intro v2 fA4
      refine j_istore hx [(4, .int (zI v2)), (0, .ref a), (1, .int (zI x1)), (2, .int (zI x2)), (3, .int (zI v1))] dX0_likeTopsIf_32 (by decide) rfl ?_
      refine j_iload_n hx 2 dX0_likeTopsIf_34 rfl ?_
      refine j_iconst hx dX0_likeTopsIf_35 ?_
      have c50_5 : ∀ (v3 : Int), ((-2147483648) ≤ v3 ∧ v3 ≤ 2147483647) → JJ X E 6 G s0 0 0 [(3, .int (zI v1)), (4, .int (zI v2))] 50 [.int (zI v3)] := by
        intro v3 fA6
        refine j_istore hx [(5, .int (zI v3)), (3, .int (zI v1)), (4, .int (zI v2))] dX0_likeTopsIf_50 (by decide) rfl ?_
        refine j_iload_n hx 1 dX0_likeTopsIf_52 rfl ?_
        refine j_iconst hx dX0_likeTopsIf_53 ?_
        have c65_7 : JJ X E 6 G s0 0 0 [(3, .int (zI v1)), (4, .int (zI v2)), (5, .int (zI v3))] 65 [] := by
          refine j_iload_n hx 0 dX0_likeTopsIf_65 rfl ?_
          refine j_iconst hx dX0_likeTopsIf_66 ?_
          have c78_8 : JJ X E 6 G s0 0 0 [(4, .int (zI v2)), (5, .int (zI v3))] 78 [] := by
            refine j_iload hx 0 dX0_likeTopsIf_78 rfl ?_
            refine j_iconst hx dX0_likeTopsIf_80 ?_
            refine j_icmp_eq hx 96 dX0_likeTopsIf_81 rfl (by omega) ⟨by decide, by decide⟩ (fun h4 => ?_) (fun h4 => ?_)
            · skip
              refine j_iconst hx dX0_likeTopsIf_96 ?_
              exact j_iret hx hq rfl (by decide) (by decide) dX0_likeTopsIf_97 ⟨(-1), rfl, rfl, rfl, (by omega)⟩
            · skip
              refine j_iload hx 0 dX0_likeTopsIf_84 rfl ?_
              refine j_iload hx 1 dX0_likeTopsIf_86 rfl ?_
              refine j_icmp_ne hx 96 dX0_likeTopsIf_88 rfl (by omega) (by omega) (fun h5 => ?_) (fun h5 => ?_)
              · skip
                refine j_iconst hx dX0_likeTopsIf_96 ?_
                exact j_iret hx hq rfl (by decide) (by decide) dX0_likeTopsIf_97 ⟨(-1), rfl, rfl, rfl, (by omega)⟩
              · skip
                refine j_bipush hx dX0_likeTopsIf_91 rfl ?_
                refine j_goto hx 97 dX0_likeTopsIf_93 rfl ?_
                exact j_iret hx hq rfl (by decide) (by decide) dX0_likeTopsIf_97 ⟨12, rfl, rfl, rfl, (by omega)⟩
          refine j_icmp_eq hx 78 dX0_likeTopsIf_67 rfl (by omega) ⟨by decide, by decide⟩ (fun h6 => ?_) (fun h6 => ?_)
          · skip
            exact j_sub [1, 2] [(4, .int (zI v2)), (5, .int (zI v3))] rfl (c78_8  )
          · skip
            refine j_iload_n hx 0 dX0_likeTopsIf_70 rfl ?_
            refine j_iload hx 2 dX0_likeTopsIf_71 rfl ?_
            refine j_icmp_ne hx 78 dX0_likeTopsIf_73 rfl (by omega) (by omega) (fun h7 => ?_) (fun h7 => ?_)
            · skip
              exact j_sub [1, 2] [(4, .int (zI v2)), (5, .int (zI v3))] rfl (c78_8  )
            · skip
              refine j_iconst hx dX0_likeTopsIf_76 ?_
              exact j_iret hx hq rfl (by decide) (by decide) dX0_likeTopsIf_77 ⟨2, rfl, rfl, rfl, (by omega)⟩
        refine j_icmp_eq hx 65 dX0_likeTopsIf_54 rfl (by omega) ⟨by decide, by decide⟩ (fun h8 => ?_) (fun h8 => ?_)
        · skip
          exact j_sub [1, 2, 0] [(3, .int (zI v1)), (4, .int (zI v2)), (5, .int (zI v3))] rfl (c65_7  )
        · skip
          refine j_iload_n hx 1 dX0_likeTopsIf_57 rfl ?_
          refine j_iload hx 2 dX0_likeTopsIf_58 rfl ?_
          refine j_icmp_ne hx 65 dX0_likeTopsIf_60 rfl (by omega) (by omega) (fun h9 => ?_) (fun h9 => ?_)
          · skip
            exact j_sub [1, 2, 0] [(3, .int (zI v1)), (4, .int (zI v2)), (5, .int (zI v3))] rfl (c65_7  )
          · skip
            refine j_iconst hx dX0_likeTopsIf_63 ?_
            exact j_iret hx hq rfl (by decide) (by decide) dX0_likeTopsIf_64 ⟨1, rfl, rfl, rfl, (by omega)⟩
      refine j_icmp_ne hx 43 dX0_likeTopsIf_36 rfl (by omega) ⟨by decide, by decide⟩ (fun h10 => ?_) (fun h10 => ?_)
      · skip
        refine j_aload_n hx 1 dX0_likeTopsIf_43 rfl ?_
        refine g1_5 hx hG ha kf_RX0_30 dX0_likeTopsIf_44 ?_
        refine j_callV hx hG (c_X6_topKind hst (gP G a 5)) lk_RX0_75 (zr (k := 5) (t2 := 7) hG ha rfl) (by decide) rfl rfl rfl rfl [] ⟨rfl, hG, hS0, (zr (k := 5) (t2 := 7) hG ha rfl)⟩ rfl rfl ⟨by decide, by decide⟩ ⟨by decide, by decide⟩ (k2 := 0) (n2 := 0) rfl rfl (Nat.le_of_ble_eq_true rfl) dX0_likeTopsIf_47 (kIP (fun v11 q12 => ?_))
        exact j_sub [4, 0] [(3, .int (zI v1)), (4, .int (zI v2))] rfl (c50_5 v11 (by omega))
      · skip
        refine j_iload_n hx 3 dX0_likeTopsIf_39 rfl ?_
        refine j_goto hx 50 dX0_likeTopsIf_40 rfl ?_
        exact j_sub [4, 0] [(3, .int (zI v1)), (4, .int (zI v2))] rfl (c50_5 x2 (by omega))
    refine j_icmp_ne hx 25 dX0_likeTopsIf_18 rfl (by omega) ⟨by decide, by decide⟩ (fun h13 => ?_) (fun h13 => ?_)
    · skip
      refine j_aload_n hx 1 dX0_likeTopsIf_25 rfl ?_
      refine g1_4 hx hG ha kf_RX0_27 dX0_likeTopsIf_26 ?_
      refine j_callV hx hG (c_X6_topKind hst (gP G a 4)) lk_RX0_75 (zr (k := 4) (t2 := 7) hG ha rfl) (by decide) rfl rfl rfl rfl [] ⟨rfl, hG, hS0, (zr (k := 4) (t2 := 7) hG ha rfl)⟩ rfl rfl ⟨by decide, by decide⟩ ⟨by decide, by decide⟩ (k2 := 0) (n2 := 0) rfl rfl (Nat.le_of_ble_eq_true rfl) dX0_likeTopsIf_29 (kIP (fun v14 q15 => ?_))
      exact j_sub [1, 2, 3, 0] [(0, .ref a), (1, .int (zI x1)), (2, .int (zI x2)), (3, .int (zI v1))] rfl (c32_3 v14 (by omega))
    · skip
      refine j_iload_n hx 3 dX0_likeTopsIf_21 rfl ?_
      refine j_goto hx 32 dX0_likeTopsIf_22 rfl ?_
      exact j_sub [1, 2, 3, 0] [(0, .ref a), (1, .int (zI x1)), (2, .int (zI x2)), (3, .int (zI v1))] rfl (c32_3 x2 (by omega))
  refine j_if_ne hx 8 dX0_likeTopsIf_1 rfl (by omega) (fun h16 => ?_) (fun h16 => ?_)
  · skip
    refine j_aload_n hx 0 dX0_likeTopsIf_8 rfl ?_
    refine g1_3 hx hG ha kf_RX0_24 dX0_likeTopsIf_9 ?_
    refine j_callV hx hG (c_X6_topKind hst (gP G a 3)) lk_RX0_75 (zr (k := 3) (t2 := 7) hG ha rfl) (by decide) rfl rfl rfl rfl [] ⟨rfl, hG, hS0, (zr (k := 3) (t2 := 7) hG ha rfl)⟩ rfl rfl ⟨by decide, by decide⟩ ⟨by decide, by decide⟩ (k2 := 0) (n2 := 0) rfl rfl (Nat.le_of_ble_eq_true rfl) dX0_likeTopsIf_12 (kIP (fun v17 q18 => ?_))
    exact j_sub [0, 1, 2] [(0, .ref a), (1, .int (zI x1)), (2, .int (zI x2))] rfl (c15_1 v17 (by omega))
  · skip
    refine j_iload_n hx 2 dX0_likeTopsIf_4 rfl ?_
    refine j_goto hx 15 dX0_likeTopsIf_5 rfl ?_
    exact j_sub [0, 1, 2] [(0, .ref a), (1, .int (zI x1)), (2, .int (zI x2))] rfl (c15_1 x2 (by omega))

theorem lk_RX0_72 : LkV RX0 72 RX0 yX0_likeTopsIf cX0_likeTopsIf 6 (some .int) 2 := ⟨km_RX0_72, ki_yX0_likeTopsIf, ks_RX0_yX0_likeTopsIf, kn_RX0, kc_yX0_likeTopsIf, rfl, by decide +kernel, by decide +kernel, by decide +kernel⟩
set_option maxHeartbeats 4000000 in
set_option maxRecDepth 20000 in
theorem c_X0_likeTops {E : zE} {l : Launch} (hst : l.stackTraces = false) (a : Nat) : Con E l yX0_likeTops cX0_likeTops 1 (some .int) { frames := 2, cells := 0, slots := 0, locals := 45 } (fun G s vs => vs = [.ref a] ∧ zGK G ∧ zSK G s ∧ (gT G a = 1)) (fun G s _ => pI (fun r G2 s2 => G2 = G ∧ s2 = s ∧ ((-2147483648) ≤ r ∧ r ≤ 2147483647))) := by
  refine Con.mk hst (by decide) (fun G s vs h => by rw [h.1]; exact Nat.le_of_ble_eq_true rfl) ?_
  rintro X G s0 vs ⟨rfl, hG, hS0, ha⟩ rfl hx hq
  show JJ X E 1 G s0 0 0 [(0, .ref a)] 0 []
  refine j_aload_n hx 0 dX0_likeTops_0 rfl ?_
  refine j_iconst hx dX0_likeTops_1 ?_
  refine j_iconst hx dX0_likeTops_2 ?_
  refine j_callV hx hG (c_X0_likeTopsIf hst a (-1) (-1)) lk_RX0_72 ha (by decide) rfl rfl rfl rfl [.int (zI (-1)), .int (zI (-1))] ⟨rfl, hG, hS0, ha, (by omega), (by omega)⟩ rfl rfl ⟨by decide, by decide⟩ ⟨by decide, by decide⟩ (k2 := 0) (n2 := 0) rfl rfl (Nat.le_of_ble_eq_true rfl) dX0_likeTops_3 (kIP (fun v1 q2 => ?_))
  exact j_iret hx hq rfl (by decide) (by decide) dX0_likeTops_6 ⟨v1, rfl, rfl, rfl, (by omega)⟩

theorem lk_RX11_203 : LkV RX11 203 RX0 yX0_likeTops cX0_likeTops 1 (some .int) 0 := ⟨km_RX11_203, ki_yX0_likeTops, ks_RX0_yX0_likeTops, kn_RX0, kc_yX0_likeTops, rfl, by decide +kernel, by decide +kernel, by decide +kernel⟩
set_option maxHeartbeats 4000000 in
set_option maxRecDepth 20000 in
theorem c_X11_alike {E : zE} {l : Launch} (hst : l.stackTraces = false) (a : Nat) : Con E l yX11_alike cX11_alike 1 (some .int) { frames := 3, cells := 0, slots := 0, locals := 65 } (fun G s vs => vs = [.ref a] ∧ zGK G ∧ zSK G s ∧ (gT G a = 12)) (fun G s _ => pI (fun r G2 s2 => G2 = G ∧ s2 = s ∧ ((-2147483648) ≤ r ∧ r ≤ 2147483647))) := by
  refine Con.mk hst (by decide) (fun G s vs h => by rw [h.1]; exact Nat.le_of_ble_eq_true rfl) ?_
  rintro X G s0 vs ⟨rfl, hG, hS0, ha⟩ rfl hx hq
  show JJ X E 1 G s0 0 0 [(0, .ref a)] 0 []
  refine j_aload_n hx 0 dX11_alike_0 rfl ?_
  refine g12_6 hx hG ha kf_RX11_48 dX11_alike_1 ?_
  refine gN4_1 hx hG (zr (k := 6) (t2 := 4) hG ha rfl) kf_RX11_155 dX11_alike_4 ?_
  refine j_callV hx hG (c_X0_likeTops hst (gP G (gP G a 6) 1)) lk_RX11_203 (zr (k := 1) (t2 := 1) hG (zr (k := 6) (t2 := 4) hG ha rfl) rfl) (by decide) rfl rfl rfl rfl [] ⟨rfl, hG, hS0, (zr (k := 1) (t2 := 1) hG (zr (k := 6) (t2 := 4) hG ha rfl) rfl)⟩ rfl rfl ⟨by decide, by decide⟩ ⟨by decide, by decide⟩ (k2 := 0) (n2 := 0) rfl rfl (Nat.le_of_ble_eq_true rfl) dX11_alike_7 (kIP (fun v1 q2 => ?_))
  exact j_iret hx hq rfl (by decide) (by decide) dX11_alike_10 ⟨v1, rfl, rfl, rfl, (by omega)⟩

set_option maxHeartbeats 4000000 in
set_option maxRecDepth 20000 in
theorem c_X0_twins {E : zE} {l : Launch} (hst : l.stackTraces = false) (a : Nat) : Con E l yX0_twins cX0_twins 5 (some .int) { frames := 1, cells := 0, slots := 0, locals := 20 } (fun G s vs => vs = [.ref a] ∧ zGK G ∧ zSK G s ∧ (gT G a = 1)) (fun G s _ => pI (fun r G2 s2 => G2 = G ∧ s2 = s ∧ ((-2147483648) ≤ r ∧ r ≤ 2147483647))) := by
  refine Con.mk hst (by decide) (fun G s vs h => by rw [h.1]; exact Nat.le_of_ble_eq_true rfl) ?_
  rintro X G s0 vs ⟨rfl, hG, hS0, ha⟩ rfl hx hq
  show JJ X E 5 G s0 0 0 [(0, .ref a)] 0 []
  refine j_aload_n hx 0 dX0_twins_0 rfl ?_
  refine g1_3 hx hG ha kf_RX0_24 dX0_twins_1 ?_
  refine j_callV hx hG (c_X6_topKind hst (gP G a 3)) lk_RX0_75 (zr (k := 3) (t2 := 7) hG ha rfl) (by decide) rfl rfl rfl rfl [] ⟨rfl, hG, hS0, (zr (k := 3) (t2 := 7) hG ha rfl)⟩ rfl rfl ⟨by decide, by decide⟩ ⟨by decide, by decide⟩ (k2 := 0) (n2 := 0) rfl rfl (Nat.le_of_ble_eq_true rfl) dX0_twins_4 (kIP (fun v1 q2 => ?_))
  refine j_istore_n hx [(1, .int (zI v1)), (0, .ref a)] dX0_twins_7 (by decide) rfl ?_
  refine j_aload_n hx 1 dX0_twins_8 rfl ?_
  refine g1_4 hx hG ha kf_RX0_27 dX0_twins_9 ?_
  refine j_callV hx hG (c_X6_topKind hst (gP G a 4)) lk_RX0_75 (zr (k := 4) (t2 := 7) hG ha rfl) (by decide) rfl rfl rfl rfl [] ⟨rfl, hG, hS0, (zr (k := 4) (t2 := 7) hG ha rfl)⟩ rfl rfl ⟨by decide, by decide⟩ ⟨by decide, by decide⟩ (k2 := 0) (n2 := 0) rfl rfl (Nat.le_of_ble_eq_true rfl) dX0_twins_12 (kIP (fun v3 q4 => ?_))
  refine j_istore_n hx [(2, .int (zI v3)), (1, .int (zI v1)), (0, .ref a)] dX0_twins_15 (by decide) rfl ?_
  refine j_aload_n hx 2 dX0_twins_16 rfl ?_
  refine g1_5 hx hG ha kf_RX0_30 dX0_twins_17 ?_
  refine j_callV hx hG (c_X6_topKind hst (gP G a 5)) lk_RX0_75 (zr (k := 5) (t2 := 7) hG ha rfl) (by decide) rfl rfl rfl rfl [] ⟨rfl, hG, hS0, (zr (k := 5) (t2 := 7) hG ha rfl)⟩ rfl rfl ⟨by decide, by decide⟩ ⟨by decide, by decide⟩ (k2 := 0) (n2 := 0) rfl rfl (Nat.le_of_ble_eq_true rfl) dX0_twins_20 (kIP (fun v5 q6 => ?_))
  refine j_istore_n hx [(3, .int (zI v5)), (2, .int (zI v3)), (1, .int (zI v1)), (0, .ref a)] dX0_twins_23 (by decide) rfl ?_
  refine j_iload_n hx 2 dX0_twins_24 rfl ?_
  refine j_iconst hx dX0_twins_25 ?_
  have c39_1 : ∀ (v7 : Int), (0 ≤ v7 ∧ v7 ≤ 3) → JJ X E 5 G s0 0 0 [(1, .int (zI v1)), (2, .int (zI v3)), (3, .int (zI v5))] 39 [.int (zI v7)] := by
    intro v7 fA2
    refine j_istore hx [(4, .int (zI v7)), (1, .int (zI v1)), (2, .int (zI v3)), (3, .int (zI v5))] dX0_twins_39 (by decide) rfl ?_
    refine j_iload hx 0 dX0_twins_41 rfl ?_
    refine j_iload_n hx 1 dX0_twins_43 rfl ?_
    refine j_iconst hx dX0_twins_44 ?_
    have c58_3 : ∀ (v8 : Int), (0 ≤ v8 ∧ v8 ≤ 5) → JJ X E 5 G s0 0 0 [(2, .int (zI v3)), (3, .int (zI v5))] 58 [.int (zI v8), .int (zI v7)] := by
      intro v8 fA4
      refine j_ior hx dX0_twins_58 (fun v9 f10 f11 => ?_)
      refine j_istore hx [(4, .int (zI v9)), (2, .int (zI v3)), (3, .int (zI v5))] dX0_twins_59 (by decide) rfl ?_
      refine j_iload_n hx 1 dX0_twins_61 rfl ?_
      refine j_iconst hx dX0_twins_62 ?_
      refine j_icmp_eq hx 79 dX0_twins_63 rfl (by omega) ⟨by decide, by decide⟩ (fun h12 => ?_) (fun h12 => ?_)
      · skip
        refine j_iload hx 0 dX0_twins_79 rfl ?_
        exact j_iret hx hq rfl (by decide) (by decide) dX0_twins_81 ⟨v9, rfl, rfl, rfl, (by omega)⟩
      · skip
        refine j_iload_n hx 1 dX0_twins_66 rfl ?_
        refine j_iload_n hx 2 dX0_twins_67 rfl ?_
        refine j_icmp_ne hx 79 dX0_twins_68 rfl (by omega) (by omega) (fun h13 => ?_) (fun h13 => ?_)
        · skip
          refine j_iload hx 0 dX0_twins_79 rfl ?_
          exact j_iret hx hq rfl (by decide) (by decide) dX0_twins_81 ⟨v9, rfl, rfl, rfl, (by omega)⟩
        · skip
          refine j_iload hx 0 dX0_twins_71 rfl ?_
          refine j_bipush hx dX0_twins_73 rfl ?_
          refine j_ior hx dX0_twins_75 (fun v14 f15 f16 => ?_)
          refine j_goto hx 81 dX0_twins_76 rfl ?_
          exact j_iret hx hq rfl (by decide) (by decide) dX0_twins_81 ⟨v14, rfl, rfl, rfl, (by omega)⟩
    have c57_5 : JJ X E 5 G s0 0 0 [(2, .int (zI v3)), (3, .int (zI v5))] 57 [.int (zI v7)] := by
      refine j_iconst hx dX0_twins_57 ?_
      exact j_sub [0, 1] [(2, .int (zI v3)), (3, .int (zI v5))] rfl (c58_3 0 (by omega))
    refine j_icmp_eq hx 57 dX0_twins_45 rfl (by omega) ⟨by decide, by decide⟩ (fun h17 => ?_) (fun h17 => ?_)
    · skip
      exact j_sub [2, 3] [(2, .int (zI v3)), (3, .int (zI v5))] rfl (c57_5  )
    · skip
      refine j_iload_n hx 1 dX0_twins_48 rfl ?_
      refine j_iload_n hx 3 dX0_twins_49 rfl ?_
      refine j_icmp_ne hx 57 dX0_twins_50 rfl (by omega) (by omega) (fun h18 => ?_) (fun h18 => ?_)
      · skip
        exact j_sub [2, 3] [(2, .int (zI v3)), (3, .int (zI v5))] rfl (c57_5  )
      · skip
        refine j_iconst hx dX0_twins_53 ?_
        refine j_goto hx 58 dX0_twins_54 rfl ?_
        exact j_sub [2, 3] [(2, .int (zI v3)), (3, .int (zI v5))] rfl (c58_3 5 (by omega))
  have c38_6 : JJ X E 5 G s0 0 0 [(1, .int (zI v1)), (2, .int (zI v3)), (3, .int (zI v5))] 38 [] := by
    refine j_iconst hx dX0_twins_38 ?_
    exact j_sub [0, 1, 2] [(1, .int (zI v1)), (2, .int (zI v3)), (3, .int (zI v5))] rfl (c39_1 0 (by omega))
  refine j_icmp_eq hx 38 dX0_twins_26 rfl (by omega) ⟨by decide, by decide⟩ (fun h19 => ?_) (fun h19 => ?_)
  · skip
    exact j_sub [2, 1, 0] [(1, .int (zI v1)), (2, .int (zI v3)), (3, .int (zI v5))] rfl (c38_6  )
  · skip
    refine j_iload_n hx 2 dX0_twins_29 rfl ?_
    refine j_iload_n hx 1 dX0_twins_30 rfl ?_
    refine j_icmp_ne hx 38 dX0_twins_31 rfl (by omega) (by omega) (fun h20 => ?_) (fun h20 => ?_)
    · skip
      exact j_sub [2, 1, 0] [(1, .int (zI v1)), (2, .int (zI v3)), (3, .int (zI v5))] rfl (c38_6  )
    · skip
      refine j_iconst hx dX0_twins_34 ?_
      refine j_goto hx 39 dX0_twins_35 rfl ?_
      exact j_sub [2, 1, 0] [(1, .int (zI v1)), (2, .int (zI v3)), (3, .int (zI v5))] rfl (c39_1 3 (by omega))

theorem lk_RX3_78 : LkV RX3 78 RX0 yX0_likeTops cX0_likeTops 1 (some .int) 0 := ⟨km_RX3_78, ki_yX0_likeTops, ks_RX0_yX0_likeTops, kn_RX0, kc_yX0_likeTops, rfl, by decide +kernel, by decide +kernel, by decide +kernel⟩
theorem lk_RX3_82 : LkV RX3 82 RX0 yX0_twins cX0_twins 5 (some .int) 0 := ⟨km_RX3_82, ki_yX0_twins, ks_RX0_yX0_twins, kn_RX0, kc_yX0_twins, rfl, by decide +kernel, by decide +kernel, by decide +kernel⟩
theorem lk_RX3_96 : LkV RX3 96 RX0 yX0_likeTopsIf cX0_likeTopsIf 6 (some .int) 2 := ⟨km_RX3_96, ki_yX0_likeTopsIf, ks_RX0_yX0_likeTopsIf, kn_RX0, kc_yX0_likeTopsIf, rfl, by decide +kernel, by decide +kernel, by decide +kernel⟩
theorem lk_RX3_87 : LkV RX3 87 RX0 yX0_rowOf cX0_rowOf 2 (some (.object "SnapHeaps$Pile")) 1 := ⟨km_RX3_87, ki_yX0_rowOf, ks_RX0_yX0_rowOf, kn_RX0, kc_yX0_rowOf, rfl, by decide +kernel, by decide +kernel, by decide +kernel⟩
theorem lk_RX3_91 : LkV RX3 91 RX6 yX6_cardAt cX6_cardAt 2 (some .int) 1 := ⟨km_RX3_91, ki_yX6_cardAt, ks_RX6_yX6_cardAt, kn_RX6, kc_yX6_cardAt, rfl, by decide +kernel, by decide +kernel, by decide +kernel⟩
set_option maxHeartbeats 4000000 in
set_option maxRecDepth 20000 in
theorem c_X3_look {E : zE} {l : Launch} (hst : l.stackTraces = false) (a : Nat) (x1 : Int) : Con E l yX3_look cX3_look 3 none { frames := 3, cells := 0, slots := 0, locals := 65 } (fun G s vs => vs = [.ref a, .int (zI x1)] ∧ zGK G ∧ zSK G s ∧ (gT G a = 4) ∧ ((-2147483648) ≤ x1 ∧ x1 ≤ 2147483647)) (fun G s _ => pV (fun G2 s2 => G2 = G ∧ zSK G s2 ∧ zFr [4] G s s2 ∧ True)) := by
  refine Con.mk hst (by decide) (fun G s vs h => by rw [h.1]; exact Nat.le_of_ble_eq_true rfl) ?_
  rintro X G s0 vs ⟨rfl, hG, hS0, ha, hx1⟩ rfl hx hq
  show JJ X E 3 G s0 0 0 [(0, .ref a), (1, .int (zI x1))] 0 []
  refine j_aload_n hx 0 dX3_look_0 rfl ?_
  refine j_aload_n hx 0 dX3_look_1 rfl ?_
  refine g4_1 hx hG ha kf_RX3_14 dX3_look_2 ?_
  refine j_callV hx hG (c_X0_likeTops hst (gP G a 1)) lk_RX3_78 (zr (k := 1) (t2 := 1) hG ha rfl) (by decide) rfl rfl rfl rfl [] ⟨rfl, hG, hS0, (zr (k := 1) (t2 := 1) hG ha rfl)⟩ rfl rfl ⟨by decide, by decide⟩ ⟨by decide, by decide⟩ (k2 := 0) (n2 := 0) rfl rfl (Nat.le_of_ble_eq_true rfl) dX3_look_5 (kIP (fun v1 q2 => ?_))
  refine p4_11 hx hG ha kf_RX3_37 dX3_look_8 ?_
  obtain ⟨s1, e_s1⟩ : ∃ z, z = zU s0 a 11 v1 := ⟨_, rfl⟩
  rw [← e_s1]
  have hS_s1 : zSK G s1 := by rw [e_s1]; exact zSK_F hS0 ha rfl rfl rfl (by omega)
  refine j_aload_n hx 0 dX3_look_11 rfl ?_
  refine j_aload_n hx 0 dX3_look_12 rfl ?_
  refine g4_1 hx hG ha kf_RX3_14 dX3_look_13 ?_
  refine j_callV hx hG (c_X0_twins hst (gP G a 1)) lk_RX3_82 (zr (k := 1) (t2 := 1) hG ha rfl) (by decide) rfl rfl rfl rfl [] ⟨rfl, hG, hS_s1, (zr (k := 1) (t2 := 1) hG ha rfl)⟩ rfl rfl ⟨by decide, by decide⟩ ⟨by decide, by decide⟩ (k2 := 0) (n2 := 0) rfl rfl (Nat.le_of_ble_eq_true rfl) dX3_look_16 (kIP (fun v3 q4 => ?_))
  refine p4_12 hx hG ha kf_RX3_85 dX3_look_19 ?_
  obtain ⟨s2, e_s2⟩ : ∃ z, z = zU s1 a 12 v3 := ⟨_, rfl⟩
  rw [← e_s2]
  have hS_s2 : zSK G s2 := by rw [e_s2]; exact zSK_F hS_s1 ha rfl rfl rfl (by omega)
  refine j_iload_n hx 1 dX3_look_22 rfl ?_
  refine j_iconst hx dX3_look_23 ?_
  have c43_3 : ∀ (v5 : Int), ((-2147483648) ≤ v5 ∧ v5 ≤ 2147483647) → JJ X E 3 G s2 0 0 [(0, .ref a), (1, .int (zI x1))] 43 [.int (zI v5)] := by
    intro v5 fA4
    refine j_istore_n hx [(2, .int (zI v5)), (0, .ref a), (1, .int (zI x1))] dX3_look_43 (by decide) rfl ?_
    refine j_aload_n hx 1 dX3_look_44 rfl ?_
    refine j_iload_n hx 0 dX3_look_45 rfl ?_
    refine j_iconst hx dX3_look_46 ?_
    refine j_icmp_eq hx 76 dX3_look_47 rfl (by omega) ⟨by decide, by decide⟩ (fun h6 => ?_) (fun h6 => ?_)
    · skip
      refine j_iconst hx dX3_look_76 ?_
      refine p4_13 hx hG ha kf_RX3_100 (by omega) dX3_look_77 ?_
      obtain ⟨s5, e_s5⟩ : ∃ z, z = zU s2 a 13 0 := ⟨_, rfl⟩
      rw [← e_s5]
      have hS_s5 : zSK G s5 := by rw [e_s5]; exact zSK_F hS_s2 ha rfl rfl rfl (by omega)
      exact j_vret hx hq rfl (by decide) (by decide) dX3_look_80 ⟨rfl, rfl, hS_s5, (zFr_u (zFr_u (zFr_u zFr_rf e_s1 ha (by decide)) e_s2 ha (by decide)) e_s5 ha (by decide)), trivial⟩
    · skip
      refine j_iload_n hx 0 dX3_look_50 rfl ?_
      refine j_iconst hx dX3_look_51 ?_
      refine j_iand hx dX3_look_52 (by omega) ⟨by decide, by decide⟩ (fun v7 f8 f9 f10 f11 _ => ?_)
      refine j_iconst hx dX3_look_53 ?_
      refine j_icmp_ne hx 76 dX3_look_54 rfl (by omega) ⟨by decide, by decide⟩ (fun h13 => ?_) (fun h13 => ?_)
      · skip
        refine j_iconst hx dX3_look_76 ?_
        refine p4_13 hx hG ha kf_RX3_100 (by omega) dX3_look_77 ?_
        obtain ⟨s6, e_s6⟩ : ∃ z, z = zU s2 a 13 0 := ⟨_, rfl⟩
        rw [← e_s6]
        have hS_s6 : zSK G s6 := by rw [e_s6]; exact zSK_F hS_s2 ha rfl rfl rfl (by omega)
        exact j_vret hx hq rfl (by decide) (by decide) dX3_look_80 ⟨rfl, rfl, hS_s6, (zFr_u (zFr_u (zFr_u zFr_rf e_s1 ha (by decide)) e_s2 ha (by decide)) e_s6 ha (by decide)), trivial⟩
      · skip
        refine j_aload_n hx 1 dX3_look_57 rfl ?_
        refine g4_1 hx hG ha kf_RX3_14 dX3_look_58 ?_
        refine j_iload_n hx 2 dX3_look_61 rfl ?_
        refine j_iload_n hx 0 dX3_look_62 rfl ?_
        refine j_iconst hx dX3_look_63 ?_
        refine j_ishr hx 1 2 dX3_look_64 (by omega) rfl (by decide) (by decide) (fun v14 f15 f16 f17 f18 => ?_)
        refine j_callV hx hG (c_X0_likeTopsIf hst (gP G a 1) x1 v14) lk_RX3_96 (zr (k := 1) (t2 := 1) hG ha rfl) (by decide) rfl rfl rfl rfl [.int (zI x1), .int (zI v14)] ⟨rfl, hG, hS_s2, (zr (k := 1) (t2 := 1) hG ha rfl), (by omega), (by omega)⟩ rfl rfl ⟨by decide, by decide⟩ ⟨by decide, by decide⟩ (k2 := 0) (n2 := 0) rfl rfl (Nat.le_of_ble_eq_true rfl) dX3_look_65 (kIP (fun v19 q20 => ?_))
        refine j_iconst hx dX3_look_68 ?_
        refine j_icmp_eq hx 76 dX3_look_69 rfl (by omega) ⟨by decide, by decide⟩ (fun h21 => ?_) (fun h21 => ?_)
        · skip
          refine j_iconst hx dX3_look_76 ?_
          refine p4_13 hx hG ha kf_RX3_100 (by omega) dX3_look_77 ?_
          obtain ⟨s7, e_s7⟩ : ∃ z, z = zU s2 a 13 0 := ⟨_, rfl⟩
          rw [← e_s7]
          have hS_s7 : zSK G s7 := by rw [e_s7]; exact zSK_F hS_s2 ha rfl rfl rfl (by omega)
          exact j_vret hx hq rfl (by decide) (by decide) dX3_look_80 ⟨rfl, rfl, hS_s7, (zFr_u (zFr_u (zFr_u zFr_rf e_s1 ha (by decide)) e_s2 ha (by decide)) e_s7 ha (by decide)), trivial⟩
        · skip
          refine j_iconst hx dX3_look_72 ?_
          refine j_goto hx 77 dX3_look_73 rfl ?_
          refine p4_13 hx hG ha kf_RX3_100 (by omega) dX3_look_77 ?_
          obtain ⟨s8, e_s8⟩ : ∃ z, z = zU s2 a 13 1 := ⟨_, rfl⟩
          rw [← e_s8]
          have hS_s8 : zSK G s8 := by rw [e_s8]; exact zSK_F hS_s2 ha rfl rfl rfl (by omega)
          exact j_vret hx hq rfl (by decide) (by decide) dX3_look_80 ⟨rfl, rfl, hS_s8, (zFr_u (zFr_u (zFr_u zFr_rf e_s1 ha (by decide)) e_s2 ha (by decide)) e_s8 ha (by decide)), trivial⟩
  refine j_icmp_ne hx 31 dX3_look_24 rfl (by omega) ⟨by decide, by decide⟩ (fun h22 => ?_) (fun h22 => ?_)
  · skip
    refine j_aload_n hx 0 dX3_look_31 rfl ?_
    refine g4_1 hx hG ha kf_RX3_14 dX3_look_32 ?_
    refine j_iload_n hx 1 dX3_look_35 rfl ?_
    refine j_callV hx hG (c_X0_rowOf hst (gP G a 1) x1) lk_RX3_87 (zr (k := 1) (t2 := 1) hG ha rfl) (by decide) rfl rfl rfl rfl [.int (zI x1)] ⟨rfl, hG, hS_s2, (zr (k := 1) (t2 := 1) hG ha rfl), (by omega)⟩ rfl rfl ⟨by decide, by decide⟩ ⟨by decide, by decide⟩ (k2 := 0) (n2 := 0) rfl rfl (Nat.le_of_ble_eq_true rfl) dX3_look_36 (kRP (fun r23 q24 => ?_))
    refine j_iconst hx dX3_look_39 ?_
    refine j_callV hx hG (c_X6_cardAt hst r23 0) lk_RX3_91 q24 (by decide) rfl rfl rfl rfl [.int (zI 0)] ⟨rfl, hG, hS_s2, q24, (by omega)⟩ rfl rfl ⟨by decide, by decide⟩ ⟨by decide, by decide⟩ (k2 := 0) (n2 := 0) rfl rfl (Nat.le_of_ble_eq_true rfl) dX3_look_40 (kIP (fun v25 q26 => ?_))
    exact j_sub [0, 1] [(0, .ref a), (1, .int (zI x1))] rfl (c43_3 v25 (by omega))
  · skip
    refine j_iconst hx dX3_look_27 ?_
    refine j_goto hx 43 dX3_look_28 rfl ?_
    exact j_sub [0, 1] [(0, .ref a), (1, .int (zI x1))] rfl (c43_3 (-1) (by omega))

theorem lk_RX3_107 : LkV RX3 107 RX0 yX0_heapOf cX0_heapOf 2 (some (.object "SnapHeaps$Pile")) 1 := ⟨km_RX3_107, ki_yX0_heapOf, ks_RX0_yX0_heapOf, kn_RX0, kc_yX0_heapOf, rfl, by decide +kernel, by decide +kernel, by decide +kernel⟩
theorem lk_RX3_110 : LkV RX3 110 RX6 yX6_topKind cX6_topKind 1 (some .int) 0 := ⟨km_RX3_110, ki_yX6_topKind, ks_RX6_yX6_topKind, kn_RX6, kc_yX6_topKind, rfl, by decide +kernel, by decide +kernel, by decide +kernel⟩
theorem lk_RX3_113 : LkV RX3 113 RX8 yX8_trait cX8_trait 4 (some .int) 2 := ⟨km_RX3_113, ki_yX8_trait, ks_RX8_yX8_trait, kn_RX8, kc_yX8_trait, rfl, by decide +kernel, by decide +kernel, by decide +kernel⟩
set_option maxHeartbeats 4000000 in
set_option maxRecDepth 20000 in
theorem c_X3_fact {E : zE} {l : Launch} (hst : l.stackTraces = false) (a : Nat) (x1 : Int) (x2 : Int) (x3 : Int) : Con E l yX3_fact cX3_fact 6 (some .boolean) { frames := 1, cells := 0, slots := 0, locals := 23 } (fun G s vs => vs = [.ref a, .int (zI x1), .int (zI x2), .int (zI x3)] ∧ zGK G ∧ zSK G s ∧ (gT G a = 4) ∧ ((-2147483648) ≤ x1 ∧ x1 ≤ 2147483647) ∧ ((-2147483648) ≤ x2 ∧ x2 ≤ 2147483647) ∧ ((-2147483648) ≤ x3 ∧ x3 ≤ 2147483647)) (fun G s _ => pI (fun r G2 s2 => G2 = G ∧ s2 = s ∧ (0 ≤ r ∧ r ≤ 1))) := by
  refine Con.mk hst (by decide) (fun G s vs h => by rw [h.1]; exact Nat.le_of_ble_eq_true rfl) ?_
  rintro X G s0 vs ⟨rfl, hG, hS0, ha, hx1, hx2, hx3⟩ rfl hx hq
  show JJ X E 6 G s0 0 0 [(0, .ref a), (1, .int (zI x1)), (2, .int (zI x2)), (3, .int (zI x3))] 0 []
  refine j_aload_n hx 0 dX3_fact_0 rfl ?_
  refine g4_1 hx hG ha kf_RX3_14 dX3_fact_1 ?_
  refine j_iload_n hx 3 dX3_fact_4 rfl ?_
  refine j_callV hx hG (c_X0_heapOf hst (gP G a 1) x3) lk_RX3_107 (zr (k := 1) (t2 := 1) hG ha rfl) (by decide) rfl rfl rfl rfl [.int (zI x3)] ⟨rfl, hG, hS0, (zr (k := 1) (t2 := 1) hG ha rfl), (by omega)⟩ rfl rfl ⟨by decide, by decide⟩ ⟨by decide, by decide⟩ (k2 := 0) (n2 := 0) rfl rfl (Nat.le_of_ble_eq_true rfl) dX3_fact_5 (kRP (fun r1 q2 => ?_))
  refine j_callV hx hG (c_X6_topKind hst r1) lk_RX3_110 q2 (by decide) rfl rfl rfl rfl [] ⟨rfl, hG, hS0, q2⟩ rfl rfl ⟨by decide, by decide⟩ ⟨by decide, by decide⟩ (k2 := 0) (n2 := 0) rfl rfl (Nat.le_of_ble_eq_true rfl) dX3_fact_8 (kIP (fun v3 q4 => ?_))
  refine j_istore hx [(4, .int (zI v3)), (0, .ref a), (1, .int (zI x1)), (2, .int (zI x2)), (3, .int (zI x3))] dX3_fact_11 (by decide) rfl ?_
  refine j_iload_n hx 2 dX3_fact_13 rfl ?_
  have h5 : (x1 = 0) ∨ (x1 = 1) ∨ (x1 = 2) ∨ (x1 = 3) ∨ (x1 = 4) ∨ (x1 = 5) ∨ (x1 = 6) ∨ (x1 = 7) ∨ (x1 = 8) ∨ (x1 = 9) ∨ (x1 < 0 ∨ 9 < x1) := by omega
  rcases h5 with h5 | h5 | h5 | h5 | h5 | h5 | h5 | h5 | h5 | h5 | h5
  · skip
    refine j_switchIn hx 68 dX3_fact_14 (by omega) (by omega) (by omega) (by rw [h5]; rfl) rfl ?_
    refine j_aload_n hx 1 dX3_fact_68 rfl ?_
    have f6 := zf hS0 ha (k := 11) rfl
    refine g4_11 hx hG ha kf_RX3_37 rfl dX3_fact_69 ?_
    refine j_iconst hx dX3_fact_72 ?_
    refine j_icmp_eq hx 80 dX3_fact_73 rfl (by omega) ⟨by decide, by decide⟩ (fun h7 => ?_) (fun h7 => ?_)
    · skip
      refine j_iconst hx dX3_fact_80 ?_
      exact j_zret hx hq rfl (by decide) (by decide) dX3_fact_81 (by omega) ⟨0, rfl, rfl, rfl, (by omega)⟩
    · skip
      refine j_iconst hx dX3_fact_76 ?_
      refine j_goto hx 81 dX3_fact_77 rfl ?_
      exact j_zret hx hq rfl (by decide) (by decide) dX3_fact_81 (by omega) ⟨1, rfl, rfl, rfl, (by omega)⟩
  · skip
    refine j_switchIn hx 82 dX3_fact_14 (by omega) (by omega) (by omega) (by rw [h5]; rfl) rfl ?_
    refine j_aload_n hx 1 dX3_fact_82 rfl ?_
    have f8 := zf hS0 ha (k := 12) rfl
    refine g4_12 hx hG ha kf_RX3_85 rfl dX3_fact_83 ?_
    refine j_iload_n hx 4 dX3_fact_86 rfl ?_
    refine j_ishrV hx dX3_fact_87 (fun v9 f10 f11 => ?_)
    refine j_iconst hx dX3_fact_88 ?_
    refine j_iand hx dX3_fact_89 (by omega) ⟨by decide, by decide⟩ (fun v12 f13 f14 f15 f16 _ => ?_)
    refine j_iconst hx dX3_fact_90 ?_
    refine j_icmp_ne hx 98 dX3_fact_91 rfl (by omega) ⟨by decide, by decide⟩ (fun h18 => ?_) (fun h18 => ?_)
    · skip
      refine j_iconst hx dX3_fact_98 ?_
      exact j_zret hx hq rfl (by decide) (by decide) dX3_fact_99 (by omega) ⟨0, rfl, rfl, rfl, (by omega)⟩
    · skip
      refine j_iconst hx dX3_fact_94 ?_
      refine j_goto hx 99 dX3_fact_95 rfl ?_
      exact j_zret hx hq rfl (by decide) (by decide) dX3_fact_99 (by omega) ⟨1, rfl, rfl, rfl, (by omega)⟩
  · skip
    refine j_switchIn hx 100 dX3_fact_14 (by omega) (by omega) (by omega) (by rw [h5]; rfl) rfl ?_
    refine j_iload hx 0 dX3_fact_100 rfl ?_
    refine j_iload_n hx 3 dX3_fact_102 rfl ?_
    refine j_icmp_ne hx 110 dX3_fact_103 rfl (by omega) (by omega) (fun h19 => ?_) (fun h19 => ?_)
    · skip
      refine j_iconst hx dX3_fact_110 ?_
      exact j_zret hx hq rfl (by decide) (by decide) dX3_fact_111 (by omega) ⟨0, rfl, rfl, rfl, (by omega)⟩
    · skip
      refine j_iconst hx dX3_fact_106 ?_
      refine j_goto hx 111 dX3_fact_107 rfl ?_
      exact j_zret hx hq rfl (by decide) (by decide) dX3_fact_111 (by omega) ⟨1, rfl, rfl, rfl, (by omega)⟩
  · skip
    refine j_switchIn hx 112 dX3_fact_14 (by omega) (by omega) (by omega) (by rw [h5]; rfl) rfl ?_
    refine j_aload_n hx 1 dX3_fact_112 rfl ?_
    refine g4_1 hx hG ha kf_RX3_14 dX3_fact_113 ?_
    refine j_iload_n hx 4 dX3_fact_116 rfl ?_
    refine j_callV hx hG (c_X0_rowOf hst (gP G a 1) x3) lk_RX3_87 (zr (k := 1) (t2 := 1) hG ha rfl) (by decide) rfl rfl rfl rfl [.int (zI x3)] ⟨rfl, hG, hS0, (zr (k := 1) (t2 := 1) hG ha rfl), (by omega)⟩ rfl rfl ⟨by decide, by decide⟩ ⟨by decide, by decide⟩ (k2 := 0) (n2 := 0) rfl rfl (Nat.le_of_ble_eq_true rfl) dX3_fact_117 (kRP (fun r20 q21 => ?_))
    refine j_iconst hx dX3_fact_120 ?_
    refine j_callV hx hG (c_X6_cardAt hst r20 0) lk_RX3_91 q21 (by decide) rfl rfl rfl rfl [.int (zI 0)] ⟨rfl, hG, hS0, q21, (by omega)⟩ rfl rfl ⟨by decide, by decide⟩ ⟨by decide, by decide⟩ (k2 := 0) (n2 := 0) rfl rfl (Nat.le_of_ble_eq_true rfl) dX3_fact_121 (kIP (fun v22 q23 => ?_))
    refine j_iload_n hx 3 dX3_fact_124 rfl ?_
    refine j_iconst hx dX3_fact_125 ?_
    refine j_imul hx (r := 2 * x2) dX3_fact_126 (by omega) ?_
    refine j_norm (fun v24 f25 f26 f27 => ?_)
    refine j_iconst hx dX3_fact_127 ?_
    refine j_iadd hx (r := v24 + 1) dX3_fact_128 rfl ?_
    refine j_norm (fun v28 f29 f30 f31 => ?_)
    refine j_icmp_ne hx 149 dX3_fact_129 rfl (by omega) (by omega) (fun h32 => ?_) (fun h32 => ?_)
    · skip
      refine j_iconst hx dX3_fact_149 ?_
      exact j_zret hx hq rfl (by decide) (by decide) dX3_fact_150 (by omega) ⟨0, rfl, rfl, rfl, (by omega)⟩
    · skip
      refine j_aload_n hx 1 dX3_fact_132 rfl ?_
      refine g4_0 hx hG ha kf_RX3_41 dX3_fact_133 ?_
      refine j_iload_n hx 4 dX3_fact_136 rfl ?_
      refine j_iconst hx dX3_fact_137 ?_
      refine j_callV hx hG (c_X8_trait hst (gP G a 0) x3 1) lk_RX3_113 (zr (k := 0) (t2 := 9) hG ha rfl) (by decide) rfl rfl rfl rfl [.int (zI x3), .int (zI 1)] ⟨rfl, hG, hS0, (zr (k := 0) (t2 := 9) hG ha rfl), (by omega), (by omega)⟩ rfl rfl ⟨by decide, by decide⟩ ⟨by decide, by decide⟩ (k2 := 0) (n2 := 0) rfl rfl (Nat.le_of_ble_eq_true rfl) dX3_fact_138 (kIP (fun v33 q34 => ?_))
      refine j_iconst hx dX3_fact_141 ?_
      refine j_icmp_lt hx 149 dX3_fact_142 rfl (by omega) ⟨by decide, by decide⟩ (fun h35 => ?_) (fun h35 => ?_)
      · skip
        refine j_iconst hx dX3_fact_149 ?_
        exact j_zret hx hq rfl (by decide) (by decide) dX3_fact_150 (by omega) ⟨0, rfl, rfl, rfl, (by omega)⟩
      · skip
        refine j_iconst hx dX3_fact_145 ?_
        refine j_goto hx 150 dX3_fact_146 rfl ?_
        exact j_zret hx hq rfl (by decide) (by decide) dX3_fact_150 (by omega) ⟨1, rfl, rfl, rfl, (by omega)⟩
  · skip
    refine j_switchIn hx 151 dX3_fact_14 (by omega) (by omega) (by omega) (by rw [h5]; rfl) rfl ?_
    refine j_aload_n hx 1 dX3_fact_151 rfl ?_
    have f36 := zf hS0 ha (k := 13) rfl
    refine g4_13 hx hG ha kf_RX3_100 rfl dX3_fact_152 ?_
    refine j_if_eq hx 175 dX3_fact_155 rfl (by omega) (fun h37 => ?_) (fun h37 => ?_)
    · skip
      refine j_iconst hx dX3_fact_175 ?_
      exact j_zret hx hq rfl (by decide) (by decide) dX3_fact_176 (by omega) ⟨0, rfl, rfl, rfl, (by omega)⟩
    · skip
      refine j_aload_n hx 1 dX3_fact_158 rfl ?_
      refine g4_0 hx hG ha kf_RX3_41 dX3_fact_159 ?_
      refine j_iload_n hx 4 dX3_fact_162 rfl ?_
      refine j_iconst hx dX3_fact_163 ?_
      refine j_callV hx hG (c_X8_trait hst (gP G a 0) x3 1) lk_RX3_113 (zr (k := 0) (t2 := 9) hG ha rfl) (by decide) rfl rfl rfl rfl [.int (zI x3), .int (zI 1)] ⟨rfl, hG, hS0, (zr (k := 0) (t2 := 9) hG ha rfl), (by omega), (by omega)⟩ rfl rfl ⟨by decide, by decide⟩ ⟨by decide, by decide⟩ (k2 := 0) (n2 := 0) rfl rfl (Nat.le_of_ble_eq_true rfl) dX3_fact_164 (kIP (fun v38 q39 => ?_))
      refine j_iconst hx dX3_fact_167 ?_
      refine j_icmp_lt hx 175 dX3_fact_168 rfl (by omega) ⟨by decide, by decide⟩ (fun h40 => ?_) (fun h40 => ?_)
      · skip
        refine j_iconst hx dX3_fact_175 ?_
        exact j_zret hx hq rfl (by decide) (by decide) dX3_fact_176 (by omega) ⟨0, rfl, rfl, rfl, (by omega)⟩
      · skip
        refine j_iconst hx dX3_fact_171 ?_
        refine j_goto hx 176 dX3_fact_172 rfl ?_
        exact j_zret hx hq rfl (by decide) (by decide) dX3_fact_176 (by omega) ⟨1, rfl, rfl, rfl, (by omega)⟩
  · skip
    refine j_switchIn hx 177 dX3_fact_14 (by omega) (by omega) (by omega) (by rw [h5]; rfl) rfl ?_
    refine j_aload_n hx 1 dX3_fact_177 rfl ?_
    refine g4_1 hx hG ha kf_RX3_14 dX3_fact_178 ?_
    refine j_iload_n hx 4 dX3_fact_181 rfl ?_
    refine j_callV hx hG (c_X0_heapOf hst (gP G a 1) x3) lk_RX3_107 (zr (k := 1) (t2 := 1) hG ha rfl) (by decide) rfl rfl rfl rfl [.int (zI x3)] ⟨rfl, hG, hS0, (zr (k := 1) (t2 := 1) hG ha rfl), (by omega)⟩ rfl rfl ⟨by decide, by decide⟩ ⟨by decide, by decide⟩ (k2 := 0) (n2 := 0) rfl rfl (Nat.le_of_ble_eq_true rfl) dX3_fact_182 (kRP (fun r41 q42 => ?_))
    have f43 := zf hS0 q42 (k := 1) rfl
    refine gN7_1 hx hG q42 kf_RX3_116 rfl dX3_fact_185 ?_
    refine j_iload_n hx 3 dX3_fact_188 rfl ?_
    refine j_icmp_ge hx 196 dX3_fact_189 rfl (by omega) (by omega) (fun h44 => ?_) (fun h44 => ?_)
    · skip
      refine j_iconst hx dX3_fact_196 ?_
      exact j_zret hx hq rfl (by decide) (by decide) dX3_fact_197 (by omega) ⟨0, rfl, rfl, rfl, (by omega)⟩
    · skip
      refine j_iconst hx dX3_fact_192 ?_
      refine j_goto hx 197 dX3_fact_193 rfl ?_
      exact j_zret hx hq rfl (by decide) (by decide) dX3_fact_197 (by omega) ⟨1, rfl, rfl, rfl, (by omega)⟩
  · skip
    refine j_switchIn hx 198 dX3_fact_14 (by omega) (by omega) (by omega) (by rw [h5]; rfl) rfl ?_
    refine j_aload_n hx 1 dX3_fact_198 rfl ?_
    refine g4_1 hx hG ha kf_RX3_14 dX3_fact_199 ?_
    refine j_iload_n hx 4 dX3_fact_202 rfl ?_
    refine j_callV hx hG (c_X0_heapOf hst (gP G a 1) x3) lk_RX3_107 (zr (k := 1) (t2 := 1) hG ha rfl) (by decide) rfl rfl rfl rfl [.int (zI x3)] ⟨rfl, hG, hS0, (zr (k := 1) (t2 := 1) hG ha rfl), (by omega)⟩ rfl rfl ⟨by decide, by decide⟩ ⟨by decide, by decide⟩ (k2 := 0) (n2 := 0) rfl rfl (Nat.le_of_ble_eq_true rfl) dX3_fact_203 (kRP (fun r45 q46 => ?_))
    have f47 := zf hS0 q46 (k := 1) rfl
    refine gN7_1 hx hG q46 kf_RX3_116 rfl dX3_fact_206 ?_
    refine j_iload_n hx 3 dX3_fact_209 rfl ?_
    refine j_icmp_le hx 217 dX3_fact_210 rfl (by omega) (by omega) (fun h48 => ?_) (fun h48 => ?_)
    · skip
      refine j_iconst hx dX3_fact_217 ?_
      exact j_zret hx hq rfl (by decide) (by decide) dX3_fact_218 (by omega) ⟨0, rfl, rfl, rfl, (by omega)⟩
    · skip
      refine j_iconst hx dX3_fact_213 ?_
      refine j_goto hx 218 dX3_fact_214 rfl ?_
      exact j_zret hx hq rfl (by decide) (by decide) dX3_fact_218 (by omega) ⟨1, rfl, rfl, rfl, (by omega)⟩
  · skip
    refine j_switchIn hx 219 dX3_fact_14 (by omega) (by omega) (by omega) (by rw [h5]; rfl) rfl ?_
    refine j_aload_n hx 1 dX3_fact_219 rfl ?_
    refine g4_1 hx hG ha kf_RX3_14 dX3_fact_220 ?_
    refine j_iload_n hx 4 dX3_fact_223 rfl ?_
    refine j_callV hx hG (c_X0_rowOf hst (gP G a 1) x3) lk_RX3_87 (zr (k := 1) (t2 := 1) hG ha rfl) (by decide) rfl rfl rfl rfl [.int (zI x3)] ⟨rfl, hG, hS0, (zr (k := 1) (t2 := 1) hG ha rfl), (by omega)⟩ rfl rfl ⟨by decide, by decide⟩ ⟨by decide, by decide⟩ (k2 := 0) (n2 := 0) rfl rfl (Nat.le_of_ble_eq_true rfl) dX3_fact_224 (kRP (fun r49 q50 => ?_))
    have f51 := zf hS0 q50 (k := 1) rfl
    refine gN7_1 hx hG q50 kf_RX3_116 rfl dX3_fact_227 ?_
    refine j_iload_n hx 3 dX3_fact_230 rfl ?_
    refine j_icmp_ge hx 238 dX3_fact_231 rfl (by omega) (by omega) (fun h52 => ?_) (fun h52 => ?_)
    · skip
      refine j_iconst hx dX3_fact_238 ?_
      exact j_zret hx hq rfl (by decide) (by decide) dX3_fact_239 (by omega) ⟨0, rfl, rfl, rfl, (by omega)⟩
    · skip
      refine j_iconst hx dX3_fact_234 ?_
      refine j_goto hx 239 dX3_fact_235 rfl ?_
      exact j_zret hx hq rfl (by decide) (by decide) dX3_fact_239 (by omega) ⟨1, rfl, rfl, rfl, (by omega)⟩
  · skip
    refine j_switchIn hx 240 dX3_fact_14 (by omega) (by omega) (by omega) (by rw [h5]; rfl) rfl ?_
    refine j_aload_n hx 1 dX3_fact_240 rfl ?_
    refine g4_1 hx hG ha kf_RX3_14 dX3_fact_241 ?_
    refine j_iload_n hx 4 dX3_fact_244 rfl ?_
    refine j_callV hx hG (c_X0_rowOf hst (gP G a 1) x3) lk_RX3_87 (zr (k := 1) (t2 := 1) hG ha rfl) (by decide) rfl rfl rfl rfl [.int (zI x3)] ⟨rfl, hG, hS0, (zr (k := 1) (t2 := 1) hG ha rfl), (by omega)⟩ rfl rfl ⟨by decide, by decide⟩ ⟨by decide, by decide⟩ (k2 := 0) (n2 := 0) rfl rfl (Nat.le_of_ble_eq_true rfl) dX3_fact_245 (kRP (fun r53 q54 => ?_))
    have f55 := zf hS0 q54 (k := 1) rfl
    refine gN7_1 hx hG q54 kf_RX3_116 rfl dX3_fact_248 ?_
    refine j_iload_n hx 3 dX3_fact_251 rfl ?_
    refine j_icmp_le hx 259 dX3_fact_252 rfl (by omega) (by omega) (fun h56 => ?_) (fun h56 => ?_)
    · skip
      refine j_iconst hx dX3_fact_259 ?_
      exact j_zret hx hq rfl (by decide) (by decide) dX3_fact_260 (by omega) ⟨0, rfl, rfl, rfl, (by omega)⟩
    · skip
      refine j_iconst hx dX3_fact_255 ?_
      refine j_goto hx 260 dX3_fact_256 rfl ?_
      exact j_zret hx hq rfl (by decide) (by decide) dX3_fact_260 (by omega) ⟨1, rfl, rfl, rfl, (by omega)⟩
  · skip
    refine j_switchIn hx 261 dX3_fact_14 (by omega) (by omega) (by omega) (by rw [h5]; rfl) rfl ?_
    refine j_aload_n hx 1 dX3_fact_261 rfl ?_
    refine g4_1 hx hG ha kf_RX3_14 dX3_fact_262 ?_
    refine gN1_6 hx hG (zr (k := 1) (t2 := 1) hG ha rfl) kf_RX3_119 dX3_fact_265 ?_
    have f57 := zf hS0 (zr (k := 6) (t2 := 7) hG (zr (k := 1) (t2 := 1) hG ha rfl) rfl) (k := 1) rfl
    refine gN7_1 hx hG (zr (k := 6) (t2 := 7) hG (zr (k := 1) (t2 := 1) hG ha rfl) rfl) kf_RX3_116 rfl dX3_fact_268 ?_
    refine j_iload_n hx 3 dX3_fact_271 rfl ?_
    refine j_icmp_le hx 279 dX3_fact_272 rfl (by omega) (by omega) (fun h58 => ?_) (fun h58 => ?_)
    · skip
      refine j_iconst hx dX3_fact_279 ?_
      exact j_zret hx hq rfl (by decide) (by decide) dX3_fact_280 (by omega) ⟨0, rfl, rfl, rfl, (by omega)⟩
    · skip
      refine j_iconst hx dX3_fact_275 ?_
      refine j_goto hx 280 dX3_fact_276 rfl ?_
      exact j_zret hx hq rfl (by decide) (by decide) dX3_fact_280 (by omega) ⟨1, rfl, rfl, rfl, (by omega)⟩
  · skip
    refine j_switchOut hx 281 dX3_fact_14 (by omega) (by omega) rfl ?_
    refine j_iload_n hx 3 dX3_fact_281 rfl ?_
    refine j_bipush hx dX3_fact_282 rfl ?_
    refine j_ishr hx 6 64 dX3_fact_284 (by omega) rfl (by decide) (by decide) (fun v59 f60 f61 f62 f63 => ?_)
    refine j_istore hx [(5, .int (zI v59)), (4, .int (zI v3)), (0, .ref a), (1, .int (zI x1)), (2, .int (zI x2)), (3, .int (zI x3))] dX3_fact_285 (by decide) rfl ?_
    refine j_iload hx 0 dX3_fact_287 rfl ?_
    refine j_if_le hx 310 dX3_fact_289 rfl (by omega) (fun h64 => ?_) (fun h64 => ?_)
    · skip
      refine j_iconst hx dX3_fact_310 ?_
      exact j_zret hx hq rfl (by decide) (by decide) dX3_fact_311 (by omega) ⟨0, rfl, rfl, rfl, (by omega)⟩
    · skip
      refine j_aload_n hx 2 dX3_fact_292 rfl ?_
      have f65 := zf hS0 ha (k := 10) rfl
      refine g4_10 hx hG ha kf_RX3_71 rfl dX3_fact_293 ?_
      refine j_iload hx 0 dX3_fact_296 rfl ?_
      refine j_irem hx dX3_fact_298 (by omega) (by omega) (by omega) (fun v66 f67 f68 f69 f70 => ?_)
      refine j_iload_n hx 4 dX3_fact_299 rfl ?_
      refine j_bipush hx dX3_fact_300 rfl ?_
      refine j_iand hx dX3_fact_302 (by omega) ⟨by decide, by decide⟩ (fun v72 f73 f74 f75 f76 _ => ?_)
      refine j_icmp_ne hx 310 dX3_fact_303 rfl (by omega) (by omega) (fun h78 => ?_) (fun h78 => ?_)
      · skip
        refine j_iconst hx dX3_fact_310 ?_
        exact j_zret hx hq rfl (by decide) (by decide) dX3_fact_311 (by omega) ⟨0, rfl, rfl, rfl, (by omega)⟩
      · skip
        refine j_iconst hx dX3_fact_306 ?_
        refine j_goto hx 311 dX3_fact_307 rfl ?_
        exact j_zret hx hq rfl (by decide) (by decide) dX3_fact_311 (by omega) ⟨1, rfl, rfl, rfl, (by omega)⟩

theorem lk_RX7_114 : LkV RX7 114 RX3 yX3_fact cX3_fact 6 (some .boolean) 3 := ⟨km_RX7_114, ki_yX3_fact, ks_RX3_yX3_fact, kn_RX3, kc_yX3_fact, rfl, by decide +kernel, by decide +kernel, by decide +kernel⟩
set_option maxHeartbeats 4000000 in
set_option maxRecDepth 20000 in
theorem c_X7_holds {E : zE} {l : Launch} (hst : l.stackTraces = false) (a : Nat) (b1 : Nat) (x2 : Int) : Con E l yX7_holds cX7_holds 7 (some .boolean) { frames := 2, cells := 0, slots := 0, locals := 48 } (fun G s vs => vs = [.ref a, .ref b1, .int (zI x2)] ∧ zGK G ∧ zSK G s ∧ (gT G a = 8) ∧ (gT G b1 = 4) ∧ ((-2147483648) ≤ x2 ∧ x2 ≤ 2147483647)) (fun G s _ => pI (fun r G2 s2 => G2 = G ∧ s2 = s ∧ (0 ≤ r ∧ r ≤ 1))) := by
  refine Con.mk hst (by decide) (fun G s vs h => by rw [h.1]; exact Nat.le_of_ble_eq_true rfl) ?_
  rintro X G s0 vs ⟨rfl, hG, hS0, ha, hb1, hx2⟩ rfl hx hq
  show JJ X E 7 G s0 0 0 [(0, .ref a), (1, .ref b1), (2, .int (zI x2))] 0 []
  refine j_lconst hx dX7_holds_0 ?_
  show JJ X E 7 G s0 0 0 [(0, .ref a), (1, .ref b1), (2, .int (zI x2))] 1 [.long (zL 0)]
  refine j_lstore_n hx [(3, .long (zL 0)), (0, .ref a), (1, .ref b1), (2, .int (zI x2))] dX7_holds_1 (by decide) rfl ?_
  refine j_iconst hx dX7_holds_2 ?_
  refine j_istore hx [(5, .int (zI 0)), (3, .long (zL 0)), (0, .ref a), (1, .ref b1), (2, .int (zI x2))] dX7_holds_3 (by decide) rfl ?_
  have c5_1 : ∀ (m_c5_1 : Nat) (w1 : Int) (v2 : Int), 2147483648 - v2 < m_c5_1 → ((-9223372036854775808) ≤ w1 ∧ w1 ≤ 9223372036854775807) → (0 ≤ v2 ∧ v2 ≤ 150) → JJ X E 7 G s0 0 0 [(0, .ref a), (1, .ref b1), (2, .int (zI x2)), (3, .long (zL w1)), (5, .int (zI v2))] 5 [] := by
    intro m_c5_1
    induction m_c5_1 with
    | zero => intro w1 v2 hm_c5_1 fA2 fA3; exfalso; omega
    | succ m_c5_1 ih_c5_1 => 
      intro w1 v2 hm_c5_1 fA2 fA3
      refine j_iload hx 4 dX7_holds_5 rfl ?_
      refine j_aload_n hx 0 dX7_holds_7 rfl ?_
      have f3 := zf hS0 ha (k := 1) rfl
      refine g8_1 hx hG ha kf_RX7_15 rfl dX7_holds_8 ?_
      have c126_4 : JJ X E 7 G s0 0 0 [(3, .long (zL w1))] 126 [] := by
        refine j_lload_n hx 0 dX7_holds_126 rfl ?_
        refine j_lconst hx dX7_holds_127 ?_
        show JJ X E 7 G s0 0 0 [(3, .long (zL w1))] 128 [.long (zL 1), .long (zL w1)]
        refine j_land hx dX7_holds_128 (fun w4 f5 f6 => ?_)
        refine j_lconst hx dX7_holds_129 ?_
        show JJ X E 7 G s0 0 0 [(3, .long (zL w1))] 130 [.long (zL 1), .long (zL w4)]
        refine j_lcmp hx dX7_holds_130 (by omega) (by omega) (fun v7 f8 f9 f10 => ?_)
        have f11 : -1 ≤ v7 ∧ v7 ≤ 1 := by omega
        refine j_if_ne hx 138 dX7_holds_131 rfl (by omega) (fun h12 => ?_) (fun h12 => ?_)
        · skip
          refine j_iconst hx dX7_holds_138 ?_
          exact j_zret hx hq rfl (by decide) (by decide) dX7_holds_139 (by omega) ⟨0, rfl, rfl, rfl, (by omega)⟩
        · skip
          refine j_iconst hx dX7_holds_134 ?_
          refine j_goto hx 139 dX7_holds_135 rfl ?_
          exact j_zret hx hq rfl (by decide) (by decide) dX7_holds_139 (by omega) ⟨1, rfl, rfl, rfl, (by omega)⟩
      refine j_icmp_ge hx 126 dX7_holds_11 rfl (by omega) (by omega) (fun h13 => ?_) (fun h13 => ?_)
      · skip
        exact j_sub [3] [(3, .long (zL w1))] rfl (c126_4  )
      · skip
        refine j_iload hx 4 dX7_holds_14 rfl ?_
        refine j_aload_n hx 0 dX7_holds_16 rfl ?_
        refine g8_0 hx hG ha kf_RX7_11 dX7_holds_17 ?_
        have f14 := znb hG (gP G a 0)
        refine j_alen hx hG (zr (k := 0) (t2 := 46) hG ha rfl) (by decide) (by decide) rfl dX7_holds_20 ?_
        refine j_icmp_ge hx 126 dX7_holds_21 rfl (by omega) (by omega) (fun h15 => ?_) (fun h15 => ?_)
        · skip
          exact j_sub [3] [(3, .long (zL w1))] rfl (c126_4  )
        · skip
          refine j_aload_n hx 0 dX7_holds_24 rfl ?_
          refine g8_0 hx hG ha kf_RX7_11 dX7_holds_25 ?_
          refine j_iload hx 4 dX7_holds_28 rfl ?_
          have f16 := zaI (j := (v2).toNat) hS0 (zr (k := 0) (t2 := 46) hG ha rfl) rfl rfl (show 0 ≤ v2 by omega) (by omega) rfl
          refine j_iald hx hG (zr (k := 0) (t2 := 46) hG ha rfl) (by decide) rfl rfl (by omega) (by omega) (j := (v2).toNat) rfl rfl dX7_holds_30 ?_
          refine j_bipush hx dX7_holds_31 rfl ?_
          refine j_ishr hx 12 4096 dX7_holds_33 (by omega) rfl (by decide) (by decide) (fun v17 f18 f19 f20 f21 => ?_)
          refine j_istore hx [(6, .int (zI v17)), (0, .ref a), (1, .ref b1), (2, .int (zI x2)), (3, .long (zL w1)), (5, .int (zI v2))] dX7_holds_34 (by decide) rfl ?_
          refine j_iload hx 0 dX7_holds_36 rfl ?_
          refine j_bipush hx dX7_holds_38 rfl ?_
          have c120_5 : ∀ (w22 : Int), ((-9223372036854775808) ≤ w22 ∧ w22 ≤ 9223372036854775807) → JJ X E 7 G s0 0 0 [(0, .ref a), (1, .ref b1), (2, .int (zI x2)), (3, .long (zL w22)), (5, .int (zI v2))] 120 [] := by
            intro w22 fA6
            refine j_iinc hx 4 [(5, .int (zI (v2 + 1))), (0, .ref a), (1, .ref b1), (2, .int (zI x2)), (3, .long (zL w22))] dX7_holds_120 rfl (by omega) (by decide) rfl ?_
            refine j_goto hx 5 dX7_holds_123 rfl ?_
            exact j_sub [1, 2, 3, 4, 0] [(0, .ref a), (1, .ref b1), (2, .int (zI x2)), (3, .long (zL w22)), (5, .int (zI (v2 + 1)))] rfl (ih_c5_1 w22 (v2 + 1) (by omega) (by omega) (by omega))
          refine j_icmp_ne hx 50 dX7_holds_40 rfl (by omega) ⟨by decide, by decide⟩ (fun h23 => ?_) (fun h23 => ?_)
          · skip
            refine j_iload hx 0 dX7_holds_50 rfl ?_
            refine j_bipush hx dX7_holds_52 rfl ?_
            refine j_icmp_ne hx 70 dX7_holds_54 rfl (by omega) ⟨by decide, by decide⟩ (fun h24 => ?_) (fun h24 => ?_)
            · skip
              refine j_iload hx 0 dX7_holds_70 rfl ?_
              refine j_bipush hx dX7_holds_72 rfl ?_
              refine j_icmp_ne hx 88 dX7_holds_74 rfl (by omega) ⟨by decide, by decide⟩ (fun h25 => ?_) (fun h25 => ?_)
              · skip
                refine j_lload_n hx 4 dX7_holds_88 rfl ?_
                refine j_iconst hx dX7_holds_89 ?_
                refine j_lshl hx dX7_holds_90 (fun w26 f27 f28 => ?_)
                refine j_aload_n hx 2 dX7_holds_91 rfl ?_
                refine j_iload hx 0 dX7_holds_92 rfl ?_
                refine j_aload_n hx 1 dX7_holds_94 rfl ?_
                refine g8_0 hx hG ha kf_RX7_11 dX7_holds_95 ?_
                refine j_iload hx 5 dX7_holds_98 rfl ?_
                refine j_iald hx hG (zr (k := 0) (t2 := 46) hG ha rfl) (by decide) rfl rfl (by omega) (by omega) (j := (v2).toNat) rfl rfl dX7_holds_100 ?_
                refine j_sipush hx dX7_holds_101 rfl ?_
                refine j_iand hx dX7_holds_104 (by omega) ⟨by decide, by decide⟩ (fun v29 f30 f31 f32 f33 _ => ?_)
                refine j_iload_n hx 3 dX7_holds_105 rfl ?_
                refine j_callV hx hG (c_X3_fact hst b1 v17 v29 x2) lk_RX7_114 hb1 (by decide) rfl rfl rfl rfl [.int (zI v17), .int (zI v29), .int (zI x2)] ⟨rfl, hG, hS0, hb1, (by omega), (by omega), (by omega)⟩ rfl rfl ⟨by decide, by decide⟩ ⟨by decide, by decide⟩ (k2 := 0) (n2 := 0) rfl rfl (Nat.le_of_ble_eq_true rfl) dX7_holds_106 (kIP (fun v35 q36 => ?_))
                have c117_7 : ∀ (v37 : Int), (0 ≤ v37 ∧ v37 ≤ 1) → JJ X E 7 G s0 0 0 [(0, .ref a), (1, .ref b1), (2, .int (zI x2)), (5, .int (zI v2))] 117 [.int (zI v37), .long (zL w26)] := by
                  intro v37 fA8
                  refine j_i2l hx dX7_holds_117 (by omega) ?_
                  refine j_lor hx dX7_holds_118 (fun w38 f39 f40 => ?_)
                  refine j_lstore_n hx [(3, .long (zL w38)), (0, .ref a), (1, .ref b1), (2, .int (zI x2)), (5, .int (zI v2))] dX7_holds_119 (by decide) rfl ?_
                  exact j_sub [1, 2, 3, 0, 4] [(0, .ref a), (1, .ref b1), (2, .int (zI x2)), (3, .long (zL w38)), (5, .int (zI v2))] rfl (c120_5 w38 (by omega))
                refine j_if_eq hx 116 dX7_holds_109 rfl (by omega) (fun h41 => ?_) (fun h41 => ?_)
                · skip
                  refine j_iconst hx dX7_holds_116 ?_
                  exact j_sub [1, 2, 3, 5] [(0, .ref a), (1, .ref b1), (2, .int (zI x2)), (5, .int (zI v2))] rfl (c117_7 0 (by omega))
                · skip
                  refine j_iconst hx dX7_holds_112 ?_
                  refine j_goto hx 117 dX7_holds_113 rfl ?_
                  exact j_sub [1, 2, 3, 5] [(0, .ref a), (1, .ref b1), (2, .int (zI x2)), (5, .int (zI v2))] rfl (c117_7 1 (by omega))
              · skip
                refine j_lload_n hx 4 dX7_holds_77 rfl ?_
                refine j_iconst hx dX7_holds_78 ?_
                refine j_lushr hx dX7_holds_79 (fun w42 f43 f44 => ?_)
                refine j_lload_n hx 4 dX7_holds_80 rfl ?_
                refine j_lconst hx dX7_holds_81 ?_
                show JJ X E 7 G s0 0 0 [(6, .int (zI v17)), (0, .ref a), (1, .ref b1), (2, .int (zI x2)), (3, .long (zL w1)), (5, .int (zI v2))] 82 [.long (zL 1), .long (zL w1), .long (zL w42)]
                refine j_land hx dX7_holds_82 (fun w45 f46 f47 => ?_)
                refine j_lor hx dX7_holds_83 (fun w48 f49 f50 => ?_)
                refine j_lstore_n hx [(3, .long (zL w48)), (6, .int (zI v17)), (0, .ref a), (1, .ref b1), (2, .int (zI x2)), (5, .int (zI v2))] dX7_holds_84 (by decide) rfl ?_
                refine j_goto hx 120 dX7_holds_85 rfl ?_
                exact j_sub [2, 3, 4, 0, 5] [(0, .ref a), (1, .ref b1), (2, .int (zI x2)), (3, .long (zL w48)), (5, .int (zI v2))] rfl (c120_5 w48 (by omega))
            · skip
              refine j_lload_n hx 4 dX7_holds_57 rfl ?_
              refine j_iconst hx dX7_holds_58 ?_
              refine j_lushr hx dX7_holds_59 (fun w51 f52 f53 => ?_)
              refine j_lload_n hx 4 dX7_holds_60 rfl ?_
              refine j_ldc2 hx (c := (-2)) dX7_holds_61 kk_RX7_112 (by decide) ?_
              refine j_lor hx dX7_holds_64 (fun w54 f55 f56 => ?_)
              refine j_land hx dX7_holds_65 (fun w57 f58 f59 => ?_)
              refine j_lstore_n hx [(3, .long (zL w57)), (6, .int (zI v17)), (0, .ref a), (1, .ref b1), (2, .int (zI x2)), (5, .int (zI v2))] dX7_holds_66 (by decide) rfl ?_
              refine j_goto hx 120 dX7_holds_67 rfl ?_
              exact j_sub [2, 3, 4, 0, 5] [(0, .ref a), (1, .ref b1), (2, .int (zI x2)), (3, .long (zL w57)), (5, .int (zI v2))] rfl (c120_5 w57 (by omega))
          · skip
            refine j_lload_n hx 4 dX7_holds_43 rfl ?_
            refine j_lconst hx dX7_holds_44 ?_
            show JJ X E 7 G s0 0 0 [(6, .int (zI v17)), (0, .ref a), (1, .ref b1), (2, .int (zI x2)), (3, .long (zL w1)), (5, .int (zI v2))] 45 [.long (zL 1), .long (zL w1)]
            refine j_lxor hx dX7_holds_45 (fun w60 f61 f62 => ?_)
            refine j_lstore_n hx [(3, .long (zL w60)), (6, .int (zI v17)), (0, .ref a), (1, .ref b1), (2, .int (zI x2)), (5, .int (zI v2))] dX7_holds_46 (by decide) rfl ?_
            refine j_goto hx 120 dX7_holds_47 rfl ?_
            exact j_sub [2, 3, 4, 0, 5] [(0, .ref a), (1, .ref b1), (2, .int (zI x2)), (3, .long (zL w60)), (5, .int (zI v2))] rfl (c120_5 w60 (by omega))
  exact j_sub [2, 3, 4, 1, 0] [(0, .ref a), (1, .ref b1), (2, .int (zI x2)), (3, .long (zL 0)), (5, .int (zI 0))] rfl (c5_1 (2147483648 * 4) 0 0 (by omega) (by omega) (by omega))

theorem lk_RX3_103 : LkV RX3 103 RX7 yX7_holds cX7_holds 7 (some .boolean) 2 := ⟨km_RX3_103, ki_yX7_holds, ks_RX7_yX7_holds, kn_RX7, kc_yX7_holds, rfl, by decide +kernel, by decide +kernel, by decide +kernel⟩
set_option maxHeartbeats 4000000 in
set_option maxRecDepth 20000 in
theorem c_X3_wants {E : zE} {l : Launch} (hst : l.stackTraces = false) (a : Nat) (x1 : Int) (x2 : Int) : Con E l yX3_wants cX3_wants 5 (some .boolean) { frames := 3, cells := 0, slots := 0, locals := 74 } (fun G s vs => vs = [.ref a, .int (zI x1), .int (zI x2)] ∧ zGK G ∧ zSK G s ∧ (gT G a = 4) ∧ ((-2147483648) ≤ x1 ∧ x1 ≤ 2147483647) ∧ ((-2147483648) ≤ x2 ∧ x2 ≤ 2147483647)) (fun G s _ => pI (fun r G2 s2 => G2 = G ∧ s2 = s ∧ (0 ≤ r ∧ r ≤ 1))) := by
  refine Con.mk hst (by decide) (fun G s vs h => by rw [h.1]; exact Nat.le_of_ble_eq_true rfl) ?_
  rintro X G s0 vs ⟨rfl, hG, hS0, ha, hx1, hx2⟩ rfl hx hq
  show JJ X E 5 G s0 0 0 [(0, .ref a), (1, .int (zI x1)), (2, .int (zI x2))] 0 []
  refine j_iload_n hx 2 dX3_wants_0 rfl ?_
  refine j_iconst hx dX3_wants_1 ?_
  refine j_imul hx (r := 3 * x2) dX3_wants_2 (by omega) ?_
  refine j_norm (fun v1 f2 f3 f4 => ?_)
  refine j_iload_n hx 1 dX3_wants_3 rfl ?_
  refine j_iadd hx (r := v1 + x1) dX3_wants_4 rfl ?_
  refine j_norm (fun v5 f6 f7 f8 => ?_)
  refine j_istore_n hx [(3, .int (zI v5)), (0, .ref a), (1, .int (zI x1)), (2, .int (zI x2))] dX3_wants_5 (by decide) rfl ?_
  refine j_iload_n hx 0 dX3_wants_6 rfl ?_
  have c28_1 : JJ X E 5 G s0 0 0 [(0, .ref a), (1, .int (zI x1)), (2, .int (zI x2))] 28 [] := by
    refine j_null hx dX3_wants_28 ?_
    refine j_astoreN hx [(4, .null), (0, .ref a), (1, .int (zI x1)), (2, .int (zI x2))] dX3_wants_29 (by decide) rfl ?_
    refine j_aloadN hx 0 dX3_wants_31 rfl ?_
    refine j_ifnonnullN hx dX3_wants_33 ?_
    refine j_iload_n hx 3 dX3_wants_36 rfl ?_
    refine j_if_ne hx 52 dX3_wants_37 rfl (by omega) (fun h9 => ?_) (fun h9 => ?_)
    · skip
      refine j_iconst hx dX3_wants_52 ?_
      exact j_zret hx hq rfl (by decide) (by decide) dX3_wants_53 (by omega) ⟨0, rfl, rfl, rfl, (by omega)⟩
    · skip
      refine j_aload_n hx 1 dX3_wants_40 rfl ?_
      have f10 := zf hS0 ha (k := 11) rfl
      refine g4_11 hx hG ha kf_RX3_37 rfl dX3_wants_41 ?_
      refine j_iconst hx dX3_wants_44 ?_
      refine j_icmp_eq hx 52 dX3_wants_45 rfl (by omega) ⟨by decide, by decide⟩ (fun h11 => ?_) (fun h11 => ?_)
      · skip
        refine j_iconst hx dX3_wants_52 ?_
        exact j_zret hx hq rfl (by decide) (by decide) dX3_wants_53 (by omega) ⟨0, rfl, rfl, rfl, (by omega)⟩
      · skip
        refine j_iconst hx dX3_wants_48 ?_
        refine j_goto hx 53 dX3_wants_49 rfl ?_
        exact j_zret hx hq rfl (by decide) (by decide) dX3_wants_53 (by omega) ⟨1, rfl, rfl, rfl, (by omega)⟩
  refine j_if_lt hx 28 dX3_wants_7 rfl (by omega) (fun h12 => ?_) (fun h12 => ?_)
  · skip
    exact j_sub [1, 2, 3] [(0, .ref a), (1, .int (zI x1)), (2, .int (zI x2))] rfl (c28_1  )
  · skip
    refine j_iload_n hx 0 dX3_wants_10 rfl ?_
    refine j_aload_n hx 1 dX3_wants_11 rfl ?_
    refine g4_3 hx hG ha kf_RX3_24 dX3_wants_12 ?_
    refine j_alen hx hG (zr (k := 3) (t2 := 49) hG ha rfl) (by decide) (by decide) (zlen hG (zr (k := 3) (t2 := 49) hG ha rfl) (n := 6) rfl rfl) dX3_wants_15 ?_
    refine j_icmp_ge hx 28 dX3_wants_16 rfl (by omega) ⟨by decide, by decide⟩ (fun h13 => ?_) (fun h13 => ?_)
    · skip
      exact j_sub [1, 2, 3] [(0, .ref a), (1, .int (zI x1)), (2, .int (zI x2))] rfl (c28_1  )
    · skip
      refine j_aload_n hx 1 dX3_wants_19 rfl ?_
      refine g4_3 hx hG ha kf_RX3_24 dX3_wants_20 ?_
      refine j_iload_n hx 0 dX3_wants_23 rfl ?_
      refine j_aald hx hG hS0 (zr (k := 3) (t2 := 49) hG ha rfl) (by decide) (by decide) rfl (zlen hG (zr (k := 3) (t2 := 49) hG ha rfl) (n := 6) rfl rfl) (by omega) (by omega) dX3_wants_24 (fun h14 => ?_) (fun h15 h16 => ?_)
      · skip
        refine j_goto hx 29 dX3_wants_25 rfl ?_
        refine j_astoreN hx [(4, .null), (3, .int (zI v5)), (0, .ref a), (1, .int (zI x1)), (2, .int (zI x2))] dX3_wants_29 (by decide) rfl ?_
        refine j_aloadN hx 0 dX3_wants_31 rfl ?_
        refine j_ifnonnullN hx dX3_wants_33 ?_
        refine j_iload_n hx 4 dX3_wants_36 rfl ?_
        refine j_if_ne hx 52 dX3_wants_37 rfl (by omega) (fun h17 => ?_) (fun h17 => ?_)
        · skip
          refine j_iconst hx dX3_wants_52 ?_
          exact j_zret hx hq rfl (by decide) (by decide) dX3_wants_53 (by omega) ⟨0, rfl, rfl, rfl, (by omega)⟩
        · skip
          refine j_aload_n hx 2 dX3_wants_40 rfl ?_
          have f18 := zf hS0 ha (k := 11) rfl
          refine g4_11 hx hG ha kf_RX3_37 rfl dX3_wants_41 ?_
          refine j_iconst hx dX3_wants_44 ?_
          refine j_icmp_eq hx 52 dX3_wants_45 rfl (by omega) ⟨by decide, by decide⟩ (fun h19 => ?_) (fun h19 => ?_)
          · skip
            refine j_iconst hx dX3_wants_52 ?_
            exact j_zret hx hq rfl (by decide) (by decide) dX3_wants_53 (by omega) ⟨0, rfl, rfl, rfl, (by omega)⟩
          · skip
            refine j_iconst hx dX3_wants_48 ?_
            refine j_goto hx 53 dX3_wants_49 rfl ?_
            exact j_zret hx hq rfl (by decide) (by decide) dX3_wants_53 (by omega) ⟨1, rfl, rfl, rfl, (by omega)⟩
      · skip
        refine j_goto hx 29 dX3_wants_25 rfl ?_
        refine j_astore hx [(4, .ref ((s0 (gP G a 3) (v5).toNat).toNat - 1)), (3, .int (zI v5)), (0, .ref a), (1, .int (zI x1)), (2, .int (zI x2))] dX3_wants_29 (by decide) rfl ?_
        refine j_aload hx 0 dX3_wants_31 rfl ?_
        refine j_ifnonnull hx 54 dX3_wants_33 rfl ?_
        refine j_aload hx 0 dX3_wants_54 rfl ?_
        refine j_aload_n hx 2 dX3_wants_56 rfl ?_
        refine j_iload_n hx 3 dX3_wants_57 rfl ?_
        refine j_callV hx hG (c_X7_holds hst (s0 (gP G a 3) (v5).toNat).toNat - 1 a x1) lk_RX3_103 h16 (by decide) rfl rfl rfl rfl [.ref a, .int (zI x1)] ⟨rfl, hG, hS0, h16, ha, (by omega)⟩ rfl rfl ⟨by decide, by decide⟩ ⟨by decide, by decide⟩ (k2 := 0) (n2 := 0) rfl rfl (Nat.le_of_ble_eq_true rfl) dX3_wants_58 (kIP (fun v20 q21 => ?_))
        exact j_zret hx hq rfl (by decide) (by decide) dX3_wants_61 (by omega) ⟨v20, rfl, rfl, rfl, (by omega)⟩

theorem lk_RX11_206 : LkV RX11 206 RX3 yX3_look cX3_look 3 none 1 := ⟨km_RX11_206, ki_yX3_look, ks_RX3_yX3_look, kn_RX3, kc_yX3_look, rfl, by decide +kernel, by decide +kernel, by decide +kernel⟩
theorem lk_RX11_209 : LkV RX11 209 RX3 yX3_wants cX3_wants 5 (some .boolean) 2 := ⟨km_RX11_209, ki_yX3_wants, ks_RX3_yX3_wants, kn_RX3, kc_yX3_wants, rfl, by decide +kernel, by decide +kernel, by decide +kernel⟩
set_option maxHeartbeats 4000000 in
set_option maxRecDepth 20000 in
theorem c_X11_would {E : zE} {l : Launch} (hst : l.stackTraces = false) (a : Nat) (x1 : Int) (x2 : Int) : ConX E l yX11_would cX11_would 3 (some .boolean) { frames := 7, cells := 2, slots := 12, locals := 113 } (fun G s vs => vs = [.ref a, .int (zI x1), .int (zI x2)] ∧ zGK G ∧ zSK G s ∧ (gT G a = 12) ∧ ((-2147483648) ≤ x1 ∧ x1 ≤ 2147483647) ∧ ((-2147483648) ≤ x2 ∧ x2 ≤ 2147483647)) (fun G s _ => pI (fun r G2 s2 => G2 = G ∧ zSK G s2 ∧ zFr [4] G s s2 ∧ (0 ≤ r ∧ r ≤ 1))) (fun G s _ Ex G2 s2 => G2 = G ∧ zSK G s2 ∧ zFr [4, 12] G s s2 ∧ ((Ex = "java/lang/IllegalArgumentException" ∧ (True)) ∨ (Ex = "java/util/NoSuchElementException" ∧ (True)))) := by
  refine ConX.mk hst (by decide) (fun G s vs h => by rw [h.1]; exact Nat.le_of_ble_eq_true rfl) ?_
  rintro X G s0 vs ⟨rfl, hG, hS0, ha, hx1, hx2⟩ rfl hx hq
  show JJ X E 3 G s0 0 0 [(0, .ref a), (1, .int (zI x1)), (2, .int (zI x2))] 0 []
  refine j_aload_n hx 0 dX11_would_0 rfl ?_
  refine j_iload_n hx 1 dX11_would_1 rfl ?_
  refine j_callVX hx hq hG (c_X11_needPlayer hst a x1) lk_RX11_134 ha (by decide) rfl rfl rfl rfl [.int (zI x1)] ⟨rfl, hG, hS0, ha, (by omega)⟩ rfl rfl ⟨by decide, by decide⟩ ⟨by decide, by decide⟩ (k2 := 1) (n2 := 6) rfl rfl (Nat.le_of_ble_eq_true rfl) ⟨by decide, by decide⟩ dX11_would_2 (by rintro Ex9 G9 s9 ⟨rfl, hS9, hF9, e9, c9⟩; exact ⟨rfl, hS9, (zFr_t zFr_rf hF9 (by decide)), Or.inr ⟨e9, by first | trivial | omega⟩⟩) (kVP (fun q2 => ?_))
  refine j_aload_n hx 0 dX11_would_5 rfl ?_
  refine j_iload_n hx 2 dX11_would_6 rfl ?_
  refine j_iconst hx dX11_would_7 ?_
  refine j_iconst hx dX11_would_8 ?_
  refine j_callVX hx hq hG (c_X11_needRange hst a x2 0 1) lk_RX11_98 ha (by decide) rfl rfl rfl rfl [.int (zI x2), .int (zI 0), .int (zI 1)] ⟨rfl, hG, hS0, ha, (by omega), (by omega), (by omega)⟩ rfl rfl ⟨by decide, by decide⟩ ⟨by decide, by decide⟩ (k2 := 2) (n2 := 12) rfl rfl (Nat.le_of_ble_eq_true rfl) ⟨by decide, by decide⟩ dX11_would_9 (by rintro Ex9 G9 s9 ⟨rfl, hS9, hF9, e9, c9⟩; exact ⟨rfl, hS9, (zFr_t zFr_rf hF9 (by decide)), Or.inl ⟨e9, by first | trivial | omega⟩⟩) (kVP (fun q4 => ?_))
  refine j_aload_n hx 0 dX11_would_12 rfl ?_
  refine g12_6 hx hG ha kf_RX11_48 dX11_would_13 ?_
  refine j_aload_n hx 0 dX11_would_16 rfl ?_
  refine g12_6 hx hG ha kf_RX11_48 dX11_would_17 ?_
  refine gN4_1 hx hG (zr (k := 6) (t2 := 4) hG ha rfl) kf_RX11_155 dX11_would_20 ?_
  refine j_callV hx hG (c_X0_whose hst (gP G (gP G a 6) 1)) lk_RX11_168 (zr (k := 1) (t2 := 1) hG (zr (k := 6) (t2 := 4) hG ha rfl) rfl) (by decide) rfl rfl rfl rfl [] ⟨rfl, hG, hS0, (zr (k := 1) (t2 := 1) hG (zr (k := 6) (t2 := 4) hG ha rfl) rfl)⟩ rfl rfl ⟨by decide, by decide⟩ ⟨by decide, by decide⟩ (k2 := 2) (n2 := 12) rfl rfl (Nat.le_of_ble_eq_true rfl) dX11_would_23 (kIP (fun v5 q6 => ?_))
  refine j_callV hx hG (c_X3_look hst (gP G a 6) v5) lk_RX11_206 (zr (k := 6) (t2 := 4) hG ha rfl) (by decide) rfl rfl rfl rfl [.int (zI v5)] ⟨rfl, hG, hS0, (zr (k := 6) (t2 := 4) hG ha rfl), (by omega)⟩ rfl rfl ⟨by decide, by decide⟩ ⟨by decide, by decide⟩ (k2 := 2) (n2 := 12) rfl rfl (Nat.le_of_ble_eq_true rfl) dX11_would_26 (kVM (fun s1 hS_s1 hF_s1 q8 => ?_))
  refine j_aload_n hx 0 dX11_would_29 rfl ?_
  refine g12_6 hx hG ha kf_RX11_48 dX11_would_30 ?_
  refine j_iload_n hx 1 dX11_would_33 rfl ?_
  refine j_iload_n hx 2 dX11_would_34 rfl ?_
  refine j_callV hx hG (c_X3_wants hst (gP G a 6) x1 x2) lk_RX11_209 (zr (k := 6) (t2 := 4) hG ha rfl) (by decide) rfl rfl rfl rfl [.int (zI x1), .int (zI x2)] ⟨rfl, hG, hS_s1, (zr (k := 6) (t2 := 4) hG ha rfl), (by omega), (by omega)⟩ rfl rfl ⟨by decide, by decide⟩ ⟨by decide, by decide⟩ (k2 := 2) (n2 := 12) rfl rfl (Nat.le_of_ble_eq_true rfl) dX11_would_35 (kIP (fun v9 q10 => ?_))
  exact j_zret hx hq.r rfl (by decide) (by decide) dX11_would_38 (by omega) ⟨v9, rfl, rfl, hS_s1, (zFr_t zFr_rf hF_s1 (by decide)), (by omega)⟩

set_option maxHeartbeats 4000000 in
set_option maxRecDepth 20000 in
theorem c_X3_setLaw {E : zE} {l : Launch} (hst : l.stackTraces = false) (a : Nat) (x1 : Int) (x2 : Int) : Con E l yX3_setLaw cX3_setLaw 3 none { frames := 0, cells := 0, slots := 0, locals := 0 } (fun G s vs => vs = [.ref a, .int (zI x1), .int (zI x2)] ∧ zGK G ∧ zSK G s ∧ (gT G a = 4) ∧ ((-2147483648) ≤ x1 ∧ x1 ≤ 2147483647) ∧ ((-2147483648) ≤ x2 ∧ x2 ≤ 2147483647)) (fun G s _ => pV (fun G2 s2 => G2 = G ∧ zSK G s2 ∧ zFr [44] G s s2 ∧ True)) := by
  refine Con.mk hst (by decide) (fun G s vs h => by rw [h.1]; exact Nat.le_of_ble_eq_true rfl) ?_
  rintro X G s0 vs ⟨rfl, hG, hS0, ha, hx1, hx2⟩ rfl hx hq
  show JJ X E 3 G s0 0 0 [(0, .ref a), (1, .int (zI x1)), (2, .int (zI x2))] 0 []
  refine j_iload_n hx 1 dX3_setLaw_0 rfl ?_
  refine j_if_lt hx 20 dX3_setLaw_1 rfl (by omega) (fun h1 => ?_) (fun h1 => ?_)
  · skip
    exact j_vret hx hq rfl (by decide) (by decide) dX3_setLaw_20 ⟨rfl, rfl, hS0, zFr_rf, trivial⟩
  · skip
    refine j_iload_n hx 1 dX3_setLaw_4 rfl ?_
    refine j_aload_n hx 0 dX3_setLaw_5 rfl ?_
    refine g4_2 hx hG ha kf_RX3_18 dX3_setLaw_6 ?_
    refine j_alen hx hG (zr (k := 2) (t2 := 44) hG ha rfl) (by decide) (by decide) (zlen hG (zr (k := 2) (t2 := 44) hG ha rfl) (n := 3) rfl rfl) dX3_setLaw_9 ?_
    refine j_icmp_ge hx 20 dX3_setLaw_10 rfl (by omega) ⟨by decide, by decide⟩ (fun h2 => ?_) (fun h2 => ?_)
    · skip
      exact j_vret hx hq rfl (by decide) (by decide) dX3_setLaw_20 ⟨rfl, rfl, hS0, zFr_rf, trivial⟩
    · skip
      refine j_aload_n hx 0 dX3_setLaw_13 rfl ?_
      refine g4_2 hx hG ha kf_RX3_18 dX3_setLaw_14 ?_
      refine j_iload_n hx 1 dX3_setLaw_17 rfl ?_
      refine j_iload_n hx 2 dX3_setLaw_18 rfl ?_
      refine j_iast hx hG (zr (k := 2) (t2 := 44) hG ha rfl) (by decide) rfl (zlen hG (zr (k := 2) (t2 := 44) hG ha rfl) (n := 3) rfl rfl) (by omega) (by omega) (j := (x1).toNat) rfl dX3_setLaw_19 ?_
      obtain ⟨s1, e_s1⟩ : ∃ z, z = zU s0 (gP G a 2) (x1).toNat x2 := ⟨_, rfl⟩
      rw [← e_s1]
      have hS_s1 : zSK G s1 := by rw [e_s1]; exact zSK_A hS0 (zr (k := 2) (t2 := 44) hG ha rfl) rfl rfl rfl (by omega)
      exact j_vret hx hq rfl (by decide) (by decide) dX3_setLaw_20 ⟨rfl, rfl, hS_s1, (zFr_u zFr_rf e_s1 (zr (k := 2) (t2 := 44) hG ha rfl) (by decide)), trivial⟩

set_option maxHeartbeats 4000000 in
set_option maxRecDepth 20000 in
theorem c_X4_settle {E : zE} {l : Launch} (hst : l.stackTraces = false) (a : Nat) (x1 : Int) : Con E l yX4_settle cX4_settle 2 none { frames := 0, cells := 0, slots := 0, locals := 0 } (fun G s vs => vs = [.ref a, .int (zI x1)] ∧ zGK G ∧ zSK G s ∧ (gT G a = 5) ∧ ((-2147483648) ≤ x1 ∧ x1 ≤ 2147483647)) (fun G s _ => pV (fun G2 s2 => G2 = G ∧ zSK G s2 ∧ zFr [5] G s s2 ∧ True)) := by
  refine Con.mk hst (by decide) (fun G s vs h => by rw [h.1]; exact Nat.le_of_ble_eq_true rfl) ?_
  rintro X G s0 vs ⟨rfl, hG, hS0, ha, hx1⟩ rfl hx hq
  show JJ X E 2 G s0 0 0 [(0, .ref a), (1, .int (zI x1))] 0 []
  refine j_aload_n hx 0 dX4_settle_0 rfl ?_
  refine j_iload_n hx 1 dX4_settle_1 rfl ?_
  refine p5_5 hx hG ha kf_RX4_27 dX4_settle_2 ?_
  obtain ⟨s1, e_s1⟩ : ∃ z, z = zU s0 a 5 x1 := ⟨_, rfl⟩
  rw [← e_s1]
  have hS_s1 : zSK G s1 := by rw [e_s1]; exact zSK_F hS0 ha rfl rfl rfl (by omega)
  refine j_aload_n hx 0 dX4_settle_5 rfl ?_
  refine j_iconst hx dX4_settle_6 ?_
  refine p5_4 hx hG ha kf_RX4_31 dX4_settle_7 ?_
  obtain ⟨s2, e_s2⟩ : ∃ z, z = zU s1 a 4 0 := ⟨_, rfl⟩
  rw [← e_s2]
  have hS_s2 : zSK G s2 := by rw [e_s2]; exact zSK_F hS_s1 ha rfl rfl rfl (by omega)
  exact j_vret hx hq rfl (by decide) (by decide) dX4_settle_10 ⟨rfl, rfl, hS_s2, (zFr_u (zFr_u zFr_rf e_s1 ha (by decide)) e_s2 ha (by decide)), trivial⟩

theorem lk_RX11_213 : LkV RX11 213 RX3 yX3_setLaw cX3_setLaw 3 none 2 := ⟨km_RX11_213, ki_yX3_setLaw, ks_RX3_yX3_setLaw, kn_RX3, kc_yX3_setLaw, rfl, by decide +kernel, by decide +kernel, by decide +kernel⟩
theorem lk_RX11_124 : LkV RX11 124 RX4 yX4_settle cX4_settle 2 none 1 := ⟨km_RX11_124, ki_yX4_settle, ks_RX4_yX4_settle, kn_RX4, kc_yX4_settle, rfl, by decide +kernel, by decide +kernel, by decide +kernel⟩
set_option maxHeartbeats 4000000 in
set_option maxRecDepth 20000 in
theorem c_X11_law {E : zE} {l : Launch} (hst : l.stackTraces = false) (a : Nat) (x1 : Int) (x2 : Int) : ConX E l yX11_law cX11_law 4 (some .int) { frames := 7, cells := 2, slots := 12, locals := 113 } (fun G s vs => vs = [.ref a, .int (zI x1), .int (zI x2)] ∧ zGK G ∧ zSK G s ∧ (gT G a = 12) ∧ ((-2147483648) ≤ x1 ∧ x1 ≤ 2147483647) ∧ ((-2147483648) ≤ x2 ∧ x2 ≤ 2147483647)) (fun G s _ => pI (fun r G2 s2 => G2 = G ∧ zSK G s2 ∧ zFr [5, 44] G s s2 ∧ ((-2147483648) ≤ r ∧ r ≤ 2147483647))) (fun G s _ Ex G2 s2 => G2 = G ∧ zSK G s2 ∧ zFr [5, 12, 44] G s s2 ∧ ((Ex = "java/lang/IllegalArgumentException" ∧ (True)))) := by
  refine ConX.mk hst (by decide) (fun G s vs h => by rw [h.1]; exact Nat.le_of_ble_eq_true rfl) ?_
  rintro X G s0 vs ⟨rfl, hG, hS0, ha, hx1, hx2⟩ rfl hx hq
  show JJ X E 4 G s0 0 0 [(0, .ref a), (1, .int (zI x1)), (2, .int (zI x2))] 0 []
  refine j_aload_n hx 0 dX11_law_0 rfl ?_
  refine j_iload_n hx 1 dX11_law_1 rfl ?_
  refine j_iconst hx dX11_law_2 ?_
  refine j_iconst hx dX11_law_3 ?_
  refine j_callVX hx hq hG (c_X11_needRange hst a x1 0 2) lk_RX11_98 ha (by decide) rfl rfl rfl rfl [.int (zI x1), .int (zI 0), .int (zI 2)] ⟨rfl, hG, hS0, ha, (by omega), (by omega), (by omega)⟩ rfl rfl ⟨by decide, by decide⟩ ⟨by decide, by decide⟩ (k2 := 1) (n2 := 6) rfl rfl (Nat.le_of_ble_eq_true rfl) ⟨by decide, by decide⟩ dX11_law_4 (by rintro Ex9 G9 s9 ⟨rfl, hS9, hF9, e9, c9⟩; exact ⟨rfl, hS9, (zFr_t zFr_rf hF9 (by decide)), ⟨e9, by first | trivial | omega⟩⟩) (kVP (fun q2 => ?_))
  refine j_aload_n hx 0 dX11_law_7 rfl ?_
  refine j_iload_n hx 2 dX11_law_8 rfl ?_
  refine j_iconst hx dX11_law_9 ?_
  refine j_iconst hx dX11_law_10 ?_
  refine j_callVX hx hq hG (c_X11_needRange hst a x2 0 2) lk_RX11_98 ha (by decide) rfl rfl rfl rfl [.int (zI x2), .int (zI 0), .int (zI 2)] ⟨rfl, hG, hS0, ha, (by omega), (by omega), (by omega)⟩ rfl rfl ⟨by decide, by decide⟩ ⟨by decide, by decide⟩ (k2 := 2) (n2 := 12) rfl rfl (Nat.le_of_ble_eq_true rfl) ⟨by decide, by decide⟩ dX11_law_11 (by rintro Ex9 G9 s9 ⟨rfl, hS9, hF9, e9, c9⟩; exact ⟨rfl, hS9, (zFr_t zFr_rf hF9 (by decide)), ⟨e9, by first | trivial | omega⟩⟩) (kVP (fun q4 => ?_))
  refine j_aload_n hx 0 dX11_law_14 rfl ?_
  refine g12_6 hx hG ha kf_RX11_48 dX11_law_15 ?_
  refine j_iload_n hx 1 dX11_law_18 rfl ?_
  refine j_callV hx hG (c_X3_lawOf hst (gP G a 6) x1) lk_RX11_178 (zr (k := 6) (t2 := 4) hG ha rfl) (by decide) rfl rfl rfl rfl [.int (zI x1)] ⟨rfl, hG, hS0, (zr (k := 6) (t2 := 4) hG ha rfl), (by omega)⟩ rfl rfl ⟨by decide, by decide⟩ ⟨by decide, by decide⟩ (k2 := 2) (n2 := 12) rfl rfl (Nat.le_of_ble_eq_true rfl) dX11_law_19 (kIP (fun v5 q6 => ?_))
  refine j_istore_n hx [(3, .int (zI v5)), (0, .ref a), (1, .int (zI x1)), (2, .int (zI x2))] dX11_law_22 (by decide) rfl ?_
  refine j_aload_n hx 1 dX11_law_23 rfl ?_
  refine g12_6 hx hG ha kf_RX11_48 dX11_law_24 ?_
  refine j_iload_n hx 2 dX11_law_27 rfl ?_
  refine j_iload_n hx 3 dX11_law_28 rfl ?_
  refine j_callV hx hG (c_X3_setLaw hst (gP G a 6) x1 x2) lk_RX11_213 (zr (k := 6) (t2 := 4) hG ha rfl) (by decide) rfl rfl rfl rfl [.int (zI x1), .int (zI x2)] ⟨rfl, hG, hS0, (zr (k := 6) (t2 := 4) hG ha rfl), (by omega), (by omega)⟩ rfl rfl ⟨by decide, by decide⟩ ⟨by decide, by decide⟩ (k2 := 2) (n2 := 12) rfl rfl (Nat.le_of_ble_eq_true rfl) dX11_law_29 (kVM (fun s1 hS_s1 hF_s1 q8 => ?_))
  refine j_aload_n hx 1 dX11_law_32 rfl ?_
  refine g12_9 hx hG ha kf_RX11_69 dX11_law_33 ?_
  refine j_aload_n hx 1 dX11_law_36 rfl ?_
  refine g12_6 hx hG ha kf_RX11_48 dX11_law_37 ?_
  have f9 := zf hS0 (zr (k := 6) (t2 := 4) hG ha rfl) (k := 10) rfl
  refine gN4_10 hx hG (zr (k := 6) (t2 := 4) hG ha rfl) kf_RX11_165 (v := (s0 (gP G a 6) 10)) (by rw [(zFr_g hF_s1 (zr (k := 6) (t2 := 4) hG ha rfl) (by decide))]) dX11_law_40 ?_
  refine j_callV hx hG (c_X4_settle hst (gP G a 9) ((s0 (gP G a 6) 10))) lk_RX11_124 (zr (k := 9) (t2 := 5) hG ha rfl) (by decide) rfl rfl rfl rfl [.int (zI ((s0 (gP G a 6) 10)))] ⟨rfl, hG, hS_s1, (zr (k := 9) (t2 := 5) hG ha rfl), (by omega)⟩ rfl rfl ⟨by decide, by decide⟩ ⟨by decide, by decide⟩ (k2 := 2) (n2 := 12) rfl rfl (Nat.le_of_ble_eq_true rfl) dX11_law_43 (kVM (fun s2 hS_s2 hF_s2 q11 => ?_))
  refine j_iload_n hx 0 dX11_law_46 rfl ?_
  exact j_iret hx hq.r rfl (by decide) (by decide) dX11_law_47 ⟨v5, rfl, rfl, hS_s2, (zFr_t (zFr_t zFr_rf hF_s1 (by decide)) hF_s2 (by decide)), (by omega)⟩

set_option maxHeartbeats 4000000 in
set_option maxRecDepth 20000 in
theorem c_X11_draws {E : zE} {l : Launch} (hst : l.stackTraces = false) (a : Nat) (x1 : Int) : Con E l yX11_draws cX11_draws 2 none { frames := 1, cells := 0, slots := 0, locals := 21 } (fun G s vs => vs = [.ref a, .int (zI x1)] ∧ zGK G ∧ zSK G s ∧ (gT G a = 12) ∧ ((-2147483648) ≤ x1 ∧ x1 ≤ 2147483647)) (fun G s _ => pV (fun G2 s2 => G2 = G ∧ zSK G s2 ∧ zFr [4, 5] G s s2 ∧ True)) := by
  refine Con.mk hst (by decide) (fun G s vs h => by rw [h.1]; exact Nat.le_of_ble_eq_true rfl) ?_
  rintro X G s0 vs ⟨rfl, hG, hS0, ha, hx1⟩ rfl hx hq
  show JJ X E 2 G s0 0 0 [(0, .ref a), (1, .int (zI x1))] 0 []
  refine j_aload_n hx 0 dX11_draws_0 rfl ?_
  refine g12_6 hx hG ha kf_RX11_48 dX11_draws_1 ?_
  refine j_iconst hx dX11_draws_4 ?_
  refine pN4_8 hx hG (zr (k := 6) (t2 := 4) hG ha rfl) kf_RX11_217 (by omega) dX11_draws_5 ?_
  obtain ⟨s1, e_s1⟩ : ∃ z, z = zU s0 (gP G a 6) 8 1 := ⟨_, rfl⟩
  rw [← e_s1]
  have hS_s1 : zSK G s1 := by rw [e_s1]; exact zSK_F hS0 (zr (k := 6) (t2 := 4) hG ha rfl) rfl rfl rfl (by omega)
  refine j_aload_n hx 0 dX11_draws_8 rfl ?_
  refine g12_6 hx hG ha kf_RX11_48 dX11_draws_9 ?_
  refine j_iload_n hx 1 dX11_draws_12 rfl ?_
  refine pN4_9 hx hG (zr (k := 6) (t2 := 4) hG ha rfl) kf_RX11_221 dX11_draws_13 ?_
  obtain ⟨s2, e_s2⟩ : ∃ z, z = zU s1 (gP G a 6) 9 x1 := ⟨_, rfl⟩
  rw [← e_s2]
  have hS_s2 : zSK G s2 := by rw [e_s2]; exact zSK_F hS_s1 (zr (k := 6) (t2 := 4) hG ha rfl) rfl rfl rfl (by omega)
  refine j_aload_n hx 0 dX11_draws_16 rfl ?_
  refine g12_9 hx hG ha kf_RX11_69 dX11_draws_17 ?_
  refine j_aload_n hx 0 dX11_draws_20 rfl ?_
  refine g12_6 hx hG ha kf_RX11_48 dX11_draws_21 ?_
  have f1 := zf hS0 (zr (k := 6) (t2 := 4) hG ha rfl) (k := 10) rfl
  refine gN4_10 hx hG (zr (k := 6) (t2 := 4) hG ha rfl) kf_RX11_165 (v := (s0 (gP G a 6) 10)) (by rw [e_s2, zU_at (Or.inr (by decide)), e_s1, zU_at (Or.inr (by decide))]) dX11_draws_24 ?_
  refine j_callV hx hG (c_X4_settle hst (gP G a 9) ((s0 (gP G a 6) 10))) lk_RX11_124 (zr (k := 9) (t2 := 5) hG ha rfl) (by decide) rfl rfl rfl rfl [.int (zI ((s0 (gP G a 6) 10)))] ⟨rfl, hG, hS_s2, (zr (k := 9) (t2 := 5) hG ha rfl), (by omega)⟩ rfl rfl ⟨by decide, by decide⟩ ⟨by decide, by decide⟩ (k2 := 0) (n2 := 0) rfl rfl (Nat.le_of_ble_eq_true rfl) dX11_draws_27 (kVM (fun s3 hS_s3 hF_s3 q3 => ?_))
  exact j_vret hx hq rfl (by decide) (by decide) dX11_draws_30 ⟨rfl, rfl, hS_s3, (zFr_t (zFr_u (zFr_u zFr_rf e_s1 (zr (k := 6) (t2 := 4) hG ha rfl) (by decide)) e_s2 (zr (k := 6) (t2 := 4) hG ha rfl) (by decide)) hF_s3 (by decide)), trivial⟩

set_option maxHeartbeats 4000000 in
set_option maxRecDepth 20000 in
theorem c_X11_still {E : zE} {l : Launch} (hst : l.stackTraces = false) (a : Nat) : Con E l yX11_still cX11_still 2 (some .int) { frames := 1, cells := 0, slots := 0, locals := 21 } (fun G s vs => vs = [.ref a] ∧ zGK G ∧ zSK G s ∧ (gT G a = 12)) (fun G s _ => pI (fun r G2 s2 => G2 = G ∧ zSK G s2 ∧ zFr [4, 5] G s s2 ∧ ((-2147483648) ≤ r ∧ r ≤ 2147483647))) := by
  refine Con.mk hst (by decide) (fun G s vs h => by rw [h.1]; exact Nat.le_of_ble_eq_true rfl) ?_
  rintro X G s0 vs ⟨rfl, hG, hS0, ha⟩ rfl hx hq
  show JJ X E 2 G s0 0 0 [(0, .ref a)] 0 []
  refine j_aload_n hx 0 dX11_still_0 rfl ?_
  refine g12_6 hx hG ha kf_RX11_48 dX11_still_1 ?_
  have f1 := zf hS0 (zr (k := 6) (t2 := 4) hG ha rfl) (k := 8) rfl
  refine gN4_8 hx hG (zr (k := 6) (t2 := 4) hG ha rfl) kf_RX11_217 rfl dX11_still_4 ?_
  have c15_1 : ∀ (v2 : Int), (0 ≤ v2 ∧ v2 ≤ 1) → JJ X E 2 G s0 0 0 [(0, .ref a)] 15 [.int (zI v2)] := by
    intro v2 fA2
    refine j_istore_n hx [(1, .int (zI v2)), (0, .ref a)] dX11_still_15 (by decide) rfl ?_
    refine j_aload_n hx 1 dX11_still_16 rfl ?_
    refine g12_6 hx hG ha kf_RX11_48 dX11_still_17 ?_
    refine j_iconst hx dX11_still_20 ?_
    refine pN4_8 hx hG (zr (k := 6) (t2 := 4) hG ha rfl) kf_RX11_217 (by omega) dX11_still_21 ?_
    obtain ⟨s3, e_s3⟩ : ∃ z, z = zU s0 (gP G a 6) 8 0 := ⟨_, rfl⟩
    rw [← e_s3]
    have hS_s3 : zSK G s3 := by rw [e_s3]; exact zSK_F hS0 (zr (k := 6) (t2 := 4) hG ha rfl) rfl rfl rfl (by omega)
    refine j_aload_n hx 1 dX11_still_24 rfl ?_
    refine g12_9 hx hG ha kf_RX11_69 dX11_still_25 ?_
    refine j_aload_n hx 1 dX11_still_28 rfl ?_
    refine g12_6 hx hG ha kf_RX11_48 dX11_still_29 ?_
    have f3 := zf hS0 (zr (k := 6) (t2 := 4) hG ha rfl) (k := 10) rfl
    refine gN4_10 hx hG (zr (k := 6) (t2 := 4) hG ha rfl) kf_RX11_165 (v := (s0 (gP G a 6) 10)) (by rw [e_s3, zU_at (Or.inr (by decide))]) dX11_still_32 ?_
    refine j_callV hx hG (c_X4_settle hst (gP G a 9) ((s0 (gP G a 6) 10))) lk_RX11_124 (zr (k := 9) (t2 := 5) hG ha rfl) (by decide) rfl rfl rfl rfl [.int (zI ((s0 (gP G a 6) 10)))] ⟨rfl, hG, hS_s3, (zr (k := 9) (t2 := 5) hG ha rfl), (by omega)⟩ rfl rfl ⟨by decide, by decide⟩ ⟨by decide, by decide⟩ (k2 := 0) (n2 := 0) rfl rfl (Nat.le_of_ble_eq_true rfl) dX11_still_35 (kVM (fun s4 hS_s4 hF_s4 q5 => ?_))
    refine j_iload_n hx 0 dX11_still_38 rfl ?_
    exact j_iret hx hq rfl (by decide) (by decide) dX11_still_39 ⟨v2, rfl, rfl, hS_s4, (zFr_t (zFr_u zFr_rf e_s3 (zr (k := 6) (t2 := 4) hG ha rfl) (by decide)) hF_s4 (by decide)), (by omega)⟩
  refine j_if_eq hx 14 dX11_still_7 rfl (by omega) (fun h6 => ?_) (fun h6 => ?_)
  · skip
    refine j_iconst hx dX11_still_14 ?_
    exact j_sub [0] [(0, .ref a)] rfl (c15_1 0 (by omega))
  · skip
    refine j_iconst hx dX11_still_10 ?_
    refine j_goto hx 15 dX11_still_11 rfl ?_
    exact j_sub [0] [(0, .ref a)] rfl (c15_1 1 (by omega))

theorem lk_RX0_92 : LkV RX0 92 RX0 yX0_whose cX0_whose 1 (some .int) 0 := ⟨km_RX0_92, ki_yX0_whose, ks_RX0_yX0_whose, kn_RX0, kc_yX0_whose, rfl, by decide +kernel, by decide +kernel, by decide +kernel⟩
set_option maxHeartbeats 4000000 in
set_option maxRecDepth 20000 in
theorem c_X0_pack {E : zE} {l : Launch} (hst : l.stackTraces = false) (a : Nat) (b1 : Nat) (x2 : Int) : Con E l yX0_pack cX0_pack 12 none { frames := 3, cells := 0, slots := 0, locals := 65 } (fun G s vs => vs = [.ref a, .ref b1, .int (zI x2)] ∧ zGK G ∧ zSK G s ∧ (gT G a = 1) ∧ (gT G b1 = 53) ∧ ((-2147483648) ≤ x2 ∧ x2 ≤ 2147483647)) (fun G s _ => pV (fun G2 s2 => G2 = G ∧ zSK G s2 ∧ zFr [53] G s s2 ∧ True)) := by
  refine Con.mk hst (by decide) (fun G s vs h => by rw [h.1]; exact Nat.le_of_ble_eq_true rfl) ?_
  rintro X G s0 vs ⟨rfl, hG, hS0, ha, hb1, hx2⟩ rfl hx hq
  show JJ X E 12 G s0 0 0 [(0, .ref a), (1, .ref b1), (2, .int (zI x2))] 0 []
  refine j_iload_n hx 2 dX0_pack_0 rfl ?_
  refine j_if_lt hx 13 dX0_pack_1 rfl (by omega) (fun h1 => ?_) (fun h1 => ?_)
  · skip
    exact j_vret hx hq rfl (by decide) (by decide) dX0_pack_13 ⟨rfl, rfl, hS0, zFr_rf, trivial⟩
  · skip
    refine j_iload_n hx 2 dX0_pack_4 rfl ?_
    refine j_aload_n hx 1 dX0_pack_5 rfl ?_
    have f2 := znb hG b1
    refine j_alen hx hG hb1 (by decide) (by decide) rfl dX0_pack_6 ?_
    refine j_bipush hx dX0_pack_7 rfl ?_
    refine j_isub hx (r := (gN G b1 : Int) - 7) dX0_pack_9 (by omega) ?_
    refine j_icmp_le hx 14 dX0_pack_10 rfl (by omega) (by omega) (fun h3 => ?_) (fun h3 => ?_)
    · skip
      refine j_iconst hx dX0_pack_14 ?_
      refine j_istore_n hx [(3, .int (zI 0)), (0, .ref a), (1, .ref b1), (2, .int (zI x2))] dX0_pack_15 (by decide) rfl ?_
      have c16_1 : ∀ (m_c16_1 : Nat) (v4 : Int) (s2 : zS), 2147483648 - v4 < m_c16_1 → (0 ≤ v4 ∧ v4 ≤ 7) → (zSK G s2) → (zFr [53] G s0 s2) → JJ X E 12 G s2 0 0 [(0, .ref a), (1, .ref b1), (2, .int (zI x2)), (3, .int (zI v4))] 16 [] := by
        intro m_c16_1
        induction m_c16_1 with
        | zero => intro v4 s2 hm_c16_1 fA3 hS_s2 hF_s2; exfalso; omega
        | succ m_c16_1 ih_c16_1 => 
          intro v4 s2 hm_c16_1 fA3 hS_s2 hF_s2
          refine j_iload_n hx 3 dX0_pack_16 rfl ?_
          refine j_bipush hx dX0_pack_17 rfl ?_
          refine j_icmp_ge hx 34 dX0_pack_19 rfl (by omega) ⟨by decide, by decide⟩ (fun h5 => ?_) (fun h5 => ?_)
          · skip
            refine j_aload_n hx 0 dX0_pack_34 rfl ?_
            refine j_callV hx hG (c_X0_whose hst a) lk_RX0_92 ha (by decide) rfl rfl rfl rfl [] ⟨rfl, hG, hS_s2, ha⟩ rfl rfl ⟨by decide, by decide⟩ ⟨by decide, by decide⟩ (k2 := 0) (n2 := 0) rfl rfl (Nat.le_of_ble_eq_true rfl) dX0_pack_35 (kIP (fun v6 q7 => ?_))
            refine j_iconst hx dX0_pack_38 ?_
            refine j_iadd hx (r := v6 + 1) dX0_pack_39 rfl ?_
            refine j_i2l hx dX0_pack_40 (by omega) ?_
            refine j_bipush hx dX0_pack_41 rfl ?_
            refine j_lshl hx dX0_pack_43 (fun w8 f9 f10 => ?_)
            refine j_lstore_n hx [(3, .long (zL w8)), (0, .ref a), (1, .ref b1), (2, .int (zI x2))] dX0_pack_44 (by decide) rfl ?_
            refine j_lconst hx dX0_pack_45 ?_
            show JJ X E 12 G s2 0 0 [(3, .long (zL w8)), (0, .ref a), (1, .ref b1), (2, .int (zI x2))] 46 [.long (zL 0)]
            refine j_lstore hx [(5, .long (zL 0)), (3, .long (zL w8)), (0, .ref a), (1, .ref b1), (2, .int (zI x2))] dX0_pack_46 (by decide) rfl ?_
            refine j_iconst hx dX0_pack_48 ?_
            refine j_istore hx [(7, .int (zI 0)), (5, .long (zL 0)), (3, .long (zL w8)), (0, .ref a), (1, .ref b1), (2, .int (zI x2))] dX0_pack_49 (by decide) rfl ?_
            refine j_iconst hx dX0_pack_51 ?_
            refine j_istore hx [(8, .int (zI 0)), (7, .int (zI 0)), (5, .long (zL 0)), (3, .long (zL w8)), (0, .ref a), (1, .ref b1), (2, .int (zI x2))] dX0_pack_52 (by decide) rfl ?_
            refine j_iconst hx dX0_pack_54 ?_
            refine j_istore hx [(9, .int (zI 0)), (8, .int (zI 0)), (7, .int (zI 0)), (5, .long (zL 0)), (3, .long (zL w8)), (0, .ref a), (1, .ref b1), (2, .int (zI x2))] dX0_pack_55 (by decide) rfl ?_
            have c57_6 : ∀ (m_c57_6 : Nat) (w11 : Int) (w12 : Int) (v13 : Int) (v14 : Int) (v15 : Int) (s7 : zS), 2147483648 - v15 < m_c57_6 → ((-9223372036854775808) ≤ w11 ∧ w11 ≤ 9223372036854775807) → ((-9223372036854775808) ≤ w12 ∧ w12 ≤ 9223372036854775807) → ((-2147483648) ≤ v13 ∧ v13 ≤ 2147483647) → (0 ≤ v14 ∧ v14 ≤ 5) → (0 ≤ v15 ∧ v15 ≤ 7) → (zSK G s7) → (zFr [53] G s2 s7) → JJ X E 12 G s7 0 0 [(0, .ref a), (1, .ref b1), (2, .int (zI x2)), (3, .long (zL w11)), (5, .long (zL w12)), (7, .int (zI v13)), (8, .int (zI v14)), (9, .int (zI v15))] 57 [] := by
              intro m_c57_6
              induction m_c57_6 with
              | zero => intro w11 w12 v13 v14 v15 s7 hm_c57_6 fA8 fA9 fA10 fA11 fA12 hS_s7 hF_s7; exfalso; omega
              | succ m_c57_6 ih_c57_6 => 
                intro w11 w12 v13 v14 v15 s7 hm_c57_6 fA8 fA9 fA10 fA11 fA12 hS_s7 hF_s7
                refine j_iload hx 7 dX0_pack_57 rfl ?_
                refine j_bipush hx dX0_pack_59 rfl ?_
                refine j_icmp_ge hx 175 dX0_pack_61 rfl (by omega) ⟨by decide, by decide⟩ (fun h16 => ?_) (fun h16 => ?_)
                · skip
                  refine j_aload_n hx 1 dX0_pack_175 rfl ?_
                  refine j_iload_n hx 2 dX0_pack_176 rfl ?_
                  refine j_iconst hx dX0_pack_177 ?_
                  refine j_iadd hx (r := x2 + 5) dX0_pack_178 rfl ?_
                  refine j_lload_n hx 3 dX0_pack_179 rfl ?_
                  refine j_last hx hG hb1 (by decide) rfl rfl (by omega) (by omega) (j := (x2 + 5).toNat) rfl dX0_pack_180 ?_
                  obtain ⟨s15, e_s15⟩ : ∃ z, z = zU s7 b1 (x2 + 5).toNat w11 := ⟨_, rfl⟩
                  rw [← e_s15]
                  have hS_s15 : zSK G s15 := by rw [e_s15]; exact zSK_A hS_s7 hb1 rfl rfl rfl (by omega)
                  exact j_vret hx hq rfl (by decide) (by decide) dX0_pack_181 ⟨rfl, rfl, hS_s15, (zFr_u (zFr_t (zFr_t zFr_rf hF_s2 (by decide)) hF_s7 (by decide)) e_s15 hb1 (by decide)), trivial⟩
                · skip
                  refine j_aload_n hx 0 dX0_pack_64 rfl ?_
                  refine j_iload hx 7 dX0_pack_65 rfl ?_
                  refine j_callV hx hG (c_X0_pileOf hst a v15) lk_RX0_47 ha (by decide) rfl rfl rfl rfl [.int (zI v15)] ⟨rfl, hG, hS_s7, ha, (by omega)⟩ rfl rfl ⟨by decide, by decide⟩ ⟨by decide, by decide⟩ (k2 := 0) (n2 := 0) rfl rfl (Nat.le_of_ble_eq_true rfl) dX0_pack_67 (kRP (fun r17 q18 => ?_))
                  refine j_astore hx [(10, .ref r17), (0, .ref a), (1, .ref b1), (2, .int (zI x2)), (3, .long (zL w11)), (5, .long (zL w12)), (7, .int (zI v13)), (8, .int (zI v14)), (9, .int (zI v15))] dX0_pack_70 (by decide) rfl ?_
                  refine j_lload_n hx 4 dX0_pack_72 rfl ?_
                  refine j_aload hx 0 dX0_pack_73 rfl ?_
                  have f19 := zf hS0 q18 (k := 1) rfl
                  refine gN7_1 hx hG q18 kf_RX0_43 (v := (s0 r17 1)) (by rw [(zFr_g hF_s7 q18 (by decide)), (zFr_g hF_s2 q18 (by decide))]) dX0_pack_75 ?_
                  refine j_i2l hx dX0_pack_78 (by omega) ?_
                  refine j_bipush hx dX0_pack_79 rfl ?_
                  refine j_iload hx 8 dX0_pack_81 rfl ?_
                  refine j_imul hx (r := 6 * v15) dX0_pack_83 rfl ?_
                  refine j_lshl hx dX0_pack_84 (fun w20 f21 f22 => ?_)
                  refine j_lor hx dX0_pack_85 (fun w23 f24 f25 => ?_)
                  refine j_lstore_n hx [(3, .long (zL w23)), (10, .ref r17), (0, .ref a), (1, .ref b1), (2, .int (zI x2)), (5, .long (zL w12)), (7, .int (zI v13)), (8, .int (zI v14)), (9, .int (zI v15))] dX0_pack_86 (by decide) rfl ?_
                  refine j_iconst hx dX0_pack_87 ?_
                  refine j_istore hx [(11, .int (zI 0)), (3, .long (zL w23)), (10, .ref r17), (0, .ref a), (1, .ref b1), (2, .int (zI x2)), (5, .long (zL w12)), (7, .int (zI v13)), (8, .int (zI v14)), (9, .int (zI v15))] dX0_pack_88 (by decide) rfl ?_
                  have c90_16 : ∀ (m_c90_16 : Nat) (w26 : Int) (v27 : Int) (v28 : Int) (v29 : Int) (s17 : zS), 2147483648 - v29 < m_c90_16 → ((-9223372036854775808) ≤ w26 ∧ w26 ≤ 9223372036854775807) → ((-2147483648) ≤ v27 ∧ v27 ≤ 2147483647) → (0 ≤ v28 ∧ v28 ≤ 5) → (0 ≤ v29 ∧ v29 ≤ 60) → (zSK G s17) → (zFr [53] G s7 s17) → JJ X E 12 G s17 0 0 [(0, .ref a), (1, .ref b1), (2, .int (zI x2)), (3, .long (zL w23)), (5, .long (zL w26)), (7, .int (zI v27)), (8, .int (zI v28)), (9, .int (zI v15)), (10, .ref r17), (11, .int (zI v29))] 90 [] := by
                    intro m_c90_16
                    induction m_c90_16 with
                    | zero => intro w26 v27 v28 v29 s17 hm_c90_16 fA18 fA19 fA20 fA21 hS_s17 hF_s17; exfalso; omega
                    | succ m_c90_16 ih_c90_16 => 
                      intro w26 v27 v28 v29 s17 hm_c90_16 fA18 fA19 fA20 fA21 hS_s17 hF_s17
                      refine j_iload hx 9 dX0_pack_90 rfl ?_
                      refine j_aload hx 8 dX0_pack_92 rfl ?_
                      refine gN7_1 hx hG q18 kf_RX0_43 (v := (s0 r17 1)) (by rw [(zFr_g hF_s17 q18 (by decide)), (zFr_g hF_s7 q18 (by decide)), (zFr_g hF_s2 q18 (by decide))]) dX0_pack_94 ?_
                      have c169_24 : JJ X E 12 G s17 0 0 [(0, .ref a), (1, .ref b1), (2, .int (zI x2)), (3, .long (zL w23)), (5, .long (zL w26)), (7, .int (zI v27)), (8, .int (zI v28)), (9, .int (zI v15))] 169 [] := by
                        refine j_iinc hx 7 [(9, .int (zI (v15 + 1))), (0, .ref a), (1, .ref b1), (2, .int (zI x2)), (3, .long (zL w23)), (5, .long (zL w26)), (7, .int (zI v27)), (8, .int (zI v28))] dX0_pack_169 rfl (by omega) (by decide) rfl ?_
                        refine j_goto hx 57 dX0_pack_172 rfl ?_
                        exact j_sub [1, 2, 3, 4, 5, 6, 7, 0] [(0, .ref a), (1, .ref b1), (2, .int (zI x2)), (3, .long (zL w23)), (5, .long (zL w26)), (7, .int (zI v27)), (8, .int (zI v28)), (9, .int (zI (v15 + 1)))] rfl (ih_c57_6 w23 w26 v27 v28 (v15 + 1) s17 (by omega) (by omega) (by omega) (by omega) (by omega) (by omega) hS_s17 (zFr_t (zFr_t zFr_rf hF_s7 (by decide)) hF_s17 (by decide)))
                      refine j_icmp_ge hx 169 dX0_pack_97 rfl (by omega) (by omega) (fun h30 => ?_) (fun h30 => ?_)
                      · skip
                        exact j_sub [0, 1, 2, 3, 4, 5, 6, 7] [(0, .ref a), (1, .ref b1), (2, .int (zI x2)), (3, .long (zL w23)), (5, .long (zL w26)), (7, .int (zI v27)), (8, .int (zI v28)), (9, .int (zI v15))] rfl (c169_24  )
                      · skip
                        refine j_iload hx 9 dX0_pack_100 rfl ?_
                        refine j_aload hx 8 dX0_pack_102 rfl ?_
                        refine gN7_0 hx hG q18 kf_RX0_106 dX0_pack_104 ?_
                        refine j_alen hx hG (zr (k := 0) (t2 := 41) hG q18 rfl) (by decide) (by decide) (zlen hG (zr (k := 0) (t2 := 41) hG q18 rfl) (n := 60) rfl rfl) dX0_pack_107 ?_
                        refine j_icmp_ge hx 169 dX0_pack_108 rfl (by omega) ⟨by decide, by decide⟩ (fun h31 => absurd h31 (by omega)) (fun h31 => ?_)
                        refine j_iload hx 6 dX0_pack_111 rfl ?_
                        refine j_iconst hx dX0_pack_113 ?_
                        refine j_icmp_ge hx 169 dX0_pack_114 rfl (by omega) ⟨by decide, by decide⟩ (fun h32 => ?_) (fun h32 => ?_)
                        · skip
                          exact j_sub [0, 1, 2, 3, 4, 5, 6, 7] [(0, .ref a), (1, .ref b1), (2, .int (zI x2)), (3, .long (zL w23)), (5, .long (zL w26)), (7, .int (zI v27)), (8, .int (zI v28)), (9, .int (zI v15))] rfl (c169_24  )
                        · skip
                          refine j_lload hx 4 dX0_pack_117 rfl ?_
                          refine j_aload hx 8 dX0_pack_119 rfl ?_
                          refine gN7_0 hx hG q18 kf_RX0_106 dX0_pack_121 ?_
                          refine j_iload hx 9 dX0_pack_124 rfl ?_
                          have f33 := zaI (j := (v29).toNat) hS0 (zr (k := 0) (t2 := 41) hG q18 rfl) rfl (zlen hG (zr (k := 0) (t2 := 41) hG q18 rfl) (n := 60) rfl rfl) (show 0 ≤ v29 by omega) (by omega) rfl
                          refine j_iald hx hG (zr (k := 0) (t2 := 41) hG q18 rfl) (by decide) rfl (zlen hG (zr (k := 0) (t2 := 41) hG q18 rfl) (n := 60) rfl rfl) (by omega) (by omega) (j := (v29).toNat) rfl (v := (s0 (gP G r17 0) (v29).toNat)) (by rw [(zFr_g hF_s17 (zr (k := 0) (t2 := 41) hG q18 rfl) (by decide)), (zFr_g hF_s7 (zr (k := 0) (t2 := 41) hG q18 rfl) (by decide)), (zFr_g hF_s2 (zr (k := 0) (t2 := 41) hG q18 rfl) (by decide))]) dX0_pack_126 ?_
                          refine j_i2l hx dX0_pack_127 (by omega) ?_
                          refine j_iconst hx dX0_pack_128 ?_
                          refine j_iload hx 5 dX0_pack_129 rfl ?_
                          refine j_imul hx (r := 5 * v27) dX0_pack_131 rfl ?_
                          refine j_norm (fun v34 f35 f36 f37 => ?_)
                          refine j_lshl hx dX0_pack_132 (fun w38 f39 f40 => ?_)
                          refine j_lor hx dX0_pack_133 (fun w41 f42 f43 => ?_)
                          refine j_lstore hx [(5, .long (zL w41)), (0, .ref a), (1, .ref b1), (2, .int (zI x2)), (3, .long (zL w23)), (7, .int (zI v27)), (8, .int (zI v28)), (9, .int (zI v15)), (10, .ref r17), (11, .int (zI v29))] dX0_pack_134 (by decide) rfl ?_
                          refine j_aload_n hx 2 dX0_pack_136 rfl ?_
                          refine j_iload_n hx 3 dX0_pack_137 rfl ?_
                          refine j_iload hx 6 dX0_pack_138 rfl ?_
                          refine j_iadd hx (r := x2 + v28) dX0_pack_140 rfl ?_
                          refine j_lload hx 0 dX0_pack_141 rfl ?_
                          refine j_last hx hG hb1 (by decide) rfl rfl (by omega) (by omega) (j := (x2 + v28).toNat) rfl dX0_pack_143 ?_
                          obtain ⟨s25, e_s25⟩ : ∃ z, z = zU s17 b1 (x2 + v28).toNat w41 := ⟨_, rfl⟩
                          rw [← e_s25]
                          have hS_s25 : zSK G s25 := by rw [e_s25]; exact zSK_A hS_s17 hb1 rfl rfl rfl (by omega)
                          refine j_iincN hx 5 (fun v44 => [(7, .int (zI v44)), (5, .long (zL w41)), (0, .ref a), (1, .ref b1), (2, .int (zI x2)), (3, .long (zL w23)), (8, .int (zI v28)), (9, .int (zI v15)), (10, .ref r17), (11, .int (zI v29))]) dX0_pack_144 rfl (by decide) (fun _ => rfl) (fun v44 f45 f46 f47 => ?_)
                          refine j_iload hx 0 dX0_pack_147 rfl ?_
                          refine j_bipush hx dX0_pack_149 rfl ?_
                          have c163_26 : ∀ (w48 : Int) (v49 : Int) (v50 : Int), ((-9223372036854775808) ≤ w48 ∧ w48 ≤ 9223372036854775807) → ((-2147483648) ≤ v49 ∧ v49 ≤ 2147483647) → (0 ≤ v50 ∧ v50 ≤ 5) → JJ X E 12 G s25 0 0 [(0, .ref a), (1, .ref b1), (2, .int (zI x2)), (3, .long (zL w23)), (5, .long (zL w48)), (7, .int (zI v49)), (8, .int (zI v50)), (9, .int (zI v15)), (10, .ref r17), (11, .int (zI v29))] 163 [] := by
                            intro w48 v49 v50 fA27 fA28 fA29
                            refine j_iinc hx 9 [(11, .int (zI (v29 + 1))), (0, .ref a), (1, .ref b1), (2, .int (zI x2)), (3, .long (zL w23)), (5, .long (zL w48)), (7, .int (zI v49)), (8, .int (zI v50)), (9, .int (zI v15)), (10, .ref r17)] dX0_pack_163 rfl (by omega) (by decide) rfl ?_
                            refine j_goto hx 90 dX0_pack_166 rfl ?_
                            exact j_sub [1, 2, 3, 4, 5, 6, 7, 8, 9, 0] [(0, .ref a), (1, .ref b1), (2, .int (zI x2)), (3, .long (zL w23)), (5, .long (zL w48)), (7, .int (zI v49)), (8, .int (zI v50)), (9, .int (zI v15)), (10, .ref r17), (11, .int (zI (v29 + 1)))] rfl (ih_c90_16 w48 v49 v50 (v29 + 1) s25 (by omega) (by omega) (by omega) (by omega) (by omega) hS_s25 (zFr_u (zFr_t zFr_rf hF_s17 (by decide)) e_s25 hb1 (by decide)))
                          refine j_icmp_ne hx 163 dX0_pack_151 rfl (by omega) ⟨by decide, by decide⟩ (fun h51 => ?_) (fun h51 => ?_)
                          · skip
                            exact j_sub [2, 3, 4, 5, 1, 0, 6, 7, 8, 9] [(0, .ref a), (1, .ref b1), (2, .int (zI x2)), (3, .long (zL w23)), (5, .long (zL w41)), (7, .int (zI v44)), (8, .int (zI v28)), (9, .int (zI v15)), (10, .ref r17), (11, .int (zI v29))] rfl (c163_26 w41 v44 v28 (by omega) (by omega) (by omega))
                          · skip
                            refine j_lconst hx dX0_pack_154 ?_
                            show JJ X E 12 G s25 0 0 [(7, .int (zI v44)), (5, .long (zL w41)), (0, .ref a), (1, .ref b1), (2, .int (zI x2)), (3, .long (zL w23)), (8, .int (zI v28)), (9, .int (zI v15)), (10, .ref r17), (11, .int (zI v29))] 155 [.long (zL 0)]
                            refine j_lstore hx [(5, .long (zL 0)), (7, .int (zI v44)), (0, .ref a), (1, .ref b1), (2, .int (zI x2)), (3, .long (zL w23)), (8, .int (zI v28)), (9, .int (zI v15)), (10, .ref r17), (11, .int (zI v29))] dX0_pack_155 (by decide) rfl ?_
                            refine j_iconst hx dX0_pack_157 ?_
                            refine j_istore hx [(7, .int (zI 0)), (5, .long (zL 0)), (0, .ref a), (1, .ref b1), (2, .int (zI x2)), (3, .long (zL w23)), (8, .int (zI v28)), (9, .int (zI v15)), (10, .ref r17), (11, .int (zI v29))] dX0_pack_158 (by decide) rfl ?_
                            refine j_iinc hx 6 [(8, .int (zI (v28 + 1))), (7, .int (zI 0)), (5, .long (zL 0)), (0, .ref a), (1, .ref b1), (2, .int (zI x2)), (3, .long (zL w23)), (9, .int (zI v15)), (10, .ref r17), (11, .int (zI v29))] dX0_pack_160 rfl (by omega) (by decide) rfl ?_
                            exact j_sub [3, 4, 5, 6, 2, 1, 0, 7, 8, 9] [(0, .ref a), (1, .ref b1), (2, .int (zI x2)), (3, .long (zL w23)), (5, .long (zL 0)), (7, .int (zI 0)), (8, .int (zI (v28 + 1))), (9, .int (zI v15)), (10, .ref r17), (11, .int (zI v29))] rfl (c163_26 0 0 (v28 + 1) (by omega) (by omega) (by omega))
                  exact j_sub [3, 4, 5, 1, 6, 7, 8, 9, 2, 0] [(0, .ref a), (1, .ref b1), (2, .int (zI x2)), (3, .long (zL w23)), (5, .long (zL w12)), (7, .int (zI v13)), (8, .int (zI v14)), (9, .int (zI v15)), (10, .ref r17), (11, .int (zI 0))] rfl (c90_16 (2147483648 * 4) w12 v13 v14 0 s7 (by omega) (by omega) (by omega) (by omega) (by omega) hS_s7 zFr_rf)
            exact j_sub [5, 6, 7, 4, 3, 2, 1, 0] [(0, .ref a), (1, .ref b1), (2, .int (zI x2)), (3, .long (zL w8)), (5, .long (zL 0)), (7, .int (zI 0)), (8, .int (zI 0)), (9, .int (zI 0))] rfl (c57_6 (2147483648 * 4) w8 0 0 0 0 s2 (by omega) (by omega) (by omega) (by omega) (by omega) (by omega) hS_s2 zFr_rf)
          · skip
            refine j_aload_n hx 1 dX0_pack_22 rfl ?_
            refine j_iload_n hx 2 dX0_pack_23 rfl ?_
            refine j_iload_n hx 3 dX0_pack_24 rfl ?_
            refine j_iadd hx (r := x2 + v4) dX0_pack_25 rfl ?_
            refine j_lconst hx dX0_pack_26 ?_
            show JJ X E 12 G s2 0 0 [(0, .ref a), (1, .ref b1), (2, .int (zI x2)), (3, .int (zI v4))] 27 [.long (zL 0), .int (zI (x2 + v4)), .ref b1]
            refine j_last hx hG hb1 (by decide) rfl rfl (by omega) (by omega) (j := (x2 + v4).toNat) rfl dX0_pack_27 ?_
            obtain ⟨s30, e_s30⟩ : ∃ z, z = zU s2 b1 (x2 + v4).toNat 0 := ⟨_, rfl⟩
            rw [← e_s30]
            have hS_s30 : zSK G s30 := by rw [e_s30]; exact zSK_A hS_s2 hb1 rfl rfl rfl (by omega)
            refine j_iinc hx 3 [(3, .int (zI (v4 + 1))), (0, .ref a), (1, .ref b1), (2, .int (zI x2))] dX0_pack_28 rfl (by omega) (by decide) rfl ?_
            refine j_goto hx 16 dX0_pack_31 rfl ?_
            exact j_sub [1, 2, 3, 0] [(0, .ref a), (1, .ref b1), (2, .int (zI x2)), (3, .int (zI (v4 + 1)))] rfl (ih_c16_1 (v4 + 1) s30 (by omega) (by omega) hS_s30 (zFr_u (zFr_t zFr_rf hF_s2 (by decide)) e_s30 hb1 (by decide)))
      exact j_sub [1, 2, 3, 0] [(0, .ref a), (1, .ref b1), (2, .int (zI x2)), (3, .int (zI 0))] rfl (c16_1 (2147483648 * 4) 0 s0 (by omega) (by omega) hS0 zFr_rf)
    · skip
      exact j_vret hx hq rfl (by decide) (by decide) dX0_pack_13 ⟨rfl, rfl, hS0, zFr_rf, trivial⟩
