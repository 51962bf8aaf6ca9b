set_option maxHeartbeats 4000000 in
set_option maxRecDepth 20000 in
theorem c_X9_hasRoom {E : zE} {l : Launch} (hst : l.stackTraces = false) (a : Nat) (x1 : Int) : Con E l yX9_hasRoom cX9_hasRoom 2 (some .boolean) { frames := 0, cells := 0, slots := 0, locals := 0 } (fun G s vs => vs = [.ref a, .int (zI x1)] ∧ zGK G ∧ zSK G s ∧ (gT G a = 10) ∧ ((-2147483648) ≤ x1 ∧ x1 ≤ 2147483647)) (fun G s _ => pI (fun r G2 s2 => G2 = G ∧ s2 = s ∧ (0 ≤ r ∧ r ≤ 1))) := by
  refine Con.mk hst (by decide) (fun G s vs h => by rw [h.1]; exact Nat.le_of_ble_eq_true rfl) ?_
  rintro X G s0 vs ⟨rfl, hG, hS0, ha, hx1⟩ rfl hx hq
  show JJ X E 2 G s0 0 0 [(0, .ref a), (1, .int (zI x1))] 0 []
  refine j_aload_n hx 0 dX9_hasRoom_0 rfl ?_
  have f1 := zf hS0 ha (k := 1) rfl
  refine g10_1 hx hG ha kf_RX9_19 rfl dX9_hasRoom_1 ?_
  refine j_iload_n hx 1 dX9_hasRoom_4 rfl ?_
  refine j_iadd hx (r := (s0 a 1) + x1) dX9_hasRoom_5 (by omega) ?_
  refine j_norm (fun v2 f3 f4 f5 => ?_)
  refine j_aload_n hx 0 dX9_hasRoom_6 rfl ?_
  refine g10_0 hx hG ha kf_RX9_11 dX9_hasRoom_7 ?_
  refine j_alen hx hG (zr (k := 0) (t2 := 45) hG ha rfl) (by decide) (by decide) (zlen hG (zr (k := 0) (t2 := 45) hG ha rfl) (n := 600) rfl rfl) dX9_hasRoom_10 ?_
  refine j_icmp_gt hx 18 dX9_hasRoom_11 rfl (by omega) ⟨by decide, by decide⟩ (fun h6 => ?_) (fun h6 => ?_)
  · skip
    refine j_iconst hx dX9_hasRoom_18 ?_
    exact j_zret hx hq rfl (by decide) (by decide) dX9_hasRoom_19 (by omega) ⟨0, rfl, rfl, rfl, (by omega)⟩
  · skip
    refine j_iconst hx dX9_hasRoom_14 ?_
    refine j_goto hx 19 dX9_hasRoom_15 rfl ?_
    exact j_zret hx hq rfl (by decide) (by decide) dX9_hasRoom_19 (by omega) ⟨1, rfl, rfl, rfl, (by omega)⟩

set_option maxHeartbeats 4000000 in
set_option maxRecDepth 20000 in
theorem c_X9_addFour {E : zE} {l : Launch} (hst : l.stackTraces = false) (a : Nat) (x1 : Int) : Con E l yX9_addFour cX9_addFour 3 none { frames := 0, cells := 0, slots := 0, locals := 0 } (fun G s vs => vs = [.ref a, .int (zI x1)] ∧ zGK G ∧ zSK G s ∧ (gT G a = 10) ∧ ((-2147483648) ≤ x1 ∧ x1 ≤ 2147483647)) (fun G s _ => pV (fun G2 s2 => G2 = G ∧ zSK G s2 ∧ zFr [10, 45] G s s2 ∧ True)) := by
  refine Con.mk hst (by decide) (fun G s vs h => by rw [h.1]; exact Nat.le_of_ble_eq_true rfl) ?_
  rintro X G s0 vs ⟨rfl, hG, hS0, ha, hx1⟩ rfl hx hq
  show JJ X E 3 G s0 0 0 [(0, .ref a), (1, .int (zI x1))] 0 []
  refine j_bipush hx dX9_addFour_0 rfl ?_
  refine j_istore_n hx [(2, .int (zI 24)), (0, .ref a), (1, .int (zI x1))] dX9_addFour_2 (by decide) rfl ?_
  have c3_1 : ∀ (m_c3_1 : Nat) (v1 : Int) (s2 : zS), v1 + 2147483648 < m_c3_1 → ((-8) ≤ v1 ∧ v1 ≤ 24) → (zSK G s2) → (zFr [10, 45] G s0 s2) → JJ X E 3 G s2 0 0 [(0, .ref a), (1, .int (zI x1)), (2, .int (zI v1))] 3 [] := by
    intro m_c3_1
    induction m_c3_1 with
    | zero => intro v1 s2 hm_c3_1 fA3 hS_s2 hF_s2; exfalso; omega
    | succ m_c3_1 ih_c3_1 => 
      intro v1 s2 hm_c3_1 fA3 hS_s2 hF_s2
      refine j_iload_n hx 2 dX9_addFour_3 rfl ?_
      refine j_if_lt hx 55 dX9_addFour_4 rfl (by omega) (fun h2 => ?_) (fun h2 => ?_)
      · skip
        exact j_vret hx hq rfl (by decide) (by decide) dX9_addFour_55 ⟨rfl, rfl, hS_s2, (zFr_t zFr_rf hF_s2 (by decide)), trivial⟩
      · skip
        refine j_aload_n hx 0 dX9_addFour_7 rfl ?_
        have f3 := zf hS_s2 ha (k := 1) rfl
        refine g10_1 hx hG ha kf_RX9_19 rfl dX9_addFour_8 ?_
        have c49_6 : ∀ (s7 : zS), (zSK G s7) → (zFr [10, 45] G s2 s7) → JJ X E 3 G s7 0 0 [(0, .ref a), (1, .int (zI x1)), (2, .int (zI v1))] 49 [] := by
          intro s7 hS_s7 hF_s7
          refine j_iinc hx 2 [(2, .int (zI (v1 - 8))), (0, .ref a), (1, .int (zI x1))] dX9_addFour_49 rfl (by omega) (by decide) rfl ?_
          refine j_goto hx 3 dX9_addFour_52 rfl ?_
          exact j_sub [1, 2, 0] [(0, .ref a), (1, .int (zI x1)), (2, .int (zI (v1 - 8)))] rfl (ih_c3_1 (v1 - 8) s7 (by omega) (by omega) hS_s7 (zFr_t (zFr_t zFr_rf hF_s2 (by decide)) hF_s7 (by decide)))
        refine j_if_lt hx 49 dX9_addFour_11 rfl (by omega) (fun h4 => ?_) (fun h4 => ?_)
        · skip
          exact j_sub [0, 1, 2] [(0, .ref a), (1, .int (zI x1)), (2, .int (zI v1))] rfl (c49_6 s2 hS_s2 zFr_rf)
        · skip
          refine j_aload_n hx 0 dX9_addFour_14 rfl ?_
          refine g10_1 hx hG ha kf_RX9_19 rfl dX9_addFour_15 ?_
          refine j_aload_n hx 0 dX9_addFour_18 rfl ?_
          refine g10_0 hx hG ha kf_RX9_11 dX9_addFour_19 ?_
          refine j_alen hx hG (zr (k := 0) (t2 := 45) hG ha rfl) (by decide) (by decide) (zlen hG (zr (k := 0) (t2 := 45) hG ha rfl) (n := 600) rfl rfl) dX9_addFour_22 ?_
          refine j_icmp_ge hx 49 dX9_addFour_23 rfl (by omega) ⟨by decide, by decide⟩ (fun h5 => ?_) (fun h5 => ?_)
          · skip
            exact j_sub [0, 1, 2] [(0, .ref a), (1, .int (zI x1)), (2, .int (zI v1))] rfl (c49_6 s2 hS_s2 zFr_rf)
          · skip
            refine j_aload_n hx 0 dX9_addFour_26 rfl ?_
            refine g10_0 hx hG ha kf_RX9_11 dX9_addFour_27 ?_
            refine j_aload_n hx 0 dX9_addFour_30 rfl ?_
            refine g10_1 hx hG ha kf_RX9_19 rfl dX9_addFour_31 ?_
            refine j_iload_n hx 1 dX9_addFour_34 rfl ?_
            refine j_iload_n hx 2 dX9_addFour_35 rfl ?_
            refine j_iushr hx dX9_addFour_36 (fun v6 f7 f8 => ?_)
            refine j_i2b hx dX9_addFour_37 (fun v9 f10 f11 => ?_)
            refine j_bast hx hG (zr (k := 0) (t2 := 45) hG ha rfl) (by decide) rfl (zlen hG (zr (k := 0) (t2 := 45) hG ha rfl) (n := 600) rfl rfl) (by omega) (by omega) (j := ((s2 a 1)).toNat) rfl (znar_b (by omega)) dX9_addFour_38 ?_
            obtain ⟨s10, e_s10⟩ : ∃ z, z = zU s2 (gP G a 0) ((s2 a 1)).toNat v9 := ⟨_, rfl⟩
            rw [← e_s10]
            have hS_s10 : zSK G s10 := by rw [e_s10]; exact zSK_A hS_s2 (zr (k := 0) (t2 := 45) hG ha rfl) rfl rfl rfl (by omega)
            refine j_aload_n hx 0 dX9_addFour_39 rfl ?_
            refine j_dup hx dX9_addFour_40 rfl ?_
            refine g10_1 hx hG ha kf_RX9_19 (v := (s2 a 1)) (by rw [e_s10, zU_at (Or.inl (zne (zr (k := 0) (t2 := 45) hG ha rfl) ha (by decide)))]) dX9_addFour_41 ?_
            refine j_iconst hx dX9_addFour_44 ?_
            refine j_iadd hx (r := (s2 a 1) + 1) dX9_addFour_45 (by omega) ?_
            refine p10_1 hx hG ha kf_RX9_19 dX9_addFour_46 ?_
            obtain ⟨s11, e_s11⟩ : ∃ z, z = zU s10 a 1 ((s2 a 1) + 1) := ⟨_, rfl⟩
            rw [← e_s11]
            have hS_s11 : zSK G s11 := by rw [e_s11]; exact zSK_F hS_s10 ha rfl rfl rfl (by omega)
            exact j_sub [0, 1, 2] [(0, .ref a), (1, .int (zI x1)), (2, .int (zI v1))] rfl (c49_6 s11 hS_s11 (zFr_u (zFr_u zFr_rf e_s10 (zr (k := 0) (t2 := 45) hG ha rfl) (by decide)) e_s11 ha (by decide)))
  exact j_sub [1, 2, 0] [(0, .ref a), (1, .int (zI x1)), (2, .int (zI 24))] rfl (c3_1 (2147483648 * 4) 24 s0 (by omega) (by omega) hS0 zFr_rf)

theorem lk_RX11_86 : LkV RX11 86 RX9 yX9_hasRoom cX9_hasRoom 2 (some .boolean) 1 := ⟨km_RX11_86, ki_yX9_hasRoom, ks_RX9_yX9_hasRoom, kn_RX9, kc_yX9_hasRoom, rfl, by decide +kernel, by decide +kernel, by decide +kernel⟩
theorem lk_RX11_90 : LkV RX11 90 RX9 yX9_addFour cX9_addFour 3 none 1 := ⟨km_RX11_90, ki_yX9_addFour, ks_RX9_yX9_addFour, kn_RX9, kc_yX9_addFour, rfl, by decide +kernel, by decide +kernel, by decide +kernel⟩
set_option maxHeartbeats 4000000 in
set_option maxRecDepth 20000 in
theorem c_X11_feed {E : zE} {l : Launch} (hst : l.stackTraces = false) (a : Nat) (x1 : Int) (x2 : Int) (x3 : Int) (x4 : Int) (x5 : Int) : Con E l yX11_feed cX11_feed 6 (some .int) { frames := 1, cells := 0, slots := 0, locals := 22 } (fun G s vs => vs = [.ref a, .int (zI x1), .int (zI x2), .int (zI x3), .int (zI x4), .int (zI x5)] ∧ zGK G ∧ zSK G s ∧ (gT G a = 12) ∧ ((-2147483648) ≤ x1 ∧ x1 ≤ 2147483647) ∧ ((-2147483648) ≤ x2 ∧ x2 ≤ 2147483647) ∧ ((-2147483648) ≤ x3 ∧ x3 ≤ 2147483647) ∧ ((-2147483648) ≤ x4 ∧ x4 ≤ 2147483647) ∧ ((-2147483648) ≤ x5 ∧ x5 ≤ 2147483647)) (fun G s _ => pI (fun r G2 s2 => G2 = G ∧ zSK G s2 ∧ zFr [10, 45] G s s2 ∧ ((-2147483648) ≤ r ∧ r ≤ 2147483647))) := by
  refine Con.mk hst (by decide) (fun G s vs h => by rw [h.1]; exact Nat.le_of_ble_eq_true rfl) ?_
  rintro X G s0 vs ⟨rfl, hG, hS0, ha, hx1, hx2, hx3, hx4, hx5⟩ rfl hx hq
  show JJ X E 6 G s0 0 0 [(0, .ref a), (1, .int (zI x1)), (2, .int (zI x2)), (3, .int (zI x3)), (4, .int (zI x4)), (5, .int (zI x5))] 0 []
  refine j_aload_n hx 0 dX11_feed_0 rfl ?_
  refine g12_0 hx hG ha kf_RX11_10 dX11_feed_1 ?_
  refine j_bipush hx dX11_feed_4 rfl ?_
  refine j_callV hx hG (c_X9_hasRoom hst (gP G a 0) 20) lk_RX11_86 (zr (k := 0) (t2 := 10) hG ha rfl) (by decide) rfl rfl rfl rfl [.int (zI 20)] ⟨rfl, hG, hS0, (zr (k := 0) (t2 := 10) hG ha rfl), (by omega)⟩ rfl rfl ⟨by decide, by decide⟩ ⟨by decide, by decide⟩ (k2 := 0) (n2 := 0) rfl rfl (Nat.le_of_ble_eq_true rfl) dX11_feed_6 (kIP (fun v1 q2 => ?_))
  refine j_if_ne hx 14 dX11_feed_9 rfl (by omega) (fun h3 => ?_) (fun h3 => ?_)
  · skip
    refine j_aload_n hx 0 dX11_feed_14 rfl ?_
    refine g12_0 hx hG ha kf_RX11_10 dX11_feed_15 ?_
    refine j_iload_n hx 1 dX11_feed_18 rfl ?_
    refine j_callV hx hG (c_X9_addFour hst (gP G a 0) x1) lk_RX11_90 (zr (k := 0) (t2 := 10) hG ha rfl) (by decide) rfl rfl rfl rfl [.int (zI x1)] ⟨rfl, hG, hS0, (zr (k := 0) (t2 := 10) hG ha rfl), (by omega)⟩ rfl rfl ⟨by decide, by decide⟩ ⟨by decide, by decide⟩ (k2 := 0) (n2 := 0) rfl rfl (Nat.le_of_ble_eq_true rfl) dX11_feed_19 (kVM (fun s1 hS_s1 hF_s1 q5 => ?_))
    refine j_aload_n hx 0 dX11_feed_22 rfl ?_
    refine g12_0 hx hG ha kf_RX11_10 dX11_feed_23 ?_
    refine j_iload_n hx 2 dX11_feed_26 rfl ?_
    refine j_callV hx hG (c_X9_addFour hst (gP G a 0) x2) lk_RX11_90 (zr (k := 0) (t2 := 10) hG ha rfl) (by decide) rfl rfl rfl rfl [.int (zI x2)] ⟨rfl, hG, hS_s1, (zr (k := 0) (t2 := 10) hG ha rfl), (by omega)⟩ rfl rfl ⟨by decide, by decide⟩ ⟨by decide, by decide⟩ (k2 := 0) (n2 := 0) rfl rfl (Nat.le_of_ble_eq_true rfl) dX11_feed_27 (kVM (fun s2 hS_s2 hF_s2 q7 => ?_))
    refine j_aload_n hx 0 dX11_feed_30 rfl ?_
    refine g12_0 hx hG ha kf_RX11_10 dX11_feed_31 ?_
    refine j_iload_n hx 3 dX11_feed_34 rfl ?_
    refine j_callV hx hG (c_X9_addFour hst (gP G a 0) x3) lk_RX11_90 (zr (k := 0) (t2 := 10) hG ha rfl) (by decide) rfl rfl rfl rfl [.int (zI x3)] ⟨rfl, hG, hS_s2, (zr (k := 0) (t2 := 10) hG ha rfl), (by omega)⟩ rfl rfl ⟨by decide, by decide⟩ ⟨by decide, by decide⟩ (k2 := 0) (n2 := 0) rfl rfl (Nat.le_of_ble_eq_true rfl) dX11_feed_35 (kVM (fun s3 hS_s3 hF_s3 q9 => ?_))
    refine j_aload_n hx 0 dX11_feed_38 rfl ?_
    refine g12_0 hx hG ha kf_RX11_10 dX11_feed_39 ?_
    refine j_iload hx 4 dX11_feed_42 rfl ?_
    refine j_callV hx hG (c_X9_addFour hst (gP G a 0) x4) lk_RX11_90 (zr (k := 0) (t2 := 10) hG ha rfl) (by decide) rfl rfl rfl rfl [.int (zI x4)] ⟨rfl, hG, hS_s3, (zr (k := 0) (t2 := 10) hG ha rfl), (by omega)⟩ rfl rfl ⟨by decide, by decide⟩ ⟨by decide, by decide⟩ (k2 := 0) (n2 := 0) rfl rfl (Nat.le_of_ble_eq_true rfl) dX11_feed_44 (kVM (fun s4 hS_s4 hF_s4 q11 => ?_))
    refine j_aload_n hx 0 dX11_feed_47 rfl ?_
    refine g12_0 hx hG ha kf_RX11_10 dX11_feed_48 ?_
    refine j_iload hx 5 dX11_feed_51 rfl ?_
    refine j_callV hx hG (c_X9_addFour hst (gP G a 0) x5) lk_RX11_90 (zr (k := 0) (t2 := 10) hG ha rfl) (by decide) rfl rfl rfl rfl [.int (zI x5)] ⟨rfl, hG, hS_s4, (zr (k := 0) (t2 := 10) hG ha rfl), (by omega)⟩ rfl rfl ⟨by decide, by decide⟩ ⟨by decide, by decide⟩ (k2 := 0) (n2 := 0) rfl rfl (Nat.le_of_ble_eq_true rfl) dX11_feed_53 (kVM (fun s5 hS_s5 hF_s5 q13 => ?_))
    refine j_aload_n hx 0 dX11_feed_56 rfl ?_
    refine g12_0 hx hG ha kf_RX11_10 dX11_feed_57 ?_
    have f14 := zf hS_s5 (zr (k := 0) (t2 := 10) hG ha rfl) (k := 1) rfl
    refine gN10_1 hx hG (zr (k := 0) (t2 := 10) hG ha rfl) kf_RX11_94 rfl dX11_feed_60 ?_
    exact j_iret hx hq rfl (by decide) (by decide) dX11_feed_63 ⟨(s5 (gP G a 0) 1), rfl, rfl, hS_s5, (zFr_t (zFr_t (zFr_t (zFr_t (zFr_t zFr_rf hF_s1 (by decide)) hF_s2 (by decide)) hF_s3 (by decide)) hF_s4 (by decide)) hF_s5 (by decide)), (by omega)⟩
  · skip
    refine j_iconst hx dX11_feed_12 ?_
    exact j_iret hx hq rfl (by decide) (by decide) dX11_feed_13 ⟨(-1), rfl, rfl, hS0, zFr_rf, (by omega)⟩

set_option maxHeartbeats 4000000 in
set_option maxRecDepth 20000 in
theorem c_X11_needRange {E : zE} {l : Launch} (hst : l.stackTraces = false) (a : Nat) (x1 : Int) (x2 : Int) (x3 : Int) : ConX E l yX11_needRange cX11_needRange 4 none { frames := 6, cells := 1, slots := 6, locals := 90 } (fun G s vs => vs = [.ref a, .int (zI x1), .int (zI x2), .int (zI x3)] ∧ zGK G ∧ zSK G s ∧ (gT G a = 12) ∧ ((-2147483648) ≤ x1 ∧ x1 ≤ 2147483647) ∧ ((-2147483648) ≤ x2 ∧ x2 ≤ 2147483647) ∧ ((-2147483648) ≤ x3 ∧ x3 ≤ 2147483647)) (fun G s _ => pV (fun G2 s2 => G2 = G ∧ s2 = s ∧ (x2 ≤ x1 ∧ x1 ≤ x3))) (fun G s _ Ex G2 s2 => G2 = G ∧ zSK G s2 ∧ zFr [12] G s s2 ∧ ((Ex = "java/lang/IllegalArgumentException" ∧ (True)))) := by
  refine ConX.mk hst (by decide) (fun G s vs h => by rw [h.1]; exact Nat.le_of_ble_eq_true rfl) ?_
  rintro X G s0 vs ⟨rfl, hG, hS0, ha, hx1, hx2, hx3⟩ rfl hx hq
  show JJ X E 4 G s0 0 0 [(0, .ref a), (1, .int (zI x1)), (2, .int (zI x2)), (3, .int (zI x3))] 0 []
  refine j_iload_n hx 1 dX11_needRange_0 rfl ?_
  refine j_iload_n hx 2 dX11_needRange_1 rfl ?_
  refine j_icmp_lt hx 10 dX11_needRange_2 rfl (by omega) (by omega) (fun h1 => ?_) (fun h1 => ?_)
  · skip
    refine j_aload_n hx 0 dX11_needRange_10 rfl ?_
    refine j_dup hx dX11_needRange_11 rfl ?_
    have f2 := zf hS0 ha (k := 15) rfl
    refine g12_15 hx hG ha kf_RX11_336 rfl dX11_needRange_12 ?_
    refine j_iconst hx dX11_needRange_15 ?_
    refine j_iadd hx (r := (s0 a 15) + 1) dX11_needRange_16 (by omega) ?_
    refine j_norm (fun v3 f4 f5 f6 => ?_)
    refine p12_15 hx hG ha kf_RX11_336 dX11_needRange_17 ?_
    obtain ⟨s1, e_s1⟩ : ∃ z, z = zU s0 a 15 v3 := ⟨_, rfl⟩
    rw [← e_s1]
    have hS_s1 : zSK G s1 := by rw [e_s1]; exact zSK_F hS0 ha rfl rfl rfl (by omega)
    exact j_throwI hx hq ⟨by decide, Nat.le_of_ble_eq_true rfl⟩ ⟨by decide, by decide⟩ ⟨by decide, by decide⟩ dX11_needRange_20 dX11_needRange_23 dX11_needRange_24 dX11_needRange_27 dX11_needRange_30 ⟨rfl, hS_s1, (zFr_u zFr_rf e_s1 ha (by decide)), ⟨rfl, by first | trivial | omega⟩⟩
  · skip
    refine j_iload_n hx 1 dX11_needRange_5 rfl ?_
    refine j_iload_n hx 3 dX11_needRange_6 rfl ?_
    refine j_icmp_le hx 31 dX11_needRange_7 rfl (by omega) (by omega) (fun h7 => ?_) (fun h7 => ?_)
    · skip
      exact j_vret hx hq.r rfl (by decide) (by decide) dX11_needRange_31 ⟨rfl, rfl, rfl, by omega⟩
    · skip
      refine j_aload_n hx 0 dX11_needRange_10 rfl ?_
      refine j_dup hx dX11_needRange_11 rfl ?_
      have f8 := zf hS0 ha (k := 15) rfl
      refine g12_15 hx hG ha kf_RX11_336 rfl dX11_needRange_12 ?_
      refine j_iconst hx dX11_needRange_15 ?_
      refine j_iadd hx (r := (s0 a 15) + 1) dX11_needRange_16 (by omega) ?_
      refine j_norm (fun v9 f10 f11 f12 => ?_)
      refine p12_15 hx hG ha kf_RX11_336 dX11_needRange_17 ?_
      obtain ⟨s2, e_s2⟩ : ∃ z, z = zU s0 a 15 v9 := ⟨_, rfl⟩
      rw [← e_s2]
      have hS_s2 : zSK G s2 := by rw [e_s2]; exact zSK_F hS0 ha rfl rfl rfl (by omega)
      exact j_throwI hx hq ⟨by decide, Nat.le_of_ble_eq_true rfl⟩ ⟨by decide, by decide⟩ ⟨by decide, by decide⟩ dX11_needRange_20 dX11_needRange_23 dX11_needRange_24 dX11_needRange_27 dX11_needRange_30 ⟨rfl, hS_s2, (zFr_u zFr_rf e_s2 ha (by decide)), ⟨rfl, by first | trivial | omega⟩⟩

set_option maxHeartbeats 4000000 in
set_option maxRecDepth 20000 in
theorem c_X9_open {E : zE} {l : Launch} (hst : l.stackTraces = false) (a : Nat) (x1 : Int) : Con E l yX9_open cX9_open 2 none { frames := 1, cells := 0, slots := 0, locals := 33 } (fun G s vs => vs = [.ref a, .int (zI x1)] ∧ zGK G ∧ zSK G s ∧ (gT G a = 10) ∧ ((-2147483648) ≤ x1 ∧ x1 ≤ 2147483647)) (fun G s _ => pV (fun G2 s2 => G2 = G ∧ zSK G s2 ∧ zFr [10] G s s2 ∧ True)) := by
  refine Con.mk hst (by decide) (fun G s vs h => by rw [h.1]; exact Nat.le_of_ble_eq_true rfl) ?_
  rintro X G s0 vs ⟨rfl, hG, hS0, ha, hx1⟩ rfl hx hq
  show JJ X E 2 G s0 0 0 [(0, .ref a), (1, .int (zI x1))] 0 []
  refine j_aload_n hx 0 dX9_open_0 rfl ?_
  refine j_iload_n hx 1 dX9_open_1 rfl ?_
  refine j_aload_n hx 0 dX9_open_2 rfl ?_
  refine g10_0 hx hG ha kf_RX9_11 dX9_open_3 ?_
  refine j_alen hx hG (zr (k := 0) (t2 := 45) hG ha rfl) (by decide) (by decide) (zlen hG (zr (k := 0) (t2 := 45) hG ha rfl) (n := 600) rfl rfl) dX9_open_6 ?_
  refine j_mmin hx km_RX9_22 kst_min kn_RJ9 kc_Lib_Math_min_name (by omega) ⟨by decide, by decide⟩ ⟨by decide, Nat.le_of_ble_eq_true rfl⟩ ⟨by decide, by decide⟩ dX9_open_7 (fun v1 f2 f3 f4 => ?_)
  refine p10_2 hx hG ha kf_RX9_28 dX9_open_10 ?_
  obtain ⟨s1, e_s1⟩ : ∃ z, z = zU s0 a 2 v1 := ⟨_, rfl⟩
  rw [← e_s1]
  have hS_s1 : zSK G s1 := by rw [e_s1]; exact zSK_F hS0 ha rfl rfl rfl (by omega)
  refine j_aload_n hx 0 dX9_open_13 rfl ?_
  refine j_iconst hx dX9_open_14 ?_
  refine p10_3 hx hG ha kf_RX9_31 dX9_open_15 ?_
  obtain ⟨s2, e_s2⟩ : ∃ z, z = zU s1 a 3 0 := ⟨_, rfl⟩
  rw [← e_s2]
  have hS_s2 : zSK G s2 := by rw [e_s2]; exact zSK_F hS_s1 ha rfl rfl rfl (by omega)
  refine j_aload_n hx 0 dX9_open_18 rfl ?_
  refine j_iconst hx dX9_open_19 ?_
  refine p10_4 hx hG ha kf_RX9_34 dX9_open_20 ?_
  obtain ⟨s3, e_s3⟩ : ∃ z, z = zU s2 a 4 0 := ⟨_, rfl⟩
  rw [← e_s3]
  have hS_s3 : zSK G s3 := by rw [e_s3]; exact zSK_F hS_s2 ha rfl rfl rfl (by omega)
  refine j_aload_n hx 0 dX9_open_23 rfl ?_
  refine j_iconst hx dX9_open_24 ?_
  refine p10_5 hx hG ha kf_RX9_15 dX9_open_25 ?_
  obtain ⟨s4, e_s4⟩ : ∃ z, z = zU s3 a 5 (-1) := ⟨_, rfl⟩
  rw [← e_s4]
  have hS_s4 : zSK G s4 := by rw [e_s4]; exact zSK_F hS_s3 ha rfl rfl rfl (by omega)
  exact j_vret hx hq rfl (by decide) (by decide) dX9_open_28 ⟨rfl, rfl, hS_s4, (zFr_u (zFr_u (zFr_u (zFr_u zFr_rf e_s1 ha (by decide)) e_s2 ha (by decide)) e_s3 ha (by decide)) e_s4 ha (by decide)), trivial⟩

set_option maxHeartbeats 4000000 in
set_option maxRecDepth 20000 in
theorem c_fill_44 {E : zE} {l : Launch} (hst : l.stackTraces = false) (b0 : Nat) (x1 : Int) : Con E l yJ7_fill_53178 cJ7_fill_53178 4 none { frames := 0, cells := 0, slots := 0, locals := 0 } (fun G s vs => vs = [.ref b0, .int (zI x1)] ∧ zGK G ∧ zSK G s ∧ (gT G b0 = 44) ∧ (0 ≤ x1 ∧ x1 ≤ 0)) (fun G s _ => pV (fun G2 s2 => G2 = G ∧ zSK G s2 ∧ zFr [44] G s s2 ∧ True)) := by
  refine Con.mk hst (by decide) (fun G s vs h => by rw [h.1]; exact Nat.le_of_ble_eq_true rfl) ?_
  rintro X G s0 vs ⟨rfl, hG, hS0, hb0, hx1⟩ rfl hx hq
  show JJ X E 4 G s0 0 0 [(0, .ref b0), (1, .int (zI x1))] 0 []
  refine j_iconst hx dJ7_fill_53178_0 ?_
  refine j_istore_n hx [(2, .int (zI 0)), (0, .ref b0), (1, .int (zI x1))] dJ7_fill_53178_1 (by decide) rfl ?_
  refine j_aload_n hx 1 dJ7_fill_53178_2 rfl ?_
  refine j_alen hx hG hb0 (by decide) (by decide) (zlen hG hb0 (n := 3) rfl rfl) dJ7_fill_53178_3 ?_
  refine j_istore_n hx [(3, .int (zI 3)), (2, .int (zI 0)), (0, .ref b0), (1, .int (zI x1))] dJ7_fill_53178_4 (by decide) rfl ?_
  have c5_1 : ∀ (m_c5_1 : Nat) (v1 : Int) (s2 : zS), 2147483648 - v1 < m_c5_1 → (0 ≤ v1 ∧ v1 ≤ 3) → (zSK G s2) → (zFr [44] G s0 s2) → JJ X E 4 G s2 0 0 [(0, .ref b0), (1, .int (zI x1)), (2, .int (zI v1)), (3, .int (zI 3))] 5 [] := by
    intro m_c5_1
    induction m_c5_1 with
    | zero => intro v1 s2 hm_c5_1 fA3 hS_s2 hF_s2; exfalso; omega
    | succ m_c5_1 ih_c5_1 => 
      intro v1 s2 hm_c5_1 fA3 hS_s2 hF_s2
      refine j_iload_n hx 2 dJ7_fill_53178_5 rfl ?_
      refine j_iload_n hx 3 dJ7_fill_53178_6 rfl ?_
      refine j_icmp_ge hx 20 dJ7_fill_53178_7 rfl (by omega) ⟨by decide, by decide⟩ (fun h2 => ?_) (fun h2 => ?_)
      · skip
        exact j_vret hx hq rfl (by decide) (by decide) dJ7_fill_53178_20 ⟨rfl, rfl, hS_s2, (zFr_t zFr_rf hF_s2 (by decide)), trivial⟩
      · skip
        refine j_aload_n hx 0 dJ7_fill_53178_10 rfl ?_
        refine j_iload_n hx 2 dJ7_fill_53178_11 rfl ?_
        refine j_iload_n hx 1 dJ7_fill_53178_12 rfl ?_
        refine j_iast hx hG hb0 (by decide) rfl (zlen hG hb0 (n := 3) rfl rfl) (by omega) (by omega) (j := (v1).toNat) rfl dJ7_fill_53178_13 ?_
        obtain ⟨s6, e_s6⟩ : ∃ z, z = zU s2 b0 (v1).toNat x1 := ⟨_, rfl⟩
        rw [← e_s6]
        have hS_s6 : zSK G s6 := by rw [e_s6]; exact zSK_A hS_s2 hb0 rfl rfl rfl (by omega)
        refine j_iinc hx 2 [(2, .int (zI (v1 + 1))), (0, .ref b0), (1, .int (zI x1)), (3, .int (zI 3))] dJ7_fill_53178_14 rfl (by omega) (by decide) rfl ?_
        refine j_goto hx 5 dJ7_fill_53178_17 rfl ?_
        exact j_sub [1, 2, 0, 3] [(0, .ref b0), (1, .int (zI x1)), (2, .int (zI (v1 + 1))), (3, .int (zI 3))] rfl (ih_c5_1 (v1 + 1) s6 (by omega) (by omega) hS_s6 (zFr_u (zFr_t zFr_rf hF_s2 (by decide)) e_s6 hb0 (by decide)))
  exact j_sub [2, 3, 1, 0] [(0, .ref b0), (1, .int (zI x1)), (2, .int (zI 0)), (3, .int (zI 3))] rfl (c5_1 (2147483648 * 4) 0 s0 (by omega) (by omega) hS0 zFr_rf)

set_option maxHeartbeats 4000000 in
set_option maxRecDepth 20000 in
theorem c_X0_rowOf {E : zE} {l : Launch} (hst : l.stackTraces = false) (a : Nat) (x1 : Int) : Con E l yX0_rowOf cX0_rowOf 2 (some (.object "SnapHeaps$Pile")) { frames := 0, cells := 0, slots := 0, locals := 0 } (fun G s vs => vs = [.ref a, .int (zI x1)] ∧ zGK G ∧ zSK G s ∧ (gT G a = 1) ∧ ((-2147483648) ≤ x1 ∧ x1 ≤ 2147483647)) (fun G s _ => pR (fun r G2 s2 => G2 = G ∧ s2 = s ∧ gT G r = 7)) := by
  refine Con.mk hst (by decide) (fun G s vs h => by rw [h.1]; exact Nat.le_of_ble_eq_true rfl) ?_
  rintro X G s0 vs ⟨rfl, hG, hS0, ha, hx1⟩ rfl hx hq
  show JJ X E 2 G s0 0 0 [(0, .ref a), (1, .int (zI x1))] 0 []
  refine j_iload_n hx 1 dX0_rowOf_0 rfl ?_
  refine j_if_gt hx 9 dX0_rowOf_1 rfl (by omega) (fun h1 => ?_) (fun h1 => ?_)
  · skip
    refine j_iload_n hx 1 dX0_rowOf_9 rfl ?_
    refine j_iconst hx dX0_rowOf_10 ?_
    refine j_icmp_ne hx 21 dX0_rowOf_11 rfl (by omega) ⟨by decide, by decide⟩ (fun h2 => ?_) (fun h2 => ?_)
    · skip
      refine j_aload_n hx 0 dX0_rowOf_21 rfl ?_
      refine g1_2 hx hG ha kf_RX0_21 dX0_rowOf_22 ?_
      exact j_aret hx hq rfl (by decide) (by decide) dX0_rowOf_25 (Or.inr ⟨_, rfl⟩) ⟨_, rfl, rfl, rfl, (zr (k := 2) (t2 := 7) hG ha rfl)⟩
    · skip
      refine j_aload_n hx 0 dX0_rowOf_14 rfl ?_
      refine g1_1 hx hG ha kf_RX0_18 dX0_rowOf_15 ?_
      refine j_goto hx 25 dX0_rowOf_18 rfl ?_
      exact j_aret hx hq rfl (by decide) (by decide) dX0_rowOf_25 (Or.inr ⟨_, rfl⟩) ⟨_, rfl, rfl, rfl, (zr (k := 1) (t2 := 7) hG ha rfl)⟩
  · skip
    refine j_aload_n hx 0 dX0_rowOf_4 rfl ?_
    refine g1_0 hx hG ha kf_RX0_12 dX0_rowOf_5 ?_
    exact j_aret hx hq rfl (by decide) (by decide) dX0_rowOf_8 (Or.inr ⟨_, rfl⟩) ⟨_, rfl, rfl, rfl, (zr (k := 0) (t2 := 7) hG ha rfl)⟩

set_option maxHeartbeats 4000000 in
set_option maxRecDepth 20000 in
theorem c_X0_heapOf {E : zE} {l : Launch} (hst : l.stackTraces = false) (a : Nat) (x1 : Int) : Con E l yX0_heapOf cX0_heapOf 2 (some (.object "SnapHeaps$Pile")) { frames := 0, cells := 0, slots := 0, locals := 0 } (fun G s vs => vs = [.ref a, .int (zI x1)] ∧ zGK G ∧ zSK G s ∧ (gT G a = 1) ∧ ((-2147483648) ≤ x1 ∧ x1 ≤ 2147483647)) (fun G s _ => pR (fun r G2 s2 => G2 = G ∧ s2 = s ∧ gT G r = 7)) := by
  refine Con.mk hst (by decide) (fun G s vs h => by rw [h.1]; exact Nat.le_of_ble_eq_true rfl) ?_
  rintro X G s0 vs ⟨rfl, hG, hS0, ha, hx1⟩ rfl hx hq
  show JJ X E 2 G s0 0 0 [(0, .ref a), (1, .int (zI x1))] 0 []
  refine j_iload_n hx 1 dX0_heapOf_0 rfl ?_
  refine j_if_gt hx 9 dX0_heapOf_1 rfl (by omega) (fun h1 => ?_) (fun h1 => ?_)
  · skip
    refine j_iload_n hx 1 dX0_heapOf_9 rfl ?_
    refine j_iconst hx dX0_heapOf_10 ?_
    refine j_icmp_ne hx 21 dX0_heapOf_11 rfl (by omega) ⟨by decide, by decide⟩ (fun h2 => ?_) (fun h2 => ?_)
    · skip
      refine j_aload_n hx 0 dX0_heapOf_21 rfl ?_
      refine g1_5 hx hG ha kf_RX0_30 dX0_heapOf_22 ?_
      exact j_aret hx hq rfl (by decide) (by decide) dX0_heapOf_25 (Or.inr ⟨_, rfl⟩) ⟨_, rfl, rfl, rfl, (zr (k := 5) (t2 := 7) hG ha rfl)⟩
    · skip
      refine j_aload_n hx 0 dX0_heapOf_14 rfl ?_
      refine g1_4 hx hG ha kf_RX0_27 dX0_heapOf_15 ?_
      refine j_goto hx 25 dX0_heapOf_18 rfl ?_
      exact j_aret hx hq rfl (by decide) (by decide) dX0_heapOf_25 (Or.inr ⟨_, rfl⟩) ⟨_, rfl, rfl, rfl, (zr (k := 4) (t2 := 7) hG ha rfl)⟩
  · skip
    refine j_aload_n hx 0 dX0_heapOf_4 rfl ?_
    refine g1_3 hx hG ha kf_RX0_24 dX0_heapOf_5 ?_
    exact j_aret hx hq rfl (by decide) (by decide) dX0_heapOf_8 (Or.inr ⟨_, rfl⟩) ⟨_, rfl, rfl, rfl, (zr (k := 3) (t2 := 7) hG ha rfl)⟩

theorem lk_RX0_40 : LkV RX0 40 RX0 yX0_heapOf cX0_heapOf 2 (some (.object "SnapHeaps$Pile")) 1 := ⟨km_RX0_40, ki_yX0_heapOf, ks_RX0_yX0_heapOf, kn_RX0, kc_yX0_heapOf, rfl, by decide +kernel, by decide +kernel, by decide +kernel⟩
theorem lk_RX0_36 : LkV RX0 36 RX0 yX0_rowOf cX0_rowOf 2 (some (.object "SnapHeaps$Pile")) 1 := ⟨km_RX0_36, ki_yX0_rowOf, ks_RX0_yX0_rowOf, kn_RX0, kc_yX0_rowOf, rfl, by decide +kernel, by decide +kernel, by decide +kernel⟩
set_option maxHeartbeats 4000000 in
set_option maxRecDepth 20000 in
theorem c_X0_pileOf {E : zE} {l : Launch} (hst : l.stackTraces = false) (a : Nat) (x1 : Int) : Con E l yX0_pileOf cX0_pileOf 2 (some (.object "SnapHeaps$Pile")) { frames := 1, cells := 0, slots := 0, locals := 21 } (fun G s vs => vs = [.ref a, .int (zI x1)] ∧ zGK G ∧ zSK G s ∧ (gT G a = 1) ∧ ((-2147483648) ≤ x1 ∧ x1 ≤ 2147483647)) (fun G s _ => pR (fun r G2 s2 => G2 = G ∧ s2 = s ∧ gT G r = 7)) := by
  refine Con.mk hst (by decide) (fun G s vs h => by rw [h.1]; exact Nat.le_of_ble_eq_true rfl) ?_
  rintro X G s0 vs ⟨rfl, hG, hS0, ha, hx1⟩ rfl hx hq
  show JJ X E 2 G s0 0 0 [(0, .ref a), (1, .int (zI x1))] 0 []
  refine j_iload_n hx 1 dX0_pileOf_0 rfl ?_
  refine j_bipush hx dX0_pileOf_1 rfl ?_
  refine j_icmp_lt hx 11 dX0_pileOf_3 rfl (by omega) ⟨by decide, by decide⟩ (fun h1 => ?_) (fun h1 => ?_)
  · skip
    refine j_iload_n hx 1 dX0_pileOf_11 rfl ?_
    refine j_iconst hx dX0_pileOf_12 ?_
    refine j_iand hx dX0_pileOf_13 (by omega) ⟨by decide, by decide⟩ (fun v2 f3 f4 f5 f6 _ => ?_)
    refine j_if_ne hx 27 dX0_pileOf_14 rfl (by omega) (fun h8 => ?_) (fun h8 => ?_)
    · skip
      refine j_aload_n hx 0 dX0_pileOf_27 rfl ?_
      refine j_iload_n hx 1 dX0_pileOf_28 rfl ?_
      refine j_iconst hx dX0_pileOf_29 ?_
      refine j_ishr hx 1 2 dX0_pileOf_30 (by omega) rfl (by decide) (by decide) (fun v9 f10 f11 f12 f13 => ?_)
      refine j_callV hx hG (c_X0_heapOf hst a v9) lk_RX0_40 ha (by decide) rfl rfl rfl rfl [.int (zI v9)] ⟨rfl, hG, hS0, ha, (by omega)⟩ rfl rfl ⟨by decide, by decide⟩ ⟨by decide, by decide⟩ (k2 := 0) (n2 := 0) rfl rfl (Nat.le_of_ble_eq_true rfl) dX0_pileOf_31 (kRP (fun r14 q15 => ?_))
      exact j_aret hx hq rfl (by decide) (by decide) dX0_pileOf_34 (Or.inr ⟨_, rfl⟩) ⟨_, rfl, rfl, rfl, q15⟩
    · skip
      refine j_aload_n hx 0 dX0_pileOf_17 rfl ?_
      refine j_iload_n hx 1 dX0_pileOf_18 rfl ?_
      refine j_iconst hx dX0_pileOf_19 ?_
      refine j_ishr hx 1 2 dX0_pileOf_20 (by omega) rfl (by decide) (by decide) (fun v16 f17 f18 f19 f20 => ?_)
      refine j_callV hx hG (c_X0_rowOf hst a v16) lk_RX0_36 ha (by decide) rfl rfl rfl rfl [.int (zI v16)] ⟨rfl, hG, hS0, ha, (by omega)⟩ rfl rfl ⟨by decide, by decide⟩ ⟨by decide, by decide⟩ (k2 := 0) (n2 := 0) rfl rfl (Nat.le_of_ble_eq_true rfl) dX0_pileOf_21 (kRP (fun r21 q22 => ?_))
      refine j_goto hx 34 dX0_pileOf_24 rfl ?_
      exact j_aret hx hq rfl (by decide) (by decide) dX0_pileOf_34 (Or.inr ⟨_, rfl⟩) ⟨_, rfl, rfl, rfl, q22⟩
  · skip
    refine j_aload_n hx 0 dX0_pileOf_6 rfl ?_
    refine g1_6 hx hG ha kf_RX0_33 dX0_pileOf_7 ?_
    exact j_aret hx hq rfl (by decide) (by decide) dX0_pileOf_10 (Or.inr ⟨_, rfl⟩) ⟨_, rfl, rfl, rfl, (zr (k := 6) (t2 := 7) hG ha rfl)⟩

theorem lk_RX0_47 : LkV RX0 47 RX0 yX0_pileOf cX0_pileOf 2 (some (.object "SnapHeaps$Pile")) 1 := ⟨km_RX0_47, ki_yX0_pileOf, ks_RX0_yX0_pileOf, kn_RX0, kc_yX0_pileOf, rfl, by decide +kernel, by decide +kernel, by decide +kernel⟩
set_option maxHeartbeats 4000000 in
set_option maxRecDepth 20000 in
theorem c_X0_clear {E : zE} {l : Launch} (hst : l.stackTraces = false) (a : Nat) : Con E l yX0_clear cX0_clear 2 none { frames := 2, cells := 0, slots := 0, locals := 42 } (fun G s vs => vs = [.ref a] ∧ zGK G ∧ zSK G s ∧ (gT G a = 1)) (fun G s _ => pV (fun G2 s2 => G2 = G ∧ zSK G s2 ∧ zFr [1, 7] G s s2 ∧ True)) := by
  refine Con.mk hst (by decide) (fun G s vs h => by rw [h.1]; exact Nat.le_of_ble_eq_true rfl) ?_
  rintro X G s0 vs ⟨rfl, hG, hS0, ha⟩ rfl hx hq
  show JJ X E 2 G s0 0 0 [(0, .ref a)] 0 []
  refine j_iconst hx dX0_clear_0 ?_
  refine j_istore_n hx [(1, .int (zI 0)), (0, .ref a)] dX0_clear_1 (by decide) rfl ?_
  have c2_1 : ∀ (m_c2_1 : Nat) (v1 : Int) (s2 : zS), 2147483648 - v1 < m_c2_1 → (0 ≤ v1 ∧ v1 ≤ 7) → (zSK G s2) → (zFr [7] G s0 s2) → JJ X E 2 G s2 0 0 [(0, .ref a), (1, .int (zI v1))] 2 [] := by
    intro m_c2_1
    induction m_c2_1 with
    | zero => intro v1 s2 hm_c2_1 fA3 hS_s2 hF_s2; exfalso; omega
    | succ m_c2_1 ih_c2_1 => 
      intro v1 s2 hm_c2_1 fA3 hS_s2 hF_s2
      refine j_iload_n hx 1 dX0_clear_2 rfl ?_
      refine j_bipush hx dX0_clear_3 rfl ?_
      refine j_icmp_ge hx 23 dX0_clear_5 rfl (by omega) ⟨by decide, by decide⟩ (fun h2 => ?_) (fun h2 => ?_)
      · skip
        refine j_aload_n hx 0 dX0_clear_23 rfl ?_
        refine j_iconst hx dX0_clear_24 ?_
        refine p1_7 hx hG ha kf_RX0_50 dX0_clear_25 ?_
        obtain ⟨s6, e_s6⟩ : ∃ z, z = zU s2 a 7 0 := ⟨_, rfl⟩
        rw [← e_s6]
        have hS_s6 : zSK G s6 := by rw [e_s6]; exact zSK_F hS_s2 ha rfl rfl rfl (by omega)
        refine j_aload_n hx 0 dX0_clear_28 rfl ?_
        refine j_iconst hx dX0_clear_29 ?_
        refine p1_8 hx hG ha kf_RX0_53 dX0_clear_30 ?_
        obtain ⟨s7, e_s7⟩ : ∃ z, z = zU s6 a 8 0 := ⟨_, rfl⟩
        rw [← e_s7]
        have hS_s7 : zSK G s7 := by rw [e_s7]; exact zSK_F hS_s6 ha rfl rfl rfl (by omega)
        exact j_vret hx hq rfl (by decide) (by decide) dX0_clear_33 ⟨rfl, rfl, hS_s7, (zFr_u (zFr_u (zFr_t zFr_rf hF_s2 (by decide)) e_s6 ha (by decide)) e_s7 ha (by decide)), trivial⟩
      · skip
        refine j_aload_n hx 0 dX0_clear_8 rfl ?_
        refine j_iload_n hx 1 dX0_clear_9 rfl ?_
        refine j_callV hx hG (c_X0_pileOf hst a v1) lk_RX0_47 ha (by decide) rfl rfl rfl rfl [.int (zI v1)] ⟨rfl, hG, hS_s2, ha, (by omega)⟩ rfl rfl ⟨by decide, by decide⟩ ⟨by decide, by decide⟩ (k2 := 0) (n2 := 0) rfl rfl (Nat.le_of_ble_eq_true rfl) dX0_clear_10 (kRP (fun r3 q4 => ?_))
        refine j_iconst hx dX0_clear_13 ?_
        refine pN7_1 hx hG q4 kf_RX0_43 dX0_clear_14 ?_
        obtain ⟨s8, e_s8⟩ : ∃ z, z = zU s2 r3 1 0 := ⟨_, rfl⟩
        rw [← e_s8]
        have hS_s8 : zSK G s8 := by rw [e_s8]; exact zSK_F hS_s2 q4 rfl rfl rfl (by omega)
        refine j_iinc hx 1 [(1, .int (zI (v1 + 1))), (0, .ref a)] dX0_clear_17 rfl (by omega) (by decide) rfl ?_
        refine j_goto hx 2 dX0_clear_20 rfl ?_
        exact j_sub [1, 0] [(0, .ref a), (1, .int (zI (v1 + 1)))] rfl (ih_c2_1 (v1 + 1) s8 (by omega) (by omega) hS_s8 (zFr_u (zFr_t zFr_rf hF_s2 (by decide)) e_s8 q4 (by decide)))
  exact j_sub [1, 0] [(0, .ref a), (1, .int (zI 0))] rfl (c2_1 (2147483648 * 4) 0 s0 (by omega) (by omega) hS0 zFr_rf)

set_option maxHeartbeats 4000000 in
set_option maxRecDepth 20000 in
theorem c_X9_peek {E : zE} {l : Launch} (hst : l.stackTraces = false) (a : Nat) : Con E l yX9_peek cX9_peek 2 (some .int) { frames := 0, cells := 0, slots := 0, locals := 0 } (fun G s vs => vs = [.ref a] ∧ zGK G ∧ zSK G s ∧ (gT G a = 10)) (fun G s _ => pI (fun r G2 s2 => G2 = G ∧ zSK G s2 ∧ zFr [10] G s s2 ∧ ((-2147483648) ≤ r ∧ r ≤ 2147483647))) := by
  refine Con.mk hst (by decide) (fun G s vs h => by rw [h.1]; exact Nat.le_of_ble_eq_true rfl) ?_
  rintro X G s0 vs ⟨rfl, hG, hS0, ha⟩ rfl hx hq
  show JJ X E 2 G s0 0 0 [(0, .ref a)] 0 []
  refine j_iconst hx dX9_peek_0 ?_
  refine j_istore_n hx [(1, .int (zI 0)), (0, .ref a)] dX9_peek_1 (by decide) rfl ?_
  have c2_1 : ∀ (m_c2_1 : Nat) (v1 : Int) (s2 : zS), 2147483648 - v1 < m_c2_1 → (0 ≤ v1 ∧ v1 ≤ 600) → (zSK G s2) → (zFr [10] G s0 s2) → JJ X E 2 G s2 0 0 [(0, .ref a), (1, .int (zI v1))] 2 [] := by
    intro m_c2_1
    induction m_c2_1 with
    | zero => intro v1 s2 hm_c2_1 fA3 hS_s2 hF_s2; exfalso; omega
    | succ m_c2_1 ih_c2_1 => 
      intro v1 s2 hm_c2_1 fA3 hS_s2 hF_s2
      refine j_iload_n hx 1 dX9_peek_2 rfl ?_
      refine j_sipush hx dX9_peek_3 rfl ?_
      refine j_icmp_ge hx 83 dX9_peek_6 rfl (by omega) ⟨by decide, by decide⟩ (fun h2 => ?_) (fun h2 => ?_)
      · skip
        refine j_iconst hx dX9_peek_83 ?_
        exact j_iret hx hq rfl (by decide) (by decide) dX9_peek_84 ⟨(-1), rfl, rfl, hS_s2, (zFr_t zFr_rf hF_s2 (by decide)), (by omega)⟩
      · skip
        refine j_aload_n hx 0 dX9_peek_9 rfl ?_
        have f3 := zf hS_s2 ha (k := 3) rfl
        refine g10_3 hx hG ha kf_RX9_31 rfl dX9_peek_10 ?_
        refine j_if_lt hx 83 dX9_peek_13 rfl (by omega) (fun h4 => ?_) (fun h4 => ?_)
        · skip
          refine j_iconst hx dX9_peek_83 ?_
          exact j_iret hx hq rfl (by decide) (by decide) dX9_peek_84 ⟨(-1), rfl, rfl, hS_s2, (zFr_t zFr_rf hF_s2 (by decide)), (by omega)⟩
        · skip
          refine j_aload_n hx 0 dX9_peek_16 rfl ?_
          refine g10_3 hx hG ha kf_RX9_31 rfl dX9_peek_17 ?_
          refine j_aload_n hx 0 dX9_peek_20 rfl ?_
          have f5 := zf hS_s2 ha (k := 2) rfl
          refine g10_2 hx hG ha kf_RX9_28 rfl dX9_peek_21 ?_
          refine j_icmp_ge hx 83 dX9_peek_24 rfl (by omega) (by omega) (fun h6 => ?_) (fun h6 => ?_)
          · skip
            refine j_iconst hx dX9_peek_83 ?_
            exact j_iret hx hq rfl (by decide) (by decide) dX9_peek_84 ⟨(-1), rfl, rfl, hS_s2, (zFr_t zFr_rf hF_s2 (by decide)), (by omega)⟩
          · skip
            refine j_aload_n hx 0 dX9_peek_27 rfl ?_
            refine g10_3 hx hG ha kf_RX9_31 rfl dX9_peek_28 ?_
            refine j_aload_n hx 0 dX9_peek_31 rfl ?_
            refine g10_0 hx hG ha kf_RX9_11 dX9_peek_32 ?_
            refine j_alen hx hG (zr (k := 0) (t2 := 45) hG ha rfl) (by decide) (by decide) (zlen hG (zr (k := 0) (t2 := 45) hG ha rfl) (n := 600) rfl rfl) dX9_peek_35 ?_
            refine j_icmp_ge hx 83 dX9_peek_36 rfl (by omega) ⟨by decide, by decide⟩ (fun h7 => ?_) (fun h7 => ?_)
            · skip
              refine j_iconst hx dX9_peek_83 ?_
              exact j_iret hx hq rfl (by decide) (by decide) dX9_peek_84 ⟨(-1), rfl, rfl, hS_s2, (zFr_t zFr_rf hF_s2 (by decide)), (by omega)⟩
            · skip
              refine j_aload_n hx 0 dX9_peek_39 rfl ?_
              refine g10_0 hx hG ha kf_RX9_11 dX9_peek_40 ?_
              refine j_aload_n hx 0 dX9_peek_43 rfl ?_
              refine g10_3 hx hG ha kf_RX9_31 rfl dX9_peek_44 ?_
              have f8 := zaI (j := ((s2 a 3)).toNat) hS0 (zr (k := 0) (t2 := 45) hG ha rfl) rfl (zlen hG (zr (k := 0) (t2 := 45) hG ha rfl) (n := 600) rfl rfl) (show 0 ≤ (s2 a 3) by omega) (by omega) rfl
              refine j_bald hx hG (zr (k := 0) (t2 := 45) hG ha rfl) (by decide) rfl (zlen hG (zr (k := 0) (t2 := 45) hG ha rfl) (n := 600) rfl rfl) (by omega) (by omega) (j := ((s2 a 3)).toNat) rfl (v := (s0 (gP G a 0) ((s2 a 3)).toNat)) (by rw [(zFr_g hF_s2 (zr (k := 0) (t2 := 45) hG ha rfl) (by decide))]) dX9_peek_47 ?_
              refine j_bipush hx dX9_peek_48 rfl ?_
              refine j_icmp_eq hx 67 dX9_peek_50 rfl (by omega) ⟨by decide, by decide⟩ (fun h9 => ?_) (fun h9 => ?_)
              · skip
                refine j_aload_n hx 0 dX9_peek_67 rfl ?_
                refine j_dup hx dX9_peek_68 rfl ?_
                refine g10_3 hx hG ha kf_RX9_31 rfl dX9_peek_69 ?_
                refine j_iconst hx dX9_peek_72 ?_
                refine j_iadd hx (r := (s2 a 3) + 1) dX9_peek_73 (by omega) ?_
                refine p10_3 hx hG ha kf_RX9_31 dX9_peek_74 ?_
                obtain ⟨s6, e_s6⟩ : ∃ z, z = zU s2 a 3 ((s2 a 3) + 1) := ⟨_, rfl⟩
                rw [← e_s6]
                have hS_s6 : zSK G s6 := by rw [e_s6]; exact zSK_F hS_s2 ha rfl rfl rfl (by omega)
                refine j_iinc hx 1 [(1, .int (zI (v1 + 1))), (0, .ref a)] dX9_peek_77 rfl (by omega) (by decide) rfl ?_
                refine j_goto hx 2 dX9_peek_80 rfl ?_
                exact j_sub [1, 0] [(0, .ref a), (1, .int (zI (v1 + 1)))] rfl (ih_c2_1 (v1 + 1) s6 (by omega) (by omega) hS_s6 (zFr_u (zFr_t zFr_rf hF_s2 (by decide)) e_s6 ha (by decide)))
              · skip
                refine j_aload_n hx 0 dX9_peek_53 rfl ?_
                refine g10_0 hx hG ha kf_RX9_11 dX9_peek_54 ?_
                refine j_aload_n hx 0 dX9_peek_57 rfl ?_
                refine g10_3 hx hG ha kf_RX9_31 rfl dX9_peek_58 ?_
                refine j_bald hx hG (zr (k := 0) (t2 := 45) hG ha rfl) (by decide) rfl (zlen hG (zr (k := 0) (t2 := 45) hG ha rfl) (n := 600) rfl rfl) (by omega) (by omega) (j := ((s2 a 3)).toNat) rfl (v := (s0 (gP G a 0) ((s2 a 3)).toNat)) (by rw [(zFr_g hF_s2 (zr (k := 0) (t2 := 45) hG ha rfl) (by decide))]) dX9_peek_61 ?_
                refine j_sipush hx dX9_peek_62 rfl ?_
                refine j_iand hx dX9_peek_65 (by omega) ⟨by decide, by decide⟩ (fun v10 f11 f12 f13 f14 _ => ?_)
                exact j_iret hx hq rfl (by decide) (by decide) dX9_peek_66 ⟨v10, rfl, rfl, hS_s2, (zFr_t zFr_rf hF_s2 (by decide)), (by omega)⟩
  exact j_sub [1, 0] [(0, .ref a), (1, .int (zI 0))] rfl (c2_1 (2147483648 * 4) 0 s0 (by omega) (by omega) hS0 zFr_rf)

set_option maxHeartbeats 4000000 in
set_option maxRecDepth 20000 in
theorem c_X9_signAt {E : zE} {l : Launch} (hst : l.stackTraces = false) (a : Nat) (x1 : Int) : Con E l yX9_signAt cX9_signAt 2 (some .int) { frames := 0, cells := 0, slots := 0, locals := 0 } (fun G s vs => vs = [.ref a, .int (zI x1)] ∧ zGK G ∧ zSK G s ∧ (gT G a = 10) ∧ ((-2147483648) ≤ x1 ∧ x1 ≤ 2147483647)) (fun G s _ => pI (fun r G2 s2 => G2 = G ∧ s2 = s ∧ ((-2147483648) ≤ r ∧ r ≤ 2147483647))) := by
  refine Con.mk hst (by decide) (fun G s vs h => by rw [h.1]; exact Nat.le_of_ble_eq_true rfl) ?_
  rintro X G s0 vs ⟨rfl, hG, hS0, ha, hx1⟩ rfl hx hq
  show JJ X E 2 G s0 0 0 [(0, .ref a), (1, .int (zI x1))] 0 []
  refine j_iload_n hx 1 dX9_signAt_0 rfl ?_
  refine j_if_lt hx 34 dX9_signAt_1 rfl (by omega) (fun h1 => ?_) (fun h1 => ?_)
  · skip
    refine j_iconst hx dX9_signAt_34 ?_
    exact j_iret hx hq rfl (by decide) (by decide) dX9_signAt_35 ⟨(-1), rfl, rfl, rfl, (by omega)⟩
  · skip
    refine j_iload_n hx 1 dX9_signAt_4 rfl ?_
    refine j_aload_n hx 0 dX9_signAt_5 rfl ?_
    have f2 := zf hS0 ha (k := 2) rfl
    refine g10_2 hx hG ha kf_RX9_28 rfl dX9_signAt_6 ?_
    refine j_icmp_ge hx 34 dX9_signAt_9 rfl (by omega) (by omega) (fun h3 => ?_) (fun h3 => ?_)
    · skip
      refine j_iconst hx dX9_signAt_34 ?_
      exact j_iret hx hq rfl (by decide) (by decide) dX9_signAt_35 ⟨(-1), rfl, rfl, rfl, (by omega)⟩
    · skip
      refine j_iload_n hx 1 dX9_signAt_12 rfl ?_
      refine j_aload_n hx 0 dX9_signAt_13 rfl ?_
      refine g10_0 hx hG ha kf_RX9_11 dX9_signAt_14 ?_
      refine j_alen hx hG (zr (k := 0) (t2 := 45) hG ha rfl) (by decide) (by decide) (zlen hG (zr (k := 0) (t2 := 45) hG ha rfl) (n := 600) rfl rfl) dX9_signAt_17 ?_
      refine j_icmp_ge hx 34 dX9_signAt_18 rfl (by omega) ⟨by decide, by decide⟩ (fun h4 => ?_) (fun h4 => ?_)
      · skip
        refine j_iconst hx dX9_signAt_34 ?_
        exact j_iret hx hq rfl (by decide) (by decide) dX9_signAt_35 ⟨(-1), rfl, rfl, rfl, (by omega)⟩
      · skip
        refine j_aload_n hx 0 dX9_signAt_21 rfl ?_
        refine g10_0 hx hG ha kf_RX9_11 dX9_signAt_22 ?_
        refine j_iload_n hx 1 dX9_signAt_25 rfl ?_
        have f5 := zaI (j := (x1).toNat) hS0 (zr (k := 0) (t2 := 45) hG ha rfl) rfl (zlen hG (zr (k := 0) (t2 := 45) hG ha rfl) (n := 600) rfl rfl) (show 0 ≤ x1 by omega) (by omega) rfl
        refine j_bald hx hG (zr (k := 0) (t2 := 45) hG ha rfl) (by decide) rfl (zlen hG (zr (k := 0) (t2 := 45) hG ha rfl) (n := 600) rfl rfl) (by omega) (by omega) (j := (x1).toNat) rfl rfl dX9_signAt_26 ?_
        refine j_sipush hx dX9_signAt_27 rfl ?_
        refine j_iand hx dX9_signAt_30 (by omega) ⟨by decide, by decide⟩ (fun v6 f7 f8 f9 f10 _ => ?_)
        refine j_goto hx 35 dX9_signAt_31 rfl ?_
        exact j_iret hx hq rfl (by decide) (by decide) dX9_signAt_35 ⟨v6, rfl, rfl, rfl, (by omega)⟩

set_option maxHeartbeats 4000000 in
set_option maxRecDepth 20000 in
theorem c_X9_isLetter {E : zE} {l : Launch} (hst : l.stackTraces = false) (x0 : Int) : Con E l yX9_isLetter cX9_isLetter 1 (some .boolean) { frames := 0, cells := 0, slots := 0, locals := 0 } (fun G s vs => vs = [.int (zI x0)] ∧ zGK G ∧ zSK G s ∧ ((-2147483648) ≤ x0 ∧ x0 ≤ 2147483647)) (fun G s _ => pI (fun r G2 s2 => G2 = G ∧ s2 = s ∧ (0 ≤ r ∧ r ≤ 1))) := by
  refine Con.mk hst (by decide) (fun G s vs h => by rw [h.1]; exact Nat.le_of_ble_eq_true rfl) ?_
  rintro X G s0 vs ⟨rfl, hG, hS0, hx0⟩ rfl hx hq
  show JJ X E 1 G s0 0 0 [(0, .int (zI x0))] 0 []
  refine j_iload_n hx 0 dX9_isLetter_0 rfl ?_
  refine j_bipush hx dX9_isLetter_1 rfl ?_
  refine j_icmp_lt hx 16 dX9_isLetter_3 rfl (by omega) ⟨by decide, by decide⟩ (fun h1 => ?_) (fun h1 => ?_)
  · skip
    refine j_iconst hx dX9_isLetter_16 ?_
    exact j_zret hx hq rfl (by decide) (by decide) dX9_isLetter_17 (by omega) ⟨0, rfl, rfl, rfl, (by omega)⟩
  · skip
    refine j_iload_n hx 0 dX9_isLetter_6 rfl ?_
    refine j_bipush hx dX9_isLetter_7 rfl ?_
    refine j_icmp_gt hx 16 dX9_isLetter_9 rfl (by omega) ⟨by decide, by decide⟩ (fun h2 => ?_) (fun h2 => ?_)
    · skip
      refine j_iconst hx dX9_isLetter_16 ?_
      exact j_zret hx hq rfl (by decide) (by decide) dX9_isLetter_17 (by omega) ⟨0, rfl, rfl, rfl, (by omega)⟩
    · skip
      refine j_iconst hx dX9_isLetter_12 ?_
      refine j_goto hx 17 dX9_isLetter_13 rfl ?_
      exact j_zret hx hq rfl (by decide) (by decide) dX9_isLetter_17 (by omega) ⟨1, rfl, rfl, rfl, (by omega)⟩

theorem lk_RX9_41 : LkV RX9 41 RX9 yX9_signAt cX9_signAt 2 (some .int) 1 := ⟨km_RX9_41, ki_yX9_signAt, ks_RX9_yX9_signAt, kn_RX9, kc_yX9_signAt, rfl, by decide +kernel, by decide +kernel, by decide +kernel⟩
theorem lk_RX9_45 : LkS RX9 45 yX9_isLetter cX9_isLetter 1 (some .boolean) 1 := ⟨km_RX9_45, kst_yX9_isLetter, kn_RX9, kc_yX9_isLetter, by decide +kernel, by decide +kernel, by decide +kernel⟩
set_option maxHeartbeats 4000000 in
set_option maxRecDepth 20000 in
theorem c_X9_lettersHere {E : zE} {l : Launch} (hst : l.stackTraces = false) (a : Nat) : Con E l yX9_lettersHere cX9_lettersHere 3 (some .int) { frames := 1, cells := 0, slots := 0, locals := 21 } (fun G s vs => vs = [.ref a] ∧ zGK G ∧ zSK G s ∧ (gT G a = 10)) (fun G s _ => pI (fun r G2 s2 => G2 = G ∧ s2 = s ∧ ((-2147483648) ≤ r ∧ r ≤ 2147483647))) := by
  refine Con.mk hst (by decide) (fun G s vs h => by rw [h.1]; exact Nat.le_of_ble_eq_true rfl) ?_
  rintro X G s0 vs ⟨rfl, hG, hS0, ha⟩ rfl hx hq
  show JJ X E 3 G s0 0 0 [(0, .ref a)] 0 []
  refine j_iconst hx dX9_lettersHere_0 ?_
  refine j_istore_n hx [(1, .int (zI 0)), (0, .ref a)] dX9_lettersHere_1 (by decide) rfl ?_
  refine j_iconst hx dX9_lettersHere_2 ?_
  refine j_istore_n hx [(2, .int (zI 0)), (1, .int (zI 0)), (0, .ref a)] dX9_lettersHere_3 (by decide) rfl ?_
  have c4_1 : ∀ (m_c4_1 : Nat) (v1 : Int) (v2 : Int), 2147483648 - v2 < m_c4_1 → ((-2147483648) ≤ v1 ∧ v1 ≤ 2147483647) → (0 ≤ v2 ∧ v2 ≤ 600) → JJ X E 3 G s0 0 0 [(0, .ref a), (1, .int (zI v1)), (2, .int (zI v2))] 4 [] := by
    intro m_c4_1
    induction m_c4_1 with
    | zero => intro v1 v2 hm_c4_1 fA2 fA3; exfalso; omega
    | succ m_c4_1 ih_c4_1 => 
      intro v1 v2 hm_c4_1 fA2 fA3
      refine j_iload_n hx 2 dX9_lettersHere_4 rfl ?_
      refine j_aload_n hx 0 dX9_lettersHere_5 rfl ?_
      refine g10_0 hx hG ha kf_RX9_11 dX9_lettersHere_6 ?_
      refine j_alen hx hG (zr (k := 0) (t2 := 45) hG ha rfl) (by decide) (by decide) (zlen hG (zr (k := 0) (t2 := 45) hG ha rfl) (n := 600) rfl rfl) dX9_lettersHere_9 ?_
      refine j_icmp_ge hx 38 dX9_lettersHere_10 rfl (by omega) ⟨by decide, by decide⟩ (fun h3 => ?_) (fun h3 => ?_)
      · skip
        refine j_iload_n hx 1 dX9_lettersHere_38 rfl ?_
        exact j_iret hx hq rfl (by decide) (by decide) dX9_lettersHere_39 ⟨v1, rfl, rfl, rfl, (by omega)⟩
      · skip
        refine j_aload_n hx 0 dX9_lettersHere_13 rfl ?_
        refine j_aload_n hx 0 dX9_lettersHere_14 rfl ?_
        have f4 := zf hS0 ha (k := 3) rfl
        refine g10_3 hx hG ha kf_RX9_31 rfl dX9_lettersHere_15 ?_
        refine j_iload_n hx 2 dX9_lettersHere_18 rfl ?_
        refine j_iadd hx (r := (s0 a 3) + v2) dX9_lettersHere_19 (by omega) ?_
        refine j_norm (fun v5 f6 f7 f8 => ?_)
        refine j_callV hx hG (c_X9_signAt hst a v5) lk_RX9_41 ha (by decide) rfl rfl rfl rfl [.int (zI v5)] ⟨rfl, hG, hS0, ha, (by omega)⟩ rfl rfl ⟨by decide, by decide⟩ ⟨by decide, by decide⟩ (k2 := 0) (n2 := 0) rfl rfl (Nat.le_of_ble_eq_true rfl) dX9_lettersHere_20 (kIP (fun v9 q10 => ?_))
        refine j_callS hx (c_X9_isLetter hst v9) lk_RX9_45 [.int (zI v9)] ⟨rfl, hG, hS0, (by omega)⟩ rfl rfl ⟨by decide, by decide⟩ ⟨by decide, by decide⟩ (k2 := 0) (n2 := 0) rfl rfl (Nat.le_of_ble_eq_true rfl) dX9_lettersHere_23 (kIP (fun v11 q12 => ?_))
        refine j_if_eq hx 38 dX9_lettersHere_26 rfl (by omega) (fun h13 => ?_) (fun h13 => ?_)
        · skip
          refine j_iload_n hx 1 dX9_lettersHere_38 rfl ?_
          exact j_iret hx hq rfl (by decide) (by decide) dX9_lettersHere_39 ⟨v1, rfl, rfl, rfl, (by omega)⟩
        · skip
          refine j_iincN hx 1 (fun v14 => [(1, .int (zI v14)), (0, .ref a), (2, .int (zI v2))]) dX9_lettersHere_29 rfl (by decide) (fun _ => rfl) (fun v14 f15 f16 f17 => ?_)
          refine j_iinc hx 2 [(2, .int (zI (v2 + 1))), (1, .int (zI v14)), (0, .ref a)] dX9_lettersHere_32 rfl (by omega) (by decide) rfl ?_
          refine j_goto hx 4 dX9_lettersHere_35 rfl ?_
          exact j_sub [2, 1, 0] [(0, .ref a), (1, .int (zI v14)), (2, .int (zI (v2 + 1)))] rfl (ih_c4_1 v14 (v2 + 1) (by omega) (by omega) (by omega))
  exact j_sub [2, 1, 0] [(0, .ref a), (1, .int (zI 0)), (2, .int (zI 0))] rfl (c4_1 (2147483648 * 4) 0 0 (by omega) (by omega) (by omega))

theorem lk_RX9_49 : LkV RX9 49 RX9 yX9_peek cX9_peek 2 (some .int) 0 := ⟨km_RX9_49, ki_yX9_peek, ks_RX9_yX9_peek, kn_RX9, kc_yX9_peek, rfl, by decide +kernel, by decide +kernel, by decide +kernel⟩
theorem lk_RX9_53 : LkV RX9 53 RX9 yX9_lettersHere cX9_lettersHere 3 (some .int) 0 := ⟨km_RX9_53, ki_yX9_lettersHere, ks_RX9_yX9_lettersHere, kn_RX9, kc_yX9_lettersHere, rfl, by decide +kernel, by decide +kernel, by decide +kernel⟩
theorem lk_RX9_56 : LkV RX9 56 RJ0 yJ0_length_8abf5 cJ0_length_8abf5 1 (some .int) 0 := ⟨km_RX9_56, ki_yJ0_length_8abf5, ks_RJ0_yJ0_length_8abf5, kn_RJ0, kc_yJ0_length_8abf5, rfl, by decide +kernel, by decide +kernel, by decide +kernel⟩
theorem lk_RX9_61 : LkV RX9 61 RJ0 yJ0_charAt_5068e cJ0_charAt_5068e 2 (some .char) 1 := ⟨km_RX9_61, ki_yJ0_charAt_5068e, ks_RJ0_yJ0_charAt_5068e, kn_RJ0, kc_yJ0_charAt_5068e, rfl, by decide +kernel, by decide +kernel, by decide +kernel⟩
set_option maxHeartbeats 4000000 in
set_option maxRecDepth 20000 in
theorem c_X9_takeWord {E : zE} {l : Launch} (hst : l.stackTraces = false) (a : Nat) (b1 : Nat) : Con E l yX9_takeWord cX9_takeWord 3 (some .boolean) { frames := 5, cells := 0, slots := 0, locals := 181 } (fun G s vs => vs = [.ref a, .ref (zTa E b1)] ∧ zGK G ∧ zSK G s ∧ (gT G a = 10) ∧ (b1 < txN)) (fun G s _ => pI (fun r G2 s2 => G2 = G ∧ zSK G s2 ∧ zFr [10] G s s2 ∧ (0 ≤ r ∧ r ≤ 1))) := by
  refine Con.mk hst (by decide) (fun G s vs h => by rw [h.1]; exact Nat.le_of_ble_eq_true rfl) ?_
  rintro X G s0 vs ⟨rfl, hG, hS0, ha, hb1⟩ rfl hx hq
  show JJ X E 3 G s0 0 0 [(0, .ref a), (1, .ref (zTa E b1))] 0 []
  refine j_aload_n hx 0 dX9_takeWord_0 rfl ?_
  refine j_callV hx hG (c_X9_peek hst a) lk_RX9_49 ha (by decide) rfl rfl rfl rfl [] ⟨rfl, hG, hS0, ha⟩ rfl rfl ⟨by decide, by decide⟩ ⟨by decide, by decide⟩ (k2 := 0) (n2 := 0) rfl rfl (Nat.le_of_ble_eq_true rfl) dX9_takeWord_1 (kIM (fun v1 s1 hS_s1 hF_s1 q2 => ?_))
  refine j_pop hx dX9_takeWord_4 rfl ?_
  refine j_aload_n hx 0 dX9_takeWord_5 rfl ?_
  have f3 := zf hS_s1 ha (k := 4) rfl
  refine g10_4 hx hG ha kf_RX9_34 rfl dX9_takeWord_6 ?_
  refine j_if_ne hx 23 dX9_takeWord_9 rfl (by omega) (fun h4 => ?_) (fun h4 => ?_)
  · skip
    refine j_iconst hx dX9_takeWord_23 ?_
    exact j_zret hx hq rfl (by decide) (by decide) dX9_takeWord_24 (by omega) ⟨0, rfl, rfl, hS_s1, (zFr_t zFr_rf hF_s1 (by decide)), (by omega)⟩
  · skip
    refine j_aload_n hx 0 dX9_takeWord_12 rfl ?_
    refine j_callV hx hG (c_X9_lettersHere hst a) lk_RX9_53 ha (by decide) rfl rfl rfl rfl [] ⟨rfl, hG, hS_s1, ha⟩ rfl rfl ⟨by decide, by decide⟩ ⟨by decide, by decide⟩ (k2 := 0) (n2 := 0) rfl rfl (Nat.le_of_ble_eq_true rfl) dX9_takeWord_13 (kIP (fun v5 q6 => ?_))
    refine j_aload_n hx 1 dX9_takeWord_16 rfl ?_
    refine j_callVT hx (c_J0_length hst b1) lk_RX9_56 hb1 [] ⟨rfl, hG, hS_s1, hb1⟩ rfl rfl ⟨by decide, by decide⟩ ⟨by decide, by decide⟩ (k2 := 0) (n2 := 0) rfl rfl (Nat.le_of_ble_eq_true rfl) dX9_takeWord_17 (kIP (fun v7 q8 => ?_))
    refine j_icmp_eq hx 25 dX9_takeWord_20 rfl (by omega) (by omega) (fun h9 => ?_) (fun h9 => ?_)
    · skip
      refine j_iconst hx dX9_takeWord_25 ?_
      refine j_istore_n hx [(2, .int (zI 0)), (0, .ref a), (1, .ref (zTa E b1))] dX9_takeWord_26 (by decide) rfl ?_
      have c27_2 : ∀ (m_c27_2 : Nat) (v10 : Int), 2147483648 - v10 < m_c27_2 → (0 ≤ v10 ∧ v10 ≤ 6) → JJ X E 3 G s1 0 0 [(0, .ref a), (1, .ref (zTa E b1)), (2, .int (zI v10))] 27 [] := by
        intro m_c27_2
        induction m_c27_2 with
        | zero => intro v10 hm_c27_2 fA3; exfalso; omega
        | succ m_c27_2 ih_c27_2 => 
          intro v10 hm_c27_2 fA3
          refine j_iload_n hx 2 dX9_takeWord_27 rfl ?_
          refine j_aload_n hx 1 dX9_takeWord_28 rfl ?_
          refine j_callVT hx (c_J0_length hst b1) lk_RX9_56 hb1 [] ⟨rfl, hG, hS_s1, hb1⟩ rfl rfl ⟨by decide, by decide⟩ ⟨by decide, by decide⟩ (k2 := 0) (n2 := 0) rfl rfl (Nat.le_of_ble_eq_true rfl) dX9_takeWord_29 (kIP (fun v11 q12 => ?_))
          refine j_icmp_ge hx 61 dX9_takeWord_32 rfl (by omega) (by omega) (fun h13 => ?_) (fun h13 => ?_)
          · skip
            refine j_aload_n hx 0 dX9_takeWord_61 rfl ?_
            refine j_dup hx dX9_takeWord_62 rfl ?_
            have f14 := zf hS_s1 ha (k := 3) rfl
            refine g10_3 hx hG ha kf_RX9_31 rfl dX9_takeWord_63 ?_
            refine j_aload_n hx 1 dX9_takeWord_66 rfl ?_
            refine j_callVT hx (c_J0_length hst b1) lk_RX9_56 hb1 [] ⟨rfl, hG, hS_s1, hb1⟩ rfl rfl ⟨by decide, by decide⟩ ⟨by decide, by decide⟩ (k2 := 0) (n2 := 0) rfl rfl (Nat.le_of_ble_eq_true rfl) dX9_takeWord_67 (kIP (fun v15 q16 => ?_))
            refine j_iadd hx (r := (s1 a 3) + v15) dX9_takeWord_70 (by omega) ?_
            refine j_norm (fun v17 f18 f19 f20 => ?_)
            refine p10_3 hx hG ha kf_RX9_31 dX9_takeWord_71 ?_
            obtain ⟨s4, e_s4⟩ : ∃ z, z = zU s1 a 3 v17 := ⟨_, rfl⟩
            rw [← e_s4]
            have hS_s4 : zSK G s4 := by rw [e_s4]; exact zSK_F hS_s1 ha rfl rfl rfl (by omega)
            refine j_iconst hx dX9_takeWord_74 ?_
            exact j_zret hx hq rfl (by decide) (by decide) dX9_takeWord_75 (by omega) ⟨1, rfl, rfl, hS_s4, (zFr_u (zFr_t zFr_rf hF_s1 (by decide)) e_s4 ha (by decide)), (by omega)⟩
          · skip
            refine j_aload_n hx 0 dX9_takeWord_35 rfl ?_
            refine j_aload_n hx 0 dX9_takeWord_36 rfl ?_
            have f21 := zf hS_s1 ha (k := 3) rfl
            refine g10_3 hx hG ha kf_RX9_31 rfl dX9_takeWord_37 ?_
            refine j_iload_n hx 2 dX9_takeWord_40 rfl ?_
            refine j_iadd hx (r := (s1 a 3) + v10) dX9_takeWord_41 (by omega) ?_
            refine j_norm (fun v22 f23 f24 f25 => ?_)
            refine j_callV hx hG (c_X9_signAt hst a v22) lk_RX9_41 ha (by decide) rfl rfl rfl rfl [.int (zI v22)] ⟨rfl, hG, hS_s1, ha, (by omega)⟩ rfl rfl ⟨by decide, by decide⟩ ⟨by decide, by decide⟩ (k2 := 0) (n2 := 0) rfl rfl (Nat.le_of_ble_eq_true rfl) dX9_takeWord_42 (kIP (fun v26 q27 => ?_))
            refine j_aload_n hx 1 dX9_takeWord_45 rfl ?_
            refine j_iload_n hx 2 dX9_takeWord_46 rfl ?_
            refine j_callVT hx (c_J0_charAt hst b1 v10) lk_RX9_61 hb1 [.int (zI v10)] ⟨rfl, hG, hS_s1, hb1, (by omega), (by omega)⟩ rfl rfl ⟨by decide, by decide⟩ ⟨by decide, by decide⟩ (k2 := 0) (n2 := 0) rfl rfl (Nat.le_of_ble_eq_true rfl) dX9_takeWord_47 (kIP (fun v28 q29 => ?_))
            refine j_icmp_eq hx 55 dX9_takeWord_50 rfl (by omega) (by omega) (fun h30 => ?_) (fun h30 => ?_)
            · skip
              refine j_iinc hx 2 [(2, .int (zI (v10 + 1))), (0, .ref a), (1, .ref (zTa E b1))] dX9_takeWord_55 rfl (by omega) (by decide) rfl ?_
              refine j_goto hx 27 dX9_takeWord_58 rfl ?_
              exact j_sub [1, 2, 0] [(0, .ref a), (1, .ref (zTa E b1)), (2, .int (zI (v10 + 1)))] rfl (ih_c27_2 (v10 + 1) (by omega) (by omega))
            · skip
              refine j_iconst hx dX9_takeWord_53 ?_
              exact j_zret hx hq rfl (by decide) (by decide) dX9_takeWord_54 (by omega) ⟨0, rfl, rfl, hS_s1, (zFr_t zFr_rf hF_s1 (by decide)), (by omega)⟩
      exact j_sub [1, 2, 0] [(0, .ref a), (1, .ref (zTa E b1)), (2, .int (zI 0))] rfl (c27_2 (2147483648 * 4) 0 (by omega) (by omega))
    · skip
      refine j_iconst hx dX9_takeWord_23 ?_
      exact j_zret hx hq rfl (by decide) (by decide) dX9_takeWord_24 (by omega) ⟨0, rfl, rfl, hS_s1, (zFr_t zFr_rf hF_s1 (by decide)), (by omega)⟩

set_option maxHeartbeats 4000000 in
set_option maxRecDepth 20000 in
theorem c_X9_failIf {E : zE} {l : Launch} (hst : l.stackTraces = false) (a : Nat) (x1 : Int) (x2 : Int) (x3 : Int) : Con E l yX9_failIf cX9_failIf 4 none { frames := 0, cells := 0, slots := 0, locals := 0 } (fun G s vs => vs = [.ref a, .int (zI x1), .int (zI x2), .int (zI x3)] ∧ zGK G ∧ zSK G s ∧ (gT G a = 10) ∧ (0 ≤ x1 ∧ x1 ≤ 1) ∧ ((-2147483648) ≤ x2 ∧ x2 ≤ 2147483647) ∧ ((-2147483648) ≤ x3 ∧ x3 ≤ 2147483647)) (fun G s _ => pV (fun G2 s2 => G2 = G ∧ zSK G s2 ∧ zFr [10] G s s2 ∧ True)) := by
  refine Con.mk hst (by decide) (fun G s vs h => by rw [h.1]; exact Nat.le_of_ble_eq_true rfl) ?_
  rintro X G s0 vs ⟨rfl, hG, hS0, ha, hx1, hx2, hx3⟩ rfl hx hq
  show JJ X E 4 G s0 0 0 [(0, .ref a), (1, .int (zI x1)), (2, .int (zI x2)), (3, .int (zI x3))] 0 []
  refine j_iload_n hx 1 dX9_failIf_0 rfl ?_
  refine j_if_eq hx 21 dX9_failIf_1 rfl (by omega) (fun h1 => ?_) (fun h1 => ?_)
  · skip
    exact j_vret hx hq rfl (by decide) (by decide) dX9_failIf_21 ⟨rfl, rfl, hS0, zFr_rf, trivial⟩
  · skip
    refine j_aload_n hx 0 dX9_failIf_4 rfl ?_
    have f2 := zf hS0 ha (k := 4) rfl
    refine g10_4 hx hG ha kf_RX9_34 rfl dX9_failIf_5 ?_
    refine j_if_ne hx 21 dX9_failIf_8 rfl (by omega) (fun h3 => ?_) (fun h3 => ?_)
    · skip
      exact j_vret hx hq rfl (by decide) (by decide) dX9_failIf_21 ⟨rfl, rfl, hS0, zFr_rf, trivial⟩
    · skip
      refine j_aload_n hx 0 dX9_failIf_11 rfl ?_
      refine j_iload_n hx 2 dX9_failIf_12 rfl ?_
      refine p10_4 hx hG ha kf_RX9_34 dX9_failIf_13 ?_
      obtain ⟨s1, e_s1⟩ : ∃ z, z = zU s0 a 4 x2 := ⟨_, rfl⟩
      rw [← e_s1]
      have hS_s1 : zSK G s1 := by rw [e_s1]; exact zSK_F hS0 ha rfl rfl rfl (by omega)
      refine j_aload_n hx 0 dX9_failIf_16 rfl ?_
      refine j_iload_n hx 3 dX9_failIf_17 rfl ?_
      refine p10_5 hx hG ha kf_RX9_15 dX9_failIf_18 ?_
      obtain ⟨s2, e_s2⟩ : ∃ z, z = zU s1 a 5 x3 := ⟨_, rfl⟩
      rw [← e_s2]
      have hS_s2 : zSK G s2 := by rw [e_s2]; exact zSK_F hS_s1 ha rfl rfl rfl (by omega)
      exact j_vret hx hq rfl (by decide) (by decide) dX9_failIf_21 ⟨rfl, rfl, hS_s2, (zFr_u (zFr_u zFr_rf e_s1 ha (by decide)) e_s2 ha (by decide)), trivial⟩

set_option maxHeartbeats 4000000 in
set_option maxRecDepth 20000 in
theorem c_X9_isDigit {E : zE} {l : Launch} (hst : l.stackTraces = false) (x0 : Int) : Con E l yX9_isDigit cX9_isDigit 1 (some .boolean) { frames := 0, cells := 0, slots := 0, locals := 0 } (fun G s vs => vs = [.int (zI x0)] ∧ zGK G ∧ zSK G s ∧ ((-2147483648) ≤ x0 ∧ x0 ≤ 2147483647)) (fun G s _ => pI (fun r G2 s2 => G2 = G ∧ s2 = s ∧ (0 ≤ r ∧ r ≤ 1))) := by
  refine Con.mk hst (by decide) (fun G s vs h => by rw [h.1]; exact Nat.le_of_ble_eq_true rfl) ?_
  rintro X G s0 vs ⟨rfl, hG, hS0, hx0⟩ rfl hx hq
  show JJ X E 1 G s0 0 0 [(0, .int (zI x0))] 0 []
  refine j_iload_n hx 0 dX9_isDigit_0 rfl ?_
  refine j_bipush hx dX9_isDigit_1 rfl ?_
  refine j_icmp_lt hx 16 dX9_isDigit_3 rfl (by omega) ⟨by decide, by decide⟩ (fun h1 => ?_) (fun h1 => ?_)
  · skip
    refine j_iconst hx dX9_isDigit_16 ?_
    exact j_zret hx hq rfl (by decide) (by decide) dX9_isDigit_17 (by omega) ⟨0, rfl, rfl, rfl, (by omega)⟩
  · skip
    refine j_iload_n hx 0 dX9_isDigit_6 rfl ?_
    refine j_bipush hx dX9_isDigit_7 rfl ?_
    refine j_icmp_gt hx 16 dX9_isDigit_9 rfl (by omega) ⟨by decide, by decide⟩ (fun h2 => ?_) (fun h2 => ?_)
    · skip
      refine j_iconst hx dX9_isDigit_16 ?_
      exact j_zret hx hq rfl (by decide) (by decide) dX9_isDigit_17 (by omega) ⟨0, rfl, rfl, rfl, (by omega)⟩
    · skip
      refine j_iconst hx dX9_isDigit_12 ?_
      refine j_goto hx 17 dX9_isDigit_13 rfl ?_
      exact j_zret hx hq rfl (by decide) (by decide) dX9_isDigit_17 (by omega) ⟨1, rfl, rfl, rfl, (by omega)⟩

set_option maxHeartbeats 4000000 in
set_option maxRecDepth 20000 in
theorem c_X9_here {E : zE} {l : Launch} (hst : l.stackTraces = false) (a : Nat) : Con E l yX9_here cX9_here 1 (some .int) { frames := 0, cells := 0, slots := 0, locals := 0 } (fun G s vs => vs = [.ref a] ∧ zGK G ∧ zSK G s ∧ (gT G a = 10)) (fun G s _ => pI (fun r G2 s2 => G2 = G ∧ s2 = s ∧ ((-2147483648) ≤ r ∧ r ≤ 2147483647))) := by
  refine Con.mk hst (by decide) (fun G s vs h => by rw [h.1]; exact Nat.le_of_ble_eq_true rfl) ?_
  rintro X G s0 vs ⟨rfl, hG, hS0, ha⟩ rfl hx hq
  show JJ X E 1 G s0 0 0 [(0, .ref a)] 0 []
  refine j_aload_n hx 0 dX9_here_0 rfl ?_
  have f1 := zf hS0 ha (k := 3) rfl
  refine g10_3 hx hG ha kf_RX9_31 rfl dX9_here_1 ?_
  refine j_if_lt hx 46 dX9_here_4 rfl (by omega) (fun h2 => ?_) (fun h2 => ?_)
  · skip
    refine j_iconst hx dX9_here_46 ?_
    exact j_iret hx hq rfl (by decide) (by decide) dX9_here_47 ⟨(-1), rfl, rfl, rfl, (by omega)⟩
  · skip
    refine j_aload_n hx 0 dX9_here_7 rfl ?_
    refine g10_3 hx hG ha kf_RX9_31 rfl dX9_here_8 ?_
    refine j_aload_n hx 0 dX9_here_11 rfl ?_
    have f3 := zf hS0 ha (k := 2) rfl
    refine g10_2 hx hG ha kf_RX9_28 rfl dX9_here_12 ?_
    refine j_icmp_ge hx 46 dX9_here_15 rfl (by omega) (by omega) (fun h4 => ?_) (fun h4 => ?_)
    · skip
      refine j_iconst hx dX9_here_46 ?_
      exact j_iret hx hq rfl (by decide) (by decide) dX9_here_47 ⟨(-1), rfl, rfl, rfl, (by omega)⟩
    · skip
      refine j_aload_n hx 0 dX9_here_18 rfl ?_
      refine g10_3 hx hG ha kf_RX9_31 rfl dX9_here_19 ?_
      refine j_aload_n hx 0 dX9_here_22 rfl ?_
      refine g10_0 hx hG ha kf_RX9_11 dX9_here_23 ?_
      refine j_alen hx hG (zr (k := 0) (t2 := 45) hG ha rfl) (by decide) (by decide) (zlen hG (zr (k := 0) (t2 := 45) hG ha rfl) (n := 600) rfl rfl) dX9_here_26 ?_
      refine j_icmp_ge hx 46 dX9_here_27 rfl (by omega) ⟨by decide, by decide⟩ (fun h5 => ?_) (fun h5 => ?_)
      · skip
        refine j_iconst hx dX9_here_46 ?_
        exact j_iret hx hq rfl (by decide) (by decide) dX9_here_47 ⟨(-1), rfl, rfl, rfl, (by omega)⟩
      · skip
        refine j_aload_n hx 0 dX9_here_30 rfl ?_
        refine g10_0 hx hG ha kf_RX9_11 dX9_here_31 ?_
        refine j_aload_n hx 0 dX9_here_34 rfl ?_
        refine g10_3 hx hG ha kf_RX9_31 rfl dX9_here_35 ?_
        have f6 := zaI (j := ((s0 a 3)).toNat) hS0 (zr (k := 0) (t2 := 45) hG ha rfl) rfl (zlen hG (zr (k := 0) (t2 := 45) hG ha rfl) (n := 600) rfl rfl) (show 0 ≤ (s0 a 3) by omega) (by omega) rfl
        refine j_bald hx hG (zr (k := 0) (t2 := 45) hG ha rfl) (by decide) rfl (zlen hG (zr (k := 0) (t2 := 45) hG ha rfl) (n := 600) rfl rfl) (by omega) (by omega) (j := ((s0 a 3)).toNat) rfl rfl dX9_here_38 ?_
        refine j_sipush hx dX9_here_39 rfl ?_
        refine j_iand hx dX9_here_42 (by omega) ⟨by decide, by decide⟩ (fun v7 f8 f9 f10 f11 _ => ?_)
        refine j_goto hx 47 dX9_here_43 rfl ?_
        exact j_iret hx hq rfl (by decide) (by decide) dX9_here_47 ⟨v7, rfl, rfl, rfl, (by omega)⟩

theorem lk_RX9_65 : LkS RX9 65 yX9_isDigit cX9_isDigit 1 (some .boolean) 1 := ⟨km_RX9_65, kst_yX9_isDigit, kn_RX9, kc_yX9_isDigit, by decide +kernel, by decide +kernel, by decide +kernel⟩
theorem lk_RX9_37 : LkV RX9 37 RX9 yX9_failIf cX9_failIf 4 none 3 := ⟨km_RX9_37, ki_yX9_failIf, ks_RX9_yX9_failIf, kn_RX9, kc_yX9_failIf, rfl, by decide +kernel, by decide +kernel, by decide +kernel⟩
theorem lk_RX9_68 : LkV RX9 68 RX9 yX9_here cX9_here 1 (some .int) 0 := ⟨km_RX9_68, ki_yX9_here, ks_RX9_yX9_here, kn_RX9, kc_yX9_here, rfl, by decide +kernel, by decide +kernel, by decide +kernel⟩
set_option maxHeartbeats 4000000 in
set_option maxRecDepth 20000 in
theorem c_X9_takeNumber {E : zE} {l : Launch} (hst : l.stackTraces = false) (a : Nat) (x1 : Int) (x2 : Int) : Con E l yX9_takeNumber cX9_takeNumber 6 (some .int) { frames := 1, cells := 0, slots := 0, locals := 33 } (fun G s vs => vs = [.ref a, .int (zI x1), .int (zI x2)] ∧ zGK G ∧ zSK G s ∧ (gT G a = 10) ∧ ((-2147483648) ≤ x1 ∧ x1 ≤ 2147483647) ∧ ((-2147483648) ≤ x2 ∧ x2 ≤ 2147483647)) (fun G s _ => pI (fun r G2 s2 => G2 = G ∧ zSK G s2 ∧ zFr [10] G s s2 ∧ ((-2147483648) ≤ r ∧ r ≤ 2147483647))) := by
  refine Con.mk hst (by decide) (fun G s vs h => by rw [h.1]; exact Nat.le_of_ble_eq_true rfl) ?_
  rintro X G s0 vs ⟨rfl, hG, hS0, ha, hx1, hx2⟩ rfl hx hq
  show JJ X E 6 G s0 0 0 [(0, .ref a), (1, .int (zI x1)), (2, .int (zI x2))] 0 []
  refine j_aload_n hx 0 dX9_takeNumber_0 rfl ?_
  have f1 := zf hS0 ha (k := 4) rfl
  refine g10_4 hx hG ha kf_RX9_34 rfl dX9_takeNumber_1 ?_
  refine j_if_eq hx 9 dX9_takeNumber_4 rfl (by omega) (fun h2 => ?_) (fun h2 => ?_)
  · skip
    refine j_aload_n hx 0 dX9_takeNumber_9 rfl ?_
    refine j_callV hx hG (c_X9_peek hst a) lk_RX9_49 ha (by decide) rfl rfl rfl rfl [] ⟨rfl, hG, hS0, ha⟩ rfl rfl ⟨by decide, by decide⟩ ⟨by decide, by decide⟩ (k2 := 0) (n2 := 0) rfl rfl (Nat.le_of_ble_eq_true rfl) dX9_takeNumber_10 (kIM (fun v3 s1 hS_s1 hF_s1 q4 => ?_))
    refine j_callS hx (c_X9_isDigit hst v3) lk_RX9_65 [.int (zI v3)] ⟨rfl, hG, hS_s1, (by omega)⟩ rfl rfl ⟨by decide, by decide⟩ ⟨by decide, by decide⟩ (k2 := 0) (n2 := 0) rfl rfl (Nat.le_of_ble_eq_true rfl) dX9_takeNumber_13 (kIP (fun v5 q6 => ?_))
    refine j_if_ne hx 31 dX9_takeNumber_16 rfl (by omega) (fun h7 => ?_) (fun h7 => ?_)
    · skip
      refine j_aload_n hx 0 dX9_takeNumber_31 rfl ?_
      have f8 := zf hS_s1 ha (k := 3) rfl
      refine g10_3 hx hG ha kf_RX9_31 rfl dX9_takeNumber_32 ?_
      refine j_istore_n hx [(3, .int (zI ((s1 a 3)))), (0, .ref a), (1, .int (zI x1)), (2, .int (zI x2))] dX9_takeNumber_35 (by decide) rfl ?_
      refine j_iconst hx dX9_takeNumber_36 ?_
      refine j_istore hx [(4, .int (zI 0)), (3, .int (zI ((s1 a 3)))), (0, .ref a), (1, .int (zI x1)), (2, .int (zI x2))] dX9_takeNumber_37 (by decide) rfl ?_
      refine j_iconst hx dX9_takeNumber_39 ?_
      refine j_istore hx [(5, .int (zI 0)), (4, .int (zI 0)), (3, .int (zI ((s1 a 3)))), (0, .ref a), (1, .int (zI x1)), (2, .int (zI x2))] dX9_takeNumber_40 (by decide) rfl ?_
      have c42_2 : ∀ (m_c42_2 : Nat) (v9 : Int) (v10 : Int) (s3 : zS), 2147483648 - v10 < m_c42_2 → ((-2147483648) ≤ v9 ∧ v9 ≤ 1000000) → (0 ≤ v10 ∧ v10 ≤ 600) → (zSK G s3) → (zFr [10] G s1 s3) → JJ X E 6 G s3 0 0 [(0, .ref a), (1, .int (zI x1)), (2, .int (zI x2)), (3, .int (zI ((s1 a 3)))), (4, .int (zI v9)), (5, .int (zI v10))] 42 [] := by
        intro m_c42_2
        induction m_c42_2 with
        | zero => intro v9 v10 s3 hm_c42_2 fA4 fA5 hS_s3 hF_s3; exfalso; omega
        | succ m_c42_2 ih_c42_2 => 
          intro v9 v10 s3 hm_c42_2 fA4 fA5 hS_s3 hF_s3
          refine j_iload hx 5 dX9_takeNumber_42 rfl ?_
          refine j_aload_n hx 0 dX9_takeNumber_44 rfl ?_
          refine g10_0 hx hG ha kf_RX9_11 dX9_takeNumber_45 ?_
          refine j_alen hx hG (zr (k := 0) (t2 := 45) hG ha rfl) (by decide) (by decide) (zlen hG (zr (k := 0) (t2 := 45) hG ha rfl) (n := 600) rfl rfl) dX9_takeNumber_48 ?_
          have c98_8 : JJ X E 6 G s3 0 0 [(0, .ref a), (1, .int (zI x1)), (2, .int (zI x2)), (3, .int (zI ((s1 a 3)))), (4, .int (zI v9))] 98 [] := by
            refine j_aload_n hx 0 dX9_takeNumber_98 rfl ?_
            refine j_iload hx 4 dX9_takeNumber_99 rfl ?_
            refine j_iload_n hx 1 dX9_takeNumber_101 rfl ?_
            have c116_9 : ∀ (v11 : Int), (0 ≤ v11 ∧ v11 ≤ 1) → JJ X E 6 G s3 0 0 [(0, .ref a), (1, .int (zI x1)), (3, .int (zI ((s1 a 3)))), (4, .int (zI v9))] 116 [.int (zI v11), .ref a] := by
              intro v11 fA10
              refine j_iconst hx dX9_takeNumber_116 ?_
              refine j_iload_n hx 2 dX9_takeNumber_117 rfl ?_
              refine j_callV hx hG (c_X9_failIf hst a v11 2 ((s1 a 3))) lk_RX9_37 ha (by decide) rfl rfl rfl rfl [.int (zI v11), .int (zI 2), .int (zI ((s1 a 3)))] ⟨rfl, hG, hS_s3, ha, (by omega), (by omega), (by omega)⟩ rfl rfl ⟨by decide, by decide⟩ ⟨by decide, by decide⟩ (k2 := 0) (n2 := 0) rfl rfl (Nat.le_of_ble_eq_true rfl) dX9_takeNumber_118 (kVM (fun s11 hS_s11 hF_s11 q13 => ?_))
              refine j_aload_n hx 0 dX9_takeNumber_121 rfl ?_
              have f14 := zf hS_s11 ha (k := 4) rfl
              refine g10_4 hx hG ha kf_RX9_34 rfl dX9_takeNumber_122 ?_
              refine j_if_ne hx 133 dX9_takeNumber_125 rfl (by omega) (fun h15 => ?_) (fun h15 => ?_)
              · skip
                refine j_iload_n hx 1 dX9_takeNumber_133 rfl ?_
                exact j_iret hx hq rfl (by decide) (by decide) dX9_takeNumber_134 ⟨x1, rfl, rfl, hS_s11, (zFr_t (zFr_t (zFr_t zFr_rf hF_s1 (by decide)) hF_s3 (by decide)) hF_s11 (by decide)), (by omega)⟩
              · skip
                refine j_iload hx 3 dX9_takeNumber_128 rfl ?_
                refine j_goto hx 134 dX9_takeNumber_130 rfl ?_
                exact j_iret hx hq rfl (by decide) (by decide) dX9_takeNumber_134 ⟨v9, rfl, rfl, hS_s11, (zFr_t (zFr_t (zFr_t zFr_rf hF_s1 (by decide)) hF_s3 (by decide)) hF_s11 (by decide)), (by omega)⟩
            have c111_12 : JJ X E 6 G s3 0 0 [(0, .ref a), (1, .int (zI x1)), (3, .int (zI ((s1 a 3)))), (4, .int (zI v9))] 111 [.ref a] := by
              refine j_iconst hx dX9_takeNumber_111 ?_
              refine j_goto hx 116 dX9_takeNumber_112 rfl ?_
              exact j_sub [0, 1, 2, 3] [(0, .ref a), (1, .int (zI x1)), (3, .int (zI ((s1 a 3)))), (4, .int (zI v9))] rfl (c116_9 1 (by omega))
            refine j_icmp_lt hx 111 dX9_takeNumber_102 rfl (by omega) (by omega) (fun h16 => ?_) (fun h16 => ?_)
            · skip
              exact j_sub [0, 1, 3, 4] [(0, .ref a), (1, .int (zI x1)), (3, .int (zI ((s1 a 3)))), (4, .int (zI v9))] rfl (c111_12  )
            · skip
              refine j_iload hx 4 dX9_takeNumber_105 rfl ?_
              refine j_iload_n hx 2 dX9_takeNumber_107 rfl ?_
              refine j_icmp_le hx 115 dX9_takeNumber_108 rfl (by omega) (by omega) (fun h17 => ?_) (fun h17 => ?_)
              · skip
                refine j_iconst hx dX9_takeNumber_115 ?_
                exact j_sub [0, 1, 3, 4] [(0, .ref a), (1, .int (zI x1)), (3, .int (zI ((s1 a 3)))), (4, .int (zI v9))] rfl (c116_9 0 (by omega))
              · skip
                exact j_sub [0, 1, 3, 4] [(0, .ref a), (1, .int (zI x1)), (3, .int (zI ((s1 a 3)))), (4, .int (zI v9))] rfl (c111_12  )
          refine j_icmp_ge hx 98 dX9_takeNumber_49 rfl (by omega) ⟨by decide, by decide⟩ (fun h18 => ?_) (fun h18 => ?_)
          · skip
            exact j_sub [0, 1, 2, 3, 4] [(0, .ref a), (1, .int (zI x1)), (2, .int (zI x2)), (3, .int (zI ((s1 a 3)))), (4, .int (zI v9))] rfl (c98_8  )
          · skip
            refine j_aload_n hx 0 dX9_takeNumber_52 rfl ?_
            refine j_callV hx hG (c_X9_here hst a) lk_RX9_68 ha (by decide) rfl rfl rfl rfl [] ⟨rfl, hG, hS_s3, ha⟩ rfl rfl ⟨by decide, by decide⟩ ⟨by decide, by decide⟩ (k2 := 0) (n2 := 0) rfl rfl (Nat.le_of_ble_eq_true rfl) dX9_takeNumber_53 (kIP (fun v19 q20 => ?_))
            refine j_callS hx (c_X9_isDigit hst v19) lk_RX9_65 [.int (zI v19)] ⟨rfl, hG, hS_s3, (by omega)⟩ rfl rfl ⟨by decide, by decide⟩ ⟨by decide, by decide⟩ (k2 := 0) (n2 := 0) rfl rfl (Nat.le_of_ble_eq_true rfl) dX9_takeNumber_56 (kIP (fun v21 q22 => ?_))
            refine j_if_eq hx 98 dX9_takeNumber_59 rfl (by omega) (fun h23 => ?_) (fun h23 => ?_)
            · skip
              exact j_sub [0, 1, 2, 3, 4] [(0, .ref a), (1, .int (zI x1)), (2, .int (zI x2)), (3, .int (zI ((s1 a 3)))), (4, .int (zI v9))] rfl (c98_8  )
            · skip
              refine j_ldc hx (c := 1000000) dX9_takeNumber_62 kk_RX9_71 (by decide) ?_
              refine j_iload hx 4 dX9_takeNumber_64 rfl ?_
              refine j_bipush hx dX9_takeNumber_66 rfl ?_
              refine j_imul hx (r := 10 * v9) dX9_takeNumber_68 (by omega) ?_
              refine j_norm (fun v24 f25 f26 f27 => ?_)
              refine j_aload_n hx 0 dX9_takeNumber_69 rfl ?_
              refine j_callV hx hG (c_X9_here hst a) lk_RX9_68 ha (by decide) rfl rfl rfl rfl [] ⟨rfl, hG, hS_s3, ha⟩ rfl rfl ⟨by decide, by decide⟩ ⟨by decide, by decide⟩ (k2 := 0) (n2 := 0) rfl rfl (Nat.le_of_ble_eq_true rfl) dX9_takeNumber_70 (kIP (fun v28 q29 => ?_))
              refine j_iadd hx (r := v24 + v28) dX9_takeNumber_73 rfl ?_
              refine j_norm (fun v30 f31 f32 f33 => ?_)
              refine j_bipush hx dX9_takeNumber_74 rfl ?_
              refine j_isub hx (r := v30 - 48) dX9_takeNumber_76 rfl ?_
              refine j_norm (fun v34 f35 f36 f37 => ?_)
              refine j_mmin hx km_RX9_22 kst_min kn_RJ9 kc_Lib_Math_min_name ⟨by decide, by decide⟩ (by omega) ⟨by decide, Nat.le_of_ble_eq_true rfl⟩ ⟨by decide, by decide⟩ dX9_takeNumber_77 (fun v38 f39 f40 f41 => ?_)
              refine j_istore hx [(4, .int (zI v38)), (0, .ref a), (1, .int (zI x1)), (2, .int (zI x2)), (3, .int (zI ((s1 a 3)))), (5, .int (zI v10))] dX9_takeNumber_80 (by decide) rfl ?_
              refine j_aload_n hx 1 dX9_takeNumber_82 rfl ?_
              refine j_dup hx dX9_takeNumber_83 rfl ?_
              have f42 := zf hS_s3 ha (k := 3) rfl
              refine g10_3 hx hG ha kf_RX9_31 rfl dX9_takeNumber_84 ?_
              refine j_iconst hx dX9_takeNumber_87 ?_
              refine j_iadd hx (r := (s3 a 3) + 1) dX9_takeNumber_88 (by omega) ?_
              refine j_norm (fun v43 f44 f45 f46 => ?_)
              refine p10_3 hx hG ha kf_RX9_31 dX9_takeNumber_89 ?_
              obtain ⟨s13, e_s13⟩ : ∃ z, z = zU s3 a 3 v43 := ⟨_, rfl⟩
              rw [← e_s13]
              have hS_s13 : zSK G s13 := by rw [e_s13]; exact zSK_F hS_s3 ha rfl rfl rfl (by omega)
              refine j_iinc hx 5 [(5, .int (zI (v10 + 1))), (4, .int (zI v38)), (0, .ref a), (1, .int (zI x1)), (2, .int (zI x2)), (3, .int (zI ((s1 a 3))))] dX9_takeNumber_92 rfl (by omega) (by decide) rfl ?_
              refine j_goto hx 42 dX9_takeNumber_95 rfl ?_
              exact j_sub [2, 3, 4, 5, 1, 0] [(0, .ref a), (1, .int (zI x1)), (2, .int (zI x2)), (3, .int (zI ((s1 a 3)))), (4, .int (zI v38)), (5, .int (zI (v10 + 1)))] rfl (ih_c42_2 v38 (v10 + 1) s13 (by omega) (by omega) (by omega) hS_s13 (zFr_u (zFr_t zFr_rf hF_s3 (by decide)) e_s13 ha (by decide)))
      exact j_sub [3, 4, 5, 2, 1, 0] [(0, .ref a), (1, .int (zI x1)), (2, .int (zI x2)), (3, .int (zI ((s1 a 3)))), (4, .int (zI 0)), (5, .int (zI 0))] rfl (c42_2 (2147483648 * 4) 0 0 s1 (by omega) (by omega) (by omega) hS_s1 zFr_rf)
    · skip
      refine j_aload_n hx 0 dX9_takeNumber_19 rfl ?_
      refine j_iconst hx dX9_takeNumber_20 ?_
      refine j_iconst hx dX9_takeNumber_21 ?_
      refine j_aload_n hx 0 dX9_takeNumber_22 rfl ?_
      have f47 := zf hS_s1 ha (k := 3) rfl
      refine g10_3 hx hG ha kf_RX9_31 rfl dX9_takeNumber_23 ?_
      refine j_callV hx hG (c_X9_failIf hst a 1 1 ((s1 a 3))) lk_RX9_37 ha (by decide) rfl rfl rfl rfl [.int (zI 1), .int (zI 1), .int (zI ((s1 a 3)))] ⟨rfl, hG, hS_s1, ha, (by omega), (by omega), (by omega)⟩ rfl rfl ⟨by decide, by decide⟩ ⟨by decide, by decide⟩ (k2 := 0) (n2 := 0) rfl rfl (Nat.le_of_ble_eq_true rfl) dX9_takeNumber_26 (kVM (fun s14 hS_s14 hF_s14 q49 => ?_))
      refine j_iload_n hx 1 dX9_takeNumber_29 rfl ?_
      exact j_iret hx hq rfl (by decide) (by decide) dX9_takeNumber_30 ⟨x1, rfl, rfl, hS_s14, (zFr_t (zFr_t zFr_rf hF_s1 (by decide)) hF_s14 (by decide)), (by omega)⟩
  · skip
    refine j_iload_n hx 1 dX9_takeNumber_7 rfl ?_
    exact j_iret hx hq rfl (by decide) (by decide) dX9_takeNumber_8 ⟨x1, rfl, rfl, hS0, zFr_rf, (by omega)⟩

set_option maxHeartbeats 4000000 in
set_option maxRecDepth 20000 in
theorem c_X8_setTrait {E : zE} {l : Launch} (hst : l.stackTraces = false) (a : Nat) (x1 : Int) (x2 : Int) (x3 : Int) : Con E l yX8_setTrait cX8_setTrait 5 none { frames := 0, cells := 0, slots := 0, locals := 0 } (fun G s vs => vs = [.ref a, .int (zI x1), .int (zI x2), .int (zI x3)] ∧ zGK G ∧ zSK G s ∧ (gT G a = 9) ∧ ((-2147483648) ≤ x1 ∧ x1 ≤ 2147483647) ∧ ((-2147483648) ≤ x2 ∧ x2 ≤ 2147483647) ∧ ((-2147483648) ≤ x3 ∧ x3 ≤ 2147483647)) (fun G s _ => pV (fun G2 s2 => G2 = G ∧ zSK G s2 ∧ zFr [42] G s s2 ∧ True)) := by
  refine Con.mk hst (by decide) (fun G s vs h => by rw [h.1]; exact Nat.le_of_ble_eq_true rfl) ?_
  rintro X G s0 vs ⟨rfl, hG, hS0, ha, hx1, hx2, hx3⟩ rfl hx hq
  show JJ X E 5 G s0 0 0 [(0, .ref a), (1, .int (zI x1)), (2, .int (zI x2)), (3, .int (zI x3))] 0 []
  refine j_iload_n hx 1 dX8_setTrait_0 rfl ?_
  refine j_iconst hx dX8_setTrait_1 ?_
  refine j_imul hx (r := 5 * x1) dX8_setTrait_2 (by omega) ?_
  refine j_norm (fun v1 f2 f3 f4 => ?_)
  refine j_iload_n hx 2 dX8_setTrait_3 rfl ?_
  refine j_iadd hx (r := v1 + x2) dX8_setTrait_4 rfl ?_
  refine j_norm (fun v5 f6 f7 f8 => ?_)
  refine j_istore hx [(4, .int (zI v5)), (0, .ref a), (1, .int (zI x1)), (2, .int (zI x2)), (3, .int (zI x3))] dX8_setTrait_5 (by decide) rfl ?_
  refine j_iload hx 0 dX8_setTrait_7 rfl ?_
  refine j_if_lt hx 30 dX8_setTrait_9 rfl (by omega) (fun h9 => ?_) (fun h9 => ?_)
  · skip
    exact j_vret hx hq rfl (by decide) (by decide) dX8_setTrait_30 ⟨rfl, rfl, hS0, zFr_rf, trivial⟩
  · skip
    refine j_iload hx 0 dX8_setTrait_12 rfl ?_
    refine j_aload_n hx 1 dX8_setTrait_14 rfl ?_
    refine g9_0 hx hG ha kf_RX8_11 dX8_setTrait_15 ?_
    refine j_alen hx hG (zr (k := 0) (t2 := 42) hG ha rfl) (by decide) (by decide) (zlen hG (zr (k := 0) (t2 := 42) hG ha rfl) (n := 15) rfl rfl) dX8_setTrait_18 ?_
    refine j_icmp_ge hx 30 dX8_setTrait_19 rfl (by omega) ⟨by decide, by decide⟩ (fun h10 => ?_) (fun h10 => ?_)
    · skip
      exact j_vret hx hq rfl (by decide) (by decide) dX8_setTrait_30 ⟨rfl, rfl, hS0, zFr_rf, trivial⟩
    · skip
      refine j_aload_n hx 1 dX8_setTrait_22 rfl ?_
      refine g9_0 hx hG ha kf_RX8_11 dX8_setTrait_23 ?_
      refine j_iload hx 0 dX8_setTrait_26 rfl ?_
      refine j_iload_n hx 4 dX8_setTrait_28 rfl ?_
      refine j_iast hx hG (zr (k := 0) (t2 := 42) hG ha rfl) (by decide) rfl (zlen hG (zr (k := 0) (t2 := 42) hG ha rfl) (n := 15) rfl rfl) (by omega) (by omega) (j := (v5).toNat) rfl dX8_setTrait_29 ?_
      obtain ⟨s1, e_s1⟩ : ∃ z, z = zU s0 (gP G a 0) (v5).toNat x3 := ⟨_, rfl⟩
      rw [← e_s1]
      have hS_s1 : zSK G s1 := by rw [e_s1]; exact zSK_A hS0 (zr (k := 0) (t2 := 42) hG ha rfl) rfl rfl rfl (by omega)
      exact j_vret hx hq rfl (by decide) (by decide) dX8_setTrait_30 ⟨rfl, rfl, hS_s1, (zFr_u zFr_rf e_s1 (zr (k := 0) (t2 := 42) hG ha rfl) (by decide)), trivial⟩

theorem lk_RX8_99 : LkV RX8 99 RX9 yX9_takeNumber cX9_takeNumber 6 (some .int) 2 := ⟨km_RX8_99, ki_yX9_takeNumber, ks_RX9_yX9_takeNumber, kn_RX9, kc_yX9_takeNumber, rfl, by decide +kernel, by decide +kernel, by decide +kernel⟩
theorem lk_RX8_102 : LkV RX8 102 RX8 yX8_setTrait cX8_setTrait 5 none 3 := ⟨km_RX8_102, ki_yX8_setTrait, ks_RX8_yX8_setTrait, kn_RX8, kc_yX8_setTrait, rfl, by decide +kernel, by decide +kernel, by decide +kernel⟩
set_option maxHeartbeats 4000000 in
set_option maxRecDepth 20000 in
theorem c_X8_readPlayer {E : zE} {l : Launch} (hst : l.stackTraces = false) (a : Nat) (b1 : Nat) : Con E l yX8_readPlayer cX8_readPlayer 3 none { frames := 2, cells := 0, slots := 0, locals := 58 } (fun G s vs => vs = [.ref a, .ref b1] ∧ zGK G ∧ zSK G s ∧ (gT G a = 9) ∧ (gT G b1 = 10)) (fun G s _ => pV (fun G2 s2 => G2 = G ∧ zSK G s2 ∧ zFr [9, 10, 42] G s s2 ∧ True)) := by
  refine Con.mk hst (by decide) (fun G s vs h => by rw [h.1]; exact Nat.le_of_ble_eq_true rfl) ?_
  rintro X G s0 vs ⟨rfl, hG, hS0, ha, hb1⟩ rfl hx hq
  show JJ X E 3 G s0 0 0 [(0, .ref a), (1, .ref b1)] 0 []
  refine j_aload_n hx 0 dX8_readPlayer_0 rfl ?_
  have f1 := zf hS0 ha (k := 4) rfl
  refine g9_4 hx hG ha kf_RX8_28 rfl dX8_readPlayer_1 ?_
  refine j_istore_n hx [(2, .int (zI ((s0 a 4)))), (0, .ref a), (1, .ref b1)] dX8_readPlayer_4 (by decide) rfl ?_
  refine j_aload_n hx 1 dX8_readPlayer_5 rfl ?_
  refine j_iload_n hx 0 dX8_readPlayer_6 rfl ?_
  refine j_iconst hx dX8_readPlayer_7 ?_
  refine j_aload_n hx 2 dX8_readPlayer_8 rfl ?_
  refine j_iconst hx dX8_readPlayer_9 ?_
  refine j_bipush hx dX8_readPlayer_10 rfl ?_
  refine j_callV hx hG (c_X9_takeNumber hst b1 1 9) lk_RX8_99 hb1 (by decide) rfl rfl rfl rfl [.int (zI 1), .int (zI 9)] ⟨rfl, hG, hS0, hb1, (by omega), (by omega)⟩ rfl rfl ⟨by decide, by decide⟩ ⟨by decide, by decide⟩ (k2 := 0) (n2 := 0) rfl rfl (Nat.le_of_ble_eq_true rfl) dX8_readPlayer_12 (kIM (fun v2 s1 hS_s1 hF_s1 q3 => ?_))
  refine j_callV hx hG (c_X8_setTrait hst a ((s0 a 4)) 0 v2) lk_RX8_102 ha (by decide) rfl rfl rfl rfl [.int (zI ((s0 a 4))), .int (zI 0), .int (zI v2)] ⟨rfl, hG, hS_s1, ha, (by omega), (by omega), (by omega)⟩ rfl rfl ⟨by decide, by decide⟩ ⟨by decide, by decide⟩ (k2 := 0) (n2 := 0) rfl rfl (Nat.le_of_ble_eq_true rfl) dX8_readPlayer_15 (kVM (fun s2 hS_s2 hF_s2 q5 => ?_))
  refine j_aload_n hx 1 dX8_readPlayer_18 rfl ?_
  refine j_iload_n hx 0 dX8_readPlayer_19 rfl ?_
  refine j_iconst hx dX8_readPlayer_20 ?_
  refine j_aload_n hx 2 dX8_readPlayer_21 rfl ?_
  refine j_iconst hx dX8_readPlayer_22 ?_
  refine j_bipush hx dX8_readPlayer_23 rfl ?_
  refine j_callV hx hG (c_X9_takeNumber hst b1 0 60) lk_RX8_99 hb1 (by decide) rfl rfl rfl rfl [.int (zI 0), .int (zI 60)] ⟨rfl, hG, hS_s2, hb1, (by omega), (by omega)⟩ rfl rfl ⟨by decide, by decide⟩ ⟨by decide, by decide⟩ (k2 := 0) (n2 := 0) rfl rfl (Nat.le_of_ble_eq_true rfl) dX8_readPlayer_25 (kIM (fun v6 s3 hS_s3 hF_s3 q7 => ?_))
  refine j_callV hx hG (c_X8_setTrait hst a ((s0 a 4)) 1 v6) lk_RX8_102 ha (by decide) rfl rfl rfl rfl [.int (zI ((s0 a 4))), .int (zI 1), .int (zI v6)] ⟨rfl, hG, hS_s3, ha, (by omega), (by omega), (by omega)⟩ rfl rfl ⟨by decide, by decide⟩ ⟨by decide, by decide⟩ (k2 := 0) (n2 := 0) rfl rfl (Nat.le_of_ble_eq_true rfl) dX8_readPlayer_28 (kVM (fun s4 hS_s4 hF_s4 q9 => ?_))
  refine j_aload_n hx 1 dX8_readPlayer_31 rfl ?_
  refine j_iload_n hx 0 dX8_readPlayer_32 rfl ?_
  refine j_iconst hx dX8_readPlayer_33 ?_
  refine j_aload_n hx 2 dX8_readPlayer_34 rfl ?_
  refine j_iconst hx dX8_readPlayer_35 ?_
  refine j_bipush hx dX8_readPlayer_36 rfl ?_
  refine j_callV hx hG (c_X9_takeNumber hst b1 0 9) lk_RX8_99 hb1 (by decide) rfl rfl rfl rfl [.int (zI 0), .int (zI 9)] ⟨rfl, hG, hS_s4, hb1, (by omega), (by omega)⟩ rfl rfl ⟨by decide, by decide⟩ ⟨by decide, by decide⟩ (k2 := 0) (n2 := 0) rfl rfl (Nat.le_of_ble_eq_true rfl) dX8_readPlayer_38 (kIM (fun v10 s5 hS_s5 hF_s5 q11 => ?_))
  refine j_callV hx hG (c_X8_setTrait hst a ((s0 a 4)) 2 v10) lk_RX8_102 ha (by decide) rfl rfl rfl rfl [.int (zI ((s0 a 4))), .int (zI 2), .int (zI v10)] ⟨rfl, hG, hS_s5, ha, (by omega), (by omega), (by omega)⟩ rfl rfl ⟨by decide, by decide⟩ ⟨by decide, by decide⟩ (k2 := 0) (n2 := 0) rfl rfl (Nat.le_of_ble_eq_true rfl) dX8_readPlayer_41 (kVM (fun s6 hS_s6 hF_s6 q13 => ?_))
  refine j_aload_n hx 1 dX8_readPlayer_44 rfl ?_
  refine j_iload_n hx 0 dX8_readPlayer_45 rfl ?_
  refine j_iconst hx dX8_readPlayer_46 ?_
  refine j_aload_n hx 2 dX8_readPlayer_47 rfl ?_
  refine j_iconst hx dX8_readPlayer_48 ?_
  refine j_iconst hx dX8_readPlayer_49 ?_
  refine j_callV hx hG (c_X9_takeNumber hst b1 0 2) lk_RX8_99 hb1 (by decide) rfl rfl rfl rfl [.int (zI 0), .int (zI 2)] ⟨rfl, hG, hS_s6, hb1, (by omega), (by omega)⟩ rfl rfl ⟨by decide, by decide⟩ ⟨by decide, by decide⟩ (k2 := 0) (n2 := 0) rfl rfl (Nat.le_of_ble_eq_true rfl) dX8_readPlayer_50 (kIM (fun v14 s7 hS_s7 hF_s7 q15 => ?_))
  refine j_callV hx hG (c_X8_setTrait hst a ((s0 a 4)) 3 v14) lk_RX8_102 ha (by decide) rfl rfl rfl rfl [.int (zI ((s0 a 4))), .int (zI 3), .int (zI v14)] ⟨rfl, hG, hS_s7, ha, (by omega), (by omega), (by omega)⟩ rfl rfl ⟨by decide, by decide⟩ ⟨by decide, by decide⟩ (k2 := 0) (n2 := 0) rfl rfl (Nat.le_of_ble_eq_true rfl) dX8_readPlayer_53 (kVM (fun s8 hS_s8 hF_s8 q17 => ?_))
  refine j_aload_n hx 1 dX8_readPlayer_56 rfl ?_
  refine j_iload_n hx 0 dX8_readPlayer_57 rfl ?_
  refine j_iconst hx dX8_readPlayer_58 ?_
  refine j_iconst hx dX8_readPlayer_59 ?_
  refine j_callV hx hG (c_X8_setTrait hst a ((s0 a 4)) 4 5) lk_RX8_102 ha (by decide) rfl rfl rfl rfl [.int (zI ((s0 a 4))), .int (zI 4), .int (zI 5)] ⟨rfl, hG, hS_s8, ha, (by omega), (by omega), (by omega)⟩ rfl rfl ⟨by decide, by decide⟩ ⟨by decide, by decide⟩ (k2 := 0) (n2 := 0) rfl rfl (Nat.le_of_ble_eq_true rfl) dX8_readPlayer_60 (kVM (fun s9 hS_s9 hF_s9 q19 => ?_))
  refine j_aload_n hx 1 dX8_readPlayer_63 rfl ?_
  refine j_iconst hx dX8_readPlayer_64 ?_
  refine j_aload_n hx 1 dX8_readPlayer_65 rfl ?_
  refine g9_4 hx hG ha kf_RX8_28 (v := (s0 a 4)) (by rw [(zFr_g hF_s9 ha (by decide)), (zFr_g hF_s8 ha (by decide)), (zFr_g hF_s7 ha (by decide)), (zFr_g hF_s6 ha (by decide)), (zFr_g hF_s5 ha (by decide)), (zFr_g hF_s4 ha (by decide)), (zFr_g hF_s3 ha (by decide)), (zFr_g hF_s2 ha (by decide)), (zFr_g hF_s1 ha (by decide))]) dX8_readPlayer_66 ?_
  refine j_iconst hx dX8_readPlayer_69 ?_
  refine j_iadd hx (r := (s0 a 4) + 1) dX8_readPlayer_70 (by omega) ?_
  refine j_mmin hx km_RX8_133 kst_min kn_RJ9 kc_Lib_Math_min_name ⟨by decide, by decide⟩ (by omega) ⟨by decide, Nat.le_of_ble_eq_true rfl⟩ ⟨by decide, by decide⟩ dX8_readPlayer_71 (fun v20 f21 f22 f23 => ?_)
  refine p9_4 hx hG ha kf_RX8_28 dX8_readPlayer_74 ?_
  obtain ⟨s10, e_s10⟩ : ∃ z, z = zU s9 a 4 v20 := ⟨_, rfl⟩
  rw [← e_s10]
  have hS_s10 : zSK G s10 := by rw [e_s10]; exact zSK_F hS_s9 ha rfl rfl rfl (by omega)
  exact j_vret hx hq rfl (by decide) (by decide) dX8_readPlayer_77 ⟨rfl, rfl, hS_s10, (zFr_u (zFr_t (zFr_t (zFr_t (zFr_t (zFr_t (zFr_t (zFr_t (zFr_t (zFr_t zFr_rf hF_s1 (by decide)) hF_s2 (by decide)) hF_s3 (by decide)) hF_s4 (by decide)) hF_s5 (by decide)) hF_s6 (by decide)) hF_s7 (by decide)) hF_s8 (by decide)) hF_s9 (by decide)) e_s10 ha (by decide)), trivial⟩

set_option maxHeartbeats 4000000 in
set_option maxRecDepth 20000 in
theorem c_X8_readMoment {E : zE} {l : Launch} (hst : l.stackTraces = false) (a : Nat) (b1 : Nat) : Con E l yX8_readMoment cX8_readMoment 3 none { frames := 2, cells := 0, slots := 0, locals := 58 } (fun G s vs => vs = [.ref a, .ref b1] ∧ zGK G ∧ zSK G s ∧ (gT G a = 9) ∧ (gT G b1 = 10)) (fun G s _ => pV (fun G2 s2 => G2 = G ∧ zSK G s2 ∧ zFr [9, 10, 43] G s s2 ∧ True)) := by
  refine Con.mk hst (by decide) (fun G s vs h => by rw [h.1]; exact Nat.le_of_ble_eq_true rfl) ?_
  rintro X G s0 vs ⟨rfl, hG, hS0, ha, hb1⟩ rfl hx hq
  show JJ X E 3 G s0 0 0 [(0, .ref a), (1, .ref b1)] 0 []
  refine j_aload_n hx 1 dX8_readMoment_0 rfl ?_
  refine j_iconst hx dX8_readMoment_1 ?_
  refine j_bipush hx dX8_readMoment_2 rfl ?_
  refine j_callV hx hG (c_X9_takeNumber hst b1 0 9) lk_RX8_99 hb1 (by decide) rfl rfl rfl rfl [.int (zI 0), .int (zI 9)] ⟨rfl, hG, hS0, hb1, (by omega), (by omega)⟩ rfl rfl ⟨by decide, by decide⟩ ⟨by decide, by decide⟩ (k2 := 0) (n2 := 0) rfl rfl (Nat.le_of_ble_eq_true rfl) dX8_readMoment_4 (kIM (fun v1 s1 hS_s1 hF_s1 q2 => ?_))
  refine j_istore_n hx [(2, .int (zI v1)), (0, .ref a), (1, .ref b1)] dX8_readMoment_7 (by decide) rfl ?_
  refine j_aload_n hx 1 dX8_readMoment_8 rfl ?_
  have f3 := zf hS0 ha (k := 5) rfl
  refine g9_5 hx hG ha kf_RX8_40 (v := (s0 a 5)) (by rw [(zFr_g hF_s1 ha (by decide))]) dX8_readMoment_9 ?_
  refine j_if_lt hx 47 dX8_readMoment_12 rfl (by omega) (fun h4 => absurd h4 (by omega)) (fun h4 => ?_)
  refine j_aload_n hx 1 dX8_readMoment_15 rfl ?_
  refine g9_5 hx hG ha kf_RX8_40 (v := (s0 a 5)) (by rw [(zFr_g hF_s1 ha (by decide))]) dX8_readMoment_16 ?_
  refine j_aload_n hx 1 dX8_readMoment_19 rfl ?_
  refine g9_1 hx hG ha kf_RX8_15 dX8_readMoment_20 ?_
  refine j_alen hx hG (zr (k := 1) (t2 := 43) hG ha rfl) (by decide) (by decide) (zlen hG (zr (k := 1) (t2 := 43) hG ha rfl) (n := 12) rfl rfl) dX8_readMoment_23 ?_
  refine j_icmp_ge hx 47 dX8_readMoment_24 rfl (by omega) ⟨by decide, by decide⟩ (fun h5 => ?_) (fun h5 => ?_)
  · skip
    exact j_vret hx hq rfl (by decide) (by decide) dX8_readMoment_47 ⟨rfl, rfl, hS_s1, (zFr_t zFr_rf hF_s1 (by decide)), trivial⟩
  · skip
    refine j_aload_n hx 1 dX8_readMoment_27 rfl ?_
    refine g9_1 hx hG ha kf_RX8_15 dX8_readMoment_28 ?_
    refine j_aload_n hx 1 dX8_readMoment_31 rfl ?_
    refine g9_5 hx hG ha kf_RX8_40 (v := (s0 a 5)) (by rw [(zFr_g hF_s1 ha (by decide))]) dX8_readMoment_32 ?_
    refine j_iload_n hx 0 dX8_readMoment_35 rfl ?_
    refine j_iast hx hG (zr (k := 1) (t2 := 43) hG ha rfl) (by decide) rfl (zlen hG (zr (k := 1) (t2 := 43) hG ha rfl) (n := 12) rfl rfl) (by omega) (by omega) (j := ((s0 a 5)).toNat) rfl dX8_readMoment_36 ?_
    obtain ⟨s2, e_s2⟩ : ∃ z, z = zU s1 (gP G a 1) ((s0 a 5)).toNat v1 := ⟨_, rfl⟩
    rw [← e_s2]
    have hS_s2 : zSK G s2 := by rw [e_s2]; exact zSK_A hS_s1 (zr (k := 1) (t2 := 43) hG ha rfl) rfl rfl rfl (by omega)
    refine j_aload_n hx 1 dX8_readMoment_37 rfl ?_
    refine j_dup hx dX8_readMoment_38 rfl ?_
    refine g9_5 hx hG ha kf_RX8_40 (v := (s0 a 5)) (by rw [e_s2, zU_at (Or.inl (zne (zr (k := 1) (t2 := 43) hG ha rfl) ha (by decide))), (zFr_g hF_s1 ha (by decide))]) dX8_readMoment_39 ?_
    refine j_iconst hx dX8_readMoment_42 ?_
    refine j_iadd hx (r := (s0 a 5) + 1) dX8_readMoment_43 (by omega) ?_
    refine p9_5 hx hG ha kf_RX8_40 dX8_readMoment_44 ?_
    obtain ⟨s3, e_s3⟩ : ∃ z, z = zU s2 a 5 ((s0 a 5) + 1) := ⟨_, rfl⟩
    rw [← e_s3]
    have hS_s3 : zSK G s3 := by rw [e_s3]; exact zSK_F hS_s2 ha rfl rfl rfl (by omega)
    exact j_vret hx hq rfl (by decide) (by decide) dX8_readMoment_47 ⟨rfl, rfl, hS_s3, (zFr_u (zFr_u (zFr_t zFr_rf hF_s1 (by decide)) e_s2 (zr (k := 1) (t2 := 43) hG ha rfl) (by decide)) e_s3 ha (by decide)), trivial⟩

set_option maxHeartbeats 4000000 in
set_option maxRecDepth 20000 in
theorem c_X0_allCards {E : zE} {l : Launch} (hst : l.stackTraces = false) (a : Nat) : Con E l yX0_allCards cX0_allCards 3 (some .int) { frames := 2, cells := 0, slots := 0, locals := 42 } (fun G s vs => vs = [.ref a] ∧ zGK G ∧ zSK G s ∧ (gT G a = 1)) (fun G s _ => pI (fun r G2 s2 => G2 = G ∧ s2 = s ∧ ((-2147483648) ≤ r ∧ r ≤ 2147483647))) := by
  refine Con.mk hst (by decide) (fun G s vs h => by rw [h.1]; exact Nat.le_of_ble_eq_true rfl) ?_
  rintro X G s0 vs ⟨rfl, hG, hS0, ha⟩ rfl hx hq
  show JJ X E 3 G s0 0 0 [(0, .ref a)] 0 []
  refine j_iconst hx dX0_allCards_0 ?_
  refine j_istore_n hx [(1, .int (zI 0)), (0, .ref a)] dX0_allCards_1 (by decide) rfl ?_
  refine j_iconst hx dX0_allCards_2 ?_
  refine j_istore_n hx [(2, .int (zI 0)), (1, .int (zI 0)), (0, .ref a)] dX0_allCards_3 (by decide) rfl ?_
  have c4_1 : ∀ (m_c4_1 : Nat) (v1 : Int) (v2 : Int), 2147483648 - v2 < m_c4_1 → ((-2147483648) ≤ v1 ∧ v1 ≤ 2147483647) → (0 ≤ v2 ∧ v2 ≤ 7) → JJ X E 3 G s0 0 0 [(0, .ref a), (1, .int (zI v1)), (2, .int (zI v2))] 4 [] := by
    intro m_c4_1
    induction m_c4_1 with
    | zero => intro v1 v2 hm_c4_1 fA2 fA3; exfalso; omega
    | succ m_c4_1 ih_c4_1 => 
      intro v1 v2 hm_c4_1 fA2 fA3
      refine j_iload_n hx 2 dX0_allCards_4 rfl ?_
      refine j_bipush hx dX0_allCards_5 rfl ?_
      refine j_icmp_ge hx 27 dX0_allCards_7 rfl (by omega) ⟨by decide, by decide⟩ (fun h3 => ?_) (fun h3 => ?_)
      · skip
        refine j_iload_n hx 1 dX0_allCards_27 rfl ?_
        exact j_iret hx hq rfl (by decide) (by decide) dX0_allCards_28 ⟨v1, rfl, rfl, rfl, (by omega)⟩
      · skip
        refine j_iload_n hx 1 dX0_allCards_10 rfl ?_
        refine j_aload_n hx 0 dX0_allCards_11 rfl ?_
        refine j_iload_n hx 2 dX0_allCards_12 rfl ?_
        refine j_callV hx hG (c_X0_pileOf hst a v2) lk_RX0_47 ha (by decide) rfl rfl rfl rfl [.int (zI v2)] ⟨rfl, hG, hS0, ha, (by omega)⟩ rfl rfl ⟨by decide, by decide⟩ ⟨by decide, by decide⟩ (k2 := 0) (n2 := 0) rfl rfl (Nat.le_of_ble_eq_true rfl) dX0_allCards_13 (kRP (fun r4 q5 => ?_))
        have f6 := zf hS0 q5 (k := 1) rfl
        refine gN7_1 hx hG q5 kf_RX0_43 rfl dX0_allCards_16 ?_
        refine j_iadd hx (r := v1 + (s0 r4 1)) dX0_allCards_19 (by omega) ?_
        refine j_norm (fun v7 f8 f9 f10 => ?_)
        refine j_istore_n hx [(1, .int (zI v7)), (0, .ref a), (2, .int (zI v2))] dX0_allCards_20 (by decide) rfl ?_
        refine j_iinc hx 2 [(2, .int (zI (v2 + 1))), (1, .int (zI v7)), (0, .ref a)] dX0_allCards_21 rfl (by omega) (by decide) rfl ?_
        refine j_goto hx 4 dX0_allCards_24 rfl ?_
        exact j_sub [2, 1, 0] [(0, .ref a), (1, .int (zI v7)), (2, .int (zI (v2 + 1)))] rfl (ih_c4_1 v7 (v2 + 1) (by omega) (by omega) (by omega))
  exact j_sub [2, 1, 0] [(0, .ref a), (1, .int (zI 0)), (2, .int (zI 0))] rfl (c4_1 (2147483648 * 4) 0 0 (by omega) (by omega) (by omega))

set_option maxHeartbeats 4000000 in
set_option maxRecDepth 20000 in
theorem c_X9_fail {E : zE} {l : Launch} (hst : l.stackTraces = false) (a : Nat) (x1 : Int) : Con E l yX9_fail cX9_fail 2 none { frames := 1, cells := 0, slots := 0, locals := 23 } (fun G s vs => vs = [.ref a, .int (zI x1)] ∧ zGK G ∧ zSK G s ∧ (gT G a = 10) ∧ ((-2147483648) ≤ x1 ∧ x1 ≤ 2147483647)) (fun G s _ => pV (fun G2 s2 => G2 = G ∧ zSK G s2 ∧ zFr [10] G s s2 ∧ True)) := by
  refine Con.mk hst (by decide) (fun G s vs h => by rw [h.1]; exact Nat.le_of_ble_eq_true rfl) ?_
  rintro X G s0 vs ⟨rfl, hG, hS0, ha, hx1⟩ rfl hx hq
  show JJ X E 2 G s0 0 0 [(0, .ref a), (1, .int (zI x1))] 0 []
  refine j_aload_n hx 0 dX9_fail_0 rfl ?_
  refine j_iconst hx dX9_fail_1 ?_
  refine j_iload_n hx 1 dX9_fail_2 rfl ?_
  refine j_aload_n hx 0 dX9_fail_3 rfl ?_
  have f1 := zf hS0 ha (k := 3) rfl
  refine g10_3 hx hG ha kf_RX9_31 rfl dX9_fail_4 ?_
  refine j_callV hx hG (c_X9_failIf hst a 1 x1 ((s0 a 3))) lk_RX9_37 ha (by decide) rfl rfl rfl rfl [.int (zI 1), .int (zI x1), .int (zI ((s0 a 3)))] ⟨rfl, hG, hS0, ha, (by omega), (by omega), (by omega)⟩ rfl rfl ⟨by decide, by decide⟩ ⟨by decide, by decide⟩ (k2 := 0) (n2 := 0) rfl rfl (Nat.le_of_ble_eq_true rfl) dX9_fail_7 (kVM (fun s1 hS_s1 hF_s1 q3 => ?_))
  exact j_vret hx hq rfl (by decide) (by decide) dX9_fail_10 ⟨rfl, rfl, hS_s1, (zFr_t zFr_rf hF_s1 (by decide)), trivial⟩

set_option maxHeartbeats 4000000 in
set_option maxRecDepth 20000 in
theorem c_X6_put {E : zE} {l : Launch} (hst : l.stackTraces = false) (a : Nat) (x1 : Int) : Con E l yX6_put cX6_put 2 none { frames := 0, cells := 0, slots := 0, locals := 0 } (fun G s vs => vs = [.ref a, .int (zI x1)] ∧ zGK G ∧ zSK G s ∧ (gT G a = 7) ∧ ((-2147483648) ≤ x1 ∧ x1 ≤ 2147483647)) (fun G s _ => pV (fun G2 s2 => G2 = G ∧ zSK G s2 ∧ zFr [7, 41] G s s2 ∧ True)) := by
  refine Con.mk hst (by decide) (fun G s vs h => by rw [h.1]; exact Nat.le_of_ble_eq_true rfl) ?_
  rintro X G s0 vs ⟨rfl, hG, hS0, ha, hx1⟩ rfl hx hq
  show JJ X E 2 G s0 0 0 [(0, .ref a), (1, .int (zI x1))] 0 []
  refine j_aload_n hx 0 dX6_put_0 rfl ?_
  have f1 := zf hS0 ha (k := 1) rfl
  refine g7_1 hx hG ha kf_RX6_15 rfl dX6_put_1 ?_
  refine j_if_lt hx 39 dX6_put_4 rfl (by omega) (fun h2 => absurd h2 (by omega)) (fun h2 => ?_)
  refine j_aload_n hx 0 dX6_put_7 rfl ?_
  refine g7_1 hx hG ha kf_RX6_15 rfl dX6_put_8 ?_
  refine j_aload_n hx 0 dX6_put_11 rfl ?_
  refine g7_0 hx hG ha kf_RX6_9 dX6_put_12 ?_
  refine j_alen hx hG (zr (k := 0) (t2 := 41) hG ha rfl) (by decide) (by decide) (zlen hG (zr (k := 0) (t2 := 41) hG ha rfl) (n := 60) rfl rfl) dX6_put_15 ?_
  refine j_icmp_ge hx 39 dX6_put_16 rfl (by omega) ⟨by decide, by decide⟩ (fun h3 => ?_) (fun h3 => ?_)
  · skip
    exact j_vret hx hq rfl (by decide) (by decide) dX6_put_39 ⟨rfl, rfl, hS0, zFr_rf, trivial⟩
  · skip
    refine j_aload_n hx 0 dX6_put_19 rfl ?_
    refine g7_0 hx hG ha kf_RX6_9 dX6_put_20 ?_
    refine j_aload_n hx 0 dX6_put_23 rfl ?_
    refine g7_1 hx hG ha kf_RX6_15 rfl dX6_put_24 ?_
    refine j_iload_n hx 1 dX6_put_27 rfl ?_
    refine j_iast hx hG (zr (k := 0) (t2 := 41) hG ha rfl) (by decide) rfl (zlen hG (zr (k := 0) (t2 := 41) hG ha rfl) (n := 60) rfl rfl) (by omega) (by omega) (j := ((s0 a 1)).toNat) rfl dX6_put_28 ?_
    obtain ⟨s1, e_s1⟩ : ∃ z, z = zU s0 (gP G a 0) ((s0 a 1)).toNat x1 := ⟨_, rfl⟩
    rw [← e_s1]
    have hS_s1 : zSK G s1 := by rw [e_s1]; exact zSK_A hS0 (zr (k := 0) (t2 := 41) hG ha rfl) rfl rfl rfl (by omega)
    refine j_aload_n hx 0 dX6_put_29 rfl ?_
    refine j_dup hx dX6_put_30 rfl ?_
    refine g7_1 hx hG ha kf_RX6_15 (v := (s0 a 1)) (by rw [e_s1, zU_at (Or.inl (zne (zr (k := 0) (t2 := 41) hG ha rfl) ha (by decide)))]) dX6_put_31 ?_
    refine j_iconst hx dX6_put_34 ?_
    refine j_iadd hx (r := (s0 a 1) + 1) dX6_put_35 (by omega) ?_
    refine p7_1 hx hG ha kf_RX6_15 dX6_put_36 ?_
    obtain ⟨s2, e_s2⟩ : ∃ z, z = zU s1 a 1 ((s0 a 1) + 1) := ⟨_, rfl⟩
    rw [← e_s2]
    have hS_s2 : zSK G s2 := by rw [e_s2]; exact zSK_F hS_s1 ha rfl rfl rfl (by omega)
    exact j_vret hx hq rfl (by decide) (by decide) dX6_put_39 ⟨rfl, rfl, hS_s2, (zFr_u (zFr_u zFr_rf e_s1 (zr (k := 0) (t2 := 41) hG ha rfl) (by decide)) e_s2 ha (by decide)), trivial⟩

theorem lk_RX8_108 : LkV RX8 108 RX0 yX0_rowOf cX0_rowOf 2 (some (.object "SnapHeaps$Pile")) 1 := ⟨km_RX8_108, ki_yX0_rowOf, ks_RX0_yX0_rowOf, kn_RX0, kc_yX0_rowOf, rfl, by decide +kernel, by decide +kernel, by decide +kernel⟩
theorem lk_RX8_138 : LkV RX8 138 RX0 yX0_allCards cX0_allCards 3 (some .int) 0 := ⟨km_RX8_138, ki_yX0_allCards, ks_RX0_yX0_allCards, kn_RX0, kc_yX0_allCards, rfl, by decide +kernel, by decide +kernel, by decide +kernel⟩
theorem lk_RX8_57 : LkV RX8 57 RX9 yX9_peek cX9_peek 2 (some .int) 0 := ⟨km_RX8_57, ki_yX9_peek, ks_RX9_yX9_peek, kn_RX9, kc_yX9_peek, rfl, by decide +kernel, by decide +kernel, by decide +kernel⟩
theorem lk_RX8_141 : LkS RX8 141 yX9_isLetter cX9_isLetter 1 (some .boolean) 1 := ⟨km_RX8_141, kst_yX9_isLetter, kn_RX9, kc_yX9_isLetter, by decide +kernel, by decide +kernel, by decide +kernel⟩
theorem lk_RX8_145 : LkV RX8 145 RX9 yX9_here cX9_here 1 (some .int) 0 := ⟨km_RX8_145, ki_yX9_here, ks_RX9_yX9_here, kn_RX9, kc_yX9_here, rfl, by decide +kernel, by decide +kernel, by decide +kernel⟩
theorem lk_RX8_79 : LkV RX8 79 RX9 yX9_failIf cX9_failIf 4 none 3 := ⟨km_RX8_79, ki_yX9_failIf, ks_RX9_yX9_failIf, kn_RX9, kc_yX9_failIf, rfl, by decide +kernel, by decide +kernel, by decide +kernel⟩
theorem lk_RX8_148 : LkV RX8 148 RX6 yX6_put cX6_put 2 none 1 := ⟨km_RX8_148, ki_yX6_put, ks_RX6_yX6_put, kn_RX6, kc_yX6_put, rfl, by decide +kernel, by decide +kernel, by decide +kernel⟩
theorem lk_RX8_65 : LkV RX8 65 RX9 yX9_fail cX9_fail 2 none 1 := ⟨km_RX8_65, ki_yX9_fail, ks_RX9_yX9_fail, kn_RX9, kc_yX9_fail, rfl, by decide +kernel, by decide +kernel, by decide +kernel⟩
set_option maxHeartbeats 4000000 in
set_option maxRecDepth 20000 in
theorem c_X8_readCards {E : zE} {l : Launch} (hst : l.stackTraces = false) (a : Nat) (b1 : Nat) : Con E l yX8_readCards cX8_readCards 5 none { frames := 3, cells := 0, slots := 0, locals := 64 } (fun G s vs => vs = [.ref a, .ref b1] ∧ zGK G ∧ zSK G s ∧ (gT G a = 9) ∧ (gT G b1 = 10)) (fun G s _ => pV (fun G2 s2 => G2 = G ∧ zSK G s2 ∧ zFr [7, 10, 41] G s s2 ∧ True)) := by
  refine Con.mk hst (by decide) (fun G s vs h => by rw [h.1]; exact Nat.le_of_ble_eq_true rfl) ?_
  rintro X G s0 vs ⟨rfl, hG, hS0, ha, hb1⟩ rfl hx hq
  show JJ X E 5 G s0 0 0 [(0, .ref a), (1, .ref b1)] 0 []
  refine j_aload_n hx 0 dX8_readCards_0 rfl ?_
  refine g9_3 hx hG ha kf_RX8_24 dX8_readCards_1 ?_
  refine j_aload_n hx 1 dX8_readCards_4 rfl ?_
  refine j_iconst hx dX8_readCards_5 ?_
  refine j_aload_n hx 0 dX8_readCards_6 rfl ?_
  have f1 := zf hS0 ha (k := 4) rfl
  refine g9_4 hx hG ha kf_RX8_28 rfl dX8_readCards_7 ?_
  refine j_iconst hx dX8_readCards_10 ?_
  refine j_isub hx (r := (s0 a 4) - 1) dX8_readCards_11 (by omega) ?_
  refine j_callV hx hG (c_X9_takeNumber hst b1 0 ((s0 a 4) - 1)) lk_RX8_99 hb1 (by decide) rfl rfl rfl rfl [.int (zI 0), .int (zI ((s0 a 4) - 1))] ⟨rfl, hG, hS0, hb1, (by omega), (by omega)⟩ rfl rfl ⟨by decide, by decide⟩ ⟨by decide, by decide⟩ (k2 := 0) (n2 := 0) rfl rfl (Nat.le_of_ble_eq_true rfl) dX8_readCards_12 (kIM (fun v2 s1 hS_s1 hF_s1 q3 => ?_))
  refine j_callV hx hG (c_X0_rowOf hst (gP G a 3) v2) lk_RX8_108 (zr (k := 3) (t2 := 1) hG ha rfl) (by decide) rfl rfl rfl rfl [.int (zI v2)] ⟨rfl, hG, hS_s1, (zr (k := 3) (t2 := 1) hG ha rfl), (by omega)⟩ rfl rfl ⟨by decide, by decide⟩ ⟨by decide, by decide⟩ (k2 := 0) (n2 := 0) rfl rfl (Nat.le_of_ble_eq_true rfl) dX8_readCards_15 (kRP (fun r4 q5 => ?_))
  refine j_astore_n hx [(2, .ref r4), (0, .ref a), (1, .ref b1)] dX8_readCards_18 (by decide) rfl ?_
  refine j_aload_n hx 1 dX8_readCards_19 rfl ?_
  refine g9_3 hx hG ha kf_RX8_24 dX8_readCards_20 ?_
  refine j_callV hx hG (c_X0_allCards hst (gP G a 3)) lk_RX8_138 (zr (k := 3) (t2 := 1) hG ha rfl) (by decide) rfl rfl rfl rfl [] ⟨rfl, hG, hS_s1, (zr (k := 3) (t2 := 1) hG ha rfl)⟩ rfl rfl ⟨by decide, by decide⟩ ⟨by decide, by decide⟩ (k2 := 0) (n2 := 0) rfl rfl (Nat.le_of_ble_eq_true rfl) dX8_readCards_23 (kIP (fun v6 q7 => ?_))
  refine j_istore_n hx [(3, .int (zI v6)), (2, .ref r4), (0, .ref a), (1, .ref b1)] dX8_readCards_26 (by decide) rfl ?_
  refine j_aload_n hx 3 dX8_readCards_27 rfl ?_
  refine j_callV hx hG (c_X9_peek hst b1) lk_RX8_57 hb1 (by decide) rfl rfl rfl rfl [] ⟨rfl, hG, hS_s1, hb1⟩ rfl rfl ⟨by decide, by decide⟩ ⟨by decide, by decide⟩ (k2 := 0) (n2 := 0) rfl rfl (Nat.le_of_ble_eq_true rfl) dX8_readCards_28 (kIM (fun v8 s2 hS_s2 hF_s2 q9 => ?_))
  refine j_callS hx (c_X9_isLetter hst v8) lk_RX8_141 [.int (zI v8)] ⟨rfl, hG, hS_s2, (by omega)⟩ rfl rfl ⟨by decide, by decide⟩ ⟨by decide, by decide⟩ (k2 := 0) (n2 := 0) rfl rfl (Nat.le_of_ble_eq_true rfl) dX8_readCards_31 (kIP (fun v10 q11 => ?_))
  have c42_3 : ∀ (s4 : zS), (zSK G s4) → (zFr [10] G s2 s4) → JJ X E 5 G s4 0 0 [(1, .ref b1), (2, .ref r4), (3, .int (zI v6))] 42 [] := by
    intro s4 hS_s4 hF_s4
    refine j_iconst hx dX8_readCards_42 ?_
    refine j_istore hx [(4, .int (zI 0)), (1, .ref b1), (2, .ref r4), (3, .int (zI v6))] dX8_readCards_43 (by decide) rfl ?_
    have c45_7 : ∀ (m_c45_7 : Nat) (v12 : Int) (v13 : Int) (s8 : zS), 2147483648 - v13 < m_c45_7 → ((-2147483648) ≤ v12 ∧ v12 ≤ 2147483647) → (0 ≤ v13 ∧ v13 ≤ 600) → (zSK G s8) → (zFr [7, 10, 41] G s4 s8) → JJ X E 5 G s8 0 0 [(1, .ref b1), (2, .ref r4), (3, .int (zI v12)), (4, .int (zI v13))] 45 [] := by
      intro m_c45_7
      induction m_c45_7 with
      | zero => intro v12 v13 s8 hm_c45_7 fA9 fA10 hS_s8 hF_s8; exfalso; omega
      | succ m_c45_7 ih_c45_7 => 
        intro v12 v13 s8 hm_c45_7 fA9 fA10 hS_s8 hF_s8
        refine j_iload hx 3 dX8_readCards_45 rfl ?_
        refine j_sipush hx dX8_readCards_47 rfl ?_
        refine j_icmp_ge hx 145 dX8_readCards_50 rfl (by omega) ⟨by decide, by decide⟩ (fun h14 => ?_) (fun h14 => ?_)
        · skip
          exact j_vret hx hq rfl (by decide) (by decide) dX8_readCards_145 ⟨rfl, rfl, hS_s8, (zFr_t (zFr_t (zFr_t (zFr_t zFr_rf hF_s1 (by decide)) hF_s2 (by decide)) hF_s4 (by decide)) hF_s8 (by decide)), trivial⟩
        · skip
          refine j_aload_n hx 0 dX8_readCards_53 rfl ?_
          have f15 := zf hS_s8 hb1 (k := 4) rfl
          refine gN10_4 hx hG hb1 kf_RX8_52 rfl dX8_readCards_54 ?_
          refine j_if_ne hx 145 dX8_readCards_57 rfl (by omega) (fun h16 => ?_) (fun h16 => ?_)
          · skip
            exact j_vret hx hq rfl (by decide) (by decide) dX8_readCards_145 ⟨rfl, rfl, hS_s8, (zFr_t (zFr_t (zFr_t (zFr_t zFr_rf hF_s1 (by decide)) hF_s2 (by decide)) hF_s4 (by decide)) hF_s8 (by decide)), trivial⟩
          · skip
            refine j_aload_n hx 0 dX8_readCards_60 rfl ?_
            refine j_callV hx hG (c_X9_here hst b1) lk_RX8_145 hb1 (by decide) rfl rfl rfl rfl [] ⟨rfl, hG, hS_s8, hb1⟩ rfl rfl ⟨by decide, by decide⟩ ⟨by decide, by decide⟩ (k2 := 0) (n2 := 0) rfl rfl (Nat.le_of_ble_eq_true rfl) dX8_readCards_61 (kIP (fun v17 q18 => ?_))
            refine j_callS hx (c_X9_isLetter hst v17) lk_RX8_141 [.int (zI v17)] ⟨rfl, hG, hS_s8, (by omega)⟩ rfl rfl ⟨by decide, by decide⟩ ⟨by decide, by decide⟩ (k2 := 0) (n2 := 0) rfl rfl (Nat.le_of_ble_eq_true rfl) dX8_readCards_64 (kIP (fun v19 q20 => ?_))
            refine j_if_eq hx 145 dX8_readCards_67 rfl (by omega) (fun h21 => ?_) (fun h21 => ?_)
            · skip
              exact j_vret hx hq rfl (by decide) (by decide) dX8_readCards_145 ⟨rfl, rfl, hS_s8, (zFr_t (zFr_t (zFr_t (zFr_t zFr_rf hF_s1 (by decide)) hF_s2 (by decide)) hF_s4 (by decide)) hF_s8 (by decide)), trivial⟩
            · skip
              refine j_aload_n hx 0 dX8_readCards_70 rfl ?_
              refine j_aload_n hx 0 dX8_readCards_71 rfl ?_
              refine j_callV hx hG (c_X9_here hst b1) lk_RX8_145 hb1 (by decide) rfl rfl rfl rfl [] ⟨rfl, hG, hS_s8, hb1⟩ rfl rfl ⟨by decide, by decide⟩ ⟨by decide, by decide⟩ (k2 := 0) (n2 := 0) rfl rfl (Nat.le_of_ble_eq_true rfl) dX8_readCards_72 (kIP (fun v22 q23 => ?_))
              refine j_bipush hx dX8_readCards_75 rfl ?_
              have c85_13 : ∀ (v24 : Int), (0 ≤ v24 ∧ v24 ≤ 1) → JJ X E 5 G s8 0 0 [(1, .ref b1), (2, .ref r4), (3, .int (zI v12)), (4, .int (zI v13))] 85 [.int (zI v24), .ref b1] := by
                intro v24 fA14
                refine j_iconst hx dX8_readCards_85 ?_
                refine j_aload_n hx 0 dX8_readCards_86 rfl ?_
                have f25 := zf hS_s8 hb1 (k := 3) rfl
                refine gN10_3 hx hG hb1 kf_RX8_70 rfl dX8_readCards_87 ?_
                refine j_callV hx hG (c_X9_failIf hst b1 v24 1 ((s8 b1 3))) lk_RX8_79 hb1 (by decide) rfl rfl rfl rfl [.int (zI v24), .int (zI 1), .int (zI ((s8 b1 3)))] ⟨rfl, hG, hS_s8, hb1, (by omega), (by omega), (by omega)⟩ rfl rfl ⟨by decide, by decide⟩ ⟨by decide, by decide⟩ (k2 := 0) (n2 := 0) rfl rfl (Nat.le_of_ble_eq_true rfl) dX8_readCards_90 (kVM (fun s15 hS_s15 hF_s15 q27 => ?_))
                refine j_aload_n hx 0 dX8_readCards_93 rfl ?_
                refine j_iload_n hx 2 dX8_readCards_94 rfl ?_
                refine j_bipush hx dX8_readCards_95 rfl ?_
                have c105_16 : ∀ (v28 : Int), (0 ≤ v28 ∧ v28 ≤ 1) → JJ X E 5 G s15 0 0 [(1, .ref b1), (2, .ref r4), (3, .int (zI v12)), (4, .int (zI v13))] 105 [.int (zI v28), .ref b1] := by
                  intro v28 fA17
                  refine j_iconst hx dX8_readCards_105 ?_
                  refine j_aload_n hx 0 dX8_readCards_106 rfl ?_
                  have f29 := zf hS_s15 hb1 (k := 3) rfl
                  refine gN10_3 hx hG hb1 kf_RX8_70 rfl dX8_readCards_107 ?_
                  refine j_callV hx hG (c_X9_failIf hst b1 v28 3 ((s15 b1 3))) lk_RX8_79 hb1 (by decide) rfl rfl rfl rfl [.int (zI v28), .int (zI 3), .int (zI ((s15 b1 3)))] ⟨rfl, hG, hS_s15, hb1, (by omega), (by omega), (by omega)⟩ rfl rfl ⟨by decide, by decide⟩ ⟨by decide, by decide⟩ (k2 := 0) (n2 := 0) rfl rfl (Nat.le_of_ble_eq_true rfl) dX8_readCards_110 (kVM (fun s18 hS_s18 hF_s18 q31 => ?_))
                  refine j_aload_n hx 1 dX8_readCards_113 rfl ?_
                  refine j_aload_n hx 0 dX8_readCards_114 rfl ?_
                  refine j_callV hx hG (c_X9_here hst b1) lk_RX8_145 hb1 (by decide) rfl rfl rfl rfl [] ⟨rfl, hG, hS_s18, hb1⟩ rfl rfl ⟨by decide, by decide⟩ ⟨by decide, by decide⟩ (k2 := 0) (n2 := 0) rfl rfl (Nat.le_of_ble_eq_true rfl) dX8_readCards_115 (kIP (fun v32 q33 => ?_))
                  refine j_bipush hx dX8_readCards_118 rfl ?_
                  refine j_isub hx (r := v32 - 97) dX8_readCards_120 rfl ?_
                  refine j_norm (fun v34 f35 f36 f37 => ?_)
                  refine j_iconst hx dX8_readCards_121 ?_
                  refine j_imul hx (r := 2 * v34) dX8_readCards_122 (by omega) ?_
                  refine j_norm (fun v38 f39 f40 f41 => ?_)
                  refine j_callV hx hG (c_X6_put hst r4 v38) lk_RX8_148 q5 (by decide) rfl rfl rfl rfl [.int (zI v38)] ⟨rfl, hG, hS_s18, q5, (by omega)⟩ rfl rfl ⟨by decide, by decide⟩ ⟨by decide, by decide⟩ (k2 := 0) (n2 := 0) rfl rfl (Nat.le_of_ble_eq_true rfl) dX8_readCards_123 (kVM (fun s19 hS_s19 hF_s19 q43 => ?_))
                  refine j_iincN hx 2 (fun v44 => [(3, .int (zI v44)), (1, .ref b1), (2, .ref r4), (4, .int (zI v13))]) dX8_readCards_126 rfl (by decide) (fun _ => rfl) (fun v44 f45 f46 f47 => ?_)
                  refine j_aload_n hx 1 dX8_readCards_129 rfl ?_
                  refine j_dup hx dX8_readCards_130 rfl ?_
                  have f48 := zf hS_s18 hb1 (k := 3) rfl
                  refine gN10_3 hx hG hb1 kf_RX8_70 (v := (s18 b1 3)) (by rw [(zFr_g hF_s19 hb1 (by decide))]) dX8_readCards_131 ?_
                  refine j_iconst hx dX8_readCards_134 ?_
                  refine j_iadd hx (r := (s18 b1 3) + 1) dX8_readCards_135 (by omega) ?_
                  refine j_norm (fun v49 f50 f51 f52 => ?_)
                  refine pN10_3 hx hG hb1 kf_RX8_70 dX8_readCards_136 ?_
                  obtain ⟨s20, e_s20⟩ : ∃ z, z = zU s19 b1 3 v49 := ⟨_, rfl⟩
                  rw [← e_s20]
                  have hS_s20 : zSK G s20 := by rw [e_s20]; exact zSK_F hS_s19 hb1 rfl rfl rfl (by omega)
                  refine j_iinc hx 3 [(4, .int (zI (v13 + 1))), (3, .int (zI v44)), (1, .ref b1), (2, .ref r4)] dX8_readCards_139 rfl (by omega) (by decide) rfl ?_
                  refine j_goto hx 45 dX8_readCards_142 rfl ?_
                  exact j_sub [2, 3, 1, 0] [(1, .ref b1), (2, .ref r4), (3, .int (zI v44)), (4, .int (zI (v13 + 1)))] rfl (ih_c45_7 v44 (v13 + 1) s20 (by omega) (by omega) (by omega) hS_s20 (zFr_u (zFr_t (zFr_t (zFr_t (zFr_t zFr_rf hF_s8 (by decide)) hF_s15 (by decide)) hF_s18 (by decide)) hF_s19 (by decide)) e_s20 hb1 (by decide)))
                refine j_icmp_lt hx 104 dX8_readCards_97 rfl (by omega) ⟨by decide, by decide⟩ (fun h53 => ?_) (fun h53 => ?_)
                · skip
                  refine j_iconst hx dX8_readCards_104 ?_
                  exact j_sub [0, 1, 2, 3] [(1, .ref b1), (2, .ref r4), (3, .int (zI v12)), (4, .int (zI v13))] rfl (c105_16 0 (by omega))
                · skip
                  refine j_iconst hx dX8_readCards_100 ?_
                  refine j_goto hx 105 dX8_readCards_101 rfl ?_
                  exact j_sub [0, 1, 2, 3] [(1, .ref b1), (2, .ref r4), (3, .int (zI v12)), (4, .int (zI v13))] rfl (c105_16 1 (by omega))
              refine j_icmp_le hx 84 dX8_readCards_77 rfl (by omega) ⟨by decide, by decide⟩ (fun h54 => ?_) (fun h54 => ?_)
              · skip
                refine j_iconst hx dX8_readCards_84 ?_
                exact j_sub [0, 1, 2, 3] [(1, .ref b1), (2, .ref r4), (3, .int (zI v12)), (4, .int (zI v13))] rfl (c85_13 0 (by omega))
              · skip
                refine j_iconst hx dX8_readCards_80 ?_
                refine j_goto hx 85 dX8_readCards_81 rfl ?_
                exact j_sub [0, 1, 2, 3] [(1, .ref b1), (2, .ref r4), (3, .int (zI v12)), (4, .int (zI v13))] rfl (c85_13 1 (by omega))
    exact j_sub [1, 2, 3, 0] [(1, .ref b1), (2, .ref r4), (3, .int (zI v6)), (4, .int (zI 0))] rfl (c45_7 (2147483648 * 4) v6 0 s4 (by omega) (by omega) (by omega) hS_s4 zFr_rf)
  refine j_if_ne hx 42 dX8_readCards_34 rfl (by omega) (fun h55 => ?_) (fun h55 => ?_)
  · skip
    exact j_sub [3, 1, 0] [(1, .ref b1), (2, .ref r4), (3, .int (zI v6))] rfl (c42_3 s2 hS_s2 zFr_rf)
  · skip
    refine j_aload_n hx 3 dX8_readCards_37 rfl ?_
    refine j_iconst hx dX8_readCards_38 ?_
    refine j_callV hx hG (c_X9_fail hst b1 1) lk_RX8_65 hb1 (by decide) rfl rfl rfl rfl [.int (zI 1)] ⟨rfl, hG, hS_s2, hb1, (by omega)⟩ rfl rfl ⟨by decide, by decide⟩ ⟨by decide, by decide⟩ (k2 := 0) (n2 := 0) rfl rfl (Nat.le_of_ble_eq_true rfl) dX8_readCards_39 (kVM (fun s21 hS_s21 hF_s21 q57 => ?_))
    exact j_sub [3, 1, 0] [(1, .ref b1), (2, .ref r4), (3, .int (zI v6))] rfl (c42_3 s21 hS_s21 (zFr_t zFr_rf hF_s21 (by decide)))

set_option maxHeartbeats 4000000 in
set_option maxRecDepth 20000 in
theorem c_X6_openFirst {E : zE} {l : Launch} (hst : l.stackTraces = false) (a : Nat) (x1 : Int) : Con E l yX6_openFirst cX6_openFirst 3 none { frames := 0, cells := 0, slots := 0, locals := 0 } (fun G s vs => vs = [.ref a, .int (zI x1)] ∧ zGK G ∧ zSK G s ∧ (gT G a = 7) ∧ ((-2147483648) ≤ x1 ∧ x1 ≤ 2147483647)) (fun G s _ => pV (fun G2 s2 => G2 = G ∧ zSK G s2 ∧ zFr [41] G s s2 ∧ True)) := by
  refine Con.mk hst (by decide) (fun G s vs h => by rw [h.1]; exact Nat.le_of_ble_eq_true rfl) ?_
  rintro X G s0 vs ⟨rfl, hG, hS0, ha, hx1⟩ rfl hx hq
  show JJ X E 3 G s0 0 0 [(0, .ref a), (1, .int (zI x1))] 0 []
  refine j_iconst hx dX6_openFirst_0 ?_
  refine j_istore_n hx [(2, .int (zI 0)), (0, .ref a), (1, .int (zI x1))] dX6_openFirst_1 (by decide) rfl ?_
  have c2_1 : ∀ (m_c2_1 : Nat) (v1 : Int) (s2 : zS), 2147483648 - v1 < m_c2_1 → (0 ≤ v1 ∧ v1 ≤ 60) → (zSK G s2) → (zFr [41] G s0 s2) → JJ X E 3 G s2 0 0 [(0, .ref a), (1, .int (zI x1)), (2, .int (zI v1))] 2 [] := by
    intro m_c2_1
    induction m_c2_1 with
    | zero => intro v1 s2 hm_c2_1 fA3 hS_s2 hF_s2; exfalso; omega
    | succ m_c2_1 ih_c2_1 => 
      intro v1 s2 hm_c2_1 fA3 hS_s2 hF_s2
      refine j_iload_n hx 2 dX6_openFirst_2 rfl ?_
      refine j_iload_n hx 1 dX6_openFirst_3 rfl ?_
      refine j_icmp_ge hx 40 dX6_openFirst_4 rfl (by omega) (by omega) (fun h2 => ?_) (fun h2 => ?_)
      · skip
        exact j_vret hx hq rfl (by decide) (by decide) dX6_openFirst_40 ⟨rfl, rfl, hS_s2, (zFr_t zFr_rf hF_s2 (by decide)), trivial⟩
      · skip
        refine j_iload_n hx 2 dX6_openFirst_7 rfl ?_
        refine j_aload_n hx 0 dX6_openFirst_8 rfl ?_
        have f3 := zf hS0 ha (k := 1) rfl
        refine g7_1 hx hG ha kf_RX6_15 (v := (s0 a 1)) (by rw [(zFr_g hF_s2 ha (by decide))]) dX6_openFirst_9 ?_
        refine j_icmp_ge hx 40 dX6_openFirst_12 rfl (by omega) (by omega) (fun h4 => ?_) (fun h4 => ?_)
        · skip
          exact j_vret hx hq rfl (by decide) (by decide) dX6_openFirst_40 ⟨rfl, rfl, hS_s2, (zFr_t zFr_rf hF_s2 (by decide)), trivial⟩
        · skip
          refine j_iload_n hx 2 dX6_openFirst_15 rfl ?_
          refine j_aload_n hx 0 dX6_openFirst_16 rfl ?_
          refine g7_0 hx hG ha kf_RX6_9 dX6_openFirst_17 ?_
          refine j_alen hx hG (zr (k := 0) (t2 := 41) hG ha rfl) (by decide) (by decide) (zlen hG (zr (k := 0) (t2 := 41) hG ha rfl) (n := 60) rfl rfl) dX6_openFirst_20 ?_
          refine j_icmp_ge hx 40 dX6_openFirst_21 rfl (by omega) ⟨by decide, by decide⟩ (fun h5 => absurd h5 (by omega)) (fun h5 => ?_)
          refine j_aload_n hx 0 dX6_openFirst_24 rfl ?_
          refine g7_0 hx hG ha kf_RX6_9 dX6_openFirst_25 ?_
          refine j_iload_n hx 2 dX6_openFirst_28 rfl ?_
          refine j_dup2 hx dX6_openFirst_29 rfl rfl ?_
          have f6 := zaI (j := (v1).toNat) hS_s2 (zr (k := 0) (t2 := 41) hG ha rfl) rfl (zlen hG (zr (k := 0) (t2 := 41) hG ha rfl) (n := 60) rfl rfl) (show 0 ≤ v1 by omega) (by omega) rfl
          refine j_iald hx hG (zr (k := 0) (t2 := 41) hG ha rfl) (by decide) rfl (zlen hG (zr (k := 0) (t2 := 41) hG ha rfl) (n := 60) rfl rfl) (by omega) (by omega) (j := (v1).toNat) rfl rfl dX6_openFirst_30 ?_
          refine j_iconst hx dX6_openFirst_31 ?_
          refine j_ior hx dX6_openFirst_32 (fun v7 f8 f9 => ?_)
          refine j_iast hx hG (zr (k := 0) (t2 := 41) hG ha rfl) (by decide) rfl (zlen hG (zr (k := 0) (t2 := 41) hG ha rfl) (n := 60) rfl rfl) (by omega) (by omega) (j := (v1).toNat) rfl dX6_openFirst_33 ?_
          obtain ⟨s6, e_s6⟩ : ∃ z, z = zU s2 (gP G a 0) (v1).toNat v7 := ⟨_, rfl⟩
          rw [← e_s6]
          have hS_s6 : zSK G s6 := by rw [e_s6]; exact zSK_A hS_s2 (zr (k := 0) (t2 := 41) hG ha rfl) rfl rfl rfl (by omega)
          refine j_iinc hx 2 [(2, .int (zI (v1 + 1))), (0, .ref a), (1, .int (zI x1))] dX6_openFirst_34 rfl (by omega) (by decide) rfl ?_
          refine j_goto hx 2 dX6_openFirst_37 rfl ?_
          exact j_sub [1, 2, 0] [(0, .ref a), (1, .int (zI x1)), (2, .int (zI (v1 + 1)))] rfl (ih_c2_1 (v1 + 1) s6 (by omega) (by omega) hS_s6 (zFr_u (zFr_t zFr_rf hF_s2 (by decide)) e_s6 (zr (k := 0) (t2 := 41) hG ha rfl) (by decide)))
  exact j_sub [1, 2, 0] [(0, .ref a), (1, .int (zI x1)), (2, .int (zI 0))] rfl (c2_1 (2147483648 * 4) 0 s0 (by omega) (by omega) hS0 zFr_rf)

theorem lk_RX8_75 : LkV RX8 75 RX9 yX9_takeWord cX9_takeWord 3 (some .boolean) 1 := ⟨km_RX8_75, ki_yX9_takeWord, ks_RX9_yX9_takeWord, kn_RX9, kc_yX9_takeWord, rfl, by decide +kernel, by decide +kernel, by decide +kernel⟩
set_option maxHeartbeats 4000000 in
set_option maxRecDepth 20000 in
theorem c_X8_readLaw {E : zE} {l : Launch} (hst : l.stackTraces = false) (a : Nat) (b1 : Nat) (x2 : Int) : Con E l yX8_readLaw cX8_readLaw 4 none { frames := 6, cells := 0, slots := 0, locals := 203 } (fun G s vs => vs = [.ref a, .ref b1, .int (zI x2)] ∧ zGK G ∧ zSK G s ∧ (gT G a = 9) ∧ (gT G b1 = 10) ∧ (0 ≤ x2 ∧ x2 ≤ 1)) (fun G s _ => pV (fun G2 s2 => G2 = G ∧ zSK G s2 ∧ zFr [10, 44] G s s2 ∧ True)) := by
  refine Con.mk hst (by decide) (fun G s vs h => by rw [h.1]; exact Nat.le_of_ble_eq_true rfl) ?_
  rintro X G s0 vs ⟨rfl, hG, hS0, ha, hb1, hx2⟩ rfl hx hq
  show JJ X E 4 G s0 0 0 [(0, .ref a), (1, .ref b1), (2, .int (zI x2))] 0 []
  refine j_aload_n hx 1 dX8_readLaw_0 rfl ?_
  have f1 := zf hS0 hb1 (k := 3) rfl
  refine gN10_3 hx hG hb1 kf_RX8_70 rfl dX8_readLaw_1 ?_
  refine j_istore_n hx [(3, .int (zI ((s0 b1 3)))), (0, .ref a), (1, .ref b1), (2, .int (zI x2))] dX8_readLaw_4 (by decide) rfl ?_
  refine j_aload_n hx 2 dX8_readLaw_5 rfl ?_
  refine j_ldcT hx (i := 5) 5 (by decide) rfl rfl rfl dX8_readLaw_6 ?_
  refine j_callV hx hG (c_X9_takeWord hst b1 5) lk_RX8_75 hb1 (by decide) rfl rfl rfl rfl [.ref (zTa E 5)] ⟨rfl, hG, hS0, hb1, (by decide)⟩ rfl rfl ⟨by decide, by decide⟩ ⟨by decide, by decide⟩ (k2 := 0) (n2 := 0) rfl rfl (Nat.le_of_ble_eq_true rfl) dX8_readLaw_8 (kIM (fun v2 s1 hS_s1 hF_s1 q3 => ?_))
  refine j_if_eq hx 36 dX8_readLaw_11 rfl (by omega) (fun h4 => ?_) (fun h4 => ?_)
  · skip
    refine j_aload_n hx 2 dX8_readLaw_36 rfl ?_
    refine j_ldcT hx (i := 6) 6 (by decide) rfl rfl rfl dX8_readLaw_37 ?_
    refine j_callV hx hG (c_X9_takeWord hst b1 6) lk_RX8_75 hb1 (by decide) rfl rfl rfl rfl [.ref (zTa E 6)] ⟨rfl, hG, hS_s1, hb1, (by decide)⟩ rfl rfl ⟨by decide, by decide⟩ ⟨by decide, by decide⟩ (k2 := 0) (n2 := 0) rfl rfl (Nat.le_of_ble_eq_true rfl) dX8_readLaw_39 (kIM (fun v5 s2 hS_s2 hF_s2 q6 => ?_))
    refine j_if_eq hx 67 dX8_readLaw_42 rfl (by omega) (fun h7 => ?_) (fun h7 => ?_)
    · skip
      refine j_aload_n hx 2 dX8_readLaw_67 rfl ?_
      refine j_ldcT hx (i := 7) 7 (by decide) rfl rfl rfl dX8_readLaw_68 ?_
      refine j_callV hx hG (c_X9_takeWord hst b1 7) lk_RX8_75 hb1 (by decide) rfl rfl rfl rfl [.ref (zTa E 7)] ⟨rfl, hG, hS_s2, hb1, (by decide)⟩ rfl rfl ⟨by decide, by decide⟩ ⟨by decide, by decide⟩ (k2 := 0) (n2 := 0) rfl rfl (Nat.le_of_ble_eq_true rfl) dX8_readLaw_70 (kIM (fun v8 s3 hS_s3 hF_s3 q9 => ?_))
      refine j_if_eq hx 98 dX8_readLaw_73 rfl (by omega) (fun h10 => ?_) (fun h10 => ?_)
      · skip
        refine j_aload_n hx 2 dX8_readLaw_98 rfl ?_
        refine j_iconst hx dX8_readLaw_99 ?_
        refine j_callV hx hG (c_X9_fail hst b1 1) lk_RX8_65 hb1 (by decide) rfl rfl rfl rfl [.int (zI 1)] ⟨rfl, hG, hS_s3, hb1, (by omega)⟩ rfl rfl ⟨by decide, by decide⟩ ⟨by decide, by decide⟩ (k2 := 0) (n2 := 0) rfl rfl (Nat.le_of_ble_eq_true rfl) dX8_readLaw_100 (kVM (fun s4 hS_s4 hF_s4 q12 => ?_))
        exact j_vret hx hq rfl (by decide) (by decide) dX8_readLaw_103 ⟨rfl, rfl, hS_s4, (zFr_t (zFr_t (zFr_t (zFr_t zFr_rf hF_s1 (by decide)) hF_s2 (by decide)) hF_s3 (by decide)) hF_s4 (by decide)), trivial⟩
      · skip
        refine j_aload_n hx 2 dX8_readLaw_76 rfl ?_
        refine j_iload_n hx 3 dX8_readLaw_77 rfl ?_
        refine j_iconst hx dX8_readLaw_78 ?_
        refine j_iload_n hx 0 dX8_readLaw_79 rfl ?_
        refine j_callV hx hG (c_X9_failIf hst b1 x2 3 ((s0 b1 3))) lk_RX8_79 hb1 (by decide) rfl rfl rfl rfl [.int (zI x2), .int (zI 3), .int (zI ((s0 b1 3)))] ⟨rfl, hG, hS_s3, hb1, (by omega), (by omega), (by omega)⟩ rfl rfl ⟨by decide, by decide⟩ ⟨by decide, by decide⟩ (k2 := 0) (n2 := 0) rfl rfl (Nat.le_of_ble_eq_true rfl) dX8_readLaw_80 (kVM (fun s5 hS_s5 hF_s5 q14 => ?_))
        refine j_aload_n hx 1 dX8_readLaw_83 rfl ?_
        refine g9_2 hx hG ha kf_RX8_18 dX8_readLaw_84 ?_
        refine j_iconst hx dX8_readLaw_87 ?_
        refine j_aload_n hx 2 dX8_readLaw_88 rfl ?_
        refine j_iconst hx dX8_readLaw_89 ?_
        refine j_iconst hx dX8_readLaw_90 ?_
        refine j_callV hx hG (c_X9_takeNumber hst b1 0 2) lk_RX8_99 hb1 (by decide) rfl rfl rfl rfl [.int (zI 0), .int (zI 2)] ⟨rfl, hG, hS_s5, hb1, (by omega), (by omega)⟩ rfl rfl ⟨by decide, by decide⟩ ⟨by decide, by decide⟩ (k2 := 0) (n2 := 0) rfl rfl (Nat.le_of_ble_eq_true rfl) dX8_readLaw_91 (kIM (fun v15 s6 hS_s6 hF_s6 q16 => ?_))
        refine j_iast hx hG (zr (k := 2) (t2 := 44) hG ha rfl) (by decide) rfl (zlen hG (zr (k := 2) (t2 := 44) hG ha rfl) (n := 3) rfl rfl) (by omega) (by omega) (j := 2) rfl dX8_readLaw_94 ?_
        obtain ⟨s7, e_s7⟩ : ∃ z, z = zU s6 (gP G a 2) 2 v15 := ⟨_, rfl⟩
        rw [← e_s7]
        have hS_s7 : zSK G s7 := by rw [e_s7]; exact zSK_A hS_s6 (zr (k := 2) (t2 := 44) hG ha rfl) rfl rfl rfl (by omega)
        refine j_goto hx 103 dX8_readLaw_95 rfl ?_
        exact j_vret hx hq rfl (by decide) (by decide) dX8_readLaw_103 ⟨rfl, rfl, hS_s7, (zFr_u (zFr_t (zFr_t (zFr_t (zFr_t (zFr_t zFr_rf hF_s1 (by decide)) hF_s2 (by decide)) hF_s3 (by decide)) hF_s5 (by decide)) hF_s6 (by decide)) e_s7 (zr (k := 2) (t2 := 44) hG ha rfl) (by decide)), trivial⟩
    · skip
      refine j_aload_n hx 2 dX8_readLaw_45 rfl ?_
      refine j_iload_n hx 3 dX8_readLaw_46 rfl ?_
      refine j_iconst hx dX8_readLaw_47 ?_
      refine j_iload_n hx 0 dX8_readLaw_48 rfl ?_
      refine j_callV hx hG (c_X9_failIf hst b1 x2 3 ((s0 b1 3))) lk_RX8_79 hb1 (by decide) rfl rfl rfl rfl [.int (zI x2), .int (zI 3), .int (zI ((s0 b1 3)))] ⟨rfl, hG, hS_s2, hb1, (by omega), (by omega), (by omega)⟩ rfl rfl ⟨by decide, by decide⟩ ⟨by decide, by decide⟩ (k2 := 0) (n2 := 0) rfl rfl (Nat.le_of_ble_eq_true rfl) dX8_readLaw_49 (kVM (fun s8 hS_s8 hF_s8 q18 => ?_))
      refine j_aload_n hx 1 dX8_readLaw_52 rfl ?_
      refine g9_2 hx hG ha kf_RX8_18 dX8_readLaw_53 ?_
      refine j_iconst hx dX8_readLaw_56 ?_
      refine j_aload_n hx 2 dX8_readLaw_57 rfl ?_
      refine j_iconst hx dX8_readLaw_58 ?_
      refine j_iconst hx dX8_readLaw_59 ?_
      refine j_callV hx hG (c_X9_takeNumber hst b1 0 2) lk_RX8_99 hb1 (by decide) rfl rfl rfl rfl [.int (zI 0), .int (zI 2)] ⟨rfl, hG, hS_s8, hb1, (by omega), (by omega)⟩ rfl rfl ⟨by decide, by decide⟩ ⟨by decide, by decide⟩ (k2 := 0) (n2 := 0) rfl rfl (Nat.le_of_ble_eq_true rfl) dX8_readLaw_60 (kIM (fun v19 s9 hS_s9 hF_s9 q20 => ?_))
      refine j_iast hx hG (zr (k := 2) (t2 := 44) hG ha rfl) (by decide) rfl (zlen hG (zr (k := 2) (t2 := 44) hG ha rfl) (n := 3) rfl rfl) (by omega) (by omega) (j := 1) rfl dX8_readLaw_63 ?_
      obtain ⟨s10, e_s10⟩ : ∃ z, z = zU s9 (gP G a 2) 1 v19 := ⟨_, rfl⟩
      rw [← e_s10]
      have hS_s10 : zSK G s10 := by rw [e_s10]; exact zSK_A hS_s9 (zr (k := 2) (t2 := 44) hG ha rfl) rfl rfl rfl (by omega)
      refine j_goto hx 103 dX8_readLaw_64 rfl ?_
      exact j_vret hx hq rfl (by decide) (by decide) dX8_readLaw_103 ⟨rfl, rfl, hS_s10, (zFr_u (zFr_t (zFr_t (zFr_t (zFr_t zFr_rf hF_s1 (by decide)) hF_s2 (by decide)) hF_s8 (by decide)) hF_s9 (by decide)) e_s10 (zr (k := 2) (t2 := 44) hG ha rfl) (by decide)), trivial⟩
  · skip
    refine j_aload_n hx 2 dX8_readLaw_14 rfl ?_
    refine j_iload_n hx 3 dX8_readLaw_15 rfl ?_
    refine j_iconst hx dX8_readLaw_16 ?_
    refine j_iload_n hx 0 dX8_readLaw_17 rfl ?_
    refine j_callV hx hG (c_X9_failIf hst b1 x2 3 ((s0 b1 3))) lk_RX8_79 hb1 (by decide) rfl rfl rfl rfl [.int (zI x2), .int (zI 3), .int (zI ((s0 b1 3)))] ⟨rfl, hG, hS_s1, hb1, (by omega), (by omega), (by omega)⟩ rfl rfl ⟨by decide, by decide⟩ ⟨by decide, by decide⟩ (k2 := 0) (n2 := 0) rfl rfl (Nat.le_of_ble_eq_true rfl) dX8_readLaw_18 (kVM (fun s11 hS_s11 hF_s11 q22 => ?_))
    refine j_aload_n hx 1 dX8_readLaw_21 rfl ?_
    refine g9_2 hx hG ha kf_RX8_18 dX8_readLaw_22 ?_
    refine j_iconst hx dX8_readLaw_25 ?_
    refine j_aload_n hx 2 dX8_readLaw_26 rfl ?_
    refine j_iconst hx dX8_readLaw_27 ?_
    refine j_iconst hx dX8_readLaw_28 ?_
    refine j_callV hx hG (c_X9_takeNumber hst b1 0 2) lk_RX8_99 hb1 (by decide) rfl rfl rfl rfl [.int (zI 0), .int (zI 2)] ⟨rfl, hG, hS_s11, hb1, (by omega), (by omega)⟩ rfl rfl ⟨by decide, by decide⟩ ⟨by decide, by decide⟩ (k2 := 0) (n2 := 0) rfl rfl (Nat.le_of_ble_eq_true rfl) dX8_readLaw_29 (kIM (fun v23 s12 hS_s12 hF_s12 q24 => ?_))
    refine j_iast hx hG (zr (k := 2) (t2 := 44) hG ha rfl) (by decide) rfl (zlen hG (zr (k := 2) (t2 := 44) hG ha rfl) (n := 3) rfl rfl) (by omega) (by omega) (j := 0) rfl dX8_readLaw_32 ?_
    obtain ⟨s13, e_s13⟩ : ∃ z, z = zU s12 (gP G a 2) 0 v23 := ⟨_, rfl⟩
    rw [← e_s13]
    have hS_s13 : zSK G s13 := by rw [e_s13]; exact zSK_A hS_s12 (zr (k := 2) (t2 := 44) hG ha rfl) rfl rfl rfl (by omega)
    refine j_goto hx 103 dX8_readLaw_33 rfl ?_
    exact j_vret hx hq rfl (by decide) (by decide) dX8_readLaw_103 ⟨rfl, rfl, hS_s13, (zFr_u (zFr_t (zFr_t (zFr_t zFr_rf hF_s1 (by decide)) hF_s11 (by decide)) hF_s12 (by decide)) e_s13 (zr (k := 2) (t2 := 44) hG ha rfl) (by decide)), trivial⟩

set_option maxHeartbeats 4000000 in
set_option maxRecDepth 20000 in
theorem c_X9_needSign {E : zE} {l : Launch} (hst : l.stackTraces = false) (a : Nat) (x1 : Int) : Con E l yX9_needSign cX9_needSign 3 none { frames := 1, cells := 0, slots := 0, locals := 23 } (fun G s vs => vs = [.ref a, .int (zI x1)] ∧ zGK G ∧ zSK G s ∧ (gT G a = 10) ∧ (0 ≤ x1 ∧ x1 ≤ 65535)) (fun G s _ => pV (fun G2 s2 => G2 = G ∧ zSK G s2 ∧ zFr [10] G s s2 ∧ True)) := by
  refine Con.mk hst (by decide) (fun G s vs h => by rw [h.1]; exact Nat.le_of_ble_eq_true rfl) ?_
  rintro X G s0 vs ⟨rfl, hG, hS0, ha, hx1⟩ rfl hx hq
  show JJ X E 3 G s0 0 0 [(0, .ref a), (1, .int (zI x1))] 0 []
  refine j_aload_n hx 0 dX9_needSign_0 rfl ?_
  refine j_callV hx hG (c_X9_peek hst a) lk_RX9_49 ha (by decide) rfl rfl rfl rfl [] ⟨rfl, hG, hS0, ha⟩ rfl rfl ⟨by decide, by decide⟩ ⟨by decide, by decide⟩ (k2 := 0) (n2 := 0) rfl rfl (Nat.le_of_ble_eq_true rfl) dX9_needSign_1 (kIM (fun v1 s1 hS_s1 hF_s1 q2 => ?_))
  refine j_iload_n hx 1 dX9_needSign_4 rfl ?_
  have c13_2 : ∀ (v3 : Int), (0 ≤ v3 ∧ v3 ≤ 1) → JJ X E 3 G s1 0 0 [(0, .ref a)] 13 [.int (zI v3)] := by
    intro v3 fA3
    refine j_istore_n hx [(2, .int (zI v3)), (0, .ref a)] dX9_needSign_13 (by decide) rfl ?_
    refine j_aload_n hx 1 dX9_needSign_14 rfl ?_
    refine j_iload_n hx 0 dX9_needSign_15 rfl ?_
    have c24_4 : ∀ (v4 : Int), (0 ≤ v4 ∧ v4 ≤ 1) → JJ X E 3 G s1 0 0 [(0, .ref a), (2, .int (zI v3))] 24 [.int (zI v4), .ref a] := by
      intro v4 fA5
      refine j_iconst hx dX9_needSign_24 ?_
      refine j_aload_n hx 0 dX9_needSign_25 rfl ?_
      have f5 := zf hS_s1 ha (k := 3) rfl
      refine g10_3 hx hG ha kf_RX9_31 rfl dX9_needSign_26 ?_
      refine j_callV hx hG (c_X9_failIf hst a v4 1 ((s1 a 3))) lk_RX9_37 ha (by decide) rfl rfl rfl rfl [.int (zI v4), .int (zI 1), .int (zI ((s1 a 3)))] ⟨rfl, hG, hS_s1, ha, (by omega), (by omega), (by omega)⟩ rfl rfl ⟨by decide, by decide⟩ ⟨by decide, by decide⟩ (k2 := 0) (n2 := 0) rfl rfl (Nat.le_of_ble_eq_true rfl) dX9_needSign_29 (kVM (fun s6 hS_s6 hF_s6 q7 => ?_))
      refine j_aload_n hx 0 dX9_needSign_32 rfl ?_
      refine j_dup hx dX9_needSign_33 rfl ?_
      have f8 := zf hS_s6 ha (k := 3) rfl
      refine g10_3 hx hG ha kf_RX9_31 rfl dX9_needSign_34 ?_
      refine j_iload_n hx 1 dX9_needSign_37 rfl ?_
      refine j_if_eq hx 45 dX9_needSign_38 rfl (by omega) (fun h9 => ?_) (fun h9 => ?_)
      · skip
        refine j_iconst hx dX9_needSign_45 ?_
        refine j_iadd hx (r := (s6 a 3)) dX9_needSign_46 (by omega) ?_
        refine p10_3 hx hG ha kf_RX9_31 dX9_needSign_47 ?_
        obtain ⟨s7, e_s7⟩ : ∃ z, z = zU s6 a 3 ((s6 a 3)) := ⟨_, rfl⟩
        rw [← e_s7]
        have hS_s7 : zSK G s7 := by rw [e_s7]; exact zSK_F hS_s6 ha rfl rfl rfl (by omega)
        exact j_vret hx hq rfl (by decide) (by decide) dX9_needSign_50 ⟨rfl, rfl, hS_s7, (zFr_u (zFr_t (zFr_t zFr_rf hF_s1 (by decide)) hF_s6 (by decide)) e_s7 ha (by decide)), trivial⟩
      · skip
        refine j_iconst hx dX9_needSign_41 ?_
        refine j_goto hx 46 dX9_needSign_42 rfl ?_
        refine j_iadd hx (r := (s6 a 3) + 1) dX9_needSign_46 (by omega) ?_
        refine j_norm (fun v10 f11 f12 f13 => ?_)
        refine p10_3 hx hG ha kf_RX9_31 dX9_needSign_47 ?_
        obtain ⟨s8, e_s8⟩ : ∃ z, z = zU s6 a 3 v10 := ⟨_, rfl⟩
        rw [← e_s8]
        have hS_s8 : zSK G s8 := by rw [e_s8]; exact zSK_F hS_s6 ha rfl rfl rfl (by omega)
        exact j_vret hx hq rfl (by decide) (by decide) dX9_needSign_50 ⟨rfl, rfl, hS_s8, (zFr_u (zFr_t (zFr_t zFr_rf hF_s1 (by decide)) hF_s6 (by decide)) e_s8 ha (by decide)), trivial⟩
    refine j_if_ne hx 23 dX9_needSign_16 rfl (by omega) (fun h14 => ?_) (fun h14 => ?_)
    · skip
      refine j_iconst hx dX9_needSign_23 ?_
      exact j_sub [1, 0] [(0, .ref a), (2, .int (zI v3))] rfl (c24_4 0 (by omega))
    · skip
      refine j_iconst hx dX9_needSign_19 ?_
      refine j_goto hx 24 dX9_needSign_20 rfl ?_
      exact j_sub [1, 0] [(0, .ref a), (2, .int (zI v3))] rfl (c24_4 1 (by omega))
  refine j_icmp_ne hx 12 dX9_needSign_5 rfl (by omega) (by omega) (fun h15 => ?_) (fun h15 => ?_)
  · skip
    refine j_iconst hx dX9_needSign_12 ?_
    exact j_sub [0] [(0, .ref a)] rfl (c13_2 0 (by omega))
  · skip
    refine j_iconst hx dX9_needSign_8 ?_
    refine j_goto hx 13 dX9_needSign_9 rfl ?_
    exact j_sub [0] [(0, .ref a)] rfl (c13_2 1 (by omega))

theorem lk_RX8_120 : LkV RX8 120 RX8 yX8_readLaw cX8_readLaw 4 none 2 := ⟨km_RX8_120, ki_yX8_readLaw, ks_RX8_yX8_readLaw, kn_RX8, kc_yX8_readLaw, rfl, by decide +kernel, by decide +kernel, by decide +kernel⟩
theorem lk_RX8_123 : LkV RX8 123 RX9 yX9_needSign cX9_needSign 3 none 1 := ⟨km_RX8_123, ki_yX9_needSign, ks_RX9_yX9_needSign, kn_RX9, kc_yX9_needSign, rfl, by decide +kernel, by decide +kernel, by decide +kernel⟩
theorem lk_RX8_117 : LkV RX8 117 RX6 yX6_openFirst cX6_openFirst 3 none 1 := ⟨km_RX8_117, ki_yX6_openFirst, ks_RX6_yX6_openFirst, kn_RX6, kc_yX6_openFirst, rfl, by decide +kernel, by decide +kernel, by decide +kernel⟩
theorem lk_RX8_94 : LkV RX8 94 RX8 yX8_readCards cX8_readCards 5 none 1 := ⟨km_RX8_94, ki_yX8_readCards, ks_RX8_yX8_readCards, kn_RX8, kc_yX8_readCards, rfl, by decide +kernel, by decide +kernel, by decide +kernel⟩
theorem lk_RX8_89 : LkV RX8 89 RX8 yX8_readMoment cX8_readMoment 3 none 1 := ⟨km_RX8_89, ki_yX8_readMoment, ks_RX8_yX8_readMoment, kn_RX8, kc_yX8_readMoment, rfl, by decide +kernel, by decide +kernel, by decide +kernel⟩
theorem lk_RX8_83 : LkV RX8 83 RX8 yX8_readPlayer cX8_readPlayer 3 none 1 := ⟨km_RX8_83, ki_yX8_readPlayer, ks_RX8_yX8_readPlayer, kn_RX8, kc_yX8_readPlayer, rfl, by decide +kernel, by decide +kernel, by decide +kernel⟩
set_option maxHeartbeats 4000000 in
set_option maxRecDepth 20000 in
theorem c_X8_readClause {E : zE} {l : Launch} (hst : l.stackTraces = false) (a : Nat) (b1 : Nat) (x2 : Int) : Con E l yX8_readClause cX8_readClause 5 none { frames := 7, cells := 0, slots := 0, locals := 226 } (fun G s vs => vs = [.ref a, .ref b1, .int (zI x2)] ∧ zGK G ∧ zSK G s ∧ (gT G a = 9) ∧ (gT G b1 = 10) ∧ (0 ≤ x2 ∧ x2 ≤ 1)) (fun G s _ => pV (fun G2 s2 => G2 = G ∧ zSK G s2 ∧ zFr [7, 9, 10, 41, 42, 43, 44] G s s2 ∧ True)) := by
  refine Con.mk hst (by decide) (fun G s vs h => by rw [h.1]; exact Nat.le_of_ble_eq_true rfl) ?_
  rintro X G s0 vs ⟨rfl, hG, hS0, ha, hb1, hx2⟩ rfl hx hq
  show JJ X E 5 G s0 0 0 [(0, .ref a), (1, .ref b1), (2, .int (zI x2))] 0 []
  refine j_aload_n hx 1 dX8_readClause_0 rfl ?_
  have f1 := zf hS0 hb1 (k := 3) rfl
  refine gN10_3 hx hG hb1 kf_RX8_70 rfl dX8_readClause_1 ?_
  refine j_istore_n hx [(3, .int (zI ((s0 b1 3)))), (0, .ref a), (1, .ref b1), (2, .int (zI x2))] dX8_readClause_4 (by decide) rfl ?_
  refine j_aload_n hx 2 dX8_readClause_5 rfl ?_
  refine j_ldcT hx (i := 0) 0 (by decide) rfl rfl rfl dX8_readClause_6 ?_
  refine j_callV hx hG (c_X9_takeWord hst b1 0) lk_RX8_75 hb1 (by decide) rfl rfl rfl rfl [.ref (zTa E 0)] ⟨rfl, hG, hS0, hb1, (by decide)⟩ rfl rfl ⟨by decide, by decide⟩ ⟨by decide, by decide⟩ (k2 := 0) (n2 := 0) rfl rfl (Nat.le_of_ble_eq_true rfl) dX8_readClause_8 (kIM (fun v2 s1 hS_s1 hF_s1 q3 => ?_))
  refine j_if_eq hx 45 dX8_readClause_11 rfl (by omega) (fun h4 => ?_) (fun h4 => ?_)
  · skip
    refine j_aload_n hx 2 dX8_readClause_45 rfl ?_
    refine j_ldcT hx (i := 1) 1 (by decide) rfl rfl rfl dX8_readClause_46 ?_
    refine j_callV hx hG (c_X9_takeWord hst b1 1) lk_RX8_75 hb1 (by decide) rfl rfl rfl rfl [.ref (zTa E 1)] ⟨rfl, hG, hS_s1, hb1, (by decide)⟩ rfl rfl ⟨by decide, by decide⟩ ⟨by decide, by decide⟩ (k2 := 0) (n2 := 0) rfl rfl (Nat.le_of_ble_eq_true rfl) dX8_readClause_48 (kIM (fun v5 s2 hS_s2 hF_s2 q6 => ?_))
    refine j_if_eq hx 86 dX8_readClause_51 rfl (by omega) (fun h7 => ?_) (fun h7 => ?_)
    · skip
      refine j_aload_n hx 2 dX8_readClause_86 rfl ?_
      refine j_ldcT hx (i := 2) 2 (by decide) rfl rfl rfl dX8_readClause_87 ?_
      refine j_callV hx hG (c_X9_takeWord hst b1 2) lk_RX8_75 hb1 (by decide) rfl rfl rfl rfl [.ref (zTa E 2)] ⟨rfl, hG, hS_s2, hb1, (by decide)⟩ rfl rfl ⟨by decide, by decide⟩ ⟨by decide, by decide⟩ (k2 := 0) (n2 := 0) rfl rfl (Nat.le_of_ble_eq_true rfl) dX8_readClause_89 (kIM (fun v8 s3 hS_s3 hF_s3 q9 => ?_))
      refine j_if_eq hx 110 dX8_readClause_92 rfl (by omega) (fun h10 => ?_) (fun h10 => ?_)
      · skip
        refine j_aload_n hx 2 dX8_readClause_110 rfl ?_
        refine j_ldcT hx (i := 3) 3 (by decide) rfl rfl rfl dX8_readClause_111 ?_
        refine j_callV hx hG (c_X9_takeWord hst b1 3) lk_RX8_75 hb1 (by decide) rfl rfl rfl rfl [.ref (zTa E 3)] ⟨rfl, hG, hS_s3, hb1, (by decide)⟩ rfl rfl ⟨by decide, by decide⟩ ⟨by decide, by decide⟩ (k2 := 0) (n2 := 0) rfl rfl (Nat.le_of_ble_eq_true rfl) dX8_readClause_113 (kIM (fun v11 s4 hS_s4 hF_s4 q12 => ?_))
        refine j_if_eq hx 156 dX8_readClause_116 rfl (by omega) (fun h13 => ?_) (fun h13 => ?_)
        · skip
          refine j_aload_n hx 2 dX8_readClause_156 rfl ?_
          refine j_ldcT hx (i := 4) 4 (by decide) rfl rfl rfl dX8_readClause_157 ?_
          refine j_callV hx hG (c_X9_takeWord hst b1 4) lk_RX8_75 hb1 (by decide) rfl rfl rfl rfl [.ref (zTa E 4)] ⟨rfl, hG, hS_s4, hb1, (by decide)⟩ rfl rfl ⟨by decide, by decide⟩ ⟨by decide, by decide⟩ (k2 := 0) (n2 := 0) rfl rfl (Nat.le_of_ble_eq_true rfl) dX8_readClause_159 (kIM (fun v14 s5 hS_s5 hF_s5 q15 => ?_))
          refine j_if_eq hx 210 dX8_readClause_162 rfl (by omega) (fun h16 => ?_) (fun h16 => ?_)
          · skip
            refine j_aload_n hx 1 dX8_readClause_210 rfl ?_
            refine j_aload_n hx 2 dX8_readClause_211 rfl ?_
            refine j_iload_n hx 3 dX8_readClause_212 rfl ?_
            refine j_callV hx hG (c_X8_readLaw hst a b1 x2) lk_RX8_120 ha (by decide) rfl rfl rfl rfl [.ref b1, .int (zI x2)] ⟨rfl, hG, hS_s5, ha, hb1, (by omega)⟩ rfl rfl ⟨by decide, by decide⟩ ⟨by decide, by decide⟩ (k2 := 0) (n2 := 0) rfl rfl (Nat.le_of_ble_eq_true rfl) dX8_readClause_213 (kVM (fun s6 hS_s6 hF_s6 q18 => ?_))
            refine j_aload_n hx 2 dX8_readClause_216 rfl ?_
            refine j_bipush hx dX8_readClause_217 rfl ?_
            refine j_callV hx hG (c_X9_needSign hst b1 59) lk_RX8_123 hb1 (by decide) rfl rfl rfl rfl [.int (zI 59)] ⟨rfl, hG, hS_s6, hb1, (by omega)⟩ rfl rfl ⟨by decide, by decide⟩ ⟨by decide, by decide⟩ (k2 := 0) (n2 := 0) rfl rfl (Nat.le_of_ble_eq_true rfl) dX8_readClause_219 (kVM (fun s7 hS_s7 hF_s7 q20 => ?_))
            exact j_vret hx hq rfl (by decide) (by decide) dX8_readClause_222 ⟨rfl, rfl, hS_s7, (zFr_t (zFr_t (zFr_t (zFr_t (zFr_t (zFr_t (zFr_t zFr_rf hF_s1 (by decide)) hF_s2 (by decide)) hF_s3 (by decide)) hF_s4 (by decide)) hF_s5 (by decide)) hF_s6 (by decide)) hF_s7 (by decide)), trivial⟩
          · skip
            refine j_aload_n hx 2 dX8_readClause_165 rfl ?_
            refine j_iload_n hx 3 dX8_readClause_166 rfl ?_
            refine j_iconst hx dX8_readClause_167 ?_
            refine j_iload_n hx 0 dX8_readClause_168 rfl ?_
            refine j_callV hx hG (c_X9_failIf hst b1 x2 3 ((s0 b1 3))) lk_RX8_79 hb1 (by decide) rfl rfl rfl rfl [.int (zI x2), .int (zI 3), .int (zI ((s0 b1 3)))] ⟨rfl, hG, hS_s5, hb1, (by omega), (by omega), (by omega)⟩ rfl rfl ⟨by decide, by decide⟩ ⟨by decide, by decide⟩ (k2 := 0) (n2 := 0) rfl rfl (Nat.le_of_ble_eq_true rfl) dX8_readClause_169 (kVM (fun s8 hS_s8 hF_s8 q22 => ?_))
            refine j_aload_n hx 1 dX8_readClause_172 rfl ?_
            refine g9_3 hx hG ha kf_RX8_24 dX8_readClause_173 ?_
            refine j_aload_n hx 2 dX8_readClause_176 rfl ?_
            refine j_iconst hx dX8_readClause_177 ?_
            refine j_aload_n hx 1 dX8_readClause_178 rfl ?_
            have f23 := zf hS0 ha (k := 4) rfl
            refine g9_4 hx hG ha kf_RX8_28 (v := (s0 a 4)) (by rw [(zFr_g hF_s8 ha (by decide)), (zFr_g hF_s5 ha (by decide)), (zFr_g hF_s4 ha (by decide)), (zFr_g hF_s3 ha (by decide)), (zFr_g hF_s2 ha (by decide)), (zFr_g hF_s1 ha (by decide))]) dX8_readClause_179 ?_
            refine j_iconst hx dX8_readClause_182 ?_
            refine j_isub hx (r := (s0 a 4) - 1) dX8_readClause_183 (by omega) ?_
            refine j_callV hx hG (c_X9_takeNumber hst b1 0 ((s0 a 4) - 1)) lk_RX8_99 hb1 (by decide) rfl rfl rfl rfl [.int (zI 0), .int (zI ((s0 a 4) - 1))] ⟨rfl, hG, hS_s8, hb1, (by omega), (by omega)⟩ rfl rfl ⟨by decide, by decide⟩ ⟨by decide, by decide⟩ (k2 := 0) (n2 := 0) rfl rfl (Nat.le_of_ble_eq_true rfl) dX8_readClause_184 (kIM (fun v24 s9 hS_s9 hF_s9 q25 => ?_))
            refine j_callV hx hG (c_X0_rowOf hst (gP G a 3) v24) lk_RX8_108 (zr (k := 3) (t2 := 1) hG ha rfl) (by decide) rfl rfl rfl rfl [.int (zI v24)] ⟨rfl, hG, hS_s9, (zr (k := 3) (t2 := 1) hG ha rfl), (by omega)⟩ rfl rfl ⟨by decide, by decide⟩ ⟨by decide, by decide⟩ (k2 := 0) (n2 := 0) rfl rfl (Nat.le_of_ble_eq_true rfl) dX8_readClause_187 (kRP (fun r26 q27 => ?_))
            refine j_astore hx [(4, .ref r26), (3, .int (zI ((s0 b1 3)))), (0, .ref a), (1, .ref b1), (2, .int (zI x2))] dX8_readClause_190 (by decide) rfl ?_
            refine j_aload hx 0 dX8_readClause_192 rfl ?_
            refine j_aload_n hx 3 dX8_readClause_194 rfl ?_
            refine j_iconst hx dX8_readClause_195 ?_
            refine j_aload hx 0 dX8_readClause_196 rfl ?_
            have f28 := zf hS0 q27 (k := 1) rfl
            refine gN7_1 hx hG q27 kf_RX8_112 (v := (s0 r26 1)) (by rw [(zFr_g hF_s9 q27 (by decide)), (zFr_g hF_s8 q27 (by decide)), (zFr_g hF_s5 q27 (by decide)), (zFr_g hF_s4 q27 (by decide)), (zFr_g hF_s3 q27 (by decide)), (zFr_g hF_s2 q27 (by decide)), (zFr_g hF_s1 q27 (by decide))]) dX8_readClause_198 ?_
            refine j_callV hx hG (c_X9_takeNumber hst b1 0 ((s0 r26 1))) lk_RX8_99 hb1 (by decide) rfl rfl rfl rfl [.int (zI 0), .int (zI ((s0 r26 1)))] ⟨rfl, hG, hS_s9, hb1, (by omega), (by omega)⟩ rfl rfl ⟨by decide, by decide⟩ ⟨by decide, by decide⟩ (k2 := 0) (n2 := 0) rfl rfl (Nat.le_of_ble_eq_true rfl) dX8_readClause_201 (kIM (fun v29 s10 hS_s10 hF_s10 q30 => ?_))
            refine j_callV hx hG (c_X6_openFirst hst r26 v29) lk_RX8_117 q27 (by decide) rfl rfl rfl rfl [.int (zI v29)] ⟨rfl, hG, hS_s10, q27, (by omega)⟩ rfl rfl ⟨by decide, by decide⟩ ⟨by decide, by decide⟩ (k2 := 0) (n2 := 0) rfl rfl (Nat.le_of_ble_eq_true rfl) dX8_readClause_204 (kVM (fun s11 hS_s11 hF_s11 q32 => ?_))
            refine j_goto hx 216 dX8_readClause_207 rfl ?_
            refine j_aload_n hx 3 dX8_readClause_216 rfl ?_
            refine j_bipush hx dX8_readClause_217 rfl ?_
            refine j_callV hx hG (c_X9_needSign hst b1 59) lk_RX8_123 hb1 (by decide) rfl rfl rfl rfl [.int (zI 59)] ⟨rfl, hG, hS_s11, hb1, (by omega)⟩ rfl rfl ⟨by decide, by decide⟩ ⟨by decide, by decide⟩ (k2 := 0) (n2 := 0) rfl rfl (Nat.le_of_ble_eq_true rfl) dX8_readClause_219 (kVM (fun s12 hS_s12 hF_s12 q34 => ?_))
            exact j_vret hx hq rfl (by decide) (by decide) dX8_readClause_222 ⟨rfl, rfl, hS_s12, (zFr_t (zFr_t (zFr_t (zFr_t (zFr_t (zFr_t (zFr_t (zFr_t (zFr_t (zFr_t zFr_rf hF_s1 (by decide)) hF_s2 (by decide)) hF_s3 (by decide)) hF_s4 (by decide)) hF_s5 (by decide)) hF_s8 (by decide)) hF_s9 (by decide)) hF_s10 (by decide)) hF_s11 (by decide)) hF_s12 (by decide)), trivial⟩
        · skip
          refine j_aload_n hx 2 dX8_readClause_119 rfl ?_
          refine j_iload_n hx 3 dX8_readClause_120 rfl ?_
          refine j_iconst hx dX8_readClause_121 ?_
          refine j_iload_n hx 0 dX8_readClause_122 rfl ?_
          refine j_callV hx hG (c_X9_failIf hst b1 x2 3 ((s0 b1 3))) lk_RX8_79 hb1 (by decide) rfl rfl rfl rfl [.int (zI x2), .int (zI 3), .int (zI ((s0 b1 3)))] ⟨rfl, hG, hS_s4, hb1, (by omega), (by omega), (by omega)⟩ rfl rfl ⟨by decide, by decide⟩ ⟨by decide, by decide⟩ (k2 := 0) (n2 := 0) rfl rfl (Nat.le_of_ble_eq_true rfl) dX8_readClause_123 (kVM (fun s13 hS_s13 hF_s13 q36 => ?_))
          refine j_aload_n hx 2 dX8_readClause_126 rfl ?_
          refine j_iconst hx dX8_readClause_127 ?_
          refine j_aload_n hx 1 dX8_readClause_128 rfl ?_
          have f37 := zf hS0 ha (k := 4) rfl
          refine g9_4 hx hG ha kf_RX8_28 (v := (s0 a 4)) (by rw [(zFr_g hF_s13 ha (by decide)), (zFr_g hF_s4 ha (by decide)), (zFr_g hF_s3 ha (by decide)), (zFr_g hF_s2 ha (by decide)), (zFr_g hF_s1 ha (by decide))]) dX8_readClause_129 ?_
          refine j_iconst hx dX8_readClause_132 ?_
          refine j_isub hx (r := (s0 a 4) - 1) dX8_readClause_133 (by omega) ?_
          refine j_callV hx hG (c_X9_takeNumber hst b1 0 ((s0 a 4) - 1)) lk_RX8_99 hb1 (by decide) rfl rfl rfl rfl [.int (zI 0), .int (zI ((s0 a 4) - 1))] ⟨rfl, hG, hS_s13, hb1, (by omega), (by omega)⟩ rfl rfl ⟨by decide, by decide⟩ ⟨by decide, by decide⟩ (k2 := 0) (n2 := 0) rfl rfl (Nat.le_of_ble_eq_true rfl) dX8_readClause_134 (kIM (fun v38 s14 hS_s14 hF_s14 q39 => ?_))
          refine j_istore hx [(4, .int (zI v38)), (3, .int (zI ((s0 b1 3)))), (0, .ref a), (1, .ref b1), (2, .int (zI x2))] dX8_readClause_137 (by decide) rfl ?_
          refine j_aload_n hx 2 dX8_readClause_139 rfl ?_
          refine j_iload hx 0 dX8_readClause_140 rfl ?_
          refine j_iconst hx dX8_readClause_142 ?_
          refine j_aload_n hx 3 dX8_readClause_143 rfl ?_
          refine j_iconst hx dX8_readClause_144 ?_
          refine j_bipush hx dX8_readClause_145 rfl ?_
          refine j_callV hx hG (c_X9_takeNumber hst b1 1 9) lk_RX8_99 hb1 (by decide) rfl rfl rfl rfl [.int (zI 1), .int (zI 9)] ⟨rfl, hG, hS_s14, hb1, (by omega), (by omega)⟩ rfl rfl ⟨by decide, by decide⟩ ⟨by decide, by decide⟩ (k2 := 0) (n2 := 0) rfl rfl (Nat.le_of_ble_eq_true rfl) dX8_readClause_147 (kIM (fun v40 s15 hS_s15 hF_s15 q41 => ?_))
          refine j_callV hx hG (c_X8_setTrait hst a v38 4 v40) lk_RX8_102 ha (by decide) rfl rfl rfl rfl [.int (zI v38), .int (zI 4), .int (zI v40)] ⟨rfl, hG, hS_s15, ha, (by omega), (by omega), (by omega)⟩ rfl rfl ⟨by decide, by decide⟩ ⟨by decide, by decide⟩ (k2 := 0) (n2 := 0) rfl rfl (Nat.le_of_ble_eq_true rfl) dX8_readClause_150 (kVM (fun s16 hS_s16 hF_s16 q43 => ?_))
          refine j_goto hx 216 dX8_readClause_153 rfl ?_
          refine j_aload_n hx 3 dX8_readClause_216 rfl ?_
          refine j_bipush hx dX8_readClause_217 rfl ?_
          refine j_callV hx hG (c_X9_needSign hst b1 59) lk_RX8_123 hb1 (by decide) rfl rfl rfl rfl [.int (zI 59)] ⟨rfl, hG, hS_s16, hb1, (by omega)⟩ rfl rfl ⟨by decide, by decide⟩ ⟨by decide, by decide⟩ (k2 := 0) (n2 := 0) rfl rfl (Nat.le_of_ble_eq_true rfl) dX8_readClause_219 (kVM (fun s17 hS_s17 hF_s17 q45 => ?_))
          exact j_vret hx hq rfl (by decide) (by decide) dX8_readClause_222 ⟨rfl, rfl, hS_s17, (zFr_t (zFr_t (zFr_t (zFr_t (zFr_t (zFr_t (zFr_t (zFr_t (zFr_t zFr_rf hF_s1 (by decide)) hF_s2 (by decide)) hF_s3 (by decide)) hF_s4 (by decide)) hF_s13 (by decide)) hF_s14 (by decide)) hF_s15 (by decide)) hF_s16 (by decide)) hF_s17 (by decide)), trivial⟩
      · skip
        refine j_aload_n hx 2 dX8_readClause_95 rfl ?_
        refine j_iload_n hx 3 dX8_readClause_96 rfl ?_
        refine j_iconst hx dX8_readClause_97 ?_
        refine j_iload_n hx 0 dX8_readClause_98 rfl ?_
        refine j_callV hx hG (c_X9_failIf hst b1 x2 3 ((s0 b1 3))) lk_RX8_79 hb1 (by decide) rfl rfl rfl rfl [.int (zI x2), .int (zI 3), .int (zI ((s0 b1 3)))] ⟨rfl, hG, hS_s3, hb1, (by omega), (by omega), (by omega)⟩ rfl rfl ⟨by decide, by decide⟩ ⟨by decide, by decide⟩ (k2 := 0) (n2 := 0) rfl rfl (Nat.le_of_ble_eq_true rfl) dX8_readClause_99 (kVM (fun s18 hS_s18 hF_s18 q47 => ?_))
        refine j_aload_n hx 1 dX8_readClause_102 rfl ?_
        refine j_aload_n hx 2 dX8_readClause_103 rfl ?_
        refine j_callV hx hG (c_X8_readCards hst a b1) lk_RX8_94 ha (by decide) rfl rfl rfl rfl [.ref b1] ⟨rfl, hG, hS_s18, ha, hb1⟩ rfl rfl ⟨by decide, by decide⟩ ⟨by decide, by decide⟩ (k2 := 0) (n2 := 0) rfl rfl (Nat.le_of_ble_eq_true rfl) dX8_readClause_104 (kVM (fun s19 hS_s19 hF_s19 q49 => ?_))
        refine j_goto hx 216 dX8_readClause_107 rfl ?_
        refine j_aload_n hx 2 dX8_readClause_216 rfl ?_
        refine j_bipush hx dX8_readClause_217 rfl ?_
        refine j_callV hx hG (c_X9_needSign hst b1 59) lk_RX8_123 hb1 (by decide) rfl rfl rfl rfl [.int (zI 59)] ⟨rfl, hG, hS_s19, hb1, (by omega)⟩ rfl rfl ⟨by decide, by decide⟩ ⟨by decide, by decide⟩ (k2 := 0) (n2 := 0) rfl rfl (Nat.le_of_ble_eq_true rfl) dX8_readClause_219 (kVM (fun s20 hS_s20 hF_s20 q51 => ?_))
        exact j_vret hx hq rfl (by decide) (by decide) dX8_readClause_222 ⟨rfl, rfl, hS_s20, (zFr_t (zFr_t (zFr_t (zFr_t (zFr_t (zFr_t zFr_rf hF_s1 (by decide)) hF_s2 (by decide)) hF_s3 (by decide)) hF_s18 (by decide)) hF_s19 (by decide)) hF_s20 (by decide)), trivial⟩
    · skip
      refine j_aload_n hx 2 dX8_readClause_54 rfl ?_
      refine j_iload_n hx 3 dX8_readClause_55 rfl ?_
      have c73_21 : ∀ (v52 : Int), (0 ≤ v52 ∧ v52 ≤ 1) → JJ X E 5 G s2 0 0 [(0, .ref a), (1, .ref b1), (3, .int (zI ((s0 b1 3))))] 73 [.int (zI v52), .ref b1] := by
        intro v52 fA22
        refine j_iconst hx dX8_readClause_73 ?_
        refine j_iload_n hx 2 dX8_readClause_74 rfl ?_
        refine j_callV hx hG (c_X9_failIf hst b1 v52 3 ((s0 b1 3))) lk_RX8_79 hb1 (by decide) rfl rfl rfl rfl [.int (zI v52), .int (zI 3), .int (zI ((s0 b1 3)))] ⟨rfl, hG, hS_s2, hb1, (by omega), (by omega), (by omega)⟩ rfl rfl ⟨by decide, by decide⟩ ⟨by decide, by decide⟩ (k2 := 0) (n2 := 0) rfl rfl (Nat.le_of_ble_eq_true rfl) dX8_readClause_75 (kVM (fun s23 hS_s23 hF_s23 q54 => ?_))
        refine j_aload_n hx 0 dX8_readClause_78 rfl ?_
        refine j_aload_n hx 1 dX8_readClause_79 rfl ?_
        refine j_callV hx hG (c_X8_readMoment hst a b1) lk_RX8_89 ha (by decide) rfl rfl rfl rfl [.ref b1] ⟨rfl, hG, hS_s23, ha, hb1⟩ rfl rfl ⟨by decide, by decide⟩ ⟨by decide, by decide⟩ (k2 := 0) (n2 := 0) rfl rfl (Nat.le_of_ble_eq_true rfl) dX8_readClause_80 (kVM (fun s24 hS_s24 hF_s24 q56 => ?_))
        refine j_goto hx 216 dX8_readClause_83 rfl ?_
        refine j_aload_n hx 1 dX8_readClause_216 rfl ?_
        refine j_bipush hx dX8_readClause_217 rfl ?_
        refine j_callV hx hG (c_X9_needSign hst b1 59) lk_RX8_123 hb1 (by decide) rfl rfl rfl rfl [.int (zI 59)] ⟨rfl, hG, hS_s24, hb1, (by omega)⟩ rfl rfl ⟨by decide, by decide⟩ ⟨by decide, by decide⟩ (k2 := 0) (n2 := 0) rfl rfl (Nat.le_of_ble_eq_true rfl) dX8_readClause_219 (kVM (fun s25 hS_s25 hF_s25 q58 => ?_))
        exact j_vret hx hq rfl (by decide) (by decide) dX8_readClause_222 ⟨rfl, rfl, hS_s25, (zFr_t (zFr_t (zFr_t (zFr_t (zFr_t zFr_rf hF_s1 (by decide)) hF_s2 (by decide)) hF_s23 (by decide)) hF_s24 (by decide)) hF_s25 (by decide)), trivial⟩
      have c68_26 : JJ X E 5 G s2 0 0 [(0, .ref a), (1, .ref b1), (3, .int (zI ((s0 b1 3))))] 68 [.ref b1] := by
        refine j_iconst hx dX8_readClause_68 ?_
        refine j_goto hx 73 dX8_readClause_69 rfl ?_
        exact j_sub [0, 1, 2] [(0, .ref a), (1, .ref b1), (3, .int (zI ((s0 b1 3))))] rfl (c73_21 1 (by omega))
      refine j_if_ne hx 68 dX8_readClause_56 rfl (by omega) (fun h59 => ?_) (fun h59 => ?_)
      · skip
        exact j_sub [1, 2, 0] [(0, .ref a), (1, .ref b1), (3, .int (zI ((s0 b1 3))))] rfl (c68_26  )
      · skip
        refine j_aload_n hx 1 dX8_readClause_59 rfl ?_
        have f60 := zf hS0 ha (k := 5) rfl
        refine g9_5 hx hG ha kf_RX8_40 (v := (s0 a 5)) (by rw [(zFr_g hF_s2 ha (by decide)), (zFr_g hF_s1 ha (by decide))]) dX8_readClause_60 ?_
        refine j_bipush hx dX8_readClause_63 rfl ?_
        refine j_icmp_lt hx 72 dX8_readClause_65 rfl (by omega) ⟨by decide, by decide⟩ (fun h61 => ?_) (fun h61 => ?_)
        · skip
          refine j_iconst hx dX8_readClause_72 ?_
          exact j_sub [1, 2, 0] [(0, .ref a), (1, .ref b1), (3, .int (zI ((s0 b1 3))))] rfl (c73_21 0 (by omega))
        · skip
          exact j_sub [1, 2, 0] [(0, .ref a), (1, .ref b1), (3, .int (zI ((s0 b1 3))))] rfl (c68_26  )
  · skip
    refine j_aload_n hx 2 dX8_readClause_14 rfl ?_
    refine j_iload_n hx 3 dX8_readClause_15 rfl ?_
    have c32_27 : ∀ (v62 : Int), (0 ≤ v62 ∧ v62 ≤ 1) → JJ X E 5 G s1 0 0 [(0, .ref a), (1, .ref b1), (3, .int (zI ((s0 b1 3))))] 32 [.int (zI v62), .ref b1] := by
      intro v62 fA28
      refine j_iconst hx dX8_readClause_32 ?_
      refine j_iload_n hx 2 dX8_readClause_33 rfl ?_
      refine j_callV hx hG (c_X9_failIf hst b1 v62 3 ((s0 b1 3))) lk_RX8_79 hb1 (by decide) rfl rfl rfl rfl [.int (zI v62), .int (zI 3), .int (zI ((s0 b1 3)))] ⟨rfl, hG, hS_s1, hb1, (by omega), (by omega), (by omega)⟩ rfl rfl ⟨by decide, by decide⟩ ⟨by decide, by decide⟩ (k2 := 0) (n2 := 0) rfl rfl (Nat.le_of_ble_eq_true rfl) dX8_readClause_34 (kVM (fun s29 hS_s29 hF_s29 q64 => ?_))
      refine j_aload_n hx 0 dX8_readClause_37 rfl ?_
      refine j_aload_n hx 1 dX8_readClause_38 rfl ?_
      refine j_callV hx hG (c_X8_readPlayer hst a b1) lk_RX8_83 ha (by decide) rfl rfl rfl rfl [.ref b1] ⟨rfl, hG, hS_s29, ha, hb1⟩ rfl rfl ⟨by decide, by decide⟩ ⟨by decide, by decide⟩ (k2 := 0) (n2 := 0) rfl rfl (Nat.le_of_ble_eq_true rfl) dX8_readClause_39 (kVM (fun s30 hS_s30 hF_s30 q66 => ?_))
      refine j_goto hx 216 dX8_readClause_42 rfl ?_
      refine j_aload_n hx 1 dX8_readClause_216 rfl ?_
      refine j_bipush hx dX8_readClause_217 rfl ?_
      refine j_callV hx hG (c_X9_needSign hst b1 59) lk_RX8_123 hb1 (by decide) rfl rfl rfl rfl [.int (zI 59)] ⟨rfl, hG, hS_s30, hb1, (by omega)⟩ rfl rfl ⟨by decide, by decide⟩ ⟨by decide, by decide⟩ (k2 := 0) (n2 := 0) rfl rfl (Nat.le_of_ble_eq_true rfl) dX8_readClause_219 (kVM (fun s31 hS_s31 hF_s31 q68 => ?_))
      exact j_vret hx hq rfl (by decide) (by decide) dX8_readClause_222 ⟨rfl, rfl, hS_s31, (zFr_t (zFr_t (zFr_t (zFr_t zFr_rf hF_s1 (by decide)) hF_s29 (by decide)) hF_s30 (by decide)) hF_s31 (by decide)), trivial⟩
    have c27_32 : JJ X E 5 G s1 0 0 [(0, .ref a), (1, .ref b1), (3, .int (zI ((s0 b1 3))))] 27 [.ref b1] := by
      refine j_iconst hx dX8_readClause_27 ?_
      refine j_goto hx 32 dX8_readClause_28 rfl ?_
      exact j_sub [0, 1, 2] [(0, .ref a), (1, .ref b1), (3, .int (zI ((s0 b1 3))))] rfl (c32_27 1 (by omega))
    refine j_if_ne hx 27 dX8_readClause_16 rfl (by omega) (fun h69 => ?_) (fun h69 => ?_)
    · skip
      exact j_sub [1, 2, 0] [(0, .ref a), (1, .ref b1), (3, .int (zI ((s0 b1 3))))] rfl (c27_32  )
    · skip
      refine j_aload_n hx 1 dX8_readClause_19 rfl ?_
      have f70 := zf hS0 ha (k := 4) rfl
      refine g9_4 hx hG ha kf_RX8_28 (v := (s0 a 4)) (by rw [(zFr_g hF_s1 ha (by decide))]) dX8_readClause_20 ?_
      refine j_iconst hx dX8_readClause_23 ?_
      refine j_icmp_lt hx 31 dX8_readClause_24 rfl (by omega) ⟨by decide, by decide⟩ (fun h71 => ?_) (fun h71 => ?_)
      · skip
        refine j_iconst hx dX8_readClause_31 ?_
        exact j_sub [1, 2, 0] [(0, .ref a), (1, .ref b1), (3, .int (zI ((s0 b1 3))))] rfl (c32_27 0 (by omega))
      · skip
        exact j_sub [1, 2, 0] [(0, .ref a), (1, .ref b1), (3, .int (zI ((s0 b1 3))))] rfl (c27_32  )
