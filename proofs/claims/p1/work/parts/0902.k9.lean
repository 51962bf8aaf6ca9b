theorem lk_RX9_37 : LkV RX9 37 RX9 yX9_failIf cX9_failIf 4 none 3 := ⟨km_RX9_37, ki_yX9_failIf, ks_RX9_yX9_failIf, kn_RX9, kc_yX9_failIf, rfl, by decide +kernel, by decide +kernel, by decide +kernel⟩
theorem lk_RX9_41 : LkV RX9 41 RX9 yX9_signAt cX9_signAt 2 (some .int) 1 := ⟨km_RX9_41, ki_yX9_signAt, ks_RX9_yX9_signAt, kn_RX9, kc_yX9_signAt, rfl, by decide +kernel, by decide +kernel, by decide +kernel⟩
theorem lk_RX9_45 : LkS RX9 45 yX9_isLetter cX9_isLetter 1 (some .boolean) 1 := ⟨km_RX9_45, kst_yX9_isLetter, kn_RX9, kc_yX9_isLetter, by decide +kernel, by decide +kernel, by decide +kernel⟩
theorem lk_RX9_49 : LkV RX9 49 RX9 yX9_peek cX9_peek 2 (some .int) 0 := ⟨km_RX9_49, ki_yX9_peek, ks_RX9_yX9_peek, kn_RX9, kc_yX9_peek, rfl, by decide +kernel, by decide +kernel, by decide +kernel⟩
theorem lk_RX9_65 : LkS RX9 65 yX9_isDigit cX9_isDigit 1 (some .boolean) 1 := ⟨km_RX9_65, kst_yX9_isDigit, kn_RX9, kc_yX9_isDigit, by decide +kernel, by decide +kernel, by decide +kernel⟩
theorem lk_RX9_68 : LkV RX9 68 RX9 yX9_here cX9_here 1 (some .int) 0 := ⟨km_RX9_68, ki_yX9_here, ks_RX9_yX9_here, kn_RX9, kc_yX9_here, rfl, by decide +kernel, by decide +kernel, by decide +kernel⟩
theorem lk_RX9_53 : LkV RX9 53 RX9 yX9_lettersHere cX9_lettersHere 3 (some .int) 0 := ⟨km_RX9_53, ki_yX9_lettersHere, ks_RX9_yX9_lettersHere, kn_RX9, kc_yX9_lettersHere, rfl, by decide +kernel, by decide +kernel, by decide +kernel⟩
set_option maxHeartbeats 4000000 in
set_option maxRecDepth 20000 in
theorem c_X9_hasRoom {E : zE} {l : Launch} (hst : l.stackTraces = false) (a : Nat) (x1 : Int) : Con E l yX9_hasRoom cX9_hasRoom 2 (some .boolean) { frames := 0, cells := 0, slots := 0, locals := 0 } (fun G s vs => vs = [.ref a, .int (zI x1)] ∧ zGK G ∧ zSK G s ∧ (gT G a = 10) ∧ ((-2147483648) ≤ x1 ∧ x1 ≤ 2147483647)) (fun G s _ => pI (fun r G2 s2 => G2 = G ∧ s2 = s ∧ (0 ≤ r ∧ r ≤ 1))) := by
  refine Con.mk hst (by decide) (fun G s vs h => by rw [h.1]; exact Nat.le_of_ble_eq_true rfl) ?_
  rintro X G s0 vs ⟨rfl, hG, hS0, ha, hx1⟩ rfl hx hq
  show JJ X E 2 G s0 0 0 [(0, .ref a), (1, .int (zI x1))] 0 []
  refine j_aload_n hx 0 dX9_hasRoom_0 rfl ?_
  have f1 := zf hS0 ha (k := 1) rfl
  refine g10_1 hx hG ha kf_RX9_19 rfl dX9_hasRoom_1 ?_
  refine j_iload_n hx 1 dX9_hasRoom_4 rfl ?_
  refine j_iadd hx (r := (s0 a 1) + x1) dX9_hasRoom_5 (by omega) ?_
  refine j_norm (fun v2 f3 f4 f5 => ?_)
  refine j_aload_n hx 0 dX9_hasRoom_6 rfl ?_
  refine g10_0 hx hG ha kf_RX9_11 dX9_hasRoom_7 ?_
  refine j_alen hx hG (zr (k := 0) (t2 := 45) hG ha rfl) (by decide) (by decide) (zlen hG (zr (k := 0) (t2 := 45) hG ha rfl) (n := 600) rfl rfl) dX9_hasRoom_10 ?_
  refine j_icmp_gt hx 18 dX9_hasRoom_11 rfl (by omega) ⟨by decide, by decide⟩ (fun h6 => ?_) (fun h6 => ?_)
  · skip
    refine j_iconst hx dX9_hasRoom_18 ?_
    exact j_zret hx hq rfl (by decide) (by decide) dX9_hasRoom_19 (by omega) ⟨0, rfl, rfl, rfl, (by omega)⟩
  · skip
    refine j_iconst hx dX9_hasRoom_14 ?_
    refine j_goto hx 19 dX9_hasRoom_15 rfl ?_
    exact j_zret hx hq rfl (by decide) (by decide) dX9_hasRoom_19 (by omega) ⟨1, rfl, rfl, rfl, (by omega)⟩

set_option maxHeartbeats 4000000 in
set_option maxRecDepth 20000 in
theorem c_X9_addFour {E : zE} {l : Launch} (hst : l.stackTraces = false) (a : Nat) (x1 : Int) : Con E l yX9_addFour cX9_addFour 3 none { frames := 0, cells := 0, slots := 0, locals := 0 } (fun G s vs => vs = [.ref a, .int (zI x1)] ∧ zGK G ∧ zSK G s ∧ (gT G a = 10) ∧ ((-2147483648) ≤ x1 ∧ x1 ≤ 2147483647)) (fun G s _ => pV (fun G2 s2 => G2 = G ∧ zSK G s2 ∧ zFr [10, 45] G s s2 ∧ True)) := by
  refine Con.mk hst (by decide) (fun G s vs h => by rw [h.1]; exact Nat.le_of_ble_eq_true rfl) ?_
  rintro X G s0 vs ⟨rfl, hG, hS0, ha, hx1⟩ rfl hx hq
  show JJ X E 3 G s0 0 0 [(0, .ref a), (1, .int (zI x1))] 0 []
  refine j_bipush hx dX9_addFour_0 rfl ?_
  refine j_istore_n hx [(2, .int (zI 24)), (0, .ref a), (1, .int (zI x1))] dX9_addFour_2 (by decide) rfl ?_
  have c3_1 : ∀ (m_c3_1 : Nat) (v1 : Int) (s2 : zS), v1 + 2147483648 < m_c3_1 → ((-8) ≤ v1 ∧ v1 ≤ 24) → (zSK G s2) → (zFr [10, 45] G s0 s2) → JJ X E 3 G s2 0 0 [(0, .ref a), (1, .int (zI x1)), (2, .int (zI v1))] 3 [] := by
    intro m_c3_1
    induction m_c3_1 with
    | zero => intro v1 s2 hm_c3_1 f3 hS_s2 hF_s2; exfalso; omega
    | succ m_c3_1 ih_c3_1 => 
      intro v1 s2 hm_c3_1 f3 hS_s2 hF_s2
      refine j_iload_n hx 2 dX9_addFour_3 rfl ?_
      refine j_if_lt hx 55 dX9_addFour_4 rfl (by omega) (fun h2 => ?_) (fun h2 => ?_)
      · skip
        exact j_vret hx hq rfl (by decide) (by decide) dX9_addFour_55 ⟨rfl, rfl, hS_s2, (zFr_t zFr_rf hF_s2 (by decide)), trivial⟩
      · skip
        refine j_aload_n hx 0 dX9_addFour_7 rfl ?_
        have f3 := zf hS_s2 ha (k := 1) rfl
        refine g10_1 hx hG ha kf_RX9_19 rfl dX9_addFour_8 ?_
        have c49_6 : ∀ (s7 : zS), (zSK G s7) → (zFr [10, 45] G s2 s7) → JJ X E 3 G s7 0 0 [(0, .ref a), (1, .int (zI x1)), (2, .int (zI v1))] 49 [] := by
          intro s7 hS_s7 hF_s7
          refine j_iinc hx 2 [(2, .int (zI (v1 - 8))), (0, .ref a), (1, .int (zI x1))] dX9_addFour_49 rfl (by omega) (by decide) rfl ?_
          refine j_goto hx 3 dX9_addFour_52 rfl ?_
          exact j_sub [1, 2, 0] [(0, .ref a), (1, .int (zI x1)), (2, .int (zI (v1 - 8)))] rfl (ih_c3_1 (v1 - 8) s7 (by omega) (by omega) hS_s7 (zFr_t (zFr_t zFr_rf hF_s2 (by decide)) hF_s7 (by decide)))
        refine j_if_lt hx 49 dX9_addFour_11 rfl (by omega) (fun h4 => ?_) (fun h4 => ?_)
        · skip
          exact j_sub [0, 1, 2] [(0, .ref a), (1, .int (zI x1)), (2, .int (zI v1))] rfl (c49_6 s2 hS_s2 zFr_rf)
        · skip
          refine j_aload_n hx 0 dX9_addFour_14 rfl ?_
          refine g10_1 hx hG ha kf_RX9_19 rfl dX9_addFour_15 ?_
          refine j_aload_n hx 0 dX9_addFour_18 rfl ?_
          refine g10_0 hx hG ha kf_RX9_11 dX9_addFour_19 ?_
          refine j_alen hx hG (zr (k := 0) (t2 := 45) hG ha rfl) (by decide) (by decide) (zlen hG (zr (k := 0) (t2 := 45) hG ha rfl) (n := 600) rfl rfl) dX9_addFour_22 ?_
          refine j_icmp_ge hx 49 dX9_addFour_23 rfl (by omega) ⟨by decide, by decide⟩ (fun h5 => ?_) (fun h5 => ?_)
          · skip
            exact j_sub [0, 1, 2] [(0, .ref a), (1, .int (zI x1)), (2, .int (zI v1))] rfl (c49_6 s2 hS_s2 zFr_rf)
          · skip
            refine j_aload_n hx 0 dX9_addFour_26 rfl ?_
            refine g10_0 hx hG ha kf_RX9_11 dX9_addFour_27 ?_
            refine j_aload_n hx 0 dX9_addFour_30 rfl ?_
            refine g10_1 hx hG ha kf_RX9_19 rfl dX9_addFour_31 ?_
            refine j_iload_n hx 1 dX9_addFour_34 rfl ?_
            refine j_iload_n hx 2 dX9_addFour_35 rfl ?_
            refine j_iushr hx dX9_addFour_36 (fun v6 f7 f8 => ?_)
            refine j_i2b hx dX9_addFour_37 (fun v9 f10 f11 => ?_)
            refine j_bast hx hG (zr (k := 0) (t2 := 45) hG ha rfl) (by decide) rfl (zlen hG (zr (k := 0) (t2 := 45) hG ha rfl) (n := 600) rfl rfl) (by omega) (by omega) (j := ((s2 a 1)).toNat) rfl (znar_b (by omega)) dX9_addFour_38 ?_
            obtain ⟨s10, e_s10⟩ : ∃ z, z = zU s2 (gP G a 0) ((s2 a 1)).toNat v9 := ⟨_, rfl⟩
            rw [← e_s10]
            have hS_s10 : zSK G s10 := by rw [e_s10]; exact zSK_A hS_s2 (zr (k := 0) (t2 := 45) hG ha rfl) rfl rfl rfl (by omega)
            refine j_aload_n hx 0 dX9_addFour_39 rfl ?_
            refine j_dup hx dX9_addFour_40 rfl ?_
            refine g10_1 hx hG ha kf_RX9_19 (v := (s2 a 1)) (by rw [e_s10, zU_at (Or.inl (zne (zr (k := 0) (t2 := 45) hG ha rfl) ha (by decide)))]) dX9_addFour_41 ?_
            refine j_iconst hx dX9_addFour_44 ?_
            refine j_iadd hx (r := (s2 a 1) + 1) dX9_addFour_45 (by omega) ?_
            refine p10_1 hx hG ha kf_RX9_19 dX9_addFour_46 ?_
            obtain ⟨s11, e_s11⟩ : ∃ z, z = zU s10 a 1 ((s2 a 1) + 1) := ⟨_, rfl⟩
            rw [← e_s11]
            have hS_s11 : zSK G s11 := by rw [e_s11]; exact zSK_F hS_s10 ha rfl rfl rfl (by omega)
            exact j_sub [0, 1, 2] [(0, .ref a), (1, .int (zI x1)), (2, .int (zI v1))] rfl (c49_6 s11 hS_s11 (zFr_u (zFr_u zFr_rf e_s10 (zr (k := 0) (t2 := 45) hG ha rfl) (by decide)) e_s11 ha (by decide)))
  exact j_sub [1, 2, 0] [(0, .ref a), (1, .int (zI x1)), (2, .int (zI 24))] rfl (c3_1 (2147483648 * 4) 24 s0 (by omega) (by omega) hS0 zFr_rf)

set_option maxHeartbeats 4000000 in
set_option maxRecDepth 20000 in
theorem c_X9_become {E : zE} {l : Launch} (hst : l.stackTraces = false) (a : Nat) (b1 : Nat) : Con E l yX9_become cX9_become 3 none { frames := 0, cells := 0, slots := 0, locals := 0 } (fun G s vs => vs = [.ref a, .ref b1] ∧ zGK G ∧ zSK G s ∧ (gT G a = 10) ∧ (gT G b1 = 10)) (fun G s _ => pV (fun G2 s2 => G2 = G ∧ zSK G s2 ∧ zFr [10, 45] G s s2 ∧ True)) := by
  refine Con.mk hst (by decide) (fun G s vs h => by rw [h.1]; exact Nat.le_of_ble_eq_true rfl) ?_
  rintro X G s0 vs ⟨rfl, hG, hS0, ha, hb1⟩ rfl hx hq
  show JJ X E 3 G s0 0 0 [(0, .ref a), (1, .ref b1)] 0 []
  refine j_iconst hx dX9_become_0 ?_
  refine j_istore_n hx [(2, .int (zI 0)), (0, .ref a), (1, .ref b1)] dX9_become_1 (by decide) rfl ?_
  have c2_1 : ∀ (m_c2_1 : Nat) (v1 : Int) (s2 : zS), 2147483648 - v1 < m_c2_1 → (0 ≤ v1 ∧ v1 ≤ 600) → (zSK G s2) → (zFr [45] G s0 s2) → JJ X E 3 G s2 0 0 [(0, .ref a), (1, .ref b1), (2, .int (zI v1))] 2 [] := by
    intro m_c2_1
    induction m_c2_1 with
    | zero => intro v1 s2 hm_c2_1 f3 hS_s2 hF_s2; exfalso; omega
    | succ m_c2_1 ih_c2_1 => 
      intro v1 s2 hm_c2_1 f3 hS_s2 hF_s2
      refine j_iload_n hx 2 dX9_become_2 rfl ?_
      refine j_aload_n hx 0 dX9_become_3 rfl ?_
      refine g10_0 hx hG ha kf_RX9_11 dX9_become_4 ?_
      refine j_alen hx hG (zr (k := 0) (t2 := 45) hG ha rfl) (by decide) (by decide) (zlen hG (zr (k := 0) (t2 := 45) hG ha rfl) (n := 600) rfl rfl) dX9_become_7 ?_
      have c38_6 : JJ X E 3 G s2 0 0 [(0, .ref a), (1, .ref b1)] 38 [] := by
        refine j_aload_n hx 0 dX9_become_38 rfl ?_
        refine j_aload_n hx 1 dX9_become_39 rfl ?_
        have f2 := zf hS0 hb1 (k := 1) rfl
        refine g10_1 hx hG hb1 kf_RX9_19 (v := (s0 b1 1)) (by rw [(zFr_g hF_s2 hb1 (by decide))]) dX9_become_40 ?_
        refine p10_1 hx hG ha kf_RX9_19 dX9_become_43 ?_
        obtain ⟨s7, e_s7⟩ : ∃ z, z = zU s2 a 1 ((s0 b1 1)) := ⟨_, rfl⟩
        rw [← e_s7]
        have hS_s7 : zSK G s7 := by rw [e_s7]; exact zSK_F hS_s2 ha rfl rfl rfl (by omega)
        refine j_aload_n hx 0 dX9_become_46 rfl ?_
        refine j_aload_n hx 1 dX9_become_47 rfl ?_
        have f3 := zf hS_s7 hb1 (k := 5) rfl
        refine g10_5 hx hG hb1 kf_RX9_15 rfl dX9_become_48 ?_
        refine p10_5 hx hG ha kf_RX9_15 dX9_become_51 ?_
        obtain ⟨s8, e_s8⟩ : ∃ z, z = zU s7 a 5 ((s7 b1 5)) := ⟨_, rfl⟩
        rw [← e_s8]
        have hS_s8 : zSK G s8 := by rw [e_s8]; exact zSK_F hS_s7 ha rfl rfl rfl (by omega)
        exact j_vret hx hq rfl (by decide) (by decide) dX9_become_54 ⟨rfl, rfl, hS_s8, (zFr_u (zFr_u (zFr_t zFr_rf hF_s2 (by decide)) e_s7 ha (by decide)) e_s8 ha (by decide)), trivial⟩
      refine j_icmp_ge hx 38 dX9_become_8 rfl (by omega) ⟨by decide, by decide⟩ (fun h4 => ?_) (fun h4 => ?_)
      · skip
        exact j_sub [0, 1] [(0, .ref a), (1, .ref b1)] rfl (c38_6  )
      · skip
        refine j_iload_n hx 2 dX9_become_11 rfl ?_
        refine j_aload_n hx 1 dX9_become_12 rfl ?_
        refine g10_0 hx hG hb1 kf_RX9_11 dX9_become_13 ?_
        refine j_alen hx hG (zr (k := 0) (t2 := 45) hG hb1 rfl) (by decide) (by decide) (zlen hG (zr (k := 0) (t2 := 45) hG hb1 rfl) (n := 600) rfl rfl) dX9_become_16 ?_
        refine j_icmp_ge hx 38 dX9_become_17 rfl (by omega) ⟨by decide, by decide⟩ (fun h5 => absurd h5 (by omega)) (fun h5 => ?_)
        refine j_aload_n hx 0 dX9_become_20 rfl ?_
        refine g10_0 hx hG ha kf_RX9_11 dX9_become_21 ?_
        refine j_iload_n hx 2 dX9_become_24 rfl ?_
        refine j_aload_n hx 1 dX9_become_25 rfl ?_
        refine g10_0 hx hG hb1 kf_RX9_11 dX9_become_26 ?_
        refine j_iload_n hx 2 dX9_become_29 rfl ?_
        have f6 := zaI (j := (v1).toNat) hS_s2 (zr (k := 0) (t2 := 45) hG hb1 rfl) rfl (zlen hG (zr (k := 0) (t2 := 45) hG hb1 rfl) (n := 600) rfl rfl) (show 0 ≤ v1 by omega) (by omega) rfl
        refine j_bald hx hG (zr (k := 0) (t2 := 45) hG hb1 rfl) (by decide) rfl (zlen hG (zr (k := 0) (t2 := 45) hG hb1 rfl) (n := 600) rfl rfl) (by omega) (by omega) (j := (v1).toNat) rfl rfl dX9_become_30 ?_
        refine j_bast hx hG (zr (k := 0) (t2 := 45) hG ha rfl) (by decide) rfl (zlen hG (zr (k := 0) (t2 := 45) hG ha rfl) (n := 600) rfl rfl) (by omega) (by omega) (j := (v1).toNat) rfl (znar_b (by omega)) dX9_become_31 ?_
        obtain ⟨s9, e_s9⟩ : ∃ z, z = zU s2 (gP G a 0) (v1).toNat ((s2 (gP G b1 0) (v1).toNat)) := ⟨_, rfl⟩
        rw [← e_s9]
        have hS_s9 : zSK G s9 := by rw [e_s9]; exact zSK_A hS_s2 (zr (k := 0) (t2 := 45) hG ha rfl) rfl rfl rfl (by omega)
        refine j_iinc hx 2 [(2, .int (zI (v1 + 1))), (0, .ref a), (1, .ref b1)] dX9_become_32 rfl (by omega) (by decide) rfl ?_
        refine j_goto hx 2 dX9_become_35 rfl ?_
        exact j_sub [1, 2, 0] [(0, .ref a), (1, .ref b1), (2, .int (zI (v1 + 1)))] rfl (ih_c2_1 (v1 + 1) s9 (by omega) (by omega) hS_s9 (zFr_u (zFr_t zFr_rf hF_s2 (by decide)) e_s9 (zr (k := 0) (t2 := 45) hG ha rfl) (by decide)))
  exact j_sub [1, 2, 0] [(0, .ref a), (1, .ref b1), (2, .int (zI 0))] rfl (c2_1 (2147483648 * 4) 0 s0 (by omega) (by omega) hS0 zFr_rf)

set_option maxHeartbeats 4000000 in
set_option maxRecDepth 20000 in
theorem c_X9_open {E : zE} {l : Launch} (hst : l.stackTraces = false) (a : Nat) (x1 : Int) : Con E l yX9_open cX9_open 2 none { frames := 1, cells := 0, slots := 0, locals := 33 } (fun G s vs => vs = [.ref a, .int (zI x1)] ∧ zGK G ∧ zSK G s ∧ (gT G a = 10) ∧ ((-2147483648) ≤ x1 ∧ x1 ≤ 2147483647)) (fun G s _ => pV (fun G2 s2 => G2 = G ∧ zSK G s2 ∧ zFr [10] G s s2 ∧ True)) := by
  refine Con.mk hst (by decide) (fun G s vs h => by rw [h.1]; exact Nat.le_of_ble_eq_true rfl) ?_
  rintro X G s0 vs ⟨rfl, hG, hS0, ha, hx1⟩ rfl hx hq
  show JJ X E 2 G s0 0 0 [(0, .ref a), (1, .int (zI x1))] 0 []
  refine j_aload_n hx 0 dX9_open_0 rfl ?_
  refine j_iload_n hx 1 dX9_open_1 rfl ?_
  refine j_aload_n hx 0 dX9_open_2 rfl ?_
  refine g10_0 hx hG ha kf_RX9_11 dX9_open_3 ?_
  refine j_alen hx hG (zr (k := 0) (t2 := 45) hG ha rfl) (by decide) (by decide) (zlen hG (zr (k := 0) (t2 := 45) hG ha rfl) (n := 600) rfl rfl) dX9_open_6 ?_
  refine j_mmin hx km_RX9_22 kst_min kn_RJ9 kc_Lib_Math_min_name (by omega) ⟨by decide, by decide⟩ ⟨by decide, Nat.le_of_ble_eq_true rfl⟩ ⟨by decide, by decide⟩ dX9_open_7 (fun v1 f2 f3 f4 => ?_)
  refine p10_2 hx hG ha kf_RX9_28 dX9_open_10 ?_
  obtain ⟨s1, e_s1⟩ : ∃ z, z = zU s0 a 2 v1 := ⟨_, rfl⟩
  rw [← e_s1]
  have hS_s1 : zSK G s1 := by rw [e_s1]; exact zSK_F hS0 ha rfl rfl rfl (by omega)
  refine j_aload_n hx 0 dX9_open_13 rfl ?_
  refine j_iconst hx dX9_open_14 ?_
  refine p10_3 hx hG ha kf_RX9_31 dX9_open_15 ?_
  obtain ⟨s2, e_s2⟩ : ∃ z, z = zU s1 a 3 0 := ⟨_, rfl⟩
  rw [← e_s2]
  have hS_s2 : zSK G s2 := by rw [e_s2]; exact zSK_F hS_s1 ha rfl rfl rfl (by omega)
  refine j_aload_n hx 0 dX9_open_18 rfl ?_
  refine j_iconst hx dX9_open_19 ?_
  refine p10_4 hx hG ha kf_RX9_34 dX9_open_20 ?_
  obtain ⟨s3, e_s3⟩ : ∃ z, z = zU s2 a 4 0 := ⟨_, rfl⟩
  rw [← e_s3]
  have hS_s3 : zSK G s3 := by rw [e_s3]; exact zSK_F hS_s2 ha rfl rfl rfl (by omega)
  refine j_aload_n hx 0 dX9_open_23 rfl ?_
  refine j_iconst hx dX9_open_24 ?_
  refine p10_5 hx hG ha kf_RX9_15 dX9_open_25 ?_
  obtain ⟨s4, e_s4⟩ : ∃ z, z = zU s3 a 5 (-1) := ⟨_, rfl⟩
  rw [← e_s4]
  have hS_s4 : zSK G s4 := by rw [e_s4]; exact zSK_F hS_s3 ha rfl rfl rfl (by omega)
  exact j_vret hx hq rfl (by decide) (by decide) dX9_open_28 ⟨rfl, rfl, hS_s4, (zFr_u (zFr_u (zFr_u (zFr_u zFr_rf e_s1 ha (by decide)) e_s2 ha (by decide)) e_s3 ha (by decide)) e_s4 ha (by decide)), trivial⟩

set_option maxHeartbeats 4000000 in
set_option maxRecDepth 20000 in
theorem c_X9_failIf {E : zE} {l : Launch} (hst : l.stackTraces = false) (a : Nat) (x1 : Int) (x2 : Int) (x3 : Int) : Con E l yX9_failIf cX9_failIf 4 none { frames := 0, cells := 0, slots := 0, locals := 0 } (fun G s vs => vs = [.ref a, .int (zI x1), .int (zI x2), .int (zI x3)] ∧ zGK G ∧ zSK G s ∧ (gT G a = 10) ∧ (0 ≤ x1 ∧ x1 ≤ 1) ∧ ((-2147483648) ≤ x2 ∧ x2 ≤ 2147483647) ∧ ((-2147483648) ≤ x3 ∧ x3 ≤ 2147483647)) (fun G s _ => pV (fun G2 s2 => G2 = G ∧ zSK G s2 ∧ zFr [10] G s s2 ∧ True)) := by
  refine Con.mk hst (by decide) (fun G s vs h => by rw [h.1]; exact Nat.le_of_ble_eq_true rfl) ?_
  rintro X G s0 vs ⟨rfl, hG, hS0, ha, hx1, hx2, hx3⟩ rfl hx hq
  show JJ X E 4 G s0 0 0 [(0, .ref a), (1, .int (zI x1)), (2, .int (zI x2)), (3, .int (zI x3))] 0 []
  refine j_iload_n hx 1 dX9_failIf_0 rfl ?_
  refine j_if_eq hx 21 dX9_failIf_1 rfl (by omega) (fun h1 => ?_) (fun h1 => ?_)
  · skip
    exact j_vret hx hq rfl (by decide) (by decide) dX9_failIf_21 ⟨rfl, rfl, hS0, zFr_rf, trivial⟩
  · skip
    refine j_aload_n hx 0 dX9_failIf_4 rfl ?_
    have f2 := zf hS0 ha (k := 4) rfl
    refine g10_4 hx hG ha kf_RX9_34 rfl dX9_failIf_5 ?_
    refine j_if_ne hx 21 dX9_failIf_8 rfl (by omega) (fun h3 => ?_) (fun h3 => ?_)
    · skip
      exact j_vret hx hq rfl (by decide) (by decide) dX9_failIf_21 ⟨rfl, rfl, hS0, zFr_rf, trivial⟩
    · skip
      refine j_aload_n hx 0 dX9_failIf_11 rfl ?_
      refine j_iload_n hx 2 dX9_failIf_12 rfl ?_
      refine p10_4 hx hG ha kf_RX9_34 dX9_failIf_13 ?_
      obtain ⟨s1, e_s1⟩ : ∃ z, z = zU s0 a 4 x2 := ⟨_, rfl⟩
      rw [← e_s1]
      have hS_s1 : zSK G s1 := by rw [e_s1]; exact zSK_F hS0 ha rfl rfl rfl (by omega)
      refine j_aload_n hx 0 dX9_failIf_16 rfl ?_
      refine j_iload_n hx 3 dX9_failIf_17 rfl ?_
      refine p10_5 hx hG ha kf_RX9_15 dX9_failIf_18 ?_
      obtain ⟨s2, e_s2⟩ : ∃ z, z = zU s1 a 5 x3 := ⟨_, rfl⟩
      rw [← e_s2]
      have hS_s2 : zSK G s2 := by rw [e_s2]; exact zSK_F hS_s1 ha rfl rfl rfl (by omega)
      exact j_vret hx hq rfl (by decide) (by decide) dX9_failIf_21 ⟨rfl, rfl, hS_s2, (zFr_u (zFr_u zFr_rf e_s1 ha (by decide)) e_s2 ha (by decide)), trivial⟩

set_option maxHeartbeats 4000000 in
set_option maxRecDepth 20000 in
theorem c_X9_fail {E : zE} {l : Launch} (hst : l.stackTraces = false) (a : Nat) (x1 : Int) : Con E l yX9_fail cX9_fail 2 none { frames := 1, cells := 0, slots := 0, locals := 23 } (fun G s vs => vs = [.ref a, .int (zI x1)] ∧ zGK G ∧ zSK G s ∧ (gT G a = 10) ∧ ((-2147483648) ≤ x1 ∧ x1 ≤ 2147483647)) (fun G s _ => pV (fun G2 s2 => G2 = G ∧ zSK G s2 ∧ zFr [10] G s s2 ∧ True)) := by
  refine Con.mk hst (by decide) (fun G s vs h => by rw [h.1]; exact Nat.le_of_ble_eq_true rfl) ?_
  rintro X G s0 vs ⟨rfl, hG, hS0, ha, hx1⟩ rfl hx hq
  show JJ X E 2 G s0 0 0 [(0, .ref a), (1, .int (zI x1))] 0 []
  refine j_aload_n hx 0 dX9_fail_0 rfl ?_
  refine j_iconst hx dX9_fail_1 ?_
  refine j_iload_n hx 1 dX9_fail_2 rfl ?_
  refine j_aload_n hx 0 dX9_fail_3 rfl ?_
  have f1 := zf hS0 ha (k := 3) rfl
  refine g10_3 hx hG ha kf_RX9_31 rfl dX9_fail_4 ?_
  refine j_callV hx hG (c_X9_failIf hst a 1 x1 ((s0 a 3))) lk_RX9_37 ha (by decide) rfl rfl rfl rfl [.int (zI 1), .int (zI x1), .int (zI ((s0 a 3)))] ⟨rfl, hG, hS0, ha, (by omega), (by omega), (by omega)⟩ rfl rfl ⟨by decide, by decide⟩ ⟨by decide, by decide⟩ (k2 := 0) (n2 := 0) rfl rfl (Nat.le_of_ble_eq_true rfl) dX9_fail_7 (kVM (fun s1 hS_s1 hF_s1 q3 => ?_))
  exact j_vret hx hq rfl (by decide) (by decide) dX9_fail_10 ⟨rfl, rfl, hS_s1, (zFr_t zFr_rf hF_s1 (by decide)), trivial⟩

set_option maxHeartbeats 4000000 in
set_option maxRecDepth 20000 in
theorem c_X9_close {E : zE} {l : Launch} (hst : l.stackTraces = false) (a : Nat) (x1 : Int) : Con E l yX9_close cX9_close 2 (some .int) { frames := 0, cells := 0, slots := 0, locals := 0 } (fun G s vs => vs = [.ref a, .int (zI x1)] ∧ zGK G ∧ zSK G s ∧ (gT G a = 10) ∧ ((-2147483648) ≤ x1 ∧ x1 ≤ 2147483647)) (fun G s _ => pI (fun r G2 s2 => G2 = G ∧ zSK G s2 ∧ zFr [10] G s s2 ∧ ((-2147483648) ≤ r ∧ r ≤ 2147483647))) := by
  refine Con.mk hst (by decide) (fun G s vs h => by rw [h.1]; exact Nat.le_of_ble_eq_true rfl) ?_
  rintro X G s0 vs ⟨rfl, hG, hS0, ha, hx1⟩ rfl hx hq
  show JJ X E 2 G s0 0 0 [(0, .ref a), (1, .int (zI x1))] 0 []
  refine j_aload_n hx 0 dX9_close_0 rfl ?_
  refine j_iconst hx dX9_close_1 ?_
  refine p10_1 hx hG ha kf_RX9_19 dX9_close_2 ?_
  obtain ⟨s1, e_s1⟩ : ∃ z, z = zU s0 a 1 0 := ⟨_, rfl⟩
  rw [← e_s1]
  have hS_s1 : zSK G s1 := by rw [e_s1]; exact zSK_F hS0 ha rfl rfl rfl (by omega)
  refine j_aload_n hx 0 dX9_close_5 rfl ?_
  have f1 := zf hS0 ha (k := 4) rfl
  refine g10_4 hx hG ha kf_RX9_34 (v := (s0 a 4)) (by rw [e_s1, zU_at (Or.inr (by decide))]) dX9_close_6 ?_
  refine j_if_ne hx 16 dX9_close_9 rfl (by omega) (fun h2 => ?_) (fun h2 => ?_)
  · skip
    refine j_aload_n hx 0 dX9_close_16 rfl ?_
    refine g10_4 hx hG ha kf_RX9_34 (v := (s0 a 4)) (by rw [e_s1, zU_at (Or.inr (by decide))]) dX9_close_17 ?_
    refine j_bipush hx dX9_close_20 rfl ?_
    refine j_isub hx (r := (s0 a 4) - 10) dX9_close_22 (by omega) ?_
    refine j_norm (fun v3 f4 f5 f6 => ?_)
    exact j_iret hx hq rfl (by decide) (by decide) dX9_close_23 ⟨v3, rfl, rfl, hS_s1, (zFr_u zFr_rf e_s1 ha (by decide)), (by omega)⟩
  · skip
    refine j_iload_n hx 1 dX9_close_12 rfl ?_
    refine j_goto hx 23 dX9_close_13 rfl ?_
    exact j_iret hx hq rfl (by decide) (by decide) dX9_close_23 ⟨x1, rfl, rfl, hS_s1, (zFr_u zFr_rf e_s1 ha (by decide)), (by omega)⟩

set_option maxHeartbeats 4000000 in
set_option maxRecDepth 20000 in
theorem c_X9_isLetter {E : zE} {l : Launch} (hst : l.stackTraces = false) (x0 : Int) : Con E l yX9_isLetter cX9_isLetter 1 (some .boolean) { frames := 0, cells := 0, slots := 0, locals := 0 } (fun G s vs => vs = [.int (zI x0)] ∧ zGK G ∧ zSK G s ∧ ((-2147483648) ≤ x0 ∧ x0 ≤ 2147483647)) (fun G s _ => pI (fun r G2 s2 => G2 = G ∧ s2 = s ∧ (0 ≤ r ∧ r ≤ 1))) := by
  refine Con.mk hst (by decide) (fun G s vs h => by rw [h.1]; exact Nat.le_of_ble_eq_true rfl) ?_
  rintro X G s0 vs ⟨rfl, hG, hS0, hx0⟩ rfl hx hq
  show JJ X E 1 G s0 0 0 [(0, .int (zI x0))] 0 []
  refine j_iload_n hx 0 dX9_isLetter_0 rfl ?_
  refine j_bipush hx dX9_isLetter_1 rfl ?_
  refine j_icmp_lt hx 16 dX9_isLetter_3 rfl (by omega) ⟨by decide, by decide⟩ (fun h1 => ?_) (fun h1 => ?_)
  · skip
    refine j_iconst hx dX9_isLetter_16 ?_
    exact j_zret hx hq rfl (by decide) (by decide) dX9_isLetter_17 (by omega) ⟨0, rfl, rfl, rfl, (by omega)⟩
  · skip
    refine j_iload_n hx 0 dX9_isLetter_6 rfl ?_
    refine j_bipush hx dX9_isLetter_7 rfl ?_
    refine j_icmp_gt hx 16 dX9_isLetter_9 rfl (by omega) ⟨by decide, by decide⟩ (fun h2 => ?_) (fun h2 => ?_)
    · skip
      refine j_iconst hx dX9_isLetter_16 ?_
      exact j_zret hx hq rfl (by decide) (by decide) dX9_isLetter_17 (by omega) ⟨0, rfl, rfl, rfl, (by omega)⟩
    · skip
      refine j_iconst hx dX9_isLetter_12 ?_
      refine j_goto hx 17 dX9_isLetter_13 rfl ?_
      exact j_zret hx hq rfl (by decide) (by decide) dX9_isLetter_17 (by omega) ⟨1, rfl, rfl, rfl, (by omega)⟩

set_option maxHeartbeats 4000000 in
set_option maxRecDepth 20000 in
theorem c_X9_isDigit {E : zE} {l : Launch} (hst : l.stackTraces = false) (x0 : Int) : Con E l yX9_isDigit cX9_isDigit 1 (some .boolean) { frames := 0, cells := 0, slots := 0, locals := 0 } (fun G s vs => vs = [.int (zI x0)] ∧ zGK G ∧ zSK G s ∧ ((-2147483648) ≤ x0 ∧ x0 ≤ 2147483647)) (fun G s _ => pI (fun r G2 s2 => G2 = G ∧ s2 = s ∧ (0 ≤ r ∧ r ≤ 1))) := by
  refine Con.mk hst (by decide) (fun G s vs h => by rw [h.1]; exact Nat.le_of_ble_eq_true rfl) ?_
  rintro X G s0 vs ⟨rfl, hG, hS0, hx0⟩ rfl hx hq
  show JJ X E 1 G s0 0 0 [(0, .int (zI x0))] 0 []
  refine j_iload_n hx 0 dX9_isDigit_0 rfl ?_
  refine j_bipush hx dX9_isDigit_1 rfl ?_
  refine j_icmp_lt hx 16 dX9_isDigit_3 rfl (by omega) ⟨by decide, by decide⟩ (fun h1 => ?_) (fun h1 => ?_)
  · skip
    refine j_iconst hx dX9_isDigit_16 ?_
    exact j_zret hx hq rfl (by decide) (by decide) dX9_isDigit_17 (by omega) ⟨0, rfl, rfl, rfl, (by omega)⟩
  · skip
    refine j_iload_n hx 0 dX9_isDigit_6 rfl ?_
    refine j_bipush hx dX9_isDigit_7 rfl ?_
    refine j_icmp_gt hx 16 dX9_isDigit_9 rfl (by omega) ⟨by decide, by decide⟩ (fun h2 => ?_) (fun h2 => ?_)
    · skip
      refine j_iconst hx dX9_isDigit_16 ?_
      exact j_zret hx hq rfl (by decide) (by decide) dX9_isDigit_17 (by omega) ⟨0, rfl, rfl, rfl, (by omega)⟩
    · skip
      refine j_iconst hx dX9_isDigit_12 ?_
      refine j_goto hx 17 dX9_isDigit_13 rfl ?_
      exact j_zret hx hq rfl (by decide) (by decide) dX9_isDigit_17 (by omega) ⟨1, rfl, rfl, rfl, (by omega)⟩

set_option maxHeartbeats 4000000 in
set_option maxRecDepth 20000 in
theorem c_X9_signAt {E : zE} {l : Launch} (hst : l.stackTraces = false) (a : Nat) (x1 : Int) : Con E l yX9_signAt cX9_signAt 2 (some .int) { frames := 0, cells := 0, slots := 0, locals := 0 } (fun G s vs => vs = [.ref a, .int (zI x1)] ∧ zGK G ∧ zSK G s ∧ (gT G a = 10) ∧ ((-2147483648) ≤ x1 ∧ x1 ≤ 2147483647)) (fun G s _ => pI (fun r G2 s2 => G2 = G ∧ s2 = s ∧ ((-2147483648) ≤ r ∧ r ≤ 2147483647))) := by
  refine Con.mk hst (by decide) (fun G s vs h => by rw [h.1]; exact Nat.le_of_ble_eq_true rfl) ?_
  rintro X G s0 vs ⟨rfl, hG, hS0, ha, hx1⟩ rfl hx hq
  show JJ X E 2 G s0 0 0 [(0, .ref a), (1, .int (zI x1))] 0 []
  refine j_iload_n hx 1 dX9_signAt_0 rfl ?_
  refine j_if_lt hx 34 dX9_signAt_1 rfl (by omega) (fun h1 => ?_) (fun h1 => ?_)
  · skip
    refine j_iconst hx dX9_signAt_34 ?_
    exact j_iret hx hq rfl (by decide) (by decide) dX9_signAt_35 ⟨(-1), rfl, rfl, rfl, (by omega)⟩
  · skip
    refine j_iload_n hx 1 dX9_signAt_4 rfl ?_
    refine j_aload_n hx 0 dX9_signAt_5 rfl ?_
    have f2 := zf hS0 ha (k := 2) rfl
    refine g10_2 hx hG ha kf_RX9_28 rfl dX9_signAt_6 ?_
    refine j_icmp_ge hx 34 dX9_signAt_9 rfl (by omega) (by omega) (fun h3 => ?_) (fun h3 => ?_)
    · skip
      refine j_iconst hx dX9_signAt_34 ?_
      exact j_iret hx hq rfl (by decide) (by decide) dX9_signAt_35 ⟨(-1), rfl, rfl, rfl, (by omega)⟩
    · skip
      refine j_iload_n hx 1 dX9_signAt_12 rfl ?_
      refine j_aload_n hx 0 dX9_signAt_13 rfl ?_
      refine g10_0 hx hG ha kf_RX9_11 dX9_signAt_14 ?_
      refine j_alen hx hG (zr (k := 0) (t2 := 45) hG ha rfl) (by decide) (by decide) (zlen hG (zr (k := 0) (t2 := 45) hG ha rfl) (n := 600) rfl rfl) dX9_signAt_17 ?_
      refine j_icmp_ge hx 34 dX9_signAt_18 rfl (by omega) ⟨by decide, by decide⟩ (fun h4 => ?_) (fun h4 => ?_)
      · skip
        refine j_iconst hx dX9_signAt_34 ?_
        exact j_iret hx hq rfl (by decide) (by decide) dX9_signAt_35 ⟨(-1), rfl, rfl, rfl, (by omega)⟩
      · skip
        refine j_aload_n hx 0 dX9_signAt_21 rfl ?_
        refine g10_0 hx hG ha kf_RX9_11 dX9_signAt_22 ?_
        refine j_iload_n hx 1 dX9_signAt_25 rfl ?_
        have f5 := zaI (j := (x1).toNat) hS0 (zr (k := 0) (t2 := 45) hG ha rfl) rfl (zlen hG (zr (k := 0) (t2 := 45) hG ha rfl) (n := 600) rfl rfl) (show 0 ≤ x1 by omega) (by omega) rfl
        refine j_bald hx hG (zr (k := 0) (t2 := 45) hG ha rfl) (by decide) rfl (zlen hG (zr (k := 0) (t2 := 45) hG ha rfl) (n := 600) rfl rfl) (by omega) (by omega) (j := (x1).toNat) rfl rfl dX9_signAt_26 ?_
        refine j_sipush hx dX9_signAt_27 rfl ?_
        refine j_iand hx dX9_signAt_30 (by omega) ⟨by decide, by decide⟩ (fun v6 f7 f8 f9 f10 _ => ?_)
        refine j_goto hx 35 dX9_signAt_31 rfl ?_
        exact j_iret hx hq rfl (by decide) (by decide) dX9_signAt_35 ⟨v6, rfl, rfl, rfl, (by omega)⟩

set_option maxHeartbeats 4000000 in
set_option maxRecDepth 20000 in
theorem c_X9_here {E : zE} {l : Launch} (hst : l.stackTraces = false) (a : Nat) : Con E l yX9_here cX9_here 1 (some .int) { frames := 0, cells := 0, slots := 0, locals := 0 } (fun G s vs => vs = [.ref a] ∧ zGK G ∧ zSK G s ∧ (gT G a = 10)) (fun G s _ => pI (fun r G2 s2 => G2 = G ∧ s2 = s ∧ ((-2147483648) ≤ r ∧ r ≤ 2147483647))) := by
  refine Con.mk hst (by decide) (fun G s vs h => by rw [h.1]; exact Nat.le_of_ble_eq_true rfl) ?_
  rintro X G s0 vs ⟨rfl, hG, hS0, ha⟩ rfl hx hq
  show JJ X E 1 G s0 0 0 [(0, .ref a)] 0 []
  refine j_aload_n hx 0 dX9_here_0 rfl ?_
  have f1 := zf hS0 ha (k := 3) rfl
  refine g10_3 hx hG ha kf_RX9_31 rfl dX9_here_1 ?_
  refine j_if_lt hx 46 dX9_here_4 rfl (by omega) (fun h2 => ?_) (fun h2 => ?_)
  · skip
    refine j_iconst hx dX9_here_46 ?_
    exact j_iret hx hq rfl (by decide) (by decide) dX9_here_47 ⟨(-1), rfl, rfl, rfl, (by omega)⟩
  · skip
    refine j_aload_n hx 0 dX9_here_7 rfl ?_
    refine g10_3 hx hG ha kf_RX9_31 rfl dX9_here_8 ?_
    refine j_aload_n hx 0 dX9_here_11 rfl ?_
    have f3 := zf hS0 ha (k := 2) rfl
    refine g10_2 hx hG ha kf_RX9_28 rfl dX9_here_12 ?_
    refine j_icmp_ge hx 46 dX9_here_15 rfl (by omega) (by omega) (fun h4 => ?_) (fun h4 => ?_)
    · skip
      refine j_iconst hx dX9_here_46 ?_
      exact j_iret hx hq rfl (by decide) (by decide) dX9_here_47 ⟨(-1), rfl, rfl, rfl, (by omega)⟩
    · skip
      refine j_aload_n hx 0 dX9_here_18 rfl ?_
      refine g10_3 hx hG ha kf_RX9_31 rfl dX9_here_19 ?_
      refine j_aload_n hx 0 dX9_here_22 rfl ?_
      refine g10_0 hx hG ha kf_RX9_11 dX9_here_23 ?_
      refine j_alen hx hG (zr (k := 0) (t2 := 45) hG ha rfl) (by decide) (by decide) (zlen hG (zr (k := 0) (t2 := 45) hG ha rfl) (n := 600) rfl rfl) dX9_here_26 ?_
      refine j_icmp_ge hx 46 dX9_here_27 rfl (by omega) ⟨by decide, by decide⟩ (fun h5 => ?_) (fun h5 => ?_)
      · skip
        refine j_iconst hx dX9_here_46 ?_
        exact j_iret hx hq rfl (by decide) (by decide) dX9_here_47 ⟨(-1), rfl, rfl, rfl, (by omega)⟩
      · skip
        refine j_aload_n hx 0 dX9_here_30 rfl ?_
        refine g10_0 hx hG ha kf_RX9_11 dX9_here_31 ?_
        refine j_aload_n hx 0 dX9_here_34 rfl ?_
        refine g10_3 hx hG ha kf_RX9_31 rfl dX9_here_35 ?_
        have f6 := zaI (j := ((s0 a 3)).toNat) hS0 (zr (k := 0) (t2 := 45) hG ha rfl) rfl (zlen hG (zr (k := 0) (t2 := 45) hG ha rfl) (n := 600) rfl rfl) (show 0 ≤ (s0 a 3) by omega) (by omega) rfl
        refine j_bald hx hG (zr (k := 0) (t2 := 45) hG ha rfl) (by decide) rfl (zlen hG (zr (k := 0) (t2 := 45) hG ha rfl) (n := 600) rfl rfl) (by omega) (by omega) (j := ((s0 a 3)).toNat) rfl rfl dX9_here_38 ?_
        refine j_sipush hx dX9_here_39 rfl ?_
        refine j_iand hx dX9_here_42 (by omega) ⟨by decide, by decide⟩ (fun v7 f8 f9 f10 f11 _ => ?_)
        refine j_goto hx 47 dX9_here_43 rfl ?_
        exact j_iret hx hq rfl (by decide) (by decide) dX9_here_47 ⟨v7, rfl, rfl, rfl, (by omega)⟩

set_option maxHeartbeats 4000000 in
set_option maxRecDepth 20000 in
theorem c_X9_peek {E : zE} {l : Launch} (hst : l.stackTraces = false) (a : Nat) : Con E l yX9_peek cX9_peek 2 (some .int) { frames := 0, cells := 0, slots := 0, locals := 0 } (fun G s vs => vs = [.ref a] ∧ zGK G ∧ zSK G s ∧ (gT G a = 10)) (fun G s _ => pI (fun r G2 s2 => G2 = G ∧ zSK G s2 ∧ zFr [10] G s s2 ∧ ((-2147483648) ≤ r ∧ r ≤ 2147483647))) := by
  refine Con.mk hst (by decide) (fun G s vs h => by rw [h.1]; exact Nat.le_of_ble_eq_true rfl) ?_
  rintro X G s0 vs ⟨rfl, hG, hS0, ha⟩ rfl hx hq
  show JJ X E 2 G s0 0 0 [(0, .ref a)] 0 []
  refine j_iconst hx dX9_peek_0 ?_
  refine j_istore_n hx [(1, .int (zI 0)), (0, .ref a)] dX9_peek_1 (by decide) rfl ?_
  have c2_1 : ∀ (m_c2_1 : Nat) (v1 : Int) (s2 : zS), 2147483648 - v1 < m_c2_1 → (0 ≤ v1 ∧ v1 ≤ 600) → (zSK G s2) → (zFr [10] G s0 s2) → JJ X E 2 G s2 0 0 [(0, .ref a), (1, .int (zI v1))] 2 [] := by
    intro m_c2_1
    induction m_c2_1 with
    | zero => intro v1 s2 hm_c2_1 f3 hS_s2 hF_s2; exfalso; omega
    | succ m_c2_1 ih_c2_1 => 
      intro v1 s2 hm_c2_1 f3 hS_s2 hF_s2
      refine j_iload_n hx 1 dX9_peek_2 rfl ?_
      refine j_sipush hx dX9_peek_3 rfl ?_
      refine j_icmp_ge hx 83 dX9_peek_6 rfl (by omega) ⟨by decide, by decide⟩ (fun h2 => ?_) (fun h2 => ?_)
      · skip
        refine j_iconst hx dX9_peek_83 ?_
        exact j_iret hx hq rfl (by decide) (by decide) dX9_peek_84 ⟨(-1), rfl, rfl, hS_s2, (zFr_t zFr_rf hF_s2 (by decide)), (by omega)⟩
      · skip
        refine j_aload_n hx 0 dX9_peek_9 rfl ?_
        have f3 := zf hS_s2 ha (k := 3) rfl
        refine g10_3 hx hG ha kf_RX9_31 rfl dX9_peek_10 ?_
        refine j_if_lt hx 83 dX9_peek_13 rfl (by omega) (fun h4 => ?_) (fun h4 => ?_)
        · skip
          refine j_iconst hx dX9_peek_83 ?_
          exact j_iret hx hq rfl (by decide) (by decide) dX9_peek_84 ⟨(-1), rfl, rfl, hS_s2, (zFr_t zFr_rf hF_s2 (by decide)), (by omega)⟩
        · skip
          refine j_aload_n hx 0 dX9_peek_16 rfl ?_
          refine g10_3 hx hG ha kf_RX9_31 rfl dX9_peek_17 ?_
          refine j_aload_n hx 0 dX9_peek_20 rfl ?_
          have f5 := zf hS_s2 ha (k := 2) rfl
          refine g10_2 hx hG ha kf_RX9_28 rfl dX9_peek_21 ?_
          refine j_icmp_ge hx 83 dX9_peek_24 rfl (by omega) (by omega) (fun h6 => ?_) (fun h6 => ?_)
          · skip
            refine j_iconst hx dX9_peek_83 ?_
            exact j_iret hx hq rfl (by decide) (by decide) dX9_peek_84 ⟨(-1), rfl, rfl, hS_s2, (zFr_t zFr_rf hF_s2 (by decide)), (by omega)⟩
          · skip
            refine j_aload_n hx 0 dX9_peek_27 rfl ?_
            refine g10_3 hx hG ha kf_RX9_31 rfl dX9_peek_28 ?_
            refine j_aload_n hx 0 dX9_peek_31 rfl ?_
            refine g10_0 hx hG ha kf_RX9_11 dX9_peek_32 ?_
            refine j_alen hx hG (zr (k := 0) (t2 := 45) hG ha rfl) (by decide) (by decide) (zlen hG (zr (k := 0) (t2 := 45) hG ha rfl) (n := 600) rfl rfl) dX9_peek_35 ?_
            refine j_icmp_ge hx 83 dX9_peek_36 rfl (by omega) ⟨by decide, by decide⟩ (fun h7 => ?_) (fun h7 => ?_)
            · skip
              refine j_iconst hx dX9_peek_83 ?_
              exact j_iret hx hq rfl (by decide) (by decide) dX9_peek_84 ⟨(-1), rfl, rfl, hS_s2, (zFr_t zFr_rf hF_s2 (by decide)), (by omega)⟩
            · skip
              refine j_aload_n hx 0 dX9_peek_39 rfl ?_
              refine g10_0 hx hG ha kf_RX9_11 dX9_peek_40 ?_
              refine j_aload_n hx 0 dX9_peek_43 rfl ?_
              refine g10_3 hx hG ha kf_RX9_31 rfl dX9_peek_44 ?_
              have f8 := zaI (j := ((s2 a 3)).toNat) hS0 (zr (k := 0) (t2 := 45) hG ha rfl) rfl (zlen hG (zr (k := 0) (t2 := 45) hG ha rfl) (n := 600) rfl rfl) (show 0 ≤ (s2 a 3) by omega) (by omega) rfl
              refine j_bald hx hG (zr (k := 0) (t2 := 45) hG ha rfl) (by decide) rfl (zlen hG (zr (k := 0) (t2 := 45) hG ha rfl) (n := 600) rfl rfl) (by omega) (by omega) (j := ((s2 a 3)).toNat) rfl (v := (s0 (gP G a 0) ((s2 a 3)).toNat)) (by rw [(zFr_g hF_s2 (zr (k := 0) (t2 := 45) hG ha rfl) (by decide))]) dX9_peek_47 ?_
              refine j_bipush hx dX9_peek_48 rfl ?_
              refine j_icmp_eq hx 67 dX9_peek_50 rfl (by omega) ⟨by decide, by decide⟩ (fun h9 => ?_) (fun h9 => ?_)
              · skip
                refine j_aload_n hx 0 dX9_peek_67 rfl ?_
                refine j_dup hx dX9_peek_68 rfl ?_
                refine g10_3 hx hG ha kf_RX9_31 rfl dX9_peek_69 ?_
                refine j_iconst hx dX9_peek_72 ?_
                refine j_iadd hx (r := (s2 a 3) + 1) dX9_peek_73 (by omega) ?_
                refine p10_3 hx hG ha kf_RX9_31 dX9_peek_74 ?_
                obtain ⟨s6, e_s6⟩ : ∃ z, z = zU s2 a 3 ((s2 a 3) + 1) := ⟨_, rfl⟩
                rw [← e_s6]
                have hS_s6 : zSK G s6 := by rw [e_s6]; exact zSK_F hS_s2 ha rfl rfl rfl (by omega)
                refine j_iinc hx 1 [(1, .int (zI (v1 + 1))), (0, .ref a)] dX9_peek_77 rfl (by omega) (by decide) rfl ?_
                refine j_goto hx 2 dX9_peek_80 rfl ?_
                exact j_sub [1, 0] [(0, .ref a), (1, .int (zI (v1 + 1)))] rfl (ih_c2_1 (v1 + 1) s6 (by omega) (by omega) hS_s6 (zFr_u (zFr_t zFr_rf hF_s2 (by decide)) e_s6 ha (by decide)))
              · skip
                refine j_aload_n hx 0 dX9_peek_53 rfl ?_
                refine g10_0 hx hG ha kf_RX9_11 dX9_peek_54 ?_
                refine j_aload_n hx 0 dX9_peek_57 rfl ?_
                refine g10_3 hx hG ha kf_RX9_31 rfl dX9_peek_58 ?_
                refine j_bald hx hG (zr (k := 0) (t2 := 45) hG ha rfl) (by decide) rfl (zlen hG (zr (k := 0) (t2 := 45) hG ha rfl) (n := 600) rfl rfl) (by omega) (by omega) (j := ((s2 a 3)).toNat) rfl (v := (s0 (gP G a 0) ((s2 a 3)).toNat)) (by rw [(zFr_g hF_s2 (zr (k := 0) (t2 := 45) hG ha rfl) (by decide))]) dX9_peek_61 ?_
                refine j_sipush hx dX9_peek_62 rfl ?_
                refine j_iand hx dX9_peek_65 (by omega) ⟨by decide, by decide⟩ (fun v10 f11 f12 f13 f14 _ => ?_)
                exact j_iret hx hq rfl (by decide) (by decide) dX9_peek_66 ⟨v10, rfl, rfl, hS_s2, (zFr_t zFr_rf hF_s2 (by decide)), (by omega)⟩
  exact j_sub [1, 0] [(0, .ref a), (1, .int (zI 0))] rfl (c2_1 (2147483648 * 4) 0 s0 (by omega) (by omega) hS0 zFr_rf)

set_option maxHeartbeats 4000000 in
set_option maxRecDepth 20000 in
theorem c_X9_lettersHere {E : zE} {l : Launch} (hst : l.stackTraces = false) (a : Nat) : Con E l yX9_lettersHere cX9_lettersHere 3 (some .int) { frames := 1, cells := 0, slots := 0, locals := 21 } (fun G s vs => vs = [.ref a] ∧ zGK G ∧ zSK G s ∧ (gT G a = 10)) (fun G s _ => pI (fun r G2 s2 => G2 = G ∧ s2 = s ∧ ((-2147483648) ≤ r ∧ r ≤ 2147483647))) := by
  refine Con.mk hst (by decide) (fun G s vs h => by rw [h.1]; exact Nat.le_of_ble_eq_true rfl) ?_
  rintro X G s0 vs ⟨rfl, hG, hS0, ha⟩ rfl hx hq
  show JJ X E 3 G s0 0 0 [(0, .ref a)] 0 []
  refine j_iconst hx dX9_lettersHere_0 ?_
  refine j_istore_n hx [(1, .int (zI 0)), (0, .ref a)] dX9_lettersHere_1 (by decide) rfl ?_
  refine j_iconst hx dX9_lettersHere_2 ?_
  refine j_istore_n hx [(2, .int (zI 0)), (1, .int (zI 0)), (0, .ref a)] dX9_lettersHere_3 (by decide) rfl ?_
  have c4_1 : ∀ (m_c4_1 : Nat) (v1 : Int) (v2 : Int), 2147483648 - v2 < m_c4_1 → ((-2147483648) ≤ v1 ∧ v1 ≤ 2147483647) → (0 ≤ v2 ∧ v2 ≤ 600) → JJ X E 3 G s0 0 0 [(0, .ref a), (1, .int (zI v1)), (2, .int (zI v2))] 4 [] := by
    intro m_c4_1
    induction m_c4_1 with
    | zero => intro v1 v2 hm_c4_1 f2 f3; exfalso; omega
    | succ m_c4_1 ih_c4_1 => 
      intro v1 v2 hm_c4_1 f2 f3
      refine j_iload_n hx 2 dX9_lettersHere_4 rfl ?_
      refine j_aload_n hx 0 dX9_lettersHere_5 rfl ?_
      refine g10_0 hx hG ha kf_RX9_11 dX9_lettersHere_6 ?_
      refine j_alen hx hG (zr (k := 0) (t2 := 45) hG ha rfl) (by decide) (by decide) (zlen hG (zr (k := 0) (t2 := 45) hG ha rfl) (n := 600) rfl rfl) dX9_lettersHere_9 ?_
      refine j_icmp_ge hx 38 dX9_lettersHere_10 rfl (by omega) ⟨by decide, by decide⟩ (fun h3 => ?_) (fun h3 => ?_)
      · skip
        refine j_iload_n hx 1 dX9_lettersHere_38 rfl ?_
        exact j_iret hx hq rfl (by decide) (by decide) dX9_lettersHere_39 ⟨v1, rfl, rfl, rfl, (by omega)⟩
      · skip
        refine j_aload_n hx 0 dX9_lettersHere_13 rfl ?_
        refine j_aload_n hx 0 dX9_lettersHere_14 rfl ?_
        have f4 := zf hS0 ha (k := 3) rfl
        refine g10_3 hx hG ha kf_RX9_31 rfl dX9_lettersHere_15 ?_
        refine j_iload_n hx 2 dX9_lettersHere_18 rfl ?_
        refine j_iadd hx (r := (s0 a 3) + v2) dX9_lettersHere_19 (by omega) ?_
        refine j_norm (fun v5 f6 f7 f8 => ?_)
        refine j_callV hx hG (c_X9_signAt hst a v5) lk_RX9_41 ha (by decide) rfl rfl rfl rfl [.int (zI v5)] ⟨rfl, hG, hS0, ha, (by omega)⟩ rfl rfl ⟨by decide, by decide⟩ ⟨by decide, by decide⟩ (k2 := 0) (n2 := 0) rfl rfl (Nat.le_of_ble_eq_true rfl) dX9_lettersHere_20 (kIP (fun v9 q10 => ?_))
        refine j_callS hx (c_X9_isLetter hst v9) lk_RX9_45 [.int (zI v9)] ⟨rfl, hG, hS0, (by omega)⟩ rfl rfl ⟨by decide, by decide⟩ ⟨by decide, by decide⟩ (k2 := 0) (n2 := 0) rfl rfl (Nat.le_of_ble_eq_true rfl) dX9_lettersHere_23 (kIP (fun v11 q12 => ?_))
        refine j_if_eq hx 38 dX9_lettersHere_26 rfl (by omega) (fun h13 => ?_) (fun h13 => ?_)
        · skip
          refine j_iload_n hx 1 dX9_lettersHere_38 rfl ?_
          exact j_iret hx hq rfl (by decide) (by decide) dX9_lettersHere_39 ⟨v1, rfl, rfl, rfl, (by omega)⟩
        · skip
          refine j_iincN hx 1 (fun v14 => [(1, .int (zI v14)), (0, .ref a), (2, .int (zI v2))]) dX9_lettersHere_29 rfl (by decide) (fun _ => rfl) (fun v14 f15 f16 f17 => ?_)
          refine j_iinc hx 2 [(2, .int (zI (v2 + 1))), (1, .int (zI v14)), (0, .ref a)] dX9_lettersHere_32 rfl (by omega) (by decide) rfl ?_
          refine j_goto hx 4 dX9_lettersHere_35 rfl ?_
          exact j_sub [2, 1, 0] [(0, .ref a), (1, .int (zI v14)), (2, .int (zI (v2 + 1)))] rfl (ih_c4_1 v14 (v2 + 1) (by omega) (by omega) (by omega))
  exact j_sub [2, 1, 0] [(0, .ref a), (1, .int (zI 0)), (2, .int (zI 0))] rfl (c4_1 (2147483648 * 4) 0 0 (by omega) (by omega) (by omega))

set_option maxHeartbeats 4000000 in
set_option maxRecDepth 20000 in
theorem c_X9_takeSign {E : zE} {l : Launch} (hst : l.stackTraces = false) (a : Nat) (x1 : Int) : Con E l yX9_takeSign cX9_takeSign 2 (some .boolean) { frames := 1, cells := 0, slots := 0, locals := 21 } (fun G s vs => vs = [.ref a, .int (zI x1)] ∧ zGK G ∧ zSK G s ∧ (gT G a = 10) ∧ (0 ≤ x1 ∧ x1 ≤ 65535)) (fun G s _ => pI (fun r G2 s2 => G2 = G ∧ zSK G s2 ∧ zFr [10] G s s2 ∧ (0 ≤ r ∧ r ≤ 1))) := by
  refine Con.mk hst (by decide) (fun G s vs h => by rw [h.1]; exact Nat.le_of_ble_eq_true rfl) ?_
  rintro X G s0 vs ⟨rfl, hG, hS0, ha, hx1⟩ rfl hx hq
  show JJ X E 2 G s0 0 0 [(0, .ref a), (1, .int (zI x1))] 0 []
  refine j_aload_n hx 0 dX9_takeSign_0 rfl ?_
  have f1 := zf hS0 ha (k := 4) rfl
  refine g10_4 hx hG ha kf_RX9_34 rfl dX9_takeSign_1 ?_
  refine j_if_ne hx 15 dX9_takeSign_4 rfl (by omega) (fun h2 => ?_) (fun h2 => ?_)
  · skip
    refine j_iconst hx dX9_takeSign_15 ?_
    exact j_zret hx hq rfl (by decide) (by decide) dX9_takeSign_16 (by omega) ⟨0, rfl, rfl, hS0, zFr_rf, (by omega)⟩
  · skip
    refine j_aload_n hx 0 dX9_takeSign_7 rfl ?_
    refine j_callV hx hG (c_X9_peek hst a) lk_RX9_49 ha (by decide) rfl rfl rfl rfl [] ⟨rfl, hG, hS0, ha⟩ rfl rfl ⟨by decide, by decide⟩ ⟨by decide, by decide⟩ (k2 := 0) (n2 := 0) rfl rfl (Nat.le_of_ble_eq_true rfl) dX9_takeSign_8 (kIM (fun v3 s1 hS_s1 hF_s1 q4 => ?_))
    refine j_iload_n hx 1 dX9_takeSign_11 rfl ?_
    refine j_icmp_eq hx 17 dX9_takeSign_12 rfl (by omega) (by omega) (fun h5 => ?_) (fun h5 => ?_)
    · skip
      refine j_aload_n hx 0 dX9_takeSign_17 rfl ?_
      refine j_dup hx dX9_takeSign_18 rfl ?_
      have f6 := zf hS_s1 ha (k := 3) rfl
      refine g10_3 hx hG ha kf_RX9_31 rfl dX9_takeSign_19 ?_
      refine j_iconst hx dX9_takeSign_22 ?_
      refine j_iadd hx (r := (s1 a 3) + 1) dX9_takeSign_23 (by omega) ?_
      refine j_norm (fun v7 f8 f9 f10 => ?_)
      refine p10_3 hx hG ha kf_RX9_31 dX9_takeSign_24 ?_
      obtain ⟨s2, e_s2⟩ : ∃ z, z = zU s1 a 3 v7 := ⟨_, rfl⟩
      rw [← e_s2]
      have hS_s2 : zSK G s2 := by rw [e_s2]; exact zSK_F hS_s1 ha rfl rfl rfl (by omega)
      refine j_iconst hx dX9_takeSign_27 ?_
      exact j_zret hx hq rfl (by decide) (by decide) dX9_takeSign_28 (by omega) ⟨1, rfl, rfl, hS_s2, (zFr_u (zFr_t zFr_rf hF_s1 (by decide)) e_s2 ha (by decide)), (by omega)⟩
    · skip
      refine j_iconst hx dX9_takeSign_15 ?_
      exact j_zret hx hq rfl (by decide) (by decide) dX9_takeSign_16 (by omega) ⟨0, rfl, rfl, hS_s1, (zFr_t zFr_rf hF_s1 (by decide)), (by omega)⟩

set_option maxHeartbeats 4000000 in
set_option maxRecDepth 20000 in
theorem c_X9_needSign {E : zE} {l : Launch} (hst : l.stackTraces = false) (a : Nat) (x1 : Int) : Con E l yX9_needSign cX9_needSign 3 none { frames := 1, cells := 0, slots := 0, locals := 23 } (fun G s vs => vs = [.ref a, .int (zI x1)] ∧ zGK G ∧ zSK G s ∧ (gT G a = 10) ∧ (0 ≤ x1 ∧ x1 ≤ 65535)) (fun G s _ => pV (fun G2 s2 => G2 = G ∧ zSK G s2 ∧ zFr [10] G s s2 ∧ True)) := by
  refine Con.mk hst (by decide) (fun G s vs h => by rw [h.1]; exact Nat.le_of_ble_eq_true rfl) ?_
  rintro X G s0 vs ⟨rfl, hG, hS0, ha, hx1⟩ rfl hx hq
  show JJ X E 3 G s0 0 0 [(0, .ref a), (1, .int (zI x1))] 0 []
  refine j_aload_n hx 0 dX9_needSign_0 rfl ?_
  refine j_callV hx hG (c_X9_peek hst a) lk_RX9_49 ha (by decide) rfl rfl rfl rfl [] ⟨rfl, hG, hS0, ha⟩ rfl rfl ⟨by decide, by decide⟩ ⟨by decide, by decide⟩ (k2 := 0) (n2 := 0) rfl rfl (Nat.le_of_ble_eq_true rfl) dX9_needSign_1 (kIM (fun v1 s1 hS_s1 hF_s1 q2 => ?_))
  refine j_iload_n hx 1 dX9_needSign_4 rfl ?_
  have c13_2 : ∀ (v3 : Int), (0 ≤ v3 ∧ v3 ≤ 1) → JJ X E 3 G s1 0 0 [(0, .ref a)] 13 [.int (zI v3)] := by
    intro v3 f3
    refine j_istore_n hx [(2, .int (zI v3)), (0, .ref a)] dX9_needSign_13 (by decide) rfl ?_
    refine j_aload_n hx 1 dX9_needSign_14 rfl ?_
    refine j_iload_n hx 0 dX9_needSign_15 rfl ?_
    have c24_4 : ∀ (v4 : Int), (0 ≤ v4 ∧ v4 ≤ 1) → JJ X E 3 G s1 0 0 [(0, .ref a), (2, .int (zI v3))] 24 [.int (zI v4), .ref a] := by
      intro v4 f5
      refine j_iconst hx dX9_needSign_24 ?_
      refine j_aload_n hx 0 dX9_needSign_25 rfl ?_
      have f5 := zf hS_s1 ha (k := 3) rfl
      refine g10_3 hx hG ha kf_RX9_31 rfl dX9_needSign_26 ?_
      refine j_callV hx hG (c_X9_failIf hst a v4 1 ((s1 a 3))) lk_RX9_37 ha (by decide) rfl rfl rfl rfl [.int (zI v4), .int (zI 1), .int (zI ((s1 a 3)))] ⟨rfl, hG, hS_s1, ha, (by omega), (by omega), (by omega)⟩ rfl rfl ⟨by decide, by decide⟩ ⟨by decide, by decide⟩ (k2 := 0) (n2 := 0) rfl rfl (Nat.le_of_ble_eq_true rfl) dX9_needSign_29 (kVM (fun s6 hS_s6 hF_s6 q7 => ?_))
      refine j_aload_n hx 0 dX9_needSign_32 rfl ?_
      refine j_dup hx dX9_needSign_33 rfl ?_
      have f8 := zf hS_s6 ha (k := 3) rfl
      refine g10_3 hx hG ha kf_RX9_31 rfl dX9_needSign_34 ?_
      refine j_iload_n hx 1 dX9_needSign_37 rfl ?_
      refine j_if_eq hx 45 dX9_needSign_38 rfl (by omega) (fun h9 => ?_) (fun h9 => ?_)
      · skip
        refine j_iconst hx dX9_needSign_45 ?_
        refine j_iadd hx (r := (s6 a 3)) dX9_needSign_46 (by omega) ?_
        refine p10_3 hx hG ha kf_RX9_31 dX9_needSign_47 ?_
        obtain ⟨s7, e_s7⟩ : ∃ z, z = zU s6 a 3 ((s6 a 3)) := ⟨_, rfl⟩
        rw [← e_s7]
        have hS_s7 : zSK G s7 := by rw [e_s7]; exact zSK_F hS_s6 ha rfl rfl rfl (by omega)
        exact j_vret hx hq rfl (by decide) (by decide) dX9_needSign_50 ⟨rfl, rfl, hS_s7, (zFr_u (zFr_t (zFr_t zFr_rf hF_s1 (by decide)) hF_s6 (by decide)) e_s7 ha (by decide)), trivial⟩
      · skip
        refine j_iconst hx dX9_needSign_41 ?_
        refine j_goto hx 46 dX9_needSign_42 rfl ?_
        refine j_iadd hx (r := (s6 a 3) + 1) dX9_needSign_46 (by omega) ?_
        refine j_norm (fun v10 f11 f12 f13 => ?_)
        refine p10_3 hx hG ha kf_RX9_31 dX9_needSign_47 ?_
        obtain ⟨s8, e_s8⟩ : ∃ z, z = zU s6 a 3 v10 := ⟨_, rfl⟩
        rw [← e_s8]
        have hS_s8 : zSK G s8 := by rw [e_s8]; exact zSK_F hS_s6 ha rfl rfl rfl (by omega)
        exact j_vret hx hq rfl (by decide) (by decide) dX9_needSign_50 ⟨rfl, rfl, hS_s8, (zFr_u (zFr_t (zFr_t zFr_rf hF_s1 (by decide)) hF_s6 (by decide)) e_s8 ha (by decide)), trivial⟩
    refine j_if_ne hx 23 dX9_needSign_16 rfl (by omega) (fun h14 => ?_) (fun h14 => ?_)
    · skip
      refine j_iconst hx dX9_needSign_23 ?_
      exact j_sub [1, 0] [(0, .ref a), (2, .int (zI v3))] rfl (c24_4 0 (by omega))
    · skip
      refine j_iconst hx dX9_needSign_19 ?_
      refine j_goto hx 24 dX9_needSign_20 rfl ?_
      exact j_sub [1, 0] [(0, .ref a), (2, .int (zI v3))] rfl (c24_4 1 (by omega))
  refine j_icmp_ne hx 12 dX9_needSign_5 rfl (by omega) (by omega) (fun h15 => ?_) (fun h15 => ?_)
  · skip
    refine j_iconst hx dX9_needSign_12 ?_
    exact j_sub [0] [(0, .ref a)] rfl (c13_2 0 (by omega))
  · skip
    refine j_iconst hx dX9_needSign_8 ?_
    refine j_goto hx 13 dX9_needSign_9 rfl ?_
    exact j_sub [0] [(0, .ref a)] rfl (c13_2 1 (by omega))

set_option maxHeartbeats 4000000 in
set_option maxRecDepth 20000 in
theorem c_X9_takeNumber {E : zE} {l : Launch} (hst : l.stackTraces = false) (a : Nat) (x1 : Int) (x2 : Int) : Con E l yX9_takeNumber cX9_takeNumber 6 (some .int) { frames := 1, cells := 0, slots := 0, locals := 33 } (fun G s vs => vs = [.ref a, .int (zI x1), .int (zI x2)] ∧ zGK G ∧ zSK G s ∧ (gT G a = 10) ∧ ((-2147483648) ≤ x1 ∧ x1 ≤ 2147483647) ∧ ((-2147483648) ≤ x2 ∧ x2 ≤ 2147483647)) (fun G s _ => pI (fun r G2 s2 => G2 = G ∧ zSK G s2 ∧ zFr [10] G s s2 ∧ ((-2147483648) ≤ r ∧ r ≤ 2147483647))) := by
  refine Con.mk hst (by decide) (fun G s vs h => by rw [h.1]; exact Nat.le_of_ble_eq_true rfl) ?_
  rintro X G s0 vs ⟨rfl, hG, hS0, ha, hx1, hx2⟩ rfl hx hq
  show JJ X E 6 G s0 0 0 [(0, .ref a), (1, .int (zI x1)), (2, .int (zI x2))] 0 []
  refine j_aload_n hx 0 dX9_takeNumber_0 rfl ?_
  have f1 := zf hS0 ha (k := 4) rfl
  refine g10_4 hx hG ha kf_RX9_34 rfl dX9_takeNumber_1 ?_
  refine j_if_eq hx 9 dX9_takeNumber_4 rfl (by omega) (fun h2 => ?_) (fun h2 => ?_)
  · skip
    refine j_aload_n hx 0 dX9_takeNumber_9 rfl ?_
    refine j_callV hx hG (c_X9_peek hst a) lk_RX9_49 ha (by decide) rfl rfl rfl rfl [] ⟨rfl, hG, hS0, ha⟩ rfl rfl ⟨by decide, by decide⟩ ⟨by decide, by decide⟩ (k2 := 0) (n2 := 0) rfl rfl (Nat.le_of_ble_eq_true rfl) dX9_takeNumber_10 (kIM (fun v3 s1 hS_s1 hF_s1 q4 => ?_))
    refine j_callS hx (c_X9_isDigit hst v3) lk_RX9_65 [.int (zI v3)] ⟨rfl, hG, hS_s1, (by omega)⟩ rfl rfl ⟨by decide, by decide⟩ ⟨by decide, by decide⟩ (k2 := 0) (n2 := 0) rfl rfl (Nat.le_of_ble_eq_true rfl) dX9_takeNumber_13 (kIP (fun v5 q6 => ?_))
    refine j_if_ne hx 31 dX9_takeNumber_16 rfl (by omega) (fun h7 => ?_) (fun h7 => ?_)
    · skip
      refine j_aload_n hx 0 dX9_takeNumber_31 rfl ?_
      have f8 := zf hS_s1 ha (k := 3) rfl
      refine g10_3 hx hG ha kf_RX9_31 rfl dX9_takeNumber_32 ?_
      refine j_istore_n hx [(3, .int (zI ((s1 a 3)))), (0, .ref a), (1, .int (zI x1)), (2, .int (zI x2))] dX9_takeNumber_35 (by decide) rfl ?_
      refine j_iconst hx dX9_takeNumber_36 ?_
      refine j_istore hx [(4, .int (zI 0)), (3, .int (zI ((s1 a 3)))), (0, .ref a), (1, .int (zI x1)), (2, .int (zI x2))] dX9_takeNumber_37 (by decide) rfl ?_
      refine j_iconst hx dX9_takeNumber_39 ?_
      refine j_istore hx [(5, .int (zI 0)), (4, .int (zI 0)), (3, .int (zI ((s1 a 3)))), (0, .ref a), (1, .int (zI x1)), (2, .int (zI x2))] dX9_takeNumber_40 (by decide) rfl ?_
      have c42_2 : ∀ (m_c42_2 : Nat) (v9 : Int) (v10 : Int) (s3 : zS), 2147483648 - v10 < m_c42_2 → ((-2147483648) ≤ v9 ∧ v9 ≤ 1000000) → (0 ≤ v10 ∧ v10 ≤ 600) → (zSK G s3) → (zFr [10] G s1 s3) → JJ X E 6 G s3 0 0 [(0, .ref a), (1, .int (zI x1)), (2, .int (zI x2)), (3, .int (zI ((s1 a 3)))), (4, .int (zI v9)), (5, .int (zI v10))] 42 [] := by
        intro m_c42_2
        induction m_c42_2 with
        | zero => intro v9 v10 s3 hm_c42_2 f4 f5 hS_s3 hF_s3; exfalso; omega
        | succ m_c42_2 ih_c42_2 => 
          intro v9 v10 s3 hm_c42_2 f4 f5 hS_s3 hF_s3
          refine j_iload hx 5 dX9_takeNumber_42 rfl ?_
          refine j_aload_n hx 0 dX9_takeNumber_44 rfl ?_
          refine g10_0 hx hG ha kf_RX9_11 dX9_takeNumber_45 ?_
          refine j_alen hx hG (zr (k := 0) (t2 := 45) hG ha rfl) (by decide) (by decide) (zlen hG (zr (k := 0) (t2 := 45) hG ha rfl) (n := 600) rfl rfl) dX9_takeNumber_48 ?_
          have c98_8 : JJ X E 6 G s3 0 0 [(0, .ref a), (1, .int (zI x1)), (2, .int (zI x2)), (3, .int (zI ((s1 a 3)))), (4, .int (zI v9))] 98 [] := by
            refine j_aload_n hx 0 dX9_takeNumber_98 rfl ?_
            refine j_iload hx 4 dX9_takeNumber_99 rfl ?_
            refine j_iload_n hx 1 dX9_takeNumber_101 rfl ?_
            have c116_9 : ∀ (v11 : Int), (0 ≤ v11 ∧ v11 ≤ 1) → JJ X E 6 G s3 0 0 [(0, .ref a), (1, .int (zI x1)), (3, .int (zI ((s1 a 3)))), (4, .int (zI v9))] 116 [.int (zI v11), .ref a] := by
              intro v11 f10
              refine j_iconst hx dX9_takeNumber_116 ?_
              refine j_iload_n hx 2 dX9_takeNumber_117 rfl ?_
              refine j_callV hx hG (c_X9_failIf hst a v11 2 ((s1 a 3))) lk_RX9_37 ha (by decide) rfl rfl rfl rfl [.int (zI v11), .int (zI 2), .int (zI ((s1 a 3)))] ⟨rfl, hG, hS_s3, ha, (by omega), (by omega), (by omega)⟩ rfl rfl ⟨by decide, by decide⟩ ⟨by decide, by decide⟩ (k2 := 0) (n2 := 0) rfl rfl (Nat.le_of_ble_eq_true rfl) dX9_takeNumber_118 (kVM (fun s11 hS_s11 hF_s11 q13 => ?_))
              refine j_aload_n hx 0 dX9_takeNumber_121 rfl ?_
              have f14 := zf hS_s11 ha (k := 4) rfl
              refine g10_4 hx hG ha kf_RX9_34 rfl dX9_takeNumber_122 ?_
              refine j_if_ne hx 133 dX9_takeNumber_125 rfl (by omega) (fun h15 => ?_) (fun h15 => ?_)
              · skip
                refine j_iload_n hx 1 dX9_takeNumber_133 rfl ?_
                exact j_iret hx hq rfl (by decide) (by decide) dX9_takeNumber_134 ⟨x1, rfl, rfl, hS_s11, (zFr_t (zFr_t (zFr_t zFr_rf hF_s1 (by decide)) hF_s3 (by decide)) hF_s11 (by decide)), (by omega)⟩
              · skip
                refine j_iload hx 3 dX9_takeNumber_128 rfl ?_
                refine j_goto hx 134 dX9_takeNumber_130 rfl ?_
                exact j_iret hx hq rfl (by decide) (by decide) dX9_takeNumber_134 ⟨v9, rfl, rfl, hS_s11, (zFr_t (zFr_t (zFr_t zFr_rf hF_s1 (by decide)) hF_s3 (by decide)) hF_s11 (by decide)), (by omega)⟩
            have c111_12 : JJ X E 6 G s3 0 0 [(0, .ref a), (1, .int (zI x1)), (3, .int (zI ((s1 a 3)))), (4, .int (zI v9))] 111 [.ref a] := by
              refine j_iconst hx dX9_takeNumber_111 ?_
              refine j_goto hx 116 dX9_takeNumber_112 rfl ?_
              exact j_sub [0, 1, 2, 3] [(0, .ref a), (1, .int (zI x1)), (3, .int (zI ((s1 a 3)))), (4, .int (zI v9))] rfl (c116_9 1 (by omega))
            refine j_icmp_lt hx 111 dX9_takeNumber_102 rfl (by omega) (by omega) (fun h16 => ?_) (fun h16 => ?_)
            · skip
              exact j_sub [0, 1, 3, 4] [(0, .ref a), (1, .int (zI x1)), (3, .int (zI ((s1 a 3)))), (4, .int (zI v9))] rfl (c111_12  )
            · skip
              refine j_iload hx 4 dX9_takeNumber_105 rfl ?_
              refine j_iload_n hx 2 dX9_takeNumber_107 rfl ?_
              refine j_icmp_le hx 115 dX9_takeNumber_108 rfl (by omega) (by omega) (fun h17 => ?_) (fun h17 => ?_)
              · skip
                refine j_iconst hx dX9_takeNumber_115 ?_
                exact j_sub [0, 1, 3, 4] [(0, .ref a), (1, .int (zI x1)), (3, .int (zI ((s1 a 3)))), (4, .int (zI v9))] rfl (c116_9 0 (by omega))
              · skip
                exact j_sub [0, 1, 3, 4] [(0, .ref a), (1, .int (zI x1)), (3, .int (zI ((s1 a 3)))), (4, .int (zI v9))] rfl (c111_12  )
          refine j_icmp_ge hx 98 dX9_takeNumber_49 rfl (by omega) ⟨by decide, by decide⟩ (fun h18 => ?_) (fun h18 => ?_)
          · skip
            exact j_sub [0, 1, 2, 3, 4] [(0, .ref a), (1, .int (zI x1)), (2, .int (zI x2)), (3, .int (zI ((s1 a 3)))), (4, .int (zI v9))] rfl (c98_8  )
          · skip
            refine j_aload_n hx 0 dX9_takeNumber_52 rfl ?_
            refine j_callV hx hG (c_X9_here hst a) lk_RX9_68 ha (by decide) rfl rfl rfl rfl [] ⟨rfl, hG, hS_s3, ha⟩ rfl rfl ⟨by decide, by decide⟩ ⟨by decide, by decide⟩ (k2 := 0) (n2 := 0) rfl rfl (Nat.le_of_ble_eq_true rfl) dX9_takeNumber_53 (kIP (fun v19 q20 => ?_))
            refine j_callS hx (c_X9_isDigit hst v19) lk_RX9_65 [.int (zI v19)] ⟨rfl, hG, hS_s3, (by omega)⟩ rfl rfl ⟨by decide, by decide⟩ ⟨by decide, by decide⟩ (k2 := 0) (n2 := 0) rfl rfl (Nat.le_of_ble_eq_true rfl) dX9_takeNumber_56 (kIP (fun v21 q22 => ?_))
            refine j_if_eq hx 98 dX9_takeNumber_59 rfl (by omega) (fun h23 => ?_) (fun h23 => ?_)
            · skip
              exact j_sub [0, 1, 2, 3, 4] [(0, .ref a), (1, .int (zI x1)), (2, .int (zI x2)), (3, .int (zI ((s1 a 3)))), (4, .int (zI v9))] rfl (c98_8  )
            · skip
              refine j_ldc hx (c := 1000000) dX9_takeNumber_62 kk_RX9_71 (by decide) ?_
              refine j_iload hx 4 dX9_takeNumber_64 rfl ?_
              refine j_bipush hx dX9_takeNumber_66 rfl ?_
              refine j_imul hx (r := 10 * v9) dX9_takeNumber_68 (by omega) ?_
              refine j_norm (fun v24 f25 f26 f27 => ?_)
              refine j_aload_n hx 0 dX9_takeNumber_69 rfl ?_
              refine j_callV hx hG (c_X9_here hst a) lk_RX9_68 ha (by decide) rfl rfl rfl rfl [] ⟨rfl, hG, hS_s3, ha⟩ rfl rfl ⟨by decide, by decide⟩ ⟨by decide, by decide⟩ (k2 := 0) (n2 := 0) rfl rfl (Nat.le_of_ble_eq_true rfl) dX9_takeNumber_70 (kIP (fun v28 q29 => ?_))
              refine j_iadd hx (r := v24 + v28) dX9_takeNumber_73 rfl ?_
              refine j_norm (fun v30 f31 f32 f33 => ?_)
              refine j_bipush hx dX9_takeNumber_74 rfl ?_
              refine j_isub hx (r := v30 - 48) dX9_takeNumber_76 rfl ?_
              refine j_norm (fun v34 f35 f36 f37 => ?_)
              refine j_mmin hx km_RX9_22 kst_min kn_RJ9 kc_Lib_Math_min_name ⟨by decide, by decide⟩ (by omega) ⟨by decide, Nat.le_of_ble_eq_true rfl⟩ ⟨by decide, by decide⟩ dX9_takeNumber_77 (fun v38 f39 f40 f41 => ?_)
              refine j_istore hx [(4, .int (zI v38)), (0, .ref a), (1, .int (zI x1)), (2, .int (zI x2)), (3, .int (zI ((s1 a 3)))), (5, .int (zI v10))] dX9_takeNumber_80 (by decide) rfl ?_
              refine j_aload_n hx 1 dX9_takeNumber_82 rfl ?_
              refine j_dup hx dX9_takeNumber_83 rfl ?_
              have f42 := zf hS_s3 ha (k := 3) rfl
              refine g10_3 hx hG ha kf_RX9_31 rfl dX9_takeNumber_84 ?_
              refine j_iconst hx dX9_takeNumber_87 ?_
              refine j_iadd hx (r := (s3 a 3) + 1) dX9_takeNumber_88 (by omega) ?_
              refine j_norm (fun v43 f44 f45 f46 => ?_)
              refine p10_3 hx hG ha kf_RX9_31 dX9_takeNumber_89 ?_
              obtain ⟨s13, e_s13⟩ : ∃ z, z = zU s3 a 3 v43 := ⟨_, rfl⟩
              rw [← e_s13]
              have hS_s13 : zSK G s13 := by rw [e_s13]; exact zSK_F hS_s3 ha rfl rfl rfl (by omega)
              refine j_iinc hx 5 [(5, .int (zI (v10 + 1))), (4, .int (zI v38)), (0, .ref a), (1, .int (zI x1)), (2, .int (zI x2)), (3, .int (zI ((s1 a 3))))] dX9_takeNumber_92 rfl (by omega) (by decide) rfl ?_
              refine j_goto hx 42 dX9_takeNumber_95 rfl ?_
              exact j_sub [2, 3, 4, 5, 1, 0] [(0, .ref a), (1, .int (zI x1)), (2, .int (zI x2)), (3, .int (zI ((s1 a 3)))), (4, .int (zI v38)), (5, .int (zI (v10 + 1)))] rfl (ih_c42_2 v38 (v10 + 1) s13 (by omega) (by omega) (by omega) hS_s13 (zFr_u (zFr_t zFr_rf hF_s3 (by decide)) e_s13 ha (by decide)))
      exact j_sub [3, 4, 5, 2, 1, 0] [(0, .ref a), (1, .int (zI x1)), (2, .int (zI x2)), (3, .int (zI ((s1 a 3)))), (4, .int (zI 0)), (5, .int (zI 0))] rfl (c42_2 (2147483648 * 4) 0 0 s1 (by omega) (by omega) (by omega) hS_s1 zFr_rf)
    · skip
      refine j_aload_n hx 0 dX9_takeNumber_19 rfl ?_
      refine j_iconst hx dX9_takeNumber_20 ?_
      refine j_iconst hx dX9_takeNumber_21 ?_
      refine j_aload_n hx 0 dX9_takeNumber_22 rfl ?_
      have f47 := zf hS_s1 ha (k := 3) rfl
      refine g10_3 hx hG ha kf_RX9_31 rfl dX9_takeNumber_23 ?_
      refine j_callV hx hG (c_X9_failIf hst a 1 1 ((s1 a 3))) lk_RX9_37 ha (by decide) rfl rfl rfl rfl [.int (zI 1), .int (zI 1), .int (zI ((s1 a 3)))] ⟨rfl, hG, hS_s1, ha, (by omega), (by omega), (by omega)⟩ rfl rfl ⟨by decide, by decide⟩ ⟨by decide, by decide⟩ (k2 := 0) (n2 := 0) rfl rfl (Nat.le_of_ble_eq_true rfl) dX9_takeNumber_26 (kVM (fun s14 hS_s14 hF_s14 q49 => ?_))
      refine j_iload_n hx 1 dX9_takeNumber_29 rfl ?_
      exact j_iret hx hq rfl (by decide) (by decide) dX9_takeNumber_30 ⟨x1, rfl, rfl, hS_s14, (zFr_t (zFr_t zFr_rf hF_s1 (by decide)) hF_s14 (by decide)), (by omega)⟩
  · skip
    refine j_iload_n hx 1 dX9_takeNumber_7 rfl ?_
    exact j_iret hx hq rfl (by decide) (by decide) dX9_takeNumber_8 ⟨x1, rfl, rfl, hS0, zFr_rf, (by omega)⟩

set_option maxHeartbeats 4000000 in
set_option maxRecDepth 20000 in
theorem c_X9_takeKind {E : zE} {l : Launch} (hst : l.stackTraces = false) (a : Nat) : Con E l yX9_takeKind cX9_takeKind 2 (some .int) { frames := 2, cells := 0, slots := 0, locals := 43 } (fun G s vs => vs = [.ref a] ∧ zGK G ∧ zSK G s ∧ (gT G a = 10)) (fun G s _ => pI (fun r G2 s2 => G2 = G ∧ zSK G s2 ∧ zFr [10] G s s2 ∧ ((-2147483648) ≤ r ∧ r ≤ 2147483647))) := by
  refine Con.mk hst (by decide) (fun G s vs h => by rw [h.1]; exact Nat.le_of_ble_eq_true rfl) ?_
  rintro X G s0 vs ⟨rfl, hG, hS0, ha⟩ rfl hx hq
  show JJ X E 2 G s0 0 0 [(0, .ref a)] 0 []
  refine j_aload_n hx 0 dX9_takeKind_0 rfl ?_
  refine j_callV hx hG (c_X9_peek hst a) lk_RX9_49 ha (by decide) rfl rfl rfl rfl [] ⟨rfl, hG, hS0, ha⟩ rfl rfl ⟨by decide, by decide⟩ ⟨by decide, by decide⟩ (k2 := 0) (n2 := 0) rfl rfl (Nat.le_of_ble_eq_true rfl) dX9_takeKind_1 (kIM (fun v1 s1 hS_s1 hF_s1 q2 => ?_))
  refine j_istore_n hx [(1, .int (zI v1)), (0, .ref a)] dX9_takeKind_4 (by decide) rfl ?_
  refine j_aload_n hx 1 dX9_takeKind_5 rfl ?_
  refine j_aload_n hx 1 dX9_takeKind_6 rfl ?_
  refine j_callV hx hG (c_X9_lettersHere hst a) lk_RX9_53 ha (by decide) rfl rfl rfl rfl [] ⟨rfl, hG, hS_s1, ha⟩ rfl rfl ⟨by decide, by decide⟩ ⟨by decide, by decide⟩ (k2 := 0) (n2 := 0) rfl rfl (Nat.le_of_ble_eq_true rfl) dX9_takeKind_7 (kIP (fun v3 q4 => ?_))
  refine j_iconst hx dX9_takeKind_10 ?_
  have c25_2 : ∀ (v5 : Int), (0 ≤ v5 ∧ v5 ≤ 1) → JJ X E 2 G s1 0 0 [(0, .ref a), (1, .int (zI v1))] 25 [.int (zI v5), .ref a] := by
    intro v5 f3
    refine j_iconst hx dX9_takeKind_25 ?_
    refine j_aload_n hx 0 dX9_takeKind_26 rfl ?_
    have f6 := zf hS_s1 ha (k := 3) rfl
    refine g10_3 hx hG ha kf_RX9_31 rfl dX9_takeKind_27 ?_
    refine j_callV hx hG (c_X9_failIf hst a v5 1 ((s1 a 3))) lk_RX9_37 ha (by decide) rfl rfl rfl rfl [.int (zI v5), .int (zI 1), .int (zI ((s1 a 3)))] ⟨rfl, hG, hS_s1, ha, (by omega), (by omega), (by omega)⟩ rfl rfl ⟨by decide, by decide⟩ ⟨by decide, by decide⟩ (k2 := 0) (n2 := 0) rfl rfl (Nat.le_of_ble_eq_true rfl) dX9_takeKind_30 (kVM (fun s4 hS_s4 hF_s4 q8 => ?_))
    refine j_aload_n hx 0 dX9_takeKind_33 rfl ?_
    have f9 := zf hS_s4 ha (k := 4) rfl
    refine g10_4 hx hG ha kf_RX9_34 rfl dX9_takeKind_34 ?_
    refine j_if_eq hx 42 dX9_takeKind_37 rfl (by omega) (fun h10 => ?_) (fun h10 => ?_)
    · skip
      refine j_aload_n hx 0 dX9_takeKind_42 rfl ?_
      refine j_dup hx dX9_takeKind_43 rfl ?_
      have f11 := zf hS_s4 ha (k := 3) rfl
      refine g10_3 hx hG ha kf_RX9_31 rfl dX9_takeKind_44 ?_
      refine j_iconst hx dX9_takeKind_47 ?_
      refine j_iadd hx (r := (s4 a 3) + 1) dX9_takeKind_48 (by omega) ?_
      refine j_norm (fun v12 f13 f14 f15 => ?_)
      refine p10_3 hx hG ha kf_RX9_31 dX9_takeKind_49 ?_
      obtain ⟨s5, e_s5⟩ : ∃ z, z = zU s4 a 3 v12 := ⟨_, rfl⟩
      rw [← e_s5]
      have hS_s5 : zSK G s5 := by rw [e_s5]; exact zSK_F hS_s4 ha rfl rfl rfl (by omega)
      refine j_iload_n hx 1 dX9_takeKind_52 rfl ?_
      refine j_bipush hx dX9_takeKind_53 rfl ?_
      refine j_isub hx (r := v1 - 97) dX9_takeKind_55 rfl ?_
      refine j_norm (fun v16 f17 f18 f19 => ?_)
      exact j_iret hx hq rfl (by decide) (by decide) dX9_takeKind_56 ⟨v16, rfl, rfl, hS_s5, (zFr_u (zFr_t (zFr_t zFr_rf hF_s1 (by decide)) hF_s4 (by decide)) e_s5 ha (by decide)), (by omega)⟩
    · skip
      refine j_iconst hx dX9_takeKind_40 ?_
      exact j_iret hx hq rfl (by decide) (by decide) dX9_takeKind_41 ⟨0, rfl, rfl, hS_s4, (zFr_t (zFr_t zFr_rf hF_s1 (by decide)) hF_s4 (by decide)), (by omega)⟩
  have c20_6 : JJ X E 2 G s1 0 0 [(0, .ref a), (1, .int (zI v1))] 20 [.ref a] := by
    refine j_iconst hx dX9_takeKind_20 ?_
    refine j_goto hx 25 dX9_takeKind_21 rfl ?_
    exact j_sub [0, 1] [(0, .ref a), (1, .int (zI v1))] rfl (c25_2 1 (by omega))
  refine j_icmp_ne hx 20 dX9_takeKind_11 rfl (by omega) ⟨by decide, by decide⟩ (fun h20 => ?_) (fun h20 => ?_)
  · skip
    exact j_sub [1, 0] [(0, .ref a), (1, .int (zI v1))] rfl (c20_6  )
  · skip
    refine j_iload_n hx 0 dX9_takeKind_14 rfl ?_
    refine j_bipush hx dX9_takeKind_15 rfl ?_
    refine j_icmp_le hx 24 dX9_takeKind_17 rfl (by omega) ⟨by decide, by decide⟩ (fun h21 => ?_) (fun h21 => ?_)
    · skip
      refine j_iconst hx dX9_takeKind_24 ?_
      exact j_sub [1, 0] [(0, .ref a), (1, .int (zI v1))] rfl (c25_2 0 (by omega))
    · skip
      exact j_sub [1, 0] [(0, .ref a), (1, .int (zI v1))] rfl (c20_6  )
