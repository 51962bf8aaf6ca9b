theorem lk_RX8_43 : LkS RX8 43 yJ7_fill_53178 cJ7_fill_53178 4 none 2 := ⟨km_RX8_43, kst_yJ7_fill_53178, kn_RJ7, kc_yJ7_fill_53178, by decide +kernel, by decide +kernel, by decide +kernel⟩
theorem lk_RX8_49 : LkV RX8 49 RX0 yX0_clear cX0_clear 2 none 0 := ⟨km_RX8_49, ki_yX0_clear, ks_RX0_yX0_clear, kn_RX0, kc_yX0_clear, rfl, by decide +kernel, by decide +kernel, by decide +kernel⟩
theorem lk_RX8_61 : LkV RX8 61 RX8 yX8_readClause cX8_readClause 5 none 2 := ⟨km_RX8_61, ki_yX8_readClause, ks_RX8_yX8_readClause, kn_RX8, kc_yX8_readClause, rfl, by decide +kernel, by decide +kernel, by decide +kernel⟩
set_option maxHeartbeats 4000000 in
set_option maxRecDepth 20000 in
theorem c_X8_read {E : zE} {l : Launch} (hst : l.stackTraces = false) (a : Nat) (b1 : Nat) : Con E l yX8_read cX8_read 3 none { frames := 8, cells := 0, slots := 0, locals := 250 } (fun G s vs => vs = [.ref a, .ref b1] ∧ zGK G ∧ zSK G s ∧ (gT G a = 9) ∧ (gT G b1 = 10)) (fun G s _ => pV (fun G2 s2 => G2 = G ∧ zSK G s2 ∧ zFr [1, 7, 9, 10, 41, 42, 43, 44] G s s2 ∧ True)) := by
  refine Con.mk hst (by decide) (fun G s vs h => by rw [h.1]; exact Nat.le_of_ble_eq_true rfl) ?_
  rintro X G s0 vs ⟨rfl, hG, hS0, ha, hb1⟩ rfl hx hq
  show JJ X E 3 G s0 0 0 [(0, .ref a), (1, .ref b1)] 0 []
  refine j_aload_n hx 0 dX8_read_0 rfl ?_
  refine g9_2 hx hG ha kf_RX8_18 dX8_read_1 ?_
  refine j_iconst hx dX8_read_4 ?_
  refine j_callS hx (c_fill_44 hst (gP G a 2) 0) lk_RX8_43 [.ref (gP G a 2), .int (zI 0)] ⟨rfl, hG, hS0, (zr (k := 2) (t2 := 44) hG ha rfl), (by omega)⟩ rfl rfl ⟨by decide, by decide⟩ ⟨by decide, by decide⟩ (k2 := 0) (n2 := 0) rfl rfl (Nat.le_of_ble_eq_true rfl) dX8_read_5 (kVM (fun s1 hS_s1 hF_s1 q2 => ?_))
  refine j_aload_n hx 0 dX8_read_8 rfl ?_
  refine g9_3 hx hG ha kf_RX8_24 dX8_read_9 ?_
  refine j_callV hx hG (c_X0_clear hst (gP G a 3)) lk_RX8_49 (zr (k := 3) (t2 := 1) hG ha rfl) (by decide) rfl rfl rfl rfl [] ⟨rfl, hG, hS_s1, (zr (k := 3) (t2 := 1) hG ha rfl)⟩ rfl rfl ⟨by decide, by decide⟩ ⟨by decide, by decide⟩ (k2 := 0) (n2 := 0) rfl rfl (Nat.le_of_ble_eq_true rfl) dX8_read_12 (kVM (fun s2 hS_s2 hF_s2 q4 => ?_))
  refine j_aload_n hx 0 dX8_read_15 rfl ?_
  refine j_iconst hx dX8_read_16 ?_
  refine p9_4 hx hG ha kf_RX8_28 dX8_read_17 ?_
  obtain ⟨s3, e_s3⟩ : ∃ z, z = zU s2 a 4 0 := ⟨_, rfl⟩
  rw [← e_s3]
  have hS_s3 : zSK G s3 := by rw [e_s3]; exact zSK_F hS_s2 ha rfl rfl rfl (by omega)
  refine j_aload_n hx 0 dX8_read_20 rfl ?_
  refine j_iconst hx dX8_read_21 ?_
  refine p9_5 hx hG ha kf_RX8_40 dX8_read_22 ?_
  obtain ⟨s4, e_s4⟩ : ∃ z, z = zU s3 a 5 0 := ⟨_, rfl⟩
  rw [← e_s4]
  have hS_s4 : zSK G s4 := by rw [e_s4]; exact zSK_F hS_s3 ha rfl rfl rfl (by omega)
  refine j_iconst hx dX8_read_25 ?_
  refine j_istore_n hx [(2, .int (zI 0)), (0, .ref a), (1, .ref b1)] dX8_read_26 (by decide) rfl ?_
  have c27_5 : ∀ (m_c27_5 : Nat) (v5 : Int) (s6 : zS), 2147483648 - v5 < m_c27_5 → (0 ≤ v5 ∧ v5 ≤ 41) → (zSK G s6) → (zFr [7, 9, 10, 41, 42, 43, 44] G s4 s6) → JJ X E 3 G s6 0 0 [(0, .ref a), (1, .ref b1), (2, .int (zI v5))] 27 [] := by
    intro m_c27_5
    induction m_c27_5 with
    | zero => intro v5 s6 hm_c27_5 fA7 hS_s6 hF_s6; exfalso; omega
    | succ m_c27_5 ih_c27_5 => 
      intro v5 s6 hm_c27_5 fA7 hS_s6 hF_s6
      refine j_iload_n hx 2 dX8_read_27 rfl ?_
      refine j_bipush hx dX8_read_28 rfl ?_
      have c70_10 : ∀ (s11 : zS), (zSK G s11) → (zFr [10] G s6 s11) → JJ X E 3 G s11 0 0 [(0, .ref a), (1, .ref b1)] 70 [] := by
        intro s11 hS_s11 hF_s11
        refine j_aload_n hx 0 dX8_read_70 rfl ?_
        have f6 := zf hS_s6 ha (k := 4) rfl
        refine g9_4 hx hG ha kf_RX8_28 (v := (s6 a 4)) (by rw [(zFr_g hF_s11 ha (by decide))]) dX8_read_71 ?_
        refine j_iconst hx dX8_read_74 ?_
        refine j_icmp_ge hx 83 dX8_read_75 rfl (by omega) ⟨by decide, by decide⟩ (fun h7 => ?_) (fun h7 => ?_)
        · skip
          refine j_aload_n hx 0 dX8_read_83 rfl ?_
          refine g9_3 hx hG ha kf_RX8_24 dX8_read_84 ?_
          refine j_aload_n hx 0 dX8_read_87 rfl ?_
          refine g9_4 hx hG ha kf_RX8_28 (v := (s6 a 4)) (by rw [(zFr_g hF_s11 ha (by decide))]) dX8_read_88 ?_
          refine pN1_7 hx hG (zr (k := 3) (t2 := 1) hG ha rfl) kf_RX8_69 dX8_read_91 ?_
          obtain ⟨s14, e_s14⟩ : ∃ z, z = zU s11 (gP G a 3) 7 ((s6 a 4)) := ⟨_, rfl⟩
          rw [← e_s14]
          have hS_s14 : zSK G s14 := by rw [e_s14]; exact zSK_F hS_s11 (zr (k := 3) (t2 := 1) hG ha rfl) rfl rfl rfl (by omega)
          exact j_vret hx hq rfl (by decide) (by decide) dX8_read_94 ⟨rfl, rfl, hS_s14, (zFr_u (zFr_t (zFr_t (zFr_u (zFr_u (zFr_t (zFr_t zFr_rf hF_s1 (by decide)) hF_s2 (by decide)) e_s3 ha (by decide)) e_s4 ha (by decide)) hF_s6 (by decide)) hF_s11 (by decide)) e_s14 (zr (k := 3) (t2 := 1) hG ha rfl) (by decide)), trivial⟩
        · skip
          refine j_aload_n hx 1 dX8_read_78 rfl ?_
          refine j_iconst hx dX8_read_79 ?_
          refine j_callV hx hG (c_X9_fail hst b1 4) lk_RX8_65 hb1 (by decide) rfl rfl rfl rfl [.int (zI 4)] ⟨rfl, hG, hS_s11, hb1, (by omega)⟩ rfl rfl ⟨by decide, by decide⟩ ⟨by decide, by decide⟩ (k2 := 0) (n2 := 0) rfl rfl (Nat.le_of_ble_eq_true rfl) dX8_read_80 (kVM (fun s15 hS_s15 hF_s15 q9 => ?_))
          refine j_aload_n hx 0 dX8_read_83 rfl ?_
          refine g9_3 hx hG ha kf_RX8_24 dX8_read_84 ?_
          refine j_aload_n hx 0 dX8_read_87 rfl ?_
          refine g9_4 hx hG ha kf_RX8_28 (v := (s6 a 4)) (by rw [(zFr_g hF_s15 ha (by decide)), (zFr_g hF_s11 ha (by decide))]) dX8_read_88 ?_
          refine pN1_7 hx hG (zr (k := 3) (t2 := 1) hG ha rfl) kf_RX8_69 dX8_read_91 ?_
          obtain ⟨s16, e_s16⟩ : ∃ z, z = zU s15 (gP G a 3) 7 ((s6 a 4)) := ⟨_, rfl⟩
          rw [← e_s16]
          have hS_s16 : zSK G s16 := by rw [e_s16]; exact zSK_F hS_s15 (zr (k := 3) (t2 := 1) hG ha rfl) rfl rfl rfl (by omega)
          exact j_vret hx hq rfl (by decide) (by decide) dX8_read_94 ⟨rfl, rfl, hS_s16, (zFr_u (zFr_t (zFr_t (zFr_t (zFr_u (zFr_u (zFr_t (zFr_t zFr_rf hF_s1 (by decide)) hF_s2 (by decide)) e_s3 ha (by decide)) e_s4 ha (by decide)) hF_s6 (by decide)) hF_s11 (by decide)) hF_s15 (by decide)) e_s16 (zr (k := 3) (t2 := 1) hG ha rfl) (by decide)), trivial⟩
      refine j_icmp_gt hx 70 dX8_read_30 rfl (by omega) ⟨by decide, by decide⟩ (fun h10 => ?_) (fun h10 => ?_)
      · skip
        exact j_sub [0, 1] [(0, .ref a), (1, .ref b1)] rfl (c70_10 s6 hS_s6 zFr_rf)
      · skip
        refine j_aload_n hx 1 dX8_read_33 rfl ?_
        have f11 := zf hS_s6 hb1 (k := 4) rfl
        refine gN10_4 hx hG hb1 kf_RX8_52 rfl dX8_read_34 ?_
        refine j_if_ne hx 70 dX8_read_37 rfl (by omega) (fun h12 => ?_) (fun h12 => ?_)
        · skip
          exact j_sub [0, 1] [(0, .ref a), (1, .ref b1)] rfl (c70_10 s6 hS_s6 zFr_rf)
        · skip
          refine j_aload_n hx 1 dX8_read_40 rfl ?_
          refine j_callV hx hG (c_X9_peek hst b1) lk_RX8_57 hb1 (by decide) rfl rfl rfl rfl [] ⟨rfl, hG, hS_s6, hb1⟩ rfl rfl ⟨by decide, by decide⟩ ⟨by decide, by decide⟩ (k2 := 0) (n2 := 0) rfl rfl (Nat.le_of_ble_eq_true rfl) dX8_read_41 (kIM (fun v13 s17 hS_s17 hF_s17 q14 => ?_))
          refine j_iconst hx dX8_read_44 ?_
          refine j_icmp_eq hx 70 dX8_read_45 rfl (by omega) ⟨by decide, by decide⟩ (fun h15 => ?_) (fun h15 => ?_)
          · skip
            exact j_sub [0, 1] [(0, .ref a), (1, .ref b1)] rfl (c70_10 s17 hS_s17 (zFr_t zFr_rf hF_s17 (by decide)))
          · skip
            refine j_aload_n hx 0 dX8_read_48 rfl ?_
            refine j_aload_n hx 1 dX8_read_49 rfl ?_
            refine j_iload_n hx 2 dX8_read_50 rfl ?_
            refine j_bipush hx dX8_read_51 rfl ?_
            have c61_18 : ∀ (v16 : Int), (0 ≤ v16 ∧ v16 ≤ 1) → JJ X E 3 G s17 0 0 [(0, .ref a), (1, .ref b1), (2, .int (zI v5))] 61 [.int (zI v16), .ref b1, .ref a] := by
              intro v16 fA19
              refine j_callV hx hG (c_X8_readClause hst a b1 v16) lk_RX8_61 ha (by decide) rfl rfl rfl rfl [.ref b1, .int (zI v16)] ⟨rfl, hG, hS_s17, ha, hb1, (by omega)⟩ rfl rfl ⟨by decide, by decide⟩ ⟨by decide, by decide⟩ (k2 := 0) (n2 := 0) rfl rfl (Nat.le_of_ble_eq_true rfl) dX8_read_61 (kVM (fun s20 hS_s20 hF_s20 q18 => ?_))
              refine j_iinc hx 2 [(2, .int (zI (v5 + 1))), (0, .ref a), (1, .ref b1)] dX8_read_64 rfl (by omega) (by decide) rfl ?_
              refine j_goto hx 27 dX8_read_67 rfl ?_
              exact j_sub [1, 2, 0] [(0, .ref a), (1, .ref b1), (2, .int (zI (v5 + 1)))] rfl (ih_c27_5 (v5 + 1) s20 (by omega) (by omega) hS_s20 (zFr_t (zFr_t (zFr_t zFr_rf hF_s6 (by decide)) hF_s17 (by decide)) hF_s20 (by decide)))
            refine j_icmp_lt hx 60 dX8_read_53 rfl (by omega) ⟨by decide, by decide⟩ (fun h19 => ?_) (fun h19 => ?_)
            · skip
              refine j_iconst hx dX8_read_60 ?_
              exact j_sub [0, 1, 2] [(0, .ref a), (1, .ref b1), (2, .int (zI v5))] rfl (c61_18 0 (by omega))
            · skip
              refine j_iconst hx dX8_read_56 ?_
              refine j_goto hx 61 dX8_read_57 rfl ?_
              exact j_sub [0, 1, 2] [(0, .ref a), (1, .ref b1), (2, .int (zI v5))] rfl (c61_18 1 (by omega))
  exact j_sub [1, 2, 0] [(0, .ref a), (1, .ref b1), (2, .int (zI 0))] rfl (c27_5 (2147483648 * 4) 0 s4 (by omega) (by omega) hS_s4 zFr_rf)

theorem lk_RX6_19 : LkV RX6 19 RX6 yX6_put cX6_put 2 none 1 := ⟨km_RX6_19, ki_yX6_put, ks_RX6_yX6_put, kn_RX6, kc_yX6_put, rfl, by decide +kernel, by decide +kernel, by decide +kernel⟩
set_option maxHeartbeats 4000000 in
set_option maxRecDepth 20000 in
theorem c_X6_become {E : zE} {l : Launch} (hst : l.stackTraces = false) (a : Nat) (b1 : Nat) : Con E l yX6_become cX6_become 3 none { frames := 1, cells := 0, slots := 0, locals := 21 } (fun G s vs => vs = [.ref a, .ref b1] ∧ zGK G ∧ zSK G s ∧ (gT G a = 7) ∧ (gT G b1 = 7)) (fun G s _ => pV (fun G2 s2 => G2 = G ∧ zSK G s2 ∧ zFr [7, 41] G s s2 ∧ True)) := by
  refine Con.mk hst (by decide) (fun G s vs h => by rw [h.1]; exact Nat.le_of_ble_eq_true rfl) ?_
  rintro X G s0 vs ⟨rfl, hG, hS0, ha, hb1⟩ rfl hx hq
  show JJ X E 3 G s0 0 0 [(0, .ref a), (1, .ref b1)] 0 []
  refine j_aload_n hx 0 dX6_become_0 rfl ?_
  refine j_iconst hx dX6_become_1 ?_
  refine p7_1 hx hG ha kf_RX6_15 dX6_become_2 ?_
  obtain ⟨s1, e_s1⟩ : ∃ z, z = zU s0 a 1 0 := ⟨_, rfl⟩
  rw [← e_s1]
  have hS_s1 : zSK G s1 := by rw [e_s1]; exact zSK_F hS0 ha rfl rfl rfl (by omega)
  refine j_iconst hx dX6_become_5 ?_
  refine j_istore_n hx [(2, .int (zI 0)), (0, .ref a), (1, .ref b1)] dX6_become_6 (by decide) rfl ?_
  have c7_2 : ∀ (m_c7_2 : Nat) (v1 : Int) (s3 : zS), 2147483648 - v1 < m_c7_2 → (0 ≤ v1 ∧ v1 ≤ 60) → (zSK G s3) → (zFr [7, 41] G s1 s3) → JJ X E 3 G s3 0 0 [(0, .ref a), (1, .ref b1), (2, .int (zI v1))] 7 [] := by
    intro m_c7_2
    induction m_c7_2 with
    | zero => intro v1 s3 hm_c7_2 fA4 hS_s3 hF_s3; exfalso; omega
    | succ m_c7_2 ih_c7_2 => 
      intro v1 s3 hm_c7_2 fA4 hS_s3 hF_s3
      refine j_iload_n hx 2 dX6_become_7 rfl ?_
      refine j_aload_n hx 1 dX6_become_8 rfl ?_
      have f2 := zf hS_s3 hb1 (k := 1) rfl
      refine g7_1 hx hG hb1 kf_RX6_15 rfl dX6_become_9 ?_
      refine j_icmp_ge hx 40 dX6_become_12 rfl (by omega) (by omega) (fun h3 => ?_) (fun h3 => ?_)
      · skip
        exact j_vret hx hq rfl (by decide) (by decide) dX6_become_40 ⟨rfl, rfl, hS_s3, (zFr_t (zFr_u zFr_rf e_s1 ha (by decide)) hF_s3 (by decide)), trivial⟩
      · skip
        refine j_iload_n hx 2 dX6_become_15 rfl ?_
        refine j_aload_n hx 1 dX6_become_16 rfl ?_
        refine g7_0 hx hG hb1 kf_RX6_9 dX6_become_17 ?_
        refine j_alen hx hG (zr (k := 0) (t2 := 41) hG hb1 rfl) (by decide) (by decide) (zlen hG (zr (k := 0) (t2 := 41) hG hb1 rfl) (n := 60) rfl rfl) dX6_become_20 ?_
        refine j_icmp_ge hx 40 dX6_become_21 rfl (by omega) ⟨by decide, by decide⟩ (fun h4 => absurd h4 (by omega)) (fun h4 => ?_)
        refine j_aload_n hx 0 dX6_become_24 rfl ?_
        refine j_aload_n hx 1 dX6_become_25 rfl ?_
        refine g7_0 hx hG hb1 kf_RX6_9 dX6_become_26 ?_
        refine j_iload_n hx 2 dX6_become_29 rfl ?_
        have f5 := zaI (j := (v1).toNat) hS_s3 (zr (k := 0) (t2 := 41) hG hb1 rfl) rfl (zlen hG (zr (k := 0) (t2 := 41) hG hb1 rfl) (n := 60) rfl rfl) (show 0 ≤ v1 by omega) (by omega) rfl
        refine j_iald hx hG (zr (k := 0) (t2 := 41) hG hb1 rfl) (by decide) rfl (zlen hG (zr (k := 0) (t2 := 41) hG hb1 rfl) (n := 60) rfl rfl) (by omega) (by omega) (j := (v1).toNat) rfl rfl dX6_become_30 ?_
        refine j_callV hx hG (c_X6_put hst a ((s3 (gP G b1 0) (v1).toNat))) lk_RX6_19 ha (by decide) rfl rfl rfl rfl [.int (zI ((s3 (gP G b1 0) (v1).toNat)))] ⟨rfl, hG, hS_s3, ha, (by omega)⟩ rfl rfl ⟨by decide, by decide⟩ ⟨by decide, by decide⟩ (k2 := 0) (n2 := 0) rfl rfl (Nat.le_of_ble_eq_true rfl) dX6_become_31 (kVM (fun s7 hS_s7 hF_s7 q7 => ?_))
        refine j_iinc hx 2 [(2, .int (zI (v1 + 1))), (0, .ref a), (1, .ref b1)] dX6_become_34 rfl (by omega) (by decide) rfl ?_
        refine j_goto hx 7 dX6_become_37 rfl ?_
        exact j_sub [1, 2, 0] [(0, .ref a), (1, .ref b1), (2, .int (zI (v1 + 1)))] rfl (ih_c7_2 (v1 + 1) s7 (by omega) (by omega) hS_s7 (zFr_t (zFr_t zFr_rf hF_s3 (by decide)) hF_s7 (by decide)))
  exact j_sub [1, 2, 0] [(0, .ref a), (1, .ref b1), (2, .int (zI 0))] rfl (c7_2 (2147483648 * 4) 0 s1 (by omega) (by omega) hS_s1 zFr_rf)

theorem lk_RX0_56 : LkV RX0 56 RX6 yX6_become cX6_become 3 none 1 := ⟨km_RX0_56, ki_yX6_become, ks_RX6_yX6_become, kn_RX6, kc_yX6_become, rfl, by decide +kernel, by decide +kernel, by decide +kernel⟩
set_option maxHeartbeats 4000000 in
set_option maxRecDepth 20000 in
theorem c_X0_become {E : zE} {l : Launch} (hst : l.stackTraces = false) (a : Nat) (b1 : Nat) : Con E l yX0_become cX0_become 3 none { frames := 2, cells := 0, slots := 0, locals := 43 } (fun G s vs => vs = [.ref a, .ref b1] ∧ zGK G ∧ zSK G s ∧ (gT G a = 1) ∧ (gT G b1 = 1)) (fun G s _ => pV (fun G2 s2 => G2 = G ∧ zSK G s2 ∧ zFr [1, 7, 41] G s s2 ∧ True)) := by
  refine Con.mk hst (by decide) (fun G s vs h => by rw [h.1]; exact Nat.le_of_ble_eq_true rfl) ?_
  rintro X G s0 vs ⟨rfl, hG, hS0, ha, hb1⟩ rfl hx hq
  show JJ X E 3 G s0 0 0 [(0, .ref a), (1, .ref b1)] 0 []
  refine j_iconst hx dX0_become_0 ?_
  refine j_istore_n hx [(2, .int (zI 0)), (0, .ref a), (1, .ref b1)] dX0_become_1 (by decide) rfl ?_
  have c2_1 : ∀ (m_c2_1 : Nat) (v1 : Int) (s2 : zS), 2147483648 - v1 < m_c2_1 → (0 ≤ v1 ∧ v1 ≤ 7) → (zSK G s2) → (zFr [7, 41] G s0 s2) → JJ X E 3 G s2 0 0 [(0, .ref a), (1, .ref b1), (2, .int (zI v1))] 2 [] := by
    intro m_c2_1
    induction m_c2_1 with
    | zero => intro v1 s2 hm_c2_1 fA3 hS_s2 hF_s2; exfalso; omega
    | succ m_c2_1 ih_c2_1 => 
      intro v1 s2 hm_c2_1 fA3 hS_s2 hF_s2
      refine j_iload_n hx 2 dX0_become_2 rfl ?_
      refine j_bipush hx dX0_become_3 rfl ?_
      refine j_icmp_ge hx 27 dX0_become_5 rfl (by omega) ⟨by decide, by decide⟩ (fun h2 => ?_) (fun h2 => ?_)
      · skip
        refine j_aload_n hx 0 dX0_become_27 rfl ?_
        refine j_aload_n hx 1 dX0_become_28 rfl ?_
        have f3 := zf hS0 hb1 (k := 7) rfl
        refine g1_7 hx hG hb1 kf_RX0_50 (v := (s0 b1 7)) (by rw [(zFr_g hF_s2 hb1 (by decide))]) dX0_become_29 ?_
        refine p1_7 hx hG ha kf_RX0_50 dX0_become_32 ?_
        obtain ⟨s6, e_s6⟩ : ∃ z, z = zU s2 a 7 ((s0 b1 7)) := ⟨_, rfl⟩
        rw [← e_s6]
        have hS_s6 : zSK G s6 := by rw [e_s6]; exact zSK_F hS_s2 ha rfl rfl rfl (by omega)
        refine j_aload_n hx 0 dX0_become_35 rfl ?_
        refine j_aload_n hx 1 dX0_become_36 rfl ?_
        have f4 := zf hS_s6 hb1 (k := 8) rfl
        refine g1_8 hx hG hb1 kf_RX0_53 rfl dX0_become_37 ?_
        refine p1_8 hx hG ha kf_RX0_53 dX0_become_40 ?_
        obtain ⟨s7, e_s7⟩ : ∃ z, z = zU s6 a 8 ((s6 b1 8)) := ⟨_, rfl⟩
        rw [← e_s7]
        have hS_s7 : zSK G s7 := by rw [e_s7]; exact zSK_F hS_s6 ha rfl rfl rfl (by omega)
        exact j_vret hx hq rfl (by decide) (by decide) dX0_become_43 ⟨rfl, rfl, hS_s7, (zFr_u (zFr_u (zFr_t zFr_rf hF_s2 (by decide)) e_s6 ha (by decide)) e_s7 ha (by decide)), trivial⟩
      · skip
        refine j_aload_n hx 0 dX0_become_8 rfl ?_
        refine j_iload_n hx 2 dX0_become_9 rfl ?_
        refine j_callV hx hG (c_X0_pileOf hst a v1) lk_RX0_47 ha (by decide) rfl rfl rfl rfl [.int (zI v1)] ⟨rfl, hG, hS_s2, ha, (by omega)⟩ rfl rfl ⟨by decide, by decide⟩ ⟨by decide, by decide⟩ (k2 := 0) (n2 := 0) rfl rfl (Nat.le_of_ble_eq_true rfl) dX0_become_10 (kRP (fun r5 q6 => ?_))
        refine j_aload_n hx 1 dX0_become_13 rfl ?_
        refine j_iload_n hx 2 dX0_become_14 rfl ?_
        refine j_callV hx hG (c_X0_pileOf hst b1 v1) lk_RX0_47 hb1 (by decide) rfl rfl rfl rfl [.int (zI v1)] ⟨rfl, hG, hS_s2, hb1, (by omega)⟩ rfl rfl ⟨by decide, by decide⟩ ⟨by decide, by decide⟩ (k2 := 0) (n2 := 0) rfl rfl (Nat.le_of_ble_eq_true rfl) dX0_become_15 (kRP (fun r7 q8 => ?_))
        refine j_callV hx hG (c_X6_become hst r5 r7) lk_RX0_56 q6 (by decide) rfl rfl rfl rfl [.ref r7] ⟨rfl, hG, hS_s2, q6, q8⟩ rfl rfl ⟨by decide, by decide⟩ ⟨by decide, by decide⟩ (k2 := 0) (n2 := 0) rfl rfl (Nat.le_of_ble_eq_true rfl) dX0_become_18 (kVM (fun s8 hS_s8 hF_s8 q10 => ?_))
        refine j_iinc hx 2 [(2, .int (zI (v1 + 1))), (0, .ref a), (1, .ref b1)] dX0_become_21 rfl (by omega) (by decide) rfl ?_
        refine j_goto hx 2 dX0_become_24 rfl ?_
        exact j_sub [1, 2, 0] [(0, .ref a), (1, .ref b1), (2, .int (zI (v1 + 1)))] rfl (ih_c2_1 (v1 + 1) s8 (by omega) (by omega) hS_s8 (zFr_t (zFr_t zFr_rf hF_s2 (by decide)) hF_s8 (by decide)))
  exact j_sub [1, 2, 0] [(0, .ref a), (1, .ref b1), (2, .int (zI 0))] rfl (c2_1 (2147483648 * 4) 0 s0 (by omega) (by omega) hS0 zFr_rf)

theorem lk_RX8_36 : LkV RX8 36 RX0 yX0_become cX0_become 3 none 1 := ⟨km_RX8_36, ki_yX0_become, ks_RX0_yX0_become, kn_RX0, kc_yX0_become, rfl, by decide +kernel, by decide +kernel, by decide +kernel⟩
set_option maxHeartbeats 4000000 in
set_option maxRecDepth 20000 in
theorem c_X8_become {E : zE} {l : Launch} (hst : l.stackTraces = false) (a : Nat) (b1 : Nat) : Con E l yX8_become cX8_become 3 none { frames := 3, cells := 0, slots := 0, locals := 65 } (fun G s vs => vs = [.ref a, .ref b1] ∧ zGK G ∧ zSK G s ∧ (gT G a = 9) ∧ (gT G b1 = 9)) (fun G s _ => pV (fun G2 s2 => G2 = G ∧ zSK G s2 ∧ zFr [1, 7, 9, 41, 42, 43, 44] G s s2 ∧ True)) := by
  refine Con.mk hst (by decide) (fun G s vs h => by rw [h.1]; exact Nat.le_of_ble_eq_true rfl) ?_
  rintro X G s0 vs ⟨rfl, hG, hS0, ha, hb1⟩ rfl hx hq
  show JJ X E 3 G s0 0 0 [(0, .ref a), (1, .ref b1)] 0 []
  refine j_iconst hx dX8_become_0 ?_
  refine j_istore_n hx [(2, .int (zI 0)), (0, .ref a), (1, .ref b1)] dX8_become_1 (by decide) rfl ?_
  have c2_1 : ∀ (m_c2_1 : Nat) (v1 : Int) (s2 : zS), 2147483648 - v1 < m_c2_1 → (0 ≤ v1 ∧ v1 ≤ 15) → (zSK G s2) → (zFr [42] G s0 s2) → JJ X E 3 G s2 0 0 [(0, .ref a), (1, .ref b1), (2, .int (zI v1))] 2 [] := by
    intro m_c2_1
    induction m_c2_1 with
    | zero => intro v1 s2 hm_c2_1 fA3 hS_s2 hF_s2; exfalso; omega
    | succ m_c2_1 ih_c2_1 => 
      intro v1 s2 hm_c2_1 fA3 hS_s2 hF_s2
      refine j_iload_n hx 2 dX8_become_2 rfl ?_
      refine j_aload_n hx 0 dX8_become_3 rfl ?_
      refine g9_0 hx hG ha kf_RX8_11 dX8_become_4 ?_
      refine j_alen hx hG (zr (k := 0) (t2 := 42) hG ha rfl) (by decide) (by decide) (zlen hG (zr (k := 0) (t2 := 42) hG ha rfl) (n := 15) rfl rfl) dX8_become_7 ?_
      refine j_icmp_ge hx 38 dX8_become_8 rfl (by omega) ⟨by decide, by decide⟩ (fun h2 => ?_) (fun h2 => ?_)
      · skip
        refine j_iconst hx dX8_become_38 ?_
        refine j_istore_n hx [(2, .int (zI 0)), (0, .ref a), (1, .ref b1)] dX8_become_39 (by decide) rfl ?_
        have c40_6 : ∀ (m_c40_6 : Nat) (v3 : Int) (s7 : zS), 2147483648 - v3 < m_c40_6 → (0 ≤ v3 ∧ v3 ≤ 12) → (zSK G s7) → (zFr [43] G s2 s7) → JJ X E 3 G s7 0 0 [(0, .ref a), (1, .ref b1), (2, .int (zI v3))] 40 [] := by
          intro m_c40_6
          induction m_c40_6 with
          | zero => intro v3 s7 hm_c40_6 fA8 hS_s7 hF_s7; exfalso; omega
          | succ m_c40_6 ih_c40_6 => 
            intro v3 s7 hm_c40_6 fA8 hS_s7 hF_s7
            refine j_iload_n hx 2 dX8_become_40 rfl ?_
            refine j_aload_n hx 0 dX8_become_41 rfl ?_
            refine g9_1 hx hG ha kf_RX8_15 dX8_become_42 ?_
            refine j_alen hx hG (zr (k := 1) (t2 := 43) hG ha rfl) (by decide) (by decide) (zlen hG (zr (k := 1) (t2 := 43) hG ha rfl) (n := 12) rfl rfl) dX8_become_45 ?_
            refine j_icmp_ge hx 76 dX8_become_46 rfl (by omega) ⟨by decide, by decide⟩ (fun h4 => ?_) (fun h4 => ?_)
            · skip
              refine j_iconst hx dX8_become_76 ?_
              refine j_istore_n hx [(2, .int (zI 0)), (0, .ref a), (1, .ref b1)] dX8_become_77 (by decide) rfl ?_
              have c78_11 : ∀ (m_c78_11 : Nat) (v5 : Int) (s12 : zS), 2147483648 - v5 < m_c78_11 → (0 ≤ v5 ∧ v5 ≤ 3) → (zSK G s12) → (zFr [44] G s7 s12) → JJ X E 3 G s12 0 0 [(0, .ref a), (1, .ref b1), (2, .int (zI v5))] 78 [] := by
                intro m_c78_11
                induction m_c78_11 with
                | zero => intro v5 s12 hm_c78_11 fA13 hS_s12 hF_s12; exfalso; omega
                | succ m_c78_11 ih_c78_11 => 
                  intro v5 s12 hm_c78_11 fA13 hS_s12 hF_s12
                  refine j_iload_n hx 2 dX8_become_78 rfl ?_
                  refine j_aload_n hx 0 dX8_become_79 rfl ?_
                  refine g9_2 hx hG ha kf_RX8_18 dX8_become_80 ?_
                  refine j_alen hx hG (zr (k := 2) (t2 := 44) hG ha rfl) (by decide) (by decide) (zlen hG (zr (k := 2) (t2 := 44) hG ha rfl) (n := 3) rfl rfl) dX8_become_83 ?_
                  refine j_icmp_ge hx 114 dX8_become_84 rfl (by omega) ⟨by decide, by decide⟩ (fun h6 => ?_) (fun h6 => ?_)
                  · skip
                    refine j_aload_n hx 0 dX8_become_114 rfl ?_
                    refine g9_3 hx hG ha kf_RX8_24 dX8_become_115 ?_
                    refine j_aload_n hx 1 dX8_become_118 rfl ?_
                    refine g9_3 hx hG hb1 kf_RX8_24 dX8_become_119 ?_
                    refine j_callV hx hG (c_X0_become hst (gP G a 3) (gP G b1 3)) lk_RX8_36 (zr (k := 3) (t2 := 1) hG ha rfl) (by decide) rfl rfl rfl rfl [.ref (gP G b1 3)] ⟨rfl, hG, hS_s12, (zr (k := 3) (t2 := 1) hG ha rfl), (zr (k := 3) (t2 := 1) hG hb1 rfl)⟩ rfl rfl ⟨by decide, by decide⟩ ⟨by decide, by decide⟩ (k2 := 0) (n2 := 0) rfl rfl (Nat.le_of_ble_eq_true rfl) dX8_become_122 (kVM (fun s16 hS_s16 hF_s16 q8 => ?_))
                    refine j_aload_n hx 0 dX8_become_125 rfl ?_
                    refine j_aload_n hx 1 dX8_become_126 rfl ?_
                    have f9 := zf hS0 hb1 (k := 4) rfl
                    refine g9_4 hx hG hb1 kf_RX8_28 (v := (s0 b1 4)) (by rw [(zFr_g hF_s16 hb1 (by decide)), (zFr_g hF_s12 hb1 (by decide)), (zFr_g hF_s7 hb1 (by decide)), (zFr_g hF_s2 hb1 (by decide))]) dX8_become_127 ?_
                    refine p9_4 hx hG ha kf_RX8_28 dX8_become_130 ?_
                    obtain ⟨s17, e_s17⟩ : ∃ z, z = zU s16 a 4 ((s0 b1 4)) := ⟨_, rfl⟩
                    rw [← e_s17]
                    have hS_s17 : zSK G s17 := by rw [e_s17]; exact zSK_F hS_s16 ha rfl rfl rfl (by omega)
                    refine j_aload_n hx 0 dX8_become_133 rfl ?_
                    refine j_aload_n hx 1 dX8_become_134 rfl ?_
                    have f10 := zf hS_s17 hb1 (k := 5) rfl
                    refine g9_5 hx hG hb1 kf_RX8_40 rfl dX8_become_135 ?_
                    refine p9_5 hx hG ha kf_RX8_40 dX8_become_138 ?_
                    obtain ⟨s18, e_s18⟩ : ∃ z, z = zU s17 a 5 ((s17 b1 5)) := ⟨_, rfl⟩
                    rw [← e_s18]
                    have hS_s18 : zSK G s18 := by rw [e_s18]; exact zSK_F hS_s17 ha rfl rfl rfl (by omega)
                    exact j_vret hx hq rfl (by decide) (by decide) dX8_become_141 ⟨rfl, rfl, hS_s18, (zFr_u (zFr_u (zFr_t (zFr_t (zFr_t (zFr_t zFr_rf hF_s2 (by decide)) hF_s7 (by decide)) hF_s12 (by decide)) hF_s16 (by decide)) e_s17 ha (by decide)) e_s18 ha (by decide)), trivial⟩
                  · skip
                    refine j_iload_n hx 2 dX8_become_87 rfl ?_
                    refine j_aload_n hx 1 dX8_become_88 rfl ?_
                    refine g9_2 hx hG hb1 kf_RX8_18 dX8_become_89 ?_
                    refine j_alen hx hG (zr (k := 2) (t2 := 44) hG hb1 rfl) (by decide) (by decide) (zlen hG (zr (k := 2) (t2 := 44) hG hb1 rfl) (n := 3) rfl rfl) dX8_become_92 ?_
                    refine j_icmp_ge hx 114 dX8_become_93 rfl (by omega) ⟨by decide, by decide⟩ (fun h11 => absurd h11 (by omega)) (fun h11 => ?_)
                    refine j_aload_n hx 0 dX8_become_96 rfl ?_
                    refine g9_2 hx hG ha kf_RX8_18 dX8_become_97 ?_
                    refine j_iload_n hx 2 dX8_become_100 rfl ?_
                    refine j_aload_n hx 1 dX8_become_101 rfl ?_
                    refine g9_2 hx hG hb1 kf_RX8_18 dX8_become_102 ?_
                    refine j_iload_n hx 2 dX8_become_105 rfl ?_
                    have f12 := zaI (j := (v5).toNat) hS_s12 (zr (k := 2) (t2 := 44) hG hb1 rfl) rfl (zlen hG (zr (k := 2) (t2 := 44) hG hb1 rfl) (n := 3) rfl rfl) (show 0 ≤ v5 by omega) (by omega) rfl
                    refine j_iald hx hG (zr (k := 2) (t2 := 44) hG hb1 rfl) (by decide) rfl (zlen hG (zr (k := 2) (t2 := 44) hG hb1 rfl) (n := 3) rfl rfl) (by omega) (by omega) (j := (v5).toNat) rfl rfl dX8_become_106 ?_
                    refine j_iast hx hG (zr (k := 2) (t2 := 44) hG ha rfl) (by decide) rfl (zlen hG (zr (k := 2) (t2 := 44) hG ha rfl) (n := 3) rfl rfl) (by omega) (by omega) (j := (v5).toNat) rfl dX8_become_107 ?_
                    obtain ⟨s19, e_s19⟩ : ∃ z, z = zU s12 (gP G a 2) (v5).toNat ((s12 (gP G b1 2) (v5).toNat)) := ⟨_, rfl⟩
                    rw [← e_s19]
                    have hS_s19 : zSK G s19 := by rw [e_s19]; exact zSK_A hS_s12 (zr (k := 2) (t2 := 44) hG ha rfl) rfl rfl rfl (by omega)
                    refine j_iinc hx 2 [(2, .int (zI (v5 + 1))), (0, .ref a), (1, .ref b1)] dX8_become_108 rfl (by omega) (by decide) rfl ?_
                    refine j_goto hx 78 dX8_become_111 rfl ?_
                    exact j_sub [1, 2, 0] [(0, .ref a), (1, .ref b1), (2, .int (zI (v5 + 1)))] rfl (ih_c78_11 (v5 + 1) s19 (by omega) (by omega) hS_s19 (zFr_u (zFr_t zFr_rf hF_s12 (by decide)) e_s19 (zr (k := 2) (t2 := 44) hG ha rfl) (by decide)))
              exact j_sub [1, 2, 0] [(0, .ref a), (1, .ref b1), (2, .int (zI 0))] rfl (c78_11 (2147483648 * 4) 0 s7 (by omega) (by omega) hS_s7 zFr_rf)
            · skip
              refine j_iload_n hx 2 dX8_become_49 rfl ?_
              refine j_aload_n hx 1 dX8_become_50 rfl ?_
              refine g9_1 hx hG hb1 kf_RX8_15 dX8_become_51 ?_
              refine j_alen hx hG (zr (k := 1) (t2 := 43) hG hb1 rfl) (by decide) (by decide) (zlen hG (zr (k := 1) (t2 := 43) hG hb1 rfl) (n := 12) rfl rfl) dX8_become_54 ?_
              refine j_icmp_ge hx 76 dX8_become_55 rfl (by omega) ⟨by decide, by decide⟩ (fun h13 => absurd h13 (by omega)) (fun h13 => ?_)
              refine j_aload_n hx 0 dX8_become_58 rfl ?_
              refine g9_1 hx hG ha kf_RX8_15 dX8_become_59 ?_
              refine j_iload_n hx 2 dX8_become_62 rfl ?_
              refine j_aload_n hx 1 dX8_become_63 rfl ?_
              refine g9_1 hx hG hb1 kf_RX8_15 dX8_become_64 ?_
              refine j_iload_n hx 2 dX8_become_67 rfl ?_
              have f14 := zaI (j := (v3).toNat) hS_s7 (zr (k := 1) (t2 := 43) hG hb1 rfl) rfl (zlen hG (zr (k := 1) (t2 := 43) hG hb1 rfl) (n := 12) rfl rfl) (show 0 ≤ v3 by omega) (by omega) rfl
              refine j_iald hx hG (zr (k := 1) (t2 := 43) hG hb1 rfl) (by decide) rfl (zlen hG (zr (k := 1) (t2 := 43) hG hb1 rfl) (n := 12) rfl rfl) (by omega) (by omega) (j := (v3).toNat) rfl rfl dX8_become_68 ?_
              refine j_iast hx hG (zr (k := 1) (t2 := 43) hG ha rfl) (by decide) rfl (zlen hG (zr (k := 1) (t2 := 43) hG ha rfl) (n := 12) rfl rfl) (by omega) (by omega) (j := (v3).toNat) rfl dX8_become_69 ?_
              obtain ⟨s20, e_s20⟩ : ∃ z, z = zU s7 (gP G a 1) (v3).toNat ((s7 (gP G b1 1) (v3).toNat)) := ⟨_, rfl⟩
              rw [← e_s20]
              have hS_s20 : zSK G s20 := by rw [e_s20]; exact zSK_A hS_s7 (zr (k := 1) (t2 := 43) hG ha rfl) rfl rfl rfl (by omega)
              refine j_iinc hx 2 [(2, .int (zI (v3 + 1))), (0, .ref a), (1, .ref b1)] dX8_become_70 rfl (by omega) (by decide) rfl ?_
              refine j_goto hx 40 dX8_become_73 rfl ?_
              exact j_sub [1, 2, 0] [(0, .ref a), (1, .ref b1), (2, .int (zI (v3 + 1)))] rfl (ih_c40_6 (v3 + 1) s20 (by omega) (by omega) hS_s20 (zFr_u (zFr_t zFr_rf hF_s7 (by decide)) e_s20 (zr (k := 1) (t2 := 43) hG ha rfl) (by decide)))
        exact j_sub [1, 2, 0] [(0, .ref a), (1, .ref b1), (2, .int (zI 0))] rfl (c40_6 (2147483648 * 4) 0 s2 (by omega) (by omega) hS_s2 zFr_rf)
      · skip
        refine j_iload_n hx 2 dX8_become_11 rfl ?_
        refine j_aload_n hx 1 dX8_become_12 rfl ?_
        refine g9_0 hx hG hb1 kf_RX8_11 dX8_become_13 ?_
        refine j_alen hx hG (zr (k := 0) (t2 := 42) hG hb1 rfl) (by decide) (by decide) (zlen hG (zr (k := 0) (t2 := 42) hG hb1 rfl) (n := 15) rfl rfl) dX8_become_16 ?_
        refine j_icmp_ge hx 38 dX8_become_17 rfl (by omega) ⟨by decide, by decide⟩ (fun h15 => absurd h15 (by omega)) (fun h15 => ?_)
        refine j_aload_n hx 0 dX8_become_20 rfl ?_
        refine g9_0 hx hG ha kf_RX8_11 dX8_become_21 ?_
        refine j_iload_n hx 2 dX8_become_24 rfl ?_
        refine j_aload_n hx 1 dX8_become_25 rfl ?_
        refine g9_0 hx hG hb1 kf_RX8_11 dX8_become_26 ?_
        refine j_iload_n hx 2 dX8_become_29 rfl ?_
        have f16 := zaI (j := (v1).toNat) hS_s2 (zr (k := 0) (t2 := 42) hG hb1 rfl) rfl (zlen hG (zr (k := 0) (t2 := 42) hG hb1 rfl) (n := 15) rfl rfl) (show 0 ≤ v1 by omega) (by omega) rfl
        refine j_iald hx hG (zr (k := 0) (t2 := 42) hG hb1 rfl) (by decide) rfl (zlen hG (zr (k := 0) (t2 := 42) hG hb1 rfl) (n := 15) rfl rfl) (by omega) (by omega) (j := (v1).toNat) rfl rfl dX8_become_30 ?_
        refine j_iast hx hG (zr (k := 0) (t2 := 42) hG ha rfl) (by decide) rfl (zlen hG (zr (k := 0) (t2 := 42) hG ha rfl) (n := 15) rfl rfl) (by omega) (by omega) (j := (v1).toNat) rfl dX8_become_31 ?_
        obtain ⟨s21, e_s21⟩ : ∃ z, z = zU s2 (gP G a 0) (v1).toNat ((s2 (gP G b1 0) (v1).toNat)) := ⟨_, rfl⟩
        rw [← e_s21]
        have hS_s21 : zSK G s21 := by rw [e_s21]; exact zSK_A hS_s2 (zr (k := 0) (t2 := 42) hG ha rfl) rfl rfl rfl (by omega)
        refine j_iinc hx 2 [(2, .int (zI (v1 + 1))), (0, .ref a), (1, .ref b1)] dX8_become_32 rfl (by omega) (by decide) rfl ?_
        refine j_goto hx 2 dX8_become_35 rfl ?_
        exact j_sub [1, 2, 0] [(0, .ref a), (1, .ref b1), (2, .int (zI (v1 + 1)))] rfl (ih_c2_1 (v1 + 1) s21 (by omega) (by omega) hS_s21 (zFr_u (zFr_t zFr_rf hF_s2 (by decide)) e_s21 (zr (k := 0) (t2 := 42) hG ha rfl) (by decide)))
  exact j_sub [1, 2, 0] [(0, .ref a), (1, .ref b1), (2, .int (zI 0))] rfl (c2_1 (2147483648 * 4) 0 s0 (by omega) (by omega) hS0 zFr_rf)

set_option maxHeartbeats 4000000 in
set_option maxRecDepth 20000 in
theorem c_fill_50 {E : zE} {l : Launch} (hst : l.stackTraces = false) (b0 : Nat) (x1 : Int) : Con E l yJ7_fill_53178 cJ7_fill_53178 4 none { frames := 0, cells := 0, slots := 0, locals := 0 } (fun G s vs => vs = [.ref b0, .int (zI x1)] ∧ zGK G ∧ zSK G s ∧ (gT G b0 = 50) ∧ (0 ≤ x1 ∧ x1 ≤ 0)) (fun G s _ => pV (fun G2 s2 => G2 = G ∧ zSK G s2 ∧ zFr [50] G s s2 ∧ True)) := by
  refine Con.mk hst (by decide) (fun G s vs h => by rw [h.1]; exact Nat.le_of_ble_eq_true rfl) ?_
  rintro X G s0 vs ⟨rfl, hG, hS0, hb0, hx1⟩ rfl hx hq
  show JJ X E 4 G s0 0 0 [(0, .ref b0), (1, .int (zI x1))] 0 []
  refine j_iconst hx dJ7_fill_53178_0 ?_
  refine j_istore_n hx [(2, .int (zI 0)), (0, .ref b0), (1, .int (zI x1))] dJ7_fill_53178_1 (by decide) rfl ?_
  refine j_aload_n hx 1 dJ7_fill_53178_2 rfl ?_
  refine j_alen hx hG hb0 (by decide) (by decide) (zlen hG hb0 (n := 21) rfl rfl) dJ7_fill_53178_3 ?_
  refine j_istore_n hx [(3, .int (zI 21)), (2, .int (zI 0)), (0, .ref b0), (1, .int (zI x1))] dJ7_fill_53178_4 (by decide) rfl ?_
  have c5_1 : ∀ (m_c5_1 : Nat) (v1 : Int) (s2 : zS), 2147483648 - v1 < m_c5_1 → (0 ≤ v1 ∧ v1 ≤ 21) → (zSK G s2) → (zFr [50] G s0 s2) → JJ X E 4 G s2 0 0 [(0, .ref b0), (1, .int (zI x1)), (2, .int (zI v1)), (3, .int (zI 21))] 5 [] := by
    intro m_c5_1
    induction m_c5_1 with
    | zero => intro v1 s2 hm_c5_1 fA3 hS_s2 hF_s2; exfalso; omega
    | succ m_c5_1 ih_c5_1 => 
      intro v1 s2 hm_c5_1 fA3 hS_s2 hF_s2
      refine j_iload_n hx 2 dJ7_fill_53178_5 rfl ?_
      refine j_iload_n hx 3 dJ7_fill_53178_6 rfl ?_
      refine j_icmp_ge hx 20 dJ7_fill_53178_7 rfl (by omega) ⟨by decide, by decide⟩ (fun h2 => ?_) (fun h2 => ?_)
      · skip
        exact j_vret hx hq rfl (by decide) (by decide) dJ7_fill_53178_20 ⟨rfl, rfl, hS_s2, (zFr_t zFr_rf hF_s2 (by decide)), trivial⟩
      · skip
        refine j_aload_n hx 0 dJ7_fill_53178_10 rfl ?_
        refine j_iload_n hx 2 dJ7_fill_53178_11 rfl ?_
        refine j_iload_n hx 1 dJ7_fill_53178_12 rfl ?_
        refine j_iast hx hG hb0 (by decide) rfl (zlen hG hb0 (n := 21) rfl rfl) (by omega) (by omega) (j := (v1).toNat) rfl dJ7_fill_53178_13 ?_
        obtain ⟨s6, e_s6⟩ : ∃ z, z = zU s2 b0 (v1).toNat x1 := ⟨_, rfl⟩
        rw [← e_s6]
        have hS_s6 : zSK G s6 := by rw [e_s6]; exact zSK_A hS_s2 hb0 rfl rfl rfl (by omega)
        refine j_iinc hx 2 [(2, .int (zI (v1 + 1))), (0, .ref b0), (1, .int (zI x1)), (3, .int (zI 21))] dJ7_fill_53178_14 rfl (by omega) (by decide) rfl ?_
        refine j_goto hx 5 dJ7_fill_53178_17 rfl ?_
        exact j_sub [1, 2, 0, 3] [(0, .ref b0), (1, .int (zI x1)), (2, .int (zI (v1 + 1))), (3, .int (zI 21))] rfl (ih_c5_1 (v1 + 1) s6 (by omega) (by omega) hS_s6 (zFr_u (zFr_t zFr_rf hF_s2 (by decide)) e_s6 hb0 (by decide)))
  exact j_sub [2, 3, 1, 0] [(0, .ref b0), (1, .int (zI x1)), (2, .int (zI 0)), (3, .int (zI 21))] rfl (c5_1 (2147483648 * 4) 0 s0 (by omega) (by omega) hS0 zFr_rf)

theorem lk_RX3_50 : LkV RX3 50 RX0 yX0_become cX0_become 3 none 1 := ⟨km_RX3_50, ki_yX0_become, ks_RX0_yX0_become, kn_RX0, kc_yX0_become, rfl, by decide +kernel, by decide +kernel, by decide +kernel⟩
theorem lk_RX3_55 : LkS RX3 55 yJ7_fill_53178 cJ7_fill_53178 4 none 2 := ⟨km_RX3_55, kst_yJ7_fill_53178, kn_RJ7, kc_yJ7_fill_53178, by decide +kernel, by decide +kernel, by decide +kernel⟩
set_option maxHeartbeats 4000000 in
set_option maxRecDepth 20000 in
theorem c_X3_begin {E : zE} {l : Launch} (hst : l.stackTraces = false) (a : Nat) : Con E l yX3_begin cX3_begin 2 none { frames := 3, cells := 0, slots := 0, locals := 65 } (fun G s vs => vs = [.ref a] ∧ zGK G ∧ zSK G s ∧ (gT G a = 4)) (fun G s _ => pV (fun G2 s2 => G2 = G ∧ zSK G s2 ∧ zFr [1, 4, 7, 41, 44, 49, 50] G s s2 ∧ True)) := by
  refine Con.mk hst (by decide) (fun G s vs h => by rw [h.1]; exact Nat.le_of_ble_eq_true rfl) ?_
  rintro X G s0 vs ⟨rfl, hG, hS0, ha⟩ rfl hx hq
  show JJ X E 2 G s0 0 0 [(0, .ref a)] 0 []
  refine j_aload_n hx 0 dX3_begin_0 rfl ?_
  refine g4_1 hx hG ha kf_RX3_14 dX3_begin_1 ?_
  refine j_aload_n hx 0 dX3_begin_4 rfl ?_
  refine g4_0 hx hG ha kf_RX3_41 dX3_begin_5 ?_
  refine gN9_3 hx hG (zr (k := 0) (t2 := 9) hG ha rfl) kf_RX3_45 dX3_begin_8 ?_
  refine j_callV hx hG (c_X0_become hst (gP G a 1) (gP G (gP G a 0) 3)) lk_RX3_50 (zr (k := 1) (t2 := 1) hG ha rfl) (by decide) rfl rfl rfl rfl [.ref (gP G (gP G a 0) 3)] ⟨rfl, hG, hS0, (zr (k := 1) (t2 := 1) hG ha rfl), (zr (k := 3) (t2 := 1) hG (zr (k := 0) (t2 := 9) hG ha rfl) rfl)⟩ rfl rfl ⟨by decide, by decide⟩ ⟨by decide, by decide⟩ (k2 := 0) (n2 := 0) rfl rfl (Nat.le_of_ble_eq_true rfl) dX3_begin_11 (kVM (fun s1 hS_s1 hF_s1 q2 => ?_))
  refine j_iconst hx dX3_begin_14 ?_
  refine j_istore_n hx [(1, .int (zI 0)), (0, .ref a)] dX3_begin_15 (by decide) rfl ?_
  have c16_2 : ∀ (m_c16_2 : Nat) (v3 : Int) (s3 : zS), 2147483648 - v3 < m_c16_2 → (0 ≤ v3 ∧ v3 ≤ 3) → (zSK G s3) → (zFr [44] G s1 s3) → JJ X E 2 G s3 0 0 [(0, .ref a), (1, .int (zI v3))] 16 [] := by
    intro m_c16_2
    induction m_c16_2 with
    | zero => intro v3 s3 hm_c16_2 fA4 hS_s3 hF_s3; exfalso; omega
    | succ m_c16_2 ih_c16_2 => 
      intro v3 s3 hm_c16_2 fA4 hS_s3 hF_s3
      refine j_iload_n hx 1 dX3_begin_16 rfl ?_
      refine j_aload_n hx 0 dX3_begin_17 rfl ?_
      refine g4_2 hx hG ha kf_RX3_18 dX3_begin_18 ?_
      refine j_alen hx hG (zr (k := 2) (t2 := 44) hG ha rfl) (by decide) (by decide) (zlen hG (zr (k := 2) (t2 := 44) hG ha rfl) (n := 3) rfl rfl) dX3_begin_21 ?_
      refine j_icmp_ge hx 58 dX3_begin_22 rfl (by omega) ⟨by decide, by decide⟩ (fun h4 => ?_) (fun h4 => ?_)
      · skip
        refine j_iconst hx dX3_begin_58 ?_
        refine j_istore_n hx [(1, .int (zI 0)), (0, .ref a)] dX3_begin_59 (by decide) rfl ?_
        have c60_7 : ∀ (m_c60_7 : Nat) (v5 : Int) (s8 : zS), 2147483648 - v5 < m_c60_7 → (0 ≤ v5 ∧ v5 ≤ 6) → (zSK G s8) → (zFr [49] G s3 s8) → JJ X E 2 G s8 0 0 [(0, .ref a), (1, .int (zI v5))] 60 [] := by
          intro m_c60_7
          induction m_c60_7 with
          | zero => intro v5 s8 hm_c60_7 fA9 hS_s8 hF_s8; exfalso; omega
          | succ m_c60_7 ih_c60_7 => 
            intro v5 s8 hm_c60_7 fA9 hS_s8 hF_s8
            refine j_iload_n hx 1 dX3_begin_60 rfl ?_
            refine j_aload_n hx 0 dX3_begin_61 rfl ?_
            refine g4_3 hx hG ha kf_RX3_24 dX3_begin_62 ?_
            refine j_alen hx hG (zr (k := 3) (t2 := 49) hG ha rfl) (by decide) (by decide) (zlen hG (zr (k := 3) (t2 := 49) hG ha rfl) (n := 6) rfl rfl) dX3_begin_65 ?_
            refine j_icmp_ge hx 82 dX3_begin_66 rfl (by omega) ⟨by decide, by decide⟩ (fun h6 => ?_) (fun h6 => ?_)
            · skip
              refine j_aload_n hx 0 dX3_begin_82 rfl ?_
              refine g4_4 hx hG ha kf_RX3_28 dX3_begin_83 ?_
              refine j_iconst hx dX3_begin_86 ?_
              refine j_callS hx (c_fill_50 hst (gP G a 4) 0) lk_RX3_55 [.ref (gP G a 4), .int (zI 0)] ⟨rfl, hG, hS_s8, (zr (k := 4) (t2 := 50) hG ha rfl), (by omega)⟩ rfl rfl ⟨by decide, by decide⟩ ⟨by decide, by decide⟩ (k2 := 0) (n2 := 0) rfl rfl (Nat.le_of_ble_eq_true rfl) dX3_begin_87 (kVM (fun s12 hS_s12 hF_s12 q8 => ?_))
              refine j_aload_n hx 0 dX3_begin_90 rfl ?_
              refine j_iconst hx dX3_begin_91 ?_
              refine p4_7 hx hG ha kf_RX3_61 (by omega) dX3_begin_92 ?_
              obtain ⟨s13, e_s13⟩ : ∃ z, z = zU s12 a 7 0 := ⟨_, rfl⟩
              rw [← e_s13]
              have hS_s13 : zSK G s13 := by rw [e_s13]; exact zSK_F hS_s12 ha rfl rfl rfl (by omega)
              refine j_aload_n hx 0 dX3_begin_95 rfl ?_
              refine j_iconst hx dX3_begin_96 ?_
              refine p4_8 hx hG ha kf_RX3_65 (by omega) dX3_begin_97 ?_
              obtain ⟨s14, e_s14⟩ : ∃ z, z = zU s13 a 8 0 := ⟨_, rfl⟩
              rw [← e_s14]
              have hS_s14 : zSK G s14 := by rw [e_s14]; exact zSK_F hS_s13 ha rfl rfl rfl (by omega)
              refine j_aload_n hx 0 dX3_begin_100 rfl ?_
              refine j_iconst hx dX3_begin_101 ?_
              refine p4_9 hx hG ha kf_RX3_68 dX3_begin_102 ?_
              obtain ⟨s15, e_s15⟩ : ∃ z, z = zU s14 a 9 0 := ⟨_, rfl⟩
              rw [← e_s15]
              have hS_s15 : zSK G s15 := by rw [e_s15]; exact zSK_F hS_s14 ha rfl rfl rfl (by omega)
              refine j_aload_n hx 0 dX3_begin_105 rfl ?_
              refine j_iconst hx dX3_begin_106 ?_
              refine p4_10 hx hG ha kf_RX3_71 dX3_begin_107 ?_
              obtain ⟨s16, e_s16⟩ : ∃ z, z = zU s15 a 10 0 := ⟨_, rfl⟩
              rw [← e_s16]
              have hS_s16 : zSK G s16 := by rw [e_s16]; exact zSK_F hS_s15 ha rfl rfl rfl (by omega)
              exact j_vret hx hq rfl (by decide) (by decide) dX3_begin_110 ⟨rfl, rfl, hS_s16, (zFr_u (zFr_u (zFr_u (zFr_u (zFr_t (zFr_t (zFr_t (zFr_t zFr_rf hF_s1 (by decide)) hF_s3 (by decide)) hF_s8 (by decide)) hF_s12 (by decide)) e_s13 ha (by decide)) e_s14 ha (by decide)) e_s15 ha (by decide)) e_s16 ha (by decide)), trivial⟩
            · skip
              refine j_aload_n hx 0 dX3_begin_69 rfl ?_
              refine g4_3 hx hG ha kf_RX3_24 dX3_begin_70 ?_
              refine j_iload_n hx 1 dX3_begin_73 rfl ?_
              refine j_null hx dX3_begin_74 ?_
              refine j_aastN hx hG (zr (k := 3) (t2 := 49) hG ha rfl) (by decide) rfl (zlen hG (zr (k := 3) (t2 := 49) hG ha rfl) (n := 6) rfl rfl) (by omega) (by omega) dX3_begin_75 ?_
              obtain ⟨s17, e_s17⟩ : ∃ z, z = zU s8 (gP G a 3) (v5).toNat 0 := ⟨_, rfl⟩
              rw [← e_s17]
              have hS_s17 : zSK G s17 := by rw [e_s17]; exact zSK_d hS_s8 (zr (k := 3) (t2 := 49) hG ha rfl) (fun _ => rfl) (fun _ => rfl) rfl (Or.inl rfl)
              refine j_iinc hx 1 [(1, .int (zI (v5 + 1))), (0, .ref a)] dX3_begin_76 rfl (by omega) (by decide) rfl ?_
              refine j_goto hx 60 dX3_begin_79 rfl ?_
              exact j_sub [1, 0] [(0, .ref a), (1, .int (zI (v5 + 1)))] rfl (ih_c60_7 (v5 + 1) s17 (by omega) (by omega) hS_s17 (zFr_u (zFr_t zFr_rf hF_s8 (by decide)) e_s17 (zr (k := 3) (t2 := 49) hG ha rfl) (by decide)))
        exact j_sub [1, 0] [(0, .ref a), (1, .int (zI 0))] rfl (c60_7 (2147483648 * 4) 0 s3 (by omega) (by omega) hS_s3 zFr_rf)
      · skip
        refine j_iload_n hx 1 dX3_begin_25 rfl ?_
        refine j_aload_n hx 0 dX3_begin_26 rfl ?_
        refine g4_0 hx hG ha kf_RX3_41 dX3_begin_27 ?_
        refine gN9_2 hx hG (zr (k := 0) (t2 := 9) hG ha rfl) kf_RX3_54 dX3_begin_30 ?_
        refine j_alen hx hG (zr (k := 2) (t2 := 44) hG (zr (k := 0) (t2 := 9) hG ha rfl) rfl) (by decide) (by decide) (zlen hG (zr (k := 2) (t2 := 44) hG (zr (k := 0) (t2 := 9) hG ha rfl) rfl) (n := 3) rfl rfl) dX3_begin_33 ?_
        refine j_icmp_ge hx 58 dX3_begin_34 rfl (by omega) ⟨by decide, by decide⟩ (fun h9 => absurd h9 (by omega)) (fun h9 => ?_)
        refine j_aload_n hx 0 dX3_begin_37 rfl ?_
        refine g4_2 hx hG ha kf_RX3_18 dX3_begin_38 ?_
        refine j_iload_n hx 1 dX3_begin_41 rfl ?_
        refine j_aload_n hx 0 dX3_begin_42 rfl ?_
        refine g4_0 hx hG ha kf_RX3_41 dX3_begin_43 ?_
        refine gN9_2 hx hG (zr (k := 0) (t2 := 9) hG ha rfl) kf_RX3_54 dX3_begin_46 ?_
        refine j_iload_n hx 1 dX3_begin_49 rfl ?_
        have f10 := zaI (j := (v3).toNat) hS_s3 (zr (k := 2) (t2 := 44) hG (zr (k := 0) (t2 := 9) hG ha rfl) rfl) rfl (zlen hG (zr (k := 2) (t2 := 44) hG (zr (k := 0) (t2 := 9) hG ha rfl) rfl) (n := 3) rfl rfl) (show 0 ≤ v3 by omega) (by omega) rfl
        refine j_iald hx hG (zr (k := 2) (t2 := 44) hG (zr (k := 0) (t2 := 9) hG ha rfl) rfl) (by decide) rfl (zlen hG (zr (k := 2) (t2 := 44) hG (zr (k := 0) (t2 := 9) hG ha rfl) rfl) (n := 3) rfl rfl) (by omega) (by omega) (j := (v3).toNat) rfl rfl dX3_begin_50 ?_
        refine j_iast hx hG (zr (k := 2) (t2 := 44) hG ha rfl) (by decide) rfl (zlen hG (zr (k := 2) (t2 := 44) hG ha rfl) (n := 3) rfl rfl) (by omega) (by omega) (j := (v3).toNat) rfl dX3_begin_51 ?_
        obtain ⟨s18, e_s18⟩ : ∃ z, z = zU s3 (gP G a 2) (v3).toNat ((s3 (gP G (gP G a 0) 2) (v3).toNat)) := ⟨_, rfl⟩
        rw [← e_s18]
        have hS_s18 : zSK G s18 := by rw [e_s18]; exact zSK_A hS_s3 (zr (k := 2) (t2 := 44) hG ha rfl) rfl rfl rfl (by omega)
        refine j_iinc hx 1 [(1, .int (zI (v3 + 1))), (0, .ref a)] dX3_begin_52 rfl (by omega) (by decide) rfl ?_
        refine j_goto hx 16 dX3_begin_55 rfl ?_
        exact j_sub [1, 0] [(0, .ref a), (1, .int (zI (v3 + 1)))] rfl (ih_c16_2 (v3 + 1) s18 (by omega) (by omega) hS_s18 (zFr_u (zFr_t zFr_rf hF_s3 (by decide)) e_s18 (zr (k := 2) (t2 := 44) hG ha rfl) (by decide)))
  exact j_sub [1, 0] [(0, .ref a), (1, .int (zI 0))] rfl (c16_2 (2147483648 * 4) 0 s1 (by omega) (by omega) hS_s1 zFr_rf)

set_option maxHeartbeats 4000000 in
set_option maxRecDepth 20000 in
theorem c_X4_settle {E : zE} {l : Launch} (hst : l.stackTraces = false) (a : Nat) (x1 : Int) : Con E l yX4_settle cX4_settle 2 none { frames := 0, cells := 0, slots := 0, locals := 0 } (fun G s vs => vs = [.ref a, .int (zI x1)] ∧ zGK G ∧ zSK G s ∧ (gT G a = 5) ∧ ((-2147483648) ≤ x1 ∧ x1 ≤ 2147483647)) (fun G s _ => pV (fun G2 s2 => G2 = G ∧ zSK G s2 ∧ zFr [5] G s s2 ∧ True)) := by
  refine Con.mk hst (by decide) (fun G s vs h => by rw [h.1]; exact Nat.le_of_ble_eq_true rfl) ?_
  rintro X G s0 vs ⟨rfl, hG, hS0, ha, hx1⟩ rfl hx hq
  show JJ X E 2 G s0 0 0 [(0, .ref a), (1, .int (zI x1))] 0 []
  refine j_aload_n hx 0 dX4_settle_0 rfl ?_
  refine j_iload_n hx 1 dX4_settle_1 rfl ?_
  refine p5_5 hx hG ha kf_RX4_27 dX4_settle_2 ?_
  obtain ⟨s1, e_s1⟩ : ∃ z, z = zU s0 a 5 x1 := ⟨_, rfl⟩
  rw [← e_s1]
  have hS_s1 : zSK G s1 := by rw [e_s1]; exact zSK_F hS0 ha rfl rfl rfl (by omega)
  refine j_aload_n hx 0 dX4_settle_5 rfl ?_
  refine j_iconst hx dX4_settle_6 ?_
  refine p5_4 hx hG ha kf_RX4_31 dX4_settle_7 ?_
  obtain ⟨s2, e_s2⟩ : ∃ z, z = zU s1 a 4 0 := ⟨_, rfl⟩
  rw [← e_s2]
  have hS_s2 : zSK G s2 := by rw [e_s2]; exact zSK_F hS_s1 ha rfl rfl rfl (by omega)
  exact j_vret hx hq rfl (by decide) (by decide) dX4_settle_10 ⟨rfl, rfl, hS_s2, (zFr_u (zFr_u zFr_rf e_s1 ha (by decide)) e_s2 ha (by decide)), trivial⟩

set_option maxHeartbeats 4000000 in
set_option maxRecDepth 20000 in
theorem c_X9_close {E : zE} {l : Launch} (hst : l.stackTraces = false) (a : Nat) (x1 : Int) : Con E l yX9_close cX9_close 2 (some .int) { frames := 0, cells := 0, slots := 0, locals := 0 } (fun G s vs => vs = [.ref a, .int (zI x1)] ∧ zGK G ∧ zSK G s ∧ (gT G a = 10) ∧ ((-2147483648) ≤ x1 ∧ x1 ≤ 2147483647)) (fun G s _ => pI (fun r G2 s2 => G2 = G ∧ zSK G s2 ∧ zFr [10] G s s2 ∧ ((-2147483648) ≤ r ∧ r ≤ 2147483647))) := by
  refine Con.mk hst (by decide) (fun G s vs h => by rw [h.1]; exact Nat.le_of_ble_eq_true rfl) ?_
  rintro X G s0 vs ⟨rfl, hG, hS0, ha, hx1⟩ rfl hx hq
  show JJ X E 2 G s0 0 0 [(0, .ref a), (1, .int (zI x1))] 0 []
  refine j_aload_n hx 0 dX9_close_0 rfl ?_
  refine j_iconst hx dX9_close_1 ?_
  refine p10_1 hx hG ha kf_RX9_19 dX9_close_2 ?_
  obtain ⟨s1, e_s1⟩ : ∃ z, z = zU s0 a 1 0 := ⟨_, rfl⟩
  rw [← e_s1]
  have hS_s1 : zSK G s1 := by rw [e_s1]; exact zSK_F hS0 ha rfl rfl rfl (by omega)
  refine j_aload_n hx 0 dX9_close_5 rfl ?_
  have f1 := zf hS0 ha (k := 4) rfl
  refine g10_4 hx hG ha kf_RX9_34 (v := (s0 a 4)) (by rw [e_s1, zU_at (Or.inr (by decide))]) dX9_close_6 ?_
  refine j_if_ne hx 16 dX9_close_9 rfl (by omega) (fun h2 => ?_) (fun h2 => ?_)
  · skip
    refine j_aload_n hx 0 dX9_close_16 rfl ?_
    refine g10_4 hx hG ha kf_RX9_34 (v := (s0 a 4)) (by rw [e_s1, zU_at (Or.inr (by decide))]) dX9_close_17 ?_
    refine j_bipush hx dX9_close_20 rfl ?_
    refine j_isub hx (r := (s0 a 4) - 10) dX9_close_22 (by omega) ?_
    refine j_norm (fun v3 f4 f5 f6 => ?_)
    exact j_iret hx hq rfl (by decide) (by decide) dX9_close_23 ⟨v3, rfl, rfl, hS_s1, (zFr_u zFr_rf e_s1 ha (by decide)), (by omega)⟩
  · skip
    refine j_iload_n hx 1 dX9_close_12 rfl ?_
    refine j_goto hx 23 dX9_close_13 rfl ?_
    exact j_iret hx hq rfl (by decide) (by decide) dX9_close_23 ⟨x1, rfl, rfl, hS_s1, (zFr_u zFr_rf e_s1 ha (by decide)), (by omega)⟩

theorem lk_RX11_98 : LkV RX11 98 RX11 yX11_needRange cX11_needRange 4 none 3 := ⟨km_RX11_98, ki_yX11_needRange, ks_RX11_yX11_needRange, kn_RX11, kc_yX11_needRange, rfl, by decide +kernel, by decide +kernel, by decide +kernel⟩
theorem lk_RX11_102 : LkV RX11 102 RX9 yX9_open cX9_open 2 none 1 := ⟨km_RX11_102, ki_yX9_open, ks_RX9_yX9_open, kn_RX9, kc_yX9_open, rfl, by decide +kernel, by decide +kernel, by decide +kernel⟩
theorem lk_RX11_105 : LkV RX11 105 RX8 yX8_read cX8_read 3 none 1 := ⟨km_RX11_105, ki_yX8_read, ks_RX8_yX8_read, kn_RX8, kc_yX8_read, rfl, by decide +kernel, by decide +kernel, by decide +kernel⟩
theorem lk_RX11_130 : LkV RX11 130 RX9 yX9_close cX9_close 2 (some .int) 1 := ⟨km_RX11_130, ki_yX9_close, ks_RX9_yX9_close, kn_RX9, kc_yX9_close, rfl, by decide +kernel, by decide +kernel, by decide +kernel⟩
theorem lk_RX11_112 : LkV RX11 112 RX8 yX8_become cX8_become 3 none 1 := ⟨km_RX11_112, ki_yX8_become, ks_RX8_yX8_become, kn_RX8, kc_yX8_become, rfl, by decide +kernel, by decide +kernel, by decide +kernel⟩
theorem lk_RX11_115 : LkV RX11 115 RX3 yX3_begin cX3_begin 2 none 0 := ⟨km_RX11_115, ki_yX3_begin, ks_RX3_yX3_begin, kn_RX3, kc_yX3_begin, rfl, by decide +kernel, by decide +kernel, by decide +kernel⟩
theorem lk_RX11_124 : LkV RX11 124 RX4 yX4_settle cX4_settle 2 none 1 := ⟨km_RX11_124, ki_yX4_settle, ks_RX4_yX4_settle, kn_RX4, kc_yX4_settle, rfl, by decide +kernel, by decide +kernel, by decide +kernel⟩
set_option maxHeartbeats 4000000 in
set_option maxRecDepth 20000 in
theorem c_X11_table {E : zE} {l : Launch} (hst : l.stackTraces = false) (a : Nat) (x1 : Int) : ConX E l yX11_table cX11_table 2 (some .int) { frames := 9, cells := 1, slots := 6, locals := 272 } (fun G s vs => vs = [.ref a, .int (zI x1)] ∧ zGK G ∧ zSK G s ∧ (gT G a = 12) ∧ ((-2147483648) ≤ x1 ∧ x1 ≤ 2147483647)) (fun G s _ => pI (fun r G2 s2 => G2 = G ∧ zSK G s2 ∧ zFr [1, 2, 4, 5, 7, 9, 10, 12, 41, 42, 43, 44, 49, 50] G s s2 ∧ ((-2147483648) ≤ r ∧ r ≤ 2147483647))) (fun G s _ Ex G2 s2 => G2 = G ∧ zSK G s2 ∧ zFr [1, 2, 4, 5, 7, 9, 10, 12, 41, 42, 43, 44, 49, 50] G s s2 ∧ ((Ex = "java/lang/IllegalArgumentException" ∧ (True)))) := by
  refine ConX.mk hst (by decide) (fun G s vs h => by rw [h.1]; exact Nat.le_of_ble_eq_true rfl) ?_
  rintro X G s0 vs ⟨rfl, hG, hS0, ha, hx1⟩ rfl hx hq
  show JJ X E 2 G s0 0 0 [(0, .ref a), (1, .int (zI x1))] 0 []
  refine j_aload_n hx 0 dX11_table_0 rfl ?_
  refine j_iload_n hx 1 dX11_table_1 rfl ?_
  refine j_iconst hx dX11_table_2 ?_
  refine j_aload_n hx 0 dX11_table_3 rfl ?_
  refine g12_0 hx hG ha kf_RX11_10 dX11_table_4 ?_
  have f1 := zf hS0 (zr (k := 0) (t2 := 10) hG ha rfl) (k := 1) rfl
  refine gN10_1 hx hG (zr (k := 0) (t2 := 10) hG ha rfl) kf_RX11_94 rfl dX11_table_7 ?_
  refine j_callVX hx hq hG (c_X11_needRange hst a x1 0 ((s0 (gP G a 0) 1))) lk_RX11_98 ha (by decide) rfl rfl rfl rfl [.int (zI x1), .int (zI 0), .int (zI ((s0 (gP G a 0) 1)))] ⟨rfl, hG, hS0, ha, (by omega), (by omega), (by omega)⟩ rfl rfl ⟨by decide, by decide⟩ ⟨by decide, by decide⟩ (k2 := 1) (n2 := 6) rfl rfl (Nat.le_of_ble_eq_true rfl) ⟨by decide, by decide⟩ dX11_table_10 (by rintro Ex9 G9 s9 ⟨rfl, hS9, hF9, e9, c9⟩; exact ⟨rfl, hS9, (zFr_t zFr_rf hF9 (by decide)), ⟨e9, by first | trivial | omega⟩⟩) (kVP (fun q3 => ?_))
  refine j_aload_n hx 0 dX11_table_13 rfl ?_
  refine g12_0 hx hG ha kf_RX11_10 dX11_table_14 ?_
  refine j_iload_n hx 1 dX11_table_17 rfl ?_
  refine j_callV hx hG (c_X9_open hst (gP G a 0) x1) lk_RX11_102 (zr (k := 0) (t2 := 10) hG ha rfl) (by decide) rfl rfl rfl rfl [.int (zI x1)] ⟨rfl, hG, hS0, (zr (k := 0) (t2 := 10) hG ha rfl), (by omega)⟩ rfl rfl ⟨by decide, by decide⟩ ⟨by decide, by decide⟩ (k2 := 1) (n2 := 6) rfl rfl (Nat.le_of_ble_eq_true rfl) dX11_table_18 (kVM (fun s1 hS_s1 hF_s1 q5 => ?_))
  refine j_aload_n hx 0 dX11_table_21 rfl ?_
  refine g12_2 hx hG ha kf_RX11_23 dX11_table_22 ?_
  refine j_aload_n hx 0 dX11_table_25 rfl ?_
  refine g12_0 hx hG ha kf_RX11_10 dX11_table_26 ?_
  refine j_callV hx hG (c_X8_read hst (gP G a 2) (gP G a 0)) lk_RX11_105 (zr (k := 2) (t2 := 9) hG ha rfl) (by decide) rfl rfl rfl rfl [.ref (gP G a 0)] ⟨rfl, hG, hS_s1, (zr (k := 2) (t2 := 9) hG ha rfl), (zr (k := 0) (t2 := 10) hG ha rfl)⟩ rfl rfl ⟨by decide, by decide⟩ ⟨by decide, by decide⟩ (k2 := 1) (n2 := 6) rfl rfl (Nat.le_of_ble_eq_true rfl) dX11_table_29 (kVM (fun s2 hS_s2 hF_s2 q7 => ?_))
  refine j_aload_n hx 0 dX11_table_32 rfl ?_
  refine g12_0 hx hG ha kf_RX11_10 dX11_table_33 ?_
  have f8 := zf hS_s2 (zr (k := 0) (t2 := 10) hG ha rfl) (k := 4) rfl
  refine gN10_4 hx hG (zr (k := 0) (t2 := 10) hG ha rfl) kf_RX11_109 rfl dX11_table_36 ?_
  refine j_if_ne hx 81 dX11_table_39 rfl (by omega) (fun h9 => ?_) (fun h9 => ?_)
  · skip
    refine j_aload_n hx 0 dX11_table_81 rfl ?_
    refine g12_0 hx hG ha kf_RX11_10 dX11_table_82 ?_
    refine j_aload_n hx 0 dX11_table_85 rfl ?_
    refine g12_1 hx hG ha kf_RX11_19 dX11_table_86 ?_
    have f10 := zf hS_s2 (zr (k := 1) (t2 := 9) hG ha rfl) (k := 4) rfl
    refine gN9_4 hx hG (zr (k := 1) (t2 := 9) hG ha rfl) kf_RX11_127 rfl dX11_table_89 ?_
    refine j_callV hx hG (c_X9_close hst (gP G a 0) ((s2 (gP G a 1) 4))) lk_RX11_130 (zr (k := 0) (t2 := 10) hG ha rfl) (by decide) rfl rfl rfl rfl [.int (zI ((s2 (gP G a 1) 4)))] ⟨rfl, hG, hS_s2, (zr (k := 0) (t2 := 10) hG ha rfl), (by omega)⟩ rfl rfl ⟨by decide, by decide⟩ ⟨by decide, by decide⟩ (k2 := 1) (n2 := 6) rfl rfl (Nat.le_of_ble_eq_true rfl) dX11_table_92 (kIM (fun v11 s3 hS_s3 hF_s3 q12 => ?_))
    exact j_iret hx hq.r rfl (by decide) (by decide) dX11_table_95 ⟨v11, rfl, rfl, hS_s3, (zFr_t (zFr_t (zFr_t zFr_rf hF_s1 (by decide)) hF_s2 (by decide)) hF_s3 (by decide)), (by omega)⟩
  · skip
    refine j_aload_n hx 0 dX11_table_42 rfl ?_
    refine g12_1 hx hG ha kf_RX11_19 dX11_table_43 ?_
    refine j_aload_n hx 0 dX11_table_46 rfl ?_
    refine g12_2 hx hG ha kf_RX11_23 dX11_table_47 ?_
    refine j_callV hx hG (c_X8_become hst (gP G a 1) (gP G a 2)) lk_RX11_112 (zr (k := 1) (t2 := 9) hG ha rfl) (by decide) rfl rfl rfl rfl [.ref (gP G a 2)] ⟨rfl, hG, hS_s2, (zr (k := 1) (t2 := 9) hG ha rfl), (zr (k := 2) (t2 := 9) hG ha rfl)⟩ rfl rfl ⟨by decide, by decide⟩ ⟨by decide, by decide⟩ (k2 := 1) (n2 := 6) rfl rfl (Nat.le_of_ble_eq_true rfl) dX11_table_50 (kVM (fun s4 hS_s4 hF_s4 q14 => ?_))
    refine j_aload_n hx 0 dX11_table_53 rfl ?_
    refine g12_6 hx hG ha kf_RX11_48 dX11_table_54 ?_
    refine j_callV hx hG (c_X3_begin hst (gP G a 6)) lk_RX11_115 (zr (k := 6) (t2 := 4) hG ha rfl) (by decide) rfl rfl rfl rfl [] ⟨rfl, hG, hS_s4, (zr (k := 6) (t2 := 4) hG ha rfl)⟩ rfl rfl ⟨by decide, by decide⟩ ⟨by decide, by decide⟩ (k2 := 1) (n2 := 6) rfl rfl (Nat.le_of_ble_eq_true rfl) dX11_table_57 (kVM (fun s5 hS_s5 hF_s5 q16 => ?_))
    refine j_aload_n hx 0 dX11_table_60 rfl ?_
    refine g12_4 hx hG ha kf_RX11_36 dX11_table_61 ?_
    refine j_iconst hx dX11_table_64 ?_
    refine pN2_2 hx hG (zr (k := 4) (t2 := 2) hG ha rfl) kf_RX11_118 dX11_table_65 ?_
    obtain ⟨s6, e_s6⟩ : ∃ z, z = zU s5 (gP G a 4) 2 0 := ⟨_, rfl⟩
    rw [← e_s6]
    have hS_s6 : zSK G s6 := by rw [e_s6]; exact zSK_F hS_s5 (zr (k := 4) (t2 := 2) hG ha rfl) rfl rfl rfl (by omega)
    refine j_aload_n hx 0 dX11_table_68 rfl ?_
    refine j_iconst hx dX11_table_69 ?_
    refine p12_13 hx hG ha kf_RX11_121 dX11_table_70 ?_
    obtain ⟨s7, e_s7⟩ : ∃ z, z = zU s6 a 13 0 := ⟨_, rfl⟩
    rw [← e_s7]
    have hS_s7 : zSK G s7 := by rw [e_s7]; exact zSK_F hS_s6 ha rfl rfl rfl (by omega)
    refine j_aload_n hx 0 dX11_table_73 rfl ?_
    refine g12_9 hx hG ha kf_RX11_69 dX11_table_74 ?_
    refine j_iconst hx dX11_table_77 ?_
    refine j_callV hx hG (c_X4_settle hst (gP G a 9) 0) lk_RX11_124 (zr (k := 9) (t2 := 5) hG ha rfl) (by decide) rfl rfl rfl rfl [.int (zI 0)] ⟨rfl, hG, hS_s7, (zr (k := 9) (t2 := 5) hG ha rfl), (by omega)⟩ rfl rfl ⟨by decide, by decide⟩ ⟨by decide, by decide⟩ (k2 := 1) (n2 := 6) rfl rfl (Nat.le_of_ble_eq_true rfl) dX11_table_78 (kVM (fun s8 hS_s8 hF_s8 q18 => ?_))
    refine j_aload_n hx 0 dX11_table_81 rfl ?_
    refine g12_0 hx hG ha kf_RX11_10 dX11_table_82 ?_
    refine j_aload_n hx 0 dX11_table_85 rfl ?_
    refine g12_1 hx hG ha kf_RX11_19 dX11_table_86 ?_
    have f19 := zf hS_s4 (zr (k := 1) (t2 := 9) hG ha rfl) (k := 4) rfl
    refine gN9_4 hx hG (zr (k := 1) (t2 := 9) hG ha rfl) kf_RX11_127 (v := (s4 (gP G a 1) 4)) (by rw [(zFr_g hF_s8 (zr (k := 1) (t2 := 9) hG ha rfl) (by decide)), e_s7, zU_at (Or.inl (zne ha (zr (k := 1) (t2 := 9) hG ha rfl) (by decide))), e_s6, zU_at (Or.inl (zne (zr (k := 4) (t2 := 2) hG ha rfl) (zr (k := 1) (t2 := 9) hG ha rfl) (by decide))), (zFr_g hF_s5 (zr (k := 1) (t2 := 9) hG ha rfl) (by decide))]) dX11_table_89 ?_
    refine j_callV hx hG (c_X9_close hst (gP G a 0) ((s4 (gP G a 1) 4))) lk_RX11_130 (zr (k := 0) (t2 := 10) hG ha rfl) (by decide) rfl rfl rfl rfl [.int (zI ((s4 (gP G a 1) 4)))] ⟨rfl, hG, hS_s8, (zr (k := 0) (t2 := 10) hG ha rfl), (by omega)⟩ rfl rfl ⟨by decide, by decide⟩ ⟨by decide, by decide⟩ (k2 := 1) (n2 := 6) rfl rfl (Nat.le_of_ble_eq_true rfl) dX11_table_92 (kIM (fun v20 s9 hS_s9 hF_s9 q21 => ?_))
    exact j_iret hx hq.r rfl (by decide) (by decide) dX11_table_95 ⟨v20, rfl, rfl, hS_s9, (zFr_t (zFr_t (zFr_u (zFr_u (zFr_t (zFr_t (zFr_t (zFr_t zFr_rf hF_s1 (by decide)) hF_s2 (by decide)) hF_s4 (by decide)) hF_s5 (by decide)) e_s6 (zr (k := 4) (t2 := 2) hG ha rfl) (by decide)) e_s7 ha (by decide)) hF_s8 (by decide)) hF_s9 (by decide)), (by omega)⟩

set_option maxHeartbeats 4000000 in
set_option maxRecDepth 20000 in
theorem c_X11_needPlayer {E : zE} {l : Launch} (hst : l.stackTraces = false) (a : Nat) (x1 : Int) : ConX E l yX11_needPlayer cX11_needPlayer 2 none { frames := 6, cells := 1, slots := 6, locals := 90 } (fun G s vs => vs = [.ref a, .int (zI x1)] ∧ zGK G ∧ zSK G s ∧ (gT G a = 12) ∧ ((-2147483648) ≤ x1 ∧ x1 ≤ 2147483647)) (fun G s _ => pV (fun G2 s2 => G2 = G ∧ s2 = s ∧ True)) (fun G s _ Ex G2 s2 => G2 = G ∧ zSK G s2 ∧ zFr [12] G s s2 ∧ ((Ex = "java/util/NoSuchElementException" ∧ (True)))) := by
  refine ConX.mk hst (by decide) (fun G s vs h => by rw [h.1]; exact Nat.le_of_ble_eq_true rfl) ?_
  rintro X G s0 vs ⟨rfl, hG, hS0, ha, hx1⟩ rfl hx hq
  show JJ X E 2 G s0 0 0 [(0, .ref a), (1, .int (zI x1))] 0 []
  refine j_iload_n hx 1 dX11_needPlayer_0 rfl ?_
  refine j_if_lt hx 15 dX11_needPlayer_1 rfl (by omega) (fun h1 => ?_) (fun h1 => ?_)
  · skip
    refine j_aload_n hx 0 dX11_needPlayer_15 rfl ?_
    refine j_dup hx dX11_needPlayer_16 rfl ?_
    have f2 := zf hS0 ha (k := 14) rfl
    refine g12_14 hx hG ha kf_RX11_333 rfl dX11_needPlayer_17 ?_
    refine j_iconst hx dX11_needPlayer_20 ?_
    refine j_iadd hx (r := (s0 a 14) + 1) dX11_needPlayer_21 (by omega) ?_
    refine j_norm (fun v3 f4 f5 f6 => ?_)
    refine p12_14 hx hG ha kf_RX11_333 dX11_needPlayer_22 ?_
    obtain ⟨s1, e_s1⟩ : ∃ z, z = zU s0 a 14 v3 := ⟨_, rfl⟩
    rw [← e_s1]
    have hS_s1 : zSK G s1 := by rw [e_s1]; exact zSK_F hS0 ha rfl rfl rfl (by omega)
    exact j_throwN hx hq ⟨by decide, Nat.le_of_ble_eq_true rfl⟩ ⟨by decide, by decide⟩ ⟨by decide, by decide⟩ dX11_needPlayer_25 dX11_needPlayer_28 dX11_needPlayer_29 dX11_needPlayer_32 dX11_needPlayer_35 ⟨rfl, hS_s1, (zFr_u zFr_rf e_s1 ha (by decide)), ⟨rfl, by first | trivial | omega⟩⟩
  · skip
    refine j_iload_n hx 1 dX11_needPlayer_4 rfl ?_
    refine j_aload_n hx 0 dX11_needPlayer_5 rfl ?_
    refine g12_1 hx hG ha kf_RX11_19 dX11_needPlayer_6 ?_
    have f7 := zf hS0 (zr (k := 1) (t2 := 9) hG ha rfl) (k := 4) rfl
    refine gN9_4 hx hG (zr (k := 1) (t2 := 9) hG ha rfl) kf_RX11_127 rfl dX11_needPlayer_9 ?_
    refine j_icmp_lt hx 36 dX11_needPlayer_12 rfl (by omega) (by omega) (fun h8 => ?_) (fun h8 => ?_)
    · skip
      exact j_vret hx hq.r rfl (by decide) (by decide) dX11_needPlayer_36 ⟨rfl, rfl, rfl, trivial⟩
    · skip
      refine j_aload_n hx 0 dX11_needPlayer_15 rfl ?_
      refine j_dup hx dX11_needPlayer_16 rfl ?_
      have f9 := zf hS0 ha (k := 14) rfl
      refine g12_14 hx hG ha kf_RX11_333 rfl dX11_needPlayer_17 ?_
      refine j_iconst hx dX11_needPlayer_20 ?_
      refine j_iadd hx (r := (s0 a 14) + 1) dX11_needPlayer_21 (by omega) ?_
      refine j_norm (fun v10 f11 f12 f13 => ?_)
      refine p12_14 hx hG ha kf_RX11_333 dX11_needPlayer_22 ?_
      obtain ⟨s2, e_s2⟩ : ∃ z, z = zU s0 a 14 v10 := ⟨_, rfl⟩
      rw [← e_s2]
      have hS_s2 : zSK G s2 := by rw [e_s2]; exact zSK_F hS0 ha rfl rfl rfl (by omega)
      exact j_throwN hx hq ⟨by decide, Nat.le_of_ble_eq_true rfl⟩ ⟨by decide, by decide⟩ ⟨by decide, by decide⟩ dX11_needPlayer_25 dX11_needPlayer_28 dX11_needPlayer_29 dX11_needPlayer_32 dX11_needPlayer_35 ⟨rfl, hS_s2, (zFr_u zFr_rf e_s2 ha (by decide)), ⟨rfl, by first | trivial | omega⟩⟩

set_option maxHeartbeats 4000000 in
set_option maxRecDepth 20000 in
theorem c_X9_takeSign {E : zE} {l : Launch} (hst : l.stackTraces = false) (a : Nat) (x1 : Int) : Con E l yX9_takeSign cX9_takeSign 2 (some .boolean) { frames := 1, cells := 0, slots := 0, locals := 21 } (fun G s vs => vs = [.ref a, .int (zI x1)] ∧ zGK G ∧ zSK G s ∧ (gT G a = 10) ∧ (0 ≤ x1 ∧ x1 ≤ 65535)) (fun G s _ => pI (fun r G2 s2 => G2 = G ∧ zSK G s2 ∧ zFr [10] G s s2 ∧ (0 ≤ r ∧ r ≤ 1))) := by
  refine Con.mk hst (by decide) (fun G s vs h => by rw [h.1]; exact Nat.le_of_ble_eq_true rfl) ?_
  rintro X G s0 vs ⟨rfl, hG, hS0, ha, hx1⟩ rfl hx hq
  show JJ X E 2 G s0 0 0 [(0, .ref a), (1, .int (zI x1))] 0 []
  refine j_aload_n hx 0 dX9_takeSign_0 rfl ?_
  have f1 := zf hS0 ha (k := 4) rfl
  refine g10_4 hx hG ha kf_RX9_34 rfl dX9_takeSign_1 ?_
  refine j_if_ne hx 15 dX9_takeSign_4 rfl (by omega) (fun h2 => ?_) (fun h2 => ?_)
  · skip
    refine j_iconst hx dX9_takeSign_15 ?_
    exact j_zret hx hq rfl (by decide) (by decide) dX9_takeSign_16 (by omega) ⟨0, rfl, rfl, hS0, zFr_rf, (by omega)⟩
  · skip
    refine j_aload_n hx 0 dX9_takeSign_7 rfl ?_
    refine j_callV hx hG (c_X9_peek hst a) lk_RX9_49 ha (by decide) rfl rfl rfl rfl [] ⟨rfl, hG, hS0, ha⟩ rfl rfl ⟨by decide, by decide⟩ ⟨by decide, by decide⟩ (k2 := 0) (n2 := 0) rfl rfl (Nat.le_of_ble_eq_true rfl) dX9_takeSign_8 (kIM (fun v3 s1 hS_s1 hF_s1 q4 => ?_))
    refine j_iload_n hx 1 dX9_takeSign_11 rfl ?_
    refine j_icmp_eq hx 17 dX9_takeSign_12 rfl (by omega) (by omega) (fun h5 => ?_) (fun h5 => ?_)
    · skip
      refine j_aload_n hx 0 dX9_takeSign_17 rfl ?_
      refine j_dup hx dX9_takeSign_18 rfl ?_
      have f6 := zf hS_s1 ha (k := 3) rfl
      refine g10_3 hx hG ha kf_RX9_31 rfl dX9_takeSign_19 ?_
      refine j_iconst hx dX9_takeSign_22 ?_
      refine j_iadd hx (r := (s1 a 3) + 1) dX9_takeSign_23 (by omega) ?_
      refine j_norm (fun v7 f8 f9 f10 => ?_)
      refine p10_3 hx hG ha kf_RX9_31 dX9_takeSign_24 ?_
      obtain ⟨s2, e_s2⟩ : ∃ z, z = zU s1 a 3 v7 := ⟨_, rfl⟩
      rw [← e_s2]
      have hS_s2 : zSK G s2 := by rw [e_s2]; exact zSK_F hS_s1 ha rfl rfl rfl (by omega)
      refine j_iconst hx dX9_takeSign_27 ?_
      exact j_zret hx hq rfl (by decide) (by decide) dX9_takeSign_28 (by omega) ⟨1, rfl, rfl, hS_s2, (zFr_u (zFr_t zFr_rf hF_s1 (by decide)) e_s2 ha (by decide)), (by omega)⟩
    · skip
      refine j_iconst hx dX9_takeSign_15 ?_
      exact j_zret hx hq rfl (by decide) (by decide) dX9_takeSign_16 (by omega) ⟨0, rfl, rfl, hS_s1, (zFr_t zFr_rf hF_s1 (by decide)), (by omega)⟩

set_option maxHeartbeats 4000000 in
set_option maxRecDepth 20000 in
theorem c_X7_emit {E : zE} {l : Launch} (hst : l.stackTraces = false) (a : Nat) (x1 : Int) (x2 : Int) : Con E l yX7_emit cX7_emit 3 none { frames := 0, cells := 0, slots := 0, locals := 0 } (fun G s vs => vs = [.ref a, .int (zI x1), .int (zI x2)] ∧ zGK G ∧ zSK G s ∧ (gT G a = 8) ∧ ((-2147483648) ≤ x1 ∧ x1 ≤ 2147483647) ∧ ((-2147483648) ≤ x2 ∧ x2 ≤ 2147483647)) (fun G s _ => pV (fun G2 s2 => G2 = G ∧ zSK G s2 ∧ zFr [8, 46] G s s2 ∧ True)) := by
  refine Con.mk hst (by decide) (fun G s vs h => by rw [h.1]; exact Nat.le_of_ble_eq_true rfl) ?_
  rintro X G s0 vs ⟨rfl, hG, hS0, ha, hx1, hx2⟩ rfl hx hq
  show JJ X E 3 G s0 0 0 [(0, .ref a), (1, .int (zI x1)), (2, .int (zI x2))] 0 []
  refine j_aload_n hx 0 dX7_emit_0 rfl ?_
  have f1 := zf hS0 ha (k := 1) rfl
  refine g8_1 hx hG ha kf_RX7_15 rfl dX7_emit_1 ?_
  refine j_if_lt hx 44 dX7_emit_4 rfl (by omega) (fun h2 => absurd h2 (by omega)) (fun h2 => ?_)
  refine j_aload_n hx 0 dX7_emit_7 rfl ?_
  refine g8_1 hx hG ha kf_RX7_15 rfl dX7_emit_8 ?_
  refine j_aload_n hx 0 dX7_emit_11 rfl ?_
  refine g8_0 hx hG ha kf_RX7_11 dX7_emit_12 ?_
  have f3 := zn46 hG (zr (k := 0) (t2 := 46) hG ha rfl)
  refine j_alen hx hG (zr (k := 0) (t2 := 46) hG ha rfl) (by decide) (by decide) rfl dX7_emit_15 ?_
  refine j_icmp_ge hx 44 dX7_emit_16 rfl (by omega) (by omega) (fun h4 => ?_) (fun h4 => ?_)
  · skip
    exact j_vret hx hq rfl (by decide) (by decide) dX7_emit_44 ⟨rfl, rfl, hS0, zFr_rf, trivial⟩
  · skip
    refine j_aload_n hx 0 dX7_emit_19 rfl ?_
    refine g8_0 hx hG ha kf_RX7_11 dX7_emit_20 ?_
    refine j_aload_n hx 0 dX7_emit_23 rfl ?_
    refine g8_1 hx hG ha kf_RX7_15 rfl dX7_emit_24 ?_
    refine j_iload_n hx 1 dX7_emit_27 rfl ?_
    refine j_bipush hx dX7_emit_28 rfl ?_
    refine j_ishl hx dX7_emit_30 (fun v5 f6 f7 => ?_)
    refine j_iload_n hx 2 dX7_emit_31 rfl ?_
    refine j_ior hx dX7_emit_32 (fun v8 f9 f10 => ?_)
    refine j_iast hx hG (zr (k := 0) (t2 := 46) hG ha rfl) (by decide) rfl rfl (by omega) (by omega) (j := ((s0 a 1)).toNat) rfl dX7_emit_33 ?_
    obtain ⟨s1, e_s1⟩ : ∃ z, z = zU s0 (gP G a 0) ((s0 a 1)).toNat v8 := ⟨_, rfl⟩
    rw [← e_s1]
    have hS_s1 : zSK G s1 := by rw [e_s1]; exact zSK_A hS0 (zr (k := 0) (t2 := 46) hG ha rfl) rfl rfl rfl (by omega)
    refine j_aload_n hx 0 dX7_emit_34 rfl ?_
    refine j_dup hx dX7_emit_35 rfl ?_
    refine g8_1 hx hG ha kf_RX7_15 (v := (s0 a 1)) (by rw [e_s1, zU_at (Or.inl (zne (zr (k := 0) (t2 := 46) hG ha rfl) ha (by decide)))]) dX7_emit_36 ?_
    refine j_iconst hx dX7_emit_39 ?_
    refine j_iadd hx (r := (s0 a 1) + 1) dX7_emit_40 (by omega) ?_
    refine p8_1 hx hG ha kf_RX7_15 dX7_emit_41 ?_
    obtain ⟨s2, e_s2⟩ : ∃ z, z = zU s1 a 1 ((s0 a 1) + 1) := ⟨_, rfl⟩
    rw [← e_s2]
    have hS_s2 : zSK G s2 := by rw [e_s2]; exact zSK_F hS_s1 ha rfl rfl rfl (by omega)
    exact j_vret hx hq rfl (by decide) (by decide) dX7_emit_44 ⟨rfl, rfl, hS_s2, (zFr_u (zFr_u zFr_rf e_s1 (zr (k := 0) (t2 := 46) hG ha rfl) (by decide)) e_s2 ha (by decide)), trivial⟩

set_option maxHeartbeats 4000000 in
set_option maxRecDepth 20000 in
theorem c_X9_takeKind {E : zE} {l : Launch} (hst : l.stackTraces = false) (a : Nat) : Con E l yX9_takeKind cX9_takeKind 2 (some .int) { frames := 2, cells := 0, slots := 0, locals := 43 } (fun G s vs => vs = [.ref a] ∧ zGK G ∧ zSK G s ∧ (gT G a = 10)) (fun G s _ => pI (fun r G2 s2 => G2 = G ∧ zSK G s2 ∧ zFr [10] G s s2 ∧ ((-2147483648) ≤ r ∧ r ≤ 2147483647))) := by
  refine Con.mk hst (by decide) (fun G s vs h => by rw [h.1]; exact Nat.le_of_ble_eq_true rfl) ?_
  rintro X G s0 vs ⟨rfl, hG, hS0, ha⟩ rfl hx hq
  show JJ X E 2 G s0 0 0 [(0, .ref a)] 0 []
  refine j_aload_n hx 0 dX9_takeKind_0 rfl ?_
  refine j_callV hx hG (c_X9_peek hst a) lk_RX9_49 ha (by decide) rfl rfl rfl rfl [] ⟨rfl, hG, hS0, ha⟩ rfl rfl ⟨by decide, by decide⟩ ⟨by decide, by decide⟩ (k2 := 0) (n2 := 0) rfl rfl (Nat.le_of_ble_eq_true rfl) dX9_takeKind_1 (kIM (fun v1 s1 hS_s1 hF_s1 q2 => ?_))
  refine j_istore_n hx [(1, .int (zI v1)), (0, .ref a)] dX9_takeKind_4 (by decide) rfl ?_
  refine j_aload_n hx 1 dX9_takeKind_5 rfl ?_
  refine j_aload_n hx 1 dX9_takeKind_6 rfl ?_
  refine j_callV hx hG (c_X9_lettersHere hst a) lk_RX9_53 ha (by decide) rfl rfl rfl rfl [] ⟨rfl, hG, hS_s1, ha⟩ rfl rfl ⟨by decide, by decide⟩ ⟨by decide, by decide⟩ (k2 := 0) (n2 := 0) rfl rfl (Nat.le_of_ble_eq_true rfl) dX9_takeKind_7 (kIP (fun v3 q4 => ?_))
  refine j_iconst hx dX9_takeKind_10 ?_
  have c25_2 : ∀ (v5 : Int), (0 ≤ v5 ∧ v5 ≤ 1) → JJ X E 2 G s1 0 0 [(0, .ref a), (1, .int (zI v1))] 25 [.int (zI v5), .ref a] := by
    intro v5 fA3
    refine j_iconst hx dX9_takeKind_25 ?_
    refine j_aload_n hx 0 dX9_takeKind_26 rfl ?_
    have f6 := zf hS_s1 ha (k := 3) rfl
    refine g10_3 hx hG ha kf_RX9_31 rfl dX9_takeKind_27 ?_
    refine j_callV hx hG (c_X9_failIf hst a v5 1 ((s1 a 3))) lk_RX9_37 ha (by decide) rfl rfl rfl rfl [.int (zI v5), .int (zI 1), .int (zI ((s1 a 3)))] ⟨rfl, hG, hS_s1, ha, (by omega), (by omega), (by omega)⟩ rfl rfl ⟨by decide, by decide⟩ ⟨by decide, by decide⟩ (k2 := 0) (n2 := 0) rfl rfl (Nat.le_of_ble_eq_true rfl) dX9_takeKind_30 (kVM (fun s4 hS_s4 hF_s4 q8 => ?_))
    refine j_aload_n hx 0 dX9_takeKind_33 rfl ?_
    have f9 := zf hS_s4 ha (k := 4) rfl
    refine g10_4 hx hG ha kf_RX9_34 rfl dX9_takeKind_34 ?_
    refine j_if_eq hx 42 dX9_takeKind_37 rfl (by omega) (fun h10 => ?_) (fun h10 => ?_)
    · skip
      refine j_aload_n hx 0 dX9_takeKind_42 rfl ?_
      refine j_dup hx dX9_takeKind_43 rfl ?_
      have f11 := zf hS_s4 ha (k := 3) rfl
      refine g10_3 hx hG ha kf_RX9_31 rfl dX9_takeKind_44 ?_
      refine j_iconst hx dX9_takeKind_47 ?_
      refine j_iadd hx (r := (s4 a 3) + 1) dX9_takeKind_48 (by omega) ?_
      refine j_norm (fun v12 f13 f14 f15 => ?_)
      refine p10_3 hx hG ha kf_RX9_31 dX9_takeKind_49 ?_
      obtain ⟨s5, e_s5⟩ : ∃ z, z = zU s4 a 3 v12 := ⟨_, rfl⟩
      rw [← e_s5]
      have hS_s5 : zSK G s5 := by rw [e_s5]; exact zSK_F hS_s4 ha rfl rfl rfl (by omega)
      refine j_iload_n hx 1 dX9_takeKind_52 rfl ?_
      refine j_bipush hx dX9_takeKind_53 rfl ?_
      refine j_isub hx (r := v1 - 97) dX9_takeKind_55 rfl ?_
      refine j_norm (fun v16 f17 f18 f19 => ?_)
      exact j_iret hx hq rfl (by decide) (by decide) dX9_takeKind_56 ⟨v16, rfl, rfl, hS_s5, (zFr_u (zFr_t (zFr_t zFr_rf hF_s1 (by decide)) hF_s4 (by decide)) e_s5 ha (by decide)), (by omega)⟩
    · skip
      refine j_iconst hx dX9_takeKind_40 ?_
      exact j_iret hx hq rfl (by decide) (by decide) dX9_takeKind_41 ⟨0, rfl, rfl, hS_s4, (zFr_t (zFr_t zFr_rf hF_s1 (by decide)) hF_s4 (by decide)), (by omega)⟩
  have c20_6 : JJ X E 2 G s1 0 0 [(0, .ref a), (1, .int (zI v1))] 20 [.ref a] := by
    refine j_iconst hx dX9_takeKind_20 ?_
    refine j_goto hx 25 dX9_takeKind_21 rfl ?_
    exact j_sub [0, 1] [(0, .ref a), (1, .int (zI v1))] rfl (c25_2 1 (by omega))
  refine j_icmp_ne hx 20 dX9_takeKind_11 rfl (by omega) ⟨by decide, by decide⟩ (fun h20 => ?_) (fun h20 => ?_)
  · skip
    exact j_sub [1, 0] [(0, .ref a), (1, .int (zI v1))] rfl (c20_6  )
  · skip
    refine j_iload_n hx 0 dX9_takeKind_14 rfl ?_
    refine j_bipush hx dX9_takeKind_15 rfl ?_
    refine j_icmp_le hx 24 dX9_takeKind_17 rfl (by omega) ⟨by decide, by decide⟩ (fun h21 => ?_) (fun h21 => ?_)
    · skip
      refine j_iconst hx dX9_takeKind_24 ?_
      exact j_sub [1, 0] [(0, .ref a), (1, .int (zI v1))] rfl (c25_2 0 (by omega))
    · skip
      exact j_sub [1, 0] [(0, .ref a), (1, .int (zI v1))] rfl (c20_6  )

theorem lk_RX7_74 : LkV RX7 74 RX9 yX9_needSign cX9_needSign 3 none 1 := ⟨km_RX7_74, ki_yX9_needSign, ks_RX9_yX9_needSign, kn_RX9, kc_yX9_needSign, rfl, by decide +kernel, by decide +kernel, by decide +kernel⟩
theorem lk_RX7_109 : LkV RX7 109 RX9 yX9_takeNumber cX9_takeNumber 6 (some .int) 2 := ⟨km_RX7_109, ki_yX9_takeNumber, ks_RX9_yX9_takeNumber, kn_RX9, kc_yX9_takeNumber, rfl, by decide +kernel, by decide +kernel, by decide +kernel⟩
theorem lk_RX7_54 : LkV RX7 54 RX7 yX7_emit cX7_emit 3 none 2 := ⟨km_RX7_54, ki_yX7_emit, ks_RX7_yX7_emit, kn_RX7, kc_yX7_emit, rfl, by decide +kernel, by decide +kernel, by decide +kernel⟩
theorem lk_RX7_66 : LkV RX7 66 RX9 yX9_takeSign cX9_takeSign 2 (some .boolean) 1 := ⟨km_RX7_66, ki_yX9_takeSign, ks_RX9_yX9_takeSign, kn_RX9, kc_yX9_takeSign, rfl, by decide +kernel, by decide +kernel, by decide +kernel⟩
set_option maxHeartbeats 4000000 in
set_option maxRecDepth 20000 in
theorem c_X7_readSize {E : zE} {l : Launch} (hst : l.stackTraces = false) (a : Nat) (b1 : Nat) (x2 : Int) (x3 : Int) : Con E l yX7_readSize cX7_readSize 4 none { frames := 2, cells := 0, slots := 0, locals := 58 } (fun G s vs => vs = [.ref a, .ref b1, .int (zI x2), .int (zI x3)] ∧ zGK G ∧ zSK G s ∧ (gT G a = 8) ∧ (gT G b1 = 10) ∧ ((-2147483648) ≤ x2 ∧ x2 ≤ 2147483647) ∧ ((-2147483648) ≤ x3 ∧ x3 ≤ 2147483647)) (fun G s _ => pV (fun G2 s2 => G2 = G ∧ zSK G s2 ∧ zFr [8, 10, 46] G s s2 ∧ True)) := by
  refine Con.mk hst (by decide) (fun G s vs h => by rw [h.1]; exact Nat.le_of_ble_eq_true rfl) ?_
  rintro X G s0 vs ⟨rfl, hG, hS0, ha, hb1, hx2, hx3⟩ rfl hx hq
  show JJ X E 4 G s0 0 0 [(0, .ref a), (1, .ref b1), (2, .int (zI x2)), (3, .int (zI x3))] 0 []
  refine j_iload_n hx 2 dX7_readSize_0 rfl ?_
  refine j_iconst hx dX7_readSize_1 ?_
  have c29_1 : ∀ (s2 : zS), (zSK G s2) → (zFr [10] G s0 s2) → JJ X E 4 G s2 0 0 [(0, .ref a), (1, .ref b1), (3, .int (zI x3))] 29 [] := by
    intro s2 hS_s2 hF_s2
    refine j_aload_n hx 1 dX7_readSize_29 rfl ?_
    refine j_bipush hx dX7_readSize_30 rfl ?_
    refine j_callV hx hG (c_X9_needSign hst b1 62) lk_RX7_74 hb1 (by decide) rfl rfl rfl rfl [.int (zI 62)] ⟨rfl, hG, hS_s2, hb1, (by omega)⟩ rfl rfl ⟨by decide, by decide⟩ ⟨by decide, by decide⟩ (k2 := 0) (n2 := 0) rfl rfl (Nat.le_of_ble_eq_true rfl) dX7_readSize_32 (kVM (fun s5 hS_s5 hF_s5 q2 => ?_))
    refine j_aload_n hx 0 dX7_readSize_35 rfl ?_
    refine j_iload_n hx 2 dX7_readSize_36 rfl ?_
    refine j_aload_n hx 1 dX7_readSize_37 rfl ?_
    refine j_iconst hx dX7_readSize_38 ?_
    refine j_bipush hx dX7_readSize_39 rfl ?_
    refine j_callV hx hG (c_X9_takeNumber hst b1 0 60) lk_RX7_109 hb1 (by decide) rfl rfl rfl rfl [.int (zI 0), .int (zI 60)] ⟨rfl, hG, hS_s5, hb1, (by omega), (by omega)⟩ rfl rfl ⟨by decide, by decide⟩ ⟨by decide, by decide⟩ (k2 := 0) (n2 := 0) rfl rfl (Nat.le_of_ble_eq_true rfl) dX7_readSize_41 (kIM (fun v3 s6 hS_s6 hF_s6 q4 => ?_))
    refine j_callV hx hG (c_X7_emit hst a x3 v3) lk_RX7_54 ha (by decide) rfl rfl rfl rfl [.int (zI x3), .int (zI v3)] ⟨rfl, hG, hS_s6, ha, (by omega), (by omega)⟩ rfl rfl ⟨by decide, by decide⟩ ⟨by decide, by decide⟩ (k2 := 0) (n2 := 0) rfl rfl (Nat.le_of_ble_eq_true rfl) dX7_readSize_44 (kVM (fun s7 hS_s7 hF_s7 q6 => ?_))
    exact j_vret hx hq rfl (by decide) (by decide) dX7_readSize_47 ⟨rfl, rfl, hS_s7, (zFr_t (zFr_t (zFr_t (zFr_t zFr_rf hF_s2 (by decide)) hF_s5 (by decide)) hF_s6 (by decide)) hF_s7 (by decide)), trivial⟩
  refine j_icmp_eq hx 29 dX7_readSize_2 rfl (by omega) ⟨by decide, by decide⟩ (fun h7 => ?_) (fun h7 => ?_)
  · skip
    exact j_sub [0, 1, 3] [(0, .ref a), (1, .ref b1), (3, .int (zI x3))] rfl (c29_1 s0 hS0 zFr_rf)
  · skip
    refine j_aload_n hx 1 dX7_readSize_5 rfl ?_
    refine j_bipush hx dX7_readSize_6 rfl ?_
    refine j_callV hx hG (c_X9_takeSign hst b1 60) lk_RX7_66 hb1 (by decide) rfl rfl rfl rfl [.int (zI 60)] ⟨rfl, hG, hS0, hb1, (by omega)⟩ rfl rfl ⟨by decide, by decide⟩ ⟨by decide, by decide⟩ (k2 := 0) (n2 := 0) rfl rfl (Nat.le_of_ble_eq_true rfl) dX7_readSize_8 (kIM (fun v8 s8 hS_s8 hF_s8 q9 => ?_))
    refine j_if_eq hx 29 dX7_readSize_11 rfl (by omega) (fun h10 => ?_) (fun h10 => ?_)
    · skip
      exact j_sub [0, 1, 3] [(0, .ref a), (1, .ref b1), (3, .int (zI x3))] rfl (c29_1 s8 hS_s8 (zFr_t zFr_rf hF_s8 (by decide)))
    · skip
      refine j_aload_n hx 0 dX7_readSize_14 rfl ?_
      refine j_iload_n hx 2 dX7_readSize_15 rfl ?_
      refine j_aload_n hx 1 dX7_readSize_16 rfl ?_
      refine j_iconst hx dX7_readSize_17 ?_
      refine j_bipush hx dX7_readSize_18 rfl ?_
      refine j_callV hx hG (c_X9_takeNumber hst b1 0 60) lk_RX7_109 hb1 (by decide) rfl rfl rfl rfl [.int (zI 0), .int (zI 60)] ⟨rfl, hG, hS_s8, hb1, (by omega), (by omega)⟩ rfl rfl ⟨by decide, by decide⟩ ⟨by decide, by decide⟩ (k2 := 0) (n2 := 0) rfl rfl (Nat.le_of_ble_eq_true rfl) dX7_readSize_20 (kIM (fun v11 s9 hS_s9 hF_s9 q12 => ?_))
      refine j_callV hx hG (c_X7_emit hst a x2 v11) lk_RX7_54 ha (by decide) rfl rfl rfl rfl [.int (zI x2), .int (zI v11)] ⟨rfl, hG, hS_s9, ha, (by omega), (by omega)⟩ rfl rfl ⟨by decide, by decide⟩ ⟨by decide, by decide⟩ (k2 := 0) (n2 := 0) rfl rfl (Nat.le_of_ble_eq_true rfl) dX7_readSize_23 (kVM (fun s10 hS_s10 hF_s10 q14 => ?_))
      refine j_goto hx 47 dX7_readSize_26 rfl ?_
      exact j_vret hx hq rfl (by decide) (by decide) dX7_readSize_47 ⟨rfl, rfl, hS_s10, (zFr_t (zFr_t (zFr_t zFr_rf hF_s8 (by decide)) hF_s9 (by decide)) hF_s10 (by decide)), trivial⟩

theorem lk_RX7_50 : LkV RX7 50 RX9 yX9_takeWord cX9_takeWord 3 (some .boolean) 1 := ⟨km_RX7_50, ki_yX9_takeWord, ks_RX9_yX9_takeWord, kn_RX9, kc_yX9_takeWord, rfl, by decide +kernel, by decide +kernel, by decide +kernel⟩
theorem lk_RX7_41 : LkV RX7 41 RX9 yX9_fail cX9_fail 2 none 1 := ⟨km_RX7_41, ki_yX9_fail, ks_RX9_yX9_fail, kn_RX9, kc_yX9_fail, rfl, by decide +kernel, by decide +kernel, by decide +kernel⟩
theorem lk_RX7_99 : LkV RX7 99 RX7 yX7_readSize cX7_readSize 4 none 3 := ⟨km_RX7_99, ki_yX7_readSize, ks_RX7_yX7_readSize, kn_RX7, kc_yX7_readSize, rfl, by decide +kernel, by decide +kernel, by decide +kernel⟩
theorem lk_RX7_92 : LkV RX7 92 RX9 yX9_takeKind cX9_takeKind 2 (some .int) 0 := ⟨km_RX7_92, ki_yX9_takeKind, ks_RX9_yX9_takeKind, kn_RX9, kc_yX9_takeKind, rfl, by decide +kernel, by decide +kernel, by decide +kernel⟩
set_option maxHeartbeats 4000000 in
set_option maxRecDepth 20000 in
theorem c_X7_readFact {E : zE} {l : Launch} (hst : l.stackTraces = false) (a : Nat) (b1 : Nat) : Con E l yX7_readFact cX7_readFact 3 none { frames := 6, cells := 0, slots := 0, locals := 203 } (fun G s vs => vs = [.ref a, .ref b1] ∧ zGK G ∧ zSK G s ∧ (gT G a = 8) ∧ (gT G b1 = 10)) (fun G s _ => pV (fun G2 s2 => G2 = G ∧ zSK G s2 ∧ zFr [8, 10, 46] G s s2 ∧ True)) := by
  refine Con.mk hst (by decide) (fun G s vs h => by rw [h.1]; exact Nat.le_of_ble_eq_true rfl) ?_
  rintro X G s0 vs ⟨rfl, hG, hS0, ha, hb1⟩ rfl hx hq
  show JJ X E 3 G s0 0 0 [(0, .ref a), (1, .ref b1)] 0 []
  refine j_aload_n hx 1 dX7_readFact_0 rfl ?_
  refine j_ldcT hx (i := 9) 9 (by decide) rfl rfl rfl dX7_readFact_1 ?_
  refine j_callV hx hG (c_X9_takeWord hst b1 9) lk_RX7_50 hb1 (by decide) rfl rfl rfl rfl [.ref (zTa E 9)] ⟨rfl, hG, hS0, hb1, (by decide)⟩ rfl rfl ⟨by decide, by decide⟩ ⟨by decide, by decide⟩ (k2 := 0) (n2 := 0) rfl rfl (Nat.le_of_ble_eq_true rfl) dX7_readFact_3 (kIM (fun v1 s1 hS_s1 hF_s1 q2 => ?_))
  refine j_if_eq hx 18 dX7_readFact_6 rfl (by omega) (fun h3 => ?_) (fun h3 => ?_)
  · skip
    refine j_aload_n hx 1 dX7_readFact_18 rfl ?_
    refine j_ldcT hx (i := 10) 10 (by decide) rfl rfl rfl dX7_readFact_19 ?_
    refine j_callV hx hG (c_X9_takeWord hst b1 10) lk_RX7_50 hb1 (by decide) rfl rfl rfl rfl [.ref (zTa E 10)] ⟨rfl, hG, hS_s1, hb1, (by decide)⟩ rfl rfl ⟨by decide, by decide⟩ ⟨by decide, by decide⟩ (k2 := 0) (n2 := 0) rfl rfl (Nat.le_of_ble_eq_true rfl) dX7_readFact_21 (kIM (fun v4 s2 hS_s2 hF_s2 q5 => ?_))
    refine j_if_eq hx 36 dX7_readFact_24 rfl (by omega) (fun h6 => ?_) (fun h6 => ?_)
    · skip
      refine j_aload_n hx 1 dX7_readFact_36 rfl ?_
      refine j_ldcT hx (i := 11) 11 (by decide) rfl rfl rfl dX7_readFact_37 ?_
      refine j_callV hx hG (c_X9_takeWord hst b1 11) lk_RX7_50 hb1 (by decide) rfl rfl rfl rfl [.ref (zTa E 11)] ⟨rfl, hG, hS_s2, hb1, (by decide)⟩ rfl rfl ⟨by decide, by decide⟩ ⟨by decide, by decide⟩ (k2 := 0) (n2 := 0) rfl rfl (Nat.le_of_ble_eq_true rfl) dX7_readFact_39 (kIM (fun v7 s3 hS_s3 hF_s3 q8 => ?_))
      refine j_if_eq hx 54 dX7_readFact_42 rfl (by omega) (fun h9 => ?_) (fun h9 => ?_)
      · skip
        refine j_aload_n hx 1 dX7_readFact_54 rfl ?_
        refine j_ldcT hx (i := 12) 12 (by decide) rfl rfl rfl dX7_readFact_55 ?_
        refine j_callV hx hG (c_X9_takeWord hst b1 12) lk_RX7_50 hb1 (by decide) rfl rfl rfl rfl [.ref (zTa E 12)] ⟨rfl, hG, hS_s3, hb1, (by decide)⟩ rfl rfl ⟨by decide, by decide⟩ ⟨by decide, by decide⟩ (k2 := 0) (n2 := 0) rfl rfl (Nat.le_of_ble_eq_true rfl) dX7_readFact_57 (kIM (fun v10 s4 hS_s4 hF_s4 q11 => ?_))
        refine j_if_eq hx 75 dX7_readFact_60 rfl (by omega) (fun h12 => ?_) (fun h12 => ?_)
        · skip
          refine j_aload_n hx 1 dX7_readFact_75 rfl ?_
          refine j_ldcT hx (i := 13) 13 (by decide) rfl rfl rfl dX7_readFact_76 ?_
          refine j_callV hx hG (c_X9_takeWord hst b1 13) lk_RX7_50 hb1 (by decide) rfl rfl rfl rfl [.ref (zTa E 13)] ⟨rfl, hG, hS_s4, hb1, (by decide)⟩ rfl rfl ⟨by decide, by decide⟩ ⟨by decide, by decide⟩ (k2 := 0) (n2 := 0) rfl rfl (Nat.le_of_ble_eq_true rfl) dX7_readFact_78 (kIM (fun v13 s5 hS_s5 hF_s5 q14 => ?_))
          refine j_if_eq hx 96 dX7_readFact_81 rfl (by omega) (fun h15 => ?_) (fun h15 => ?_)
          · skip
            refine j_aload_n hx 1 dX7_readFact_96 rfl ?_
            refine j_ldcT hx (i := 14) 14 (by decide) rfl rfl rfl dX7_readFact_97 ?_
            refine j_callV hx hG (c_X9_takeWord hst b1 14) lk_RX7_50 hb1 (by decide) rfl rfl rfl rfl [.ref (zTa E 14)] ⟨rfl, hG, hS_s5, hb1, (by decide)⟩ rfl rfl ⟨by decide, by decide⟩ ⟨by decide, by decide⟩ (k2 := 0) (n2 := 0) rfl rfl (Nat.le_of_ble_eq_true rfl) dX7_readFact_99 (kIM (fun v16 s6 hS_s6 hF_s6 q17 => ?_))
            refine j_if_eq hx 116 dX7_readFact_102 rfl (by omega) (fun h18 => ?_) (fun h18 => ?_)
            · skip
              refine j_aload_n hx 1 dX7_readFact_116 rfl ?_
              refine j_ldcT hx (i := 2) 15 (by decide) rfl rfl rfl dX7_readFact_117 ?_
              refine j_callV hx hG (c_X9_takeWord hst b1 2) lk_RX7_50 hb1 (by decide) rfl rfl rfl rfl [.ref (zTa E 2)] ⟨rfl, hG, hS_s6, hb1, (by decide)⟩ rfl rfl ⟨by decide, by decide⟩ ⟨by decide, by decide⟩ (k2 := 0) (n2 := 0) rfl rfl (Nat.le_of_ble_eq_true rfl) dX7_readFact_119 (kIM (fun v19 s7 hS_s7 hF_s7 q20 => ?_))
              refine j_if_eq hx 137 dX7_readFact_122 rfl (by omega) (fun h21 => ?_) (fun h21 => ?_)
              · skip
                refine j_aload_n hx 1 dX7_readFact_137 rfl ?_
                refine j_ldcT hx (i := 7) 16 (by decide) rfl rfl rfl dX7_readFact_138 ?_
                refine j_callV hx hG (c_X9_takeWord hst b1 7) lk_RX7_50 hb1 (by decide) rfl rfl rfl rfl [.ref (zTa E 7)] ⟨rfl, hG, hS_s7, hb1, (by decide)⟩ rfl rfl ⟨by decide, by decide⟩ ⟨by decide, by decide⟩ (k2 := 0) (n2 := 0) rfl rfl (Nat.le_of_ble_eq_true rfl) dX7_readFact_140 (kIM (fun v22 s8 hS_s8 hF_s8 q23 => ?_))
                refine j_if_eq hx 157 dX7_readFact_143 rfl (by omega) (fun h24 => ?_) (fun h24 => ?_)
                · skip
                  refine j_aload_n hx 1 dX7_readFact_157 rfl ?_
                  refine j_ldcT hx (i := 15) 17 (by decide) rfl rfl rfl dX7_readFact_158 ?_
                  refine j_callV hx hG (c_X9_takeWord hst b1 15) lk_RX7_50 hb1 (by decide) rfl rfl rfl rfl [.ref (zTa E 15)] ⟨rfl, hG, hS_s8, hb1, (by decide)⟩ rfl rfl ⟨by decide, by decide⟩ ⟨by decide, by decide⟩ (k2 := 0) (n2 := 0) rfl rfl (Nat.le_of_ble_eq_true rfl) dX7_readFact_160 (kIM (fun v25 s9 hS_s9 hF_s9 q26 => ?_))
                  refine j_if_eq hx 196 dX7_readFact_163 rfl (by omega) (fun h27 => ?_) (fun h27 => ?_)
                  · skip
                    refine j_aload_n hx 1 dX7_readFact_196 rfl ?_
                    refine j_iconst hx dX7_readFact_197 ?_
                    refine j_callV hx hG (c_X9_fail hst b1 1) lk_RX7_41 hb1 (by decide) rfl rfl rfl rfl [.int (zI 1)] ⟨rfl, hG, hS_s9, hb1, (by omega)⟩ rfl rfl ⟨by decide, by decide⟩ ⟨by decide, by decide⟩ (k2 := 0) (n2 := 0) rfl rfl (Nat.le_of_ble_eq_true rfl) dX7_readFact_198 (kVM (fun s10 hS_s10 hF_s10 q29 => ?_))
                    exact j_vret hx hq rfl (by decide) (by decide) dX7_readFact_201 ⟨rfl, rfl, hS_s10, (zFr_t (zFr_t (zFr_t (zFr_t (zFr_t (zFr_t (zFr_t (zFr_t (zFr_t (zFr_t zFr_rf hF_s1 (by decide)) hF_s2 (by decide)) hF_s3 (by decide)) hF_s4 (by decide)) hF_s5 (by decide)) hF_s6 (by decide)) hF_s7 (by decide)) hF_s8 (by decide)) hF_s9 (by decide)) hF_s10 (by decide)), trivial⟩
                  · skip
                    refine j_aload_n hx 1 dX7_readFact_166 rfl ?_
                    refine j_iconst hx dX7_readFact_167 ?_
                    refine j_bipush hx dX7_readFact_168 rfl ?_
                    refine j_callV hx hG (c_X9_takeNumber hst b1 1 60) lk_RX7_109 hb1 (by decide) rfl rfl rfl rfl [.int (zI 1), .int (zI 60)] ⟨rfl, hG, hS_s9, hb1, (by omega), (by omega)⟩ rfl rfl ⟨by decide, by decide⟩ ⟨by decide, by decide⟩ (k2 := 0) (n2 := 0) rfl rfl (Nat.le_of_ble_eq_true rfl) dX7_readFact_170 (kIM (fun v30 s11 hS_s11 hF_s11 q31 => ?_))
                    refine j_istore_n hx [(2, .int (zI v30)), (0, .ref a), (1, .ref b1)] dX7_readFact_173 (by decide) rfl ?_
                    refine j_aload_n hx 1 dX7_readFact_174 rfl ?_
                    refine j_bipush hx dX7_readFact_175 rfl ?_
                    refine j_iload_n hx 0 dX7_readFact_177 rfl ?_
                    refine j_bipush hx dX7_readFact_178 rfl ?_
                    refine j_imul hx (r := 64 * v30) dX7_readFact_180 (by omega) ?_
                    refine j_norm (fun v32 f33 f34 f35 => ?_)
                    refine j_aload_n hx 2 dX7_readFact_181 rfl ?_
                    refine j_iconst hx dX7_readFact_182 ?_
                    refine j_iload_n hx 0 dX7_readFact_183 rfl ?_
                    refine j_iconst hx dX7_readFact_184 ?_
                    refine j_isub hx (r := v30 - 1) dX7_readFact_185 rfl ?_
                    refine j_norm (fun v36 f37 f38 f39 => ?_)
                    refine j_callV hx hG (c_X9_takeNumber hst b1 0 v36) lk_RX7_109 hb1 (by decide) rfl rfl rfl rfl [.int (zI 0), .int (zI v36)] ⟨rfl, hG, hS_s11, hb1, (by omega), (by omega)⟩ rfl rfl ⟨by decide, by decide⟩ ⟨by decide, by decide⟩ (k2 := 0) (n2 := 0) rfl rfl (Nat.le_of_ble_eq_true rfl) dX7_readFact_186 (kIM (fun v40 s12 hS_s12 hF_s12 q41 => ?_))
                    refine j_iadd hx (r := v32 + v40) dX7_readFact_189 rfl ?_
                    refine j_norm (fun v42 f43 f44 f45 => ?_)
                    refine j_callV hx hG (c_X7_emit hst a 10 v42) lk_RX7_54 ha (by decide) rfl rfl rfl rfl [.int (zI 10), .int (zI v42)] ⟨rfl, hG, hS_s12, ha, (by omega), (by omega)⟩ rfl rfl ⟨by decide, by decide⟩ ⟨by decide, by decide⟩ (k2 := 0) (n2 := 0) rfl rfl (Nat.le_of_ble_eq_true rfl) dX7_readFact_190 (kVM (fun s13 hS_s13 hF_s13 q47 => ?_))
                    refine j_goto hx 201 dX7_readFact_193 rfl ?_
                    exact j_vret hx hq rfl (by decide) (by decide) dX7_readFact_201 ⟨rfl, rfl, hS_s13, (zFr_t (zFr_t (zFr_t (zFr_t (zFr_t (zFr_t (zFr_t (zFr_t (zFr_t (zFr_t (zFr_t (zFr_t zFr_rf hF_s1 (by decide)) hF_s2 (by decide)) hF_s3 (by decide)) hF_s4 (by decide)) hF_s5 (by decide)) hF_s6 (by decide)) hF_s7 (by decide)) hF_s8 (by decide)) hF_s9 (by decide)) hF_s11 (by decide)) hF_s12 (by decide)) hF_s13 (by decide)), trivial⟩
                · skip
                  refine j_aload_n hx 0 dX7_readFact_146 rfl ?_
                  refine j_aload_n hx 1 dX7_readFact_147 rfl ?_
                  refine j_iconst hx dX7_readFact_148 ?_
                  refine j_bipush hx dX7_readFact_149 rfl ?_
                  refine j_callV hx hG (c_X7_readSize hst a b1 (-1) 9) lk_RX7_99 ha (by decide) rfl rfl rfl rfl [.ref b1, .int (zI (-1)), .int (zI 9)] ⟨rfl, hG, hS_s8, ha, hb1, (by omega), (by omega)⟩ rfl rfl ⟨by decide, by decide⟩ ⟨by decide, by decide⟩ (k2 := 0) (n2 := 0) rfl rfl (Nat.le_of_ble_eq_true rfl) dX7_readFact_151 (kVM (fun s14 hS_s14 hF_s14 q49 => ?_))
                  refine j_goto hx 201 dX7_readFact_154 rfl ?_
                  exact j_vret hx hq rfl (by decide) (by decide) dX7_readFact_201 ⟨rfl, rfl, hS_s14, (zFr_t (zFr_t (zFr_t (zFr_t (zFr_t (zFr_t (zFr_t (zFr_t (zFr_t zFr_rf hF_s1 (by decide)) hF_s2 (by decide)) hF_s3 (by decide)) hF_s4 (by decide)) hF_s5 (by decide)) hF_s6 (by decide)) hF_s7 (by decide)) hF_s8 (by decide)) hF_s14 (by decide)), trivial⟩
              · skip
                refine j_aload_n hx 0 dX7_readFact_125 rfl ?_
                refine j_aload_n hx 1 dX7_readFact_126 rfl ?_
                refine j_bipush hx dX7_readFact_127 rfl ?_
                refine j_bipush hx dX7_readFact_129 rfl ?_
                refine j_callV hx hG (c_X7_readSize hst a b1 7 8) lk_RX7_99 ha (by decide) rfl rfl rfl rfl [.ref b1, .int (zI 7), .int (zI 8)] ⟨rfl, hG, hS_s7, ha, hb1, (by omega), (by omega)⟩ rfl rfl ⟨by decide, by decide⟩ ⟨by decide, by decide⟩ (k2 := 0) (n2 := 0) rfl rfl (Nat.le_of_ble_eq_true rfl) dX7_readFact_131 (kVM (fun s15 hS_s15 hF_s15 q51 => ?_))
                refine j_goto hx 201 dX7_readFact_134 rfl ?_
                exact j_vret hx hq rfl (by decide) (by decide) dX7_readFact_201 ⟨rfl, rfl, hS_s15, (zFr_t (zFr_t (zFr_t (zFr_t (zFr_t (zFr_t (zFr_t (zFr_t zFr_rf hF_s1 (by decide)) hF_s2 (by decide)) hF_s3 (by decide)) hF_s4 (by decide)) hF_s5 (by decide)) hF_s6 (by decide)) hF_s7 (by decide)) hF_s15 (by decide)), trivial⟩
            · skip
              refine j_aload_n hx 0 dX7_readFact_105 rfl ?_
              refine j_aload_n hx 1 dX7_readFact_106 rfl ?_
              refine j_iconst hx dX7_readFact_107 ?_
              refine j_bipush hx dX7_readFact_108 rfl ?_
              refine j_callV hx hG (c_X7_readSize hst a b1 5 6) lk_RX7_99 ha (by decide) rfl rfl rfl rfl [.ref b1, .int (zI 5), .int (zI 6)] ⟨rfl, hG, hS_s6, ha, hb1, (by omega), (by omega)⟩ rfl rfl ⟨by decide, by decide⟩ ⟨by decide, by decide⟩ (k2 := 0) (n2 := 0) rfl rfl (Nat.le_of_ble_eq_true rfl) dX7_readFact_110 (kVM (fun s16 hS_s16 hF_s16 q53 => ?_))
              refine j_goto hx 201 dX7_readFact_113 rfl ?_
              exact j_vret hx hq rfl (by decide) (by decide) dX7_readFact_201 ⟨rfl, rfl, hS_s16, (zFr_t (zFr_t (zFr_t (zFr_t (zFr_t (zFr_t (zFr_t zFr_rf hF_s1 (by decide)) hF_s2 (by decide)) hF_s3 (by decide)) hF_s4 (by decide)) hF_s5 (by decide)) hF_s6 (by decide)) hF_s16 (by decide)), trivial⟩
          · skip
            refine j_aload_n hx 0 dX7_readFact_84 rfl ?_
            refine j_iconst hx dX7_readFact_85 ?_
            refine j_aload_n hx 1 dX7_readFact_86 rfl ?_
            refine j_callV hx hG (c_X9_takeKind hst b1) lk_RX7_92 hb1 (by decide) rfl rfl rfl rfl [] ⟨rfl, hG, hS_s5, hb1⟩ rfl rfl ⟨by decide, by decide⟩ ⟨by decide, by decide⟩ (k2 := 0) (n2 := 0) rfl rfl (Nat.le_of_ble_eq_true rfl) dX7_readFact_87 (kIM (fun v54 s17 hS_s17 hF_s17 q55 => ?_))
            refine j_callV hx hG (c_X7_emit hst a 3 v54) lk_RX7_54 ha (by decide) rfl rfl rfl rfl [.int (zI 3), .int (zI v54)] ⟨rfl, hG, hS_s17, ha, (by omega), (by omega)⟩ rfl rfl ⟨by decide, by decide⟩ ⟨by decide, by decide⟩ (k2 := 0) (n2 := 0) rfl rfl (Nat.le_of_ble_eq_true rfl) dX7_readFact_90 (kVM (fun s18 hS_s18 hF_s18 q57 => ?_))
            refine j_goto hx 201 dX7_readFact_93 rfl ?_
            exact j_vret hx hq rfl (by decide) (by decide) dX7_readFact_201 ⟨rfl, rfl, hS_s18, (zFr_t (zFr_t (zFr_t (zFr_t (zFr_t (zFr_t (zFr_t zFr_rf hF_s1 (by decide)) hF_s2 (by decide)) hF_s3 (by decide)) hF_s4 (by decide)) hF_s5 (by decide)) hF_s17 (by decide)) hF_s18 (by decide)), trivial⟩
        · skip
          refine j_aload_n hx 0 dX7_readFact_63 rfl ?_
          refine j_iconst hx dX7_readFact_64 ?_
          refine j_aload_n hx 1 dX7_readFact_65 rfl ?_
          refine j_callV hx hG (c_X9_takeKind hst b1) lk_RX7_92 hb1 (by decide) rfl rfl rfl rfl [] ⟨rfl, hG, hS_s4, hb1⟩ rfl rfl ⟨by decide, by decide⟩ ⟨by decide, by decide⟩ (k2 := 0) (n2 := 0) rfl rfl (Nat.le_of_ble_eq_true rfl) dX7_readFact_66 (kIM (fun v58 s19 hS_s19 hF_s19 q59 => ?_))
          refine j_callV hx hG (c_X7_emit hst a 2 v58) lk_RX7_54 ha (by decide) rfl rfl rfl rfl [.int (zI 2), .int (zI v58)] ⟨rfl, hG, hS_s19, ha, (by omega), (by omega)⟩ rfl rfl ⟨by decide, by decide⟩ ⟨by decide, by decide⟩ (k2 := 0) (n2 := 0) rfl rfl (Nat.le_of_ble_eq_true rfl) dX7_readFact_69 (kVM (fun s20 hS_s20 hF_s20 q61 => ?_))
          refine j_goto hx 201 dX7_readFact_72 rfl ?_
          exact j_vret hx hq rfl (by decide) (by decide) dX7_readFact_201 ⟨rfl, rfl, hS_s20, (zFr_t (zFr_t (zFr_t (zFr_t (zFr_t (zFr_t zFr_rf hF_s1 (by decide)) hF_s2 (by decide)) hF_s3 (by decide)) hF_s4 (by decide)) hF_s19 (by decide)) hF_s20 (by decide)), trivial⟩
      · skip
        refine j_aload_n hx 0 dX7_readFact_45 rfl ?_
        refine j_iconst hx dX7_readFact_46 ?_
        refine j_iconst hx dX7_readFact_47 ?_
        refine j_callV hx hG (c_X7_emit hst a 4 0) lk_RX7_54 ha (by decide) rfl rfl rfl rfl [.int (zI 4), .int (zI 0)] ⟨rfl, hG, hS_s3, ha, (by omega), (by omega)⟩ rfl rfl ⟨by decide, by decide⟩ ⟨by decide, by decide⟩ (k2 := 0) (n2 := 0) rfl rfl (Nat.le_of_ble_eq_true rfl) dX7_readFact_48 (kVM (fun s21 hS_s21 hF_s21 q63 => ?_))
        refine j_goto hx 201 dX7_readFact_51 rfl ?_
        exact j_vret hx hq rfl (by decide) (by decide) dX7_readFact_201 ⟨rfl, rfl, hS_s21, (zFr_t (zFr_t (zFr_t (zFr_t zFr_rf hF_s1 (by decide)) hF_s2 (by decide)) hF_s3 (by decide)) hF_s21 (by decide)), trivial⟩
    · skip
      refine j_aload_n hx 0 dX7_readFact_27 rfl ?_
      refine j_iconst hx dX7_readFact_28 ?_
      refine j_iconst hx dX7_readFact_29 ?_
      refine j_callV hx hG (c_X7_emit hst a 1 0) lk_RX7_54 ha (by decide) rfl rfl rfl rfl [.int (zI 1), .int (zI 0)] ⟨rfl, hG, hS_s2, ha, (by omega), (by omega)⟩ rfl rfl ⟨by decide, by decide⟩ ⟨by decide, by decide⟩ (k2 := 0) (n2 := 0) rfl rfl (Nat.le_of_ble_eq_true rfl) dX7_readFact_30 (kVM (fun s22 hS_s22 hF_s22 q65 => ?_))
      refine j_goto hx 201 dX7_readFact_33 rfl ?_
      exact j_vret hx hq rfl (by decide) (by decide) dX7_readFact_201 ⟨rfl, rfl, hS_s22, (zFr_t (zFr_t (zFr_t zFr_rf hF_s1 (by decide)) hF_s2 (by decide)) hF_s22 (by decide)), trivial⟩
  · skip
    refine j_aload_n hx 0 dX7_readFact_9 rfl ?_
    refine j_iconst hx dX7_readFact_10 ?_
    refine j_iconst hx dX7_readFact_11 ?_
    refine j_callV hx hG (c_X7_emit hst a 0 0) lk_RX7_54 ha (by decide) rfl rfl rfl rfl [.int (zI 0), .int (zI 0)] ⟨rfl, hG, hS_s1, ha, (by omega), (by omega)⟩ rfl rfl ⟨by decide, by decide⟩ ⟨by decide, by decide⟩ (k2 := 0) (n2 := 0) rfl rfl (Nat.le_of_ble_eq_true rfl) dX7_readFact_12 (kVM (fun s23 hS_s23 hF_s23 q67 => ?_))
    refine j_goto hx 201 dX7_readFact_15 rfl ?_
    exact j_vret hx hq rfl (by decide) (by decide) dX7_readFact_201 ⟨rfl, rfl, hS_s23, (zFr_t (zFr_t zFr_rf hF_s1 (by decide)) hF_s23 (by decide)), trivial⟩

theorem lk_RX7_35 : LkV RX7 35 RX9 yX9_peek cX9_peek 2 (some .int) 0 := ⟨km_RX7_35, ki_yX9_peek, ks_RX9_yX9_peek, kn_RX9, kc_yX9_peek, rfl, by decide +kernel, by decide +kernel, by decide +kernel⟩
theorem lk_RX7_80 : LkV RX7 80 RX7 yX7_readFact cX7_readFact 3 none 1 := ⟨km_RX7_80, ki_yX7_readFact, ks_RX7_yX7_readFact, kn_RX7, kc_yX7_readFact, rfl, by decide +kernel, by decide +kernel, by decide +kernel⟩
theorem lk_RX7_70 : LkV RX7 70 RX9 yX9_failIf cX9_failIf 4 none 3 := ⟨km_RX7_70, ki_yX9_failIf, ks_RX9_yX9_failIf, kn_RX9, kc_yX9_failIf, rfl, by decide +kernel, by decide +kernel, by decide +kernel⟩
set_option maxHeartbeats 4000000 in
set_option maxRecDepth 20000 in
theorem c_X7_readOne_6 {E : zE} {l : Launch} (hst : l.stackTraces = false) (a : Nat) (b1 : Nat) (x2 : Int) : Con E l yX7_readOne cX7_readOne 4 none { frames := 7, cells := 0, slots := 0, locals := 225 } (fun G s vs => vs = [.ref a, .ref b1, .int (zI x2)] ∧ zGK G ∧ zSK G s ∧ (gT G a = 8) ∧ (gT G b1 = 10) ∧ (6 ≤ x2 ∧ x2 ≤ 6)) (fun G s _ => pV (fun G2 s2 => G2 = G ∧ zSK G s2 ∧ zFr [8, 10, 46] G s s2 ∧ True)) := by
  refine Con.mk hst (by decide) (fun G s vs h => by rw [h.1]; exact Nat.le_of_ble_eq_true rfl) ?_
  rintro X G s0 vs ⟨rfl, hG, hS0, ha, hb1, hx2⟩ rfl hx hq
  obtain rfl : x2 = 6 := by omega
  show JJ X E 4 G s0 0 0 [(0, .ref a), (1, .ref b1), (2, .int (zI 6))] 0 []
  refine j_aload_n hx 1 dX7_readOne_0 rfl ?_
  refine j_callV hx hG (c_X9_peek hst b1) lk_RX7_35 hb1 (by decide) rfl rfl rfl rfl [] ⟨rfl, hG, hS0, hb1⟩ rfl rfl ⟨by decide, by decide⟩ ⟨by decide, by decide⟩ (k2 := 0) (n2 := 0) rfl rfl (Nat.le_of_ble_eq_true rfl) dX7_readOne_1 (kIM (fun v1 s1 hS_s1 hF_s1 q2 => ?_))
  refine j_pop hx dX7_readOne_4 rfl ?_
  refine j_aload_n hx 1 dX7_readOne_5 rfl ?_
  have f3 := zf hS_s1 hb1 (k := 3) rfl
  refine gN10_3 hx hG hb1 kf_RX7_63 rfl dX7_readOne_6 ?_
  refine j_istore_n hx [(3, .int (zI ((s1 b1 3)))), (0, .ref a), (1, .ref b1), (2, .int (zI 6))] dX7_readOne_9 (by decide) rfl ?_
  refine j_aload_n hx 2 dX7_readOne_10 rfl ?_
  refine j_bipush hx dX7_readOne_11 rfl ?_
  refine j_callV hx hG (c_X9_takeSign hst b1 91) lk_RX7_66 hb1 (by decide) rfl rfl rfl rfl [.int (zI 91)] ⟨rfl, hG, hS_s1, hb1, (by omega)⟩ rfl rfl ⟨by decide, by decide⟩ ⟨by decide, by decide⟩ (k2 := 0) (n2 := 0) rfl rfl (Nat.le_of_ble_eq_true rfl) dX7_readOne_13 (kIM (fun v4 s2 hS_s2 hF_s2 q5 => ?_))
  refine j_if_eq hx 59 dX7_readOne_16 rfl (by omega) (fun h6 => ?_) (fun h6 => ?_)
  · skip
    refine j_aload_n hx 2 dX7_readOne_59 rfl ?_
    refine j_ldcT hx (i := 8) 8 (by decide) rfl rfl rfl dX7_readOne_60 ?_
    refine j_callV hx hG (c_X9_takeWord hst b1 8) lk_RX7_50 hb1 (by decide) rfl rfl rfl rfl [.ref (zTa E 8)] ⟨rfl, hG, hS_s2, hb1, (by decide)⟩ rfl rfl ⟨by decide, by decide⟩ ⟨by decide, by decide⟩ (k2 := 0) (n2 := 0) rfl rfl (Nat.le_of_ble_eq_true rfl) dX7_readOne_62 (kIM (fun v7 s3 hS_s3 hF_s3 q8 => ?_))
    refine j_if_eq hx 109 dX7_readOne_65 rfl (by omega) (fun h9 => ?_) (fun h9 => ?_)
    · skip
      refine j_aload_n hx 1 dX7_readOne_109 rfl ?_
      refine j_aload_n hx 2 dX7_readOne_110 rfl ?_
      refine j_callV hx hG (c_X7_readFact hst a b1) lk_RX7_80 ha (by decide) rfl rfl rfl rfl [.ref b1] ⟨rfl, hG, hS_s3, ha, hb1⟩ rfl rfl ⟨by decide, by decide⟩ ⟨by decide, by decide⟩ (k2 := 0) (n2 := 0) rfl rfl (Nat.le_of_ble_eq_true rfl) dX7_readOne_111 (kVM (fun s4 hS_s4 hF_s4 q11 => ?_))
      exact j_vret hx hq rfl (by decide) (by decide) dX7_readOne_114 ⟨rfl, rfl, hS_s4, (zFr_t (zFr_t (zFr_t (zFr_t zFr_rf hF_s1 (by decide)) hF_s2 (by decide)) hF_s3 (by decide)) hF_s4 (by decide)), trivial⟩
    · skip
      refine j_aload_n hx 2 dX7_readOne_68 rfl ?_
      refine j_iload_n hx 3 dX7_readOne_69 rfl ?_
      refine j_bipush hx dX7_readOne_70 rfl ?_
      refine j_icmp_lt hx 79 dX7_readOne_72 rfl ⟨by decide, by decide⟩ ⟨by decide, by decide⟩ (fun h12 => absurd h12 (by omega)) (fun h12 => ?_)
      refine j_iconst hx dX7_readOne_75 ?_
      refine j_goto hx 80 dX7_readOne_76 rfl ?_
      refine j_iconst hx dX7_readOne_80 ?_
      refine j_iload_n hx 0 dX7_readOne_81 rfl ?_
      refine j_callV hx hG (c_X9_failIf hst b1 1 3 ((s1 b1 3))) lk_RX7_70 hb1 (by decide) rfl rfl rfl rfl [.int (zI 1), .int (zI 3), .int (zI ((s1 b1 3)))] ⟨rfl, hG, hS_s3, hb1, (by omega), (by omega), (by omega)⟩ rfl rfl ⟨by decide, by decide⟩ ⟨by decide, by decide⟩ (k2 := 0) (n2 := 0) rfl rfl (Nat.le_of_ble_eq_true rfl) dX7_readOne_82 (kVM (fun s5 hS_s5 hF_s5 q14 => ?_))
      refine j_iload_n hx 3 dX7_readOne_85 rfl ?_
      refine j_bipush hx dX7_readOne_86 rfl ?_
      refine j_icmp_ge hx 114 dX7_readOne_88 rfl ⟨by decide, by decide⟩ ⟨by decide, by decide⟩ (fun h15 => ?_) (fun h15 => absurd h15 (by omega))
      exact j_vret hx hq rfl (by decide) (by decide) dX7_readOne_114 ⟨rfl, rfl, hS_s5, (zFr_t (zFr_t (zFr_t (zFr_t zFr_rf hF_s1 (by decide)) hF_s2 (by decide)) hF_s3 (by decide)) hF_s5 (by decide)), trivial⟩
  · skip
    refine j_aload_n hx 2 dX7_readOne_19 rfl ?_
    refine j_iload_n hx 3 dX7_readOne_20 rfl ?_
    refine j_bipush hx dX7_readOne_21 rfl ?_
    refine j_icmp_lt hx 30 dX7_readOne_23 rfl ⟨by decide, by decide⟩ ⟨by decide, by decide⟩ (fun h16 => absurd h16 (by omega)) (fun h16 => ?_)
    refine j_iconst hx dX7_readOne_26 ?_
    refine j_goto hx 31 dX7_readOne_27 rfl ?_
    refine j_iconst hx dX7_readOne_31 ?_
    refine j_iload_n hx 0 dX7_readOne_32 rfl ?_
    refine j_callV hx hG (c_X9_failIf hst b1 1 3 ((s1 b1 3))) lk_RX7_70 hb1 (by decide) rfl rfl rfl rfl [.int (zI 1), .int (zI 3), .int (zI ((s1 b1 3)))] ⟨rfl, hG, hS_s2, hb1, (by omega), (by omega), (by omega)⟩ rfl rfl ⟨by decide, by decide⟩ ⟨by decide, by decide⟩ (k2 := 0) (n2 := 0) rfl rfl (Nat.le_of_ble_eq_true rfl) dX7_readOne_33 (kVM (fun s6 hS_s6 hF_s6 q18 => ?_))
    refine j_iload_n hx 3 dX7_readOne_36 rfl ?_
    refine j_bipush hx dX7_readOne_37 rfl ?_
    refine j_icmp_ge hx 114 dX7_readOne_39 rfl ⟨by decide, by decide⟩ ⟨by decide, by decide⟩ (fun h19 => ?_) (fun h19 => absurd h19 (by omega))
    exact j_vret hx hq rfl (by decide) (by decide) dX7_readOne_114 ⟨rfl, rfl, hS_s6, (zFr_t (zFr_t (zFr_t zFr_rf hF_s1 (by decide)) hF_s2 (by decide)) hF_s6 (by decide)), trivial⟩

theorem lk_RX7_58 : LkV RX7 58 RX7 yX7_readOne cX7_readOne 4 none 2 := ⟨km_RX7_58, ki_yX7_readOne, ks_RX7_yX7_readOne, kn_RX7, kc_yX7_readOne, rfl, by decide +kernel, by decide +kernel, by decide +kernel⟩
set_option maxHeartbeats 4000000 in
set_option maxRecDepth 20000 in
theorem c_X7_readAnd_6 {E : zE} {l : Launch} (hst : l.stackTraces = false) (a : Nat) (b1 : Nat) (x2 : Int) : Con E l yX7_readAnd cX7_readAnd 4 none { frames := 8, cells := 0, slots := 0, locals := 248 } (fun G s vs => vs = [.ref a, .ref b1, .int (zI x2)] ∧ zGK G ∧ zSK G s ∧ (gT G a = 8) ∧ (gT G b1 = 10) ∧ (6 ≤ x2 ∧ x2 ≤ 6)) (fun G s _ => pV (fun G2 s2 => G2 = G ∧ zSK G s2 ∧ zFr [8, 10, 46] G s s2 ∧ True)) := by
  refine Con.mk hst (by decide) (fun G s vs h => by rw [h.1]; exact Nat.le_of_ble_eq_true rfl) ?_
  rintro X G s0 vs ⟨rfl, hG, hS0, ha, hb1, hx2⟩ rfl hx hq
  obtain rfl : x2 = 6 := by omega
  show JJ X E 4 G s0 0 0 [(0, .ref a), (1, .ref b1), (2, .int (zI 6))] 0 []
  refine j_aload_n hx 0 dX7_readAnd_0 rfl ?_
  refine j_aload_n hx 1 dX7_readAnd_1 rfl ?_
  refine j_iload_n hx 2 dX7_readAnd_2 rfl ?_
  refine j_callV hx hG (c_X7_readOne_6 hst a b1 6) lk_RX7_58 ha (by decide) rfl rfl rfl rfl [.ref b1, .int (zI 6)] ⟨rfl, hG, hS0, ha, hb1, (by omega)⟩ rfl rfl ⟨by decide, by decide⟩ ⟨by decide, by decide⟩ (k2 := 0) (n2 := 0) rfl rfl (Nat.le_of_ble_eq_true rfl) dX7_readAnd_3 (kVM (fun s1 hS_s1 hF_s1 q2 => ?_))
  refine j_iconst hx dX7_readAnd_6 ?_
  refine j_istore_n hx [(3, .int (zI 0)), (0, .ref a), (1, .ref b1), (2, .int (zI 6))] dX7_readAnd_7 (by decide) rfl ?_
  have c8_2 : ∀ (m_c8_2 : Nat) (v3 : Int) (s3 : zS), 2147483648 - v3 < m_c8_2 → (0 ≤ v3 ∧ v3 ≤ 150) → (zSK G s3) → (zFr [8, 10, 46] G s1 s3) → JJ X E 4 G s3 0 0 [(0, .ref a), (1, .ref b1), (2, .int (zI 6)), (3, .int (zI v3))] 8 [] := by
    intro m_c8_2
    induction m_c8_2 with
    | zero => intro v3 s3 hm_c8_2 fA4 hS_s3 hF_s3; exfalso; omega
    | succ m_c8_2 ih_c8_2 => 
      intro v3 s3 hm_c8_2 fA4 hS_s3 hF_s3
      refine j_iload_n hx 3 dX7_readAnd_8 rfl ?_
      refine j_sipush hx dX7_readAnd_9 rfl ?_
      refine j_icmp_ge hx 43 dX7_readAnd_12 rfl (by omega) ⟨by decide, by decide⟩ (fun h4 => ?_) (fun h4 => ?_)
      · skip
        exact j_vret hx hq rfl (by decide) (by decide) dX7_readAnd_43 ⟨rfl, rfl, hS_s3, (zFr_t (zFr_t zFr_rf hF_s1 (by decide)) hF_s3 (by decide)), trivial⟩
      · skip
        refine j_aload_n hx 1 dX7_readAnd_15 rfl ?_
        refine j_ldcT hx (i := 16) 18 (by decide) rfl rfl rfl dX7_readAnd_16 ?_
        refine j_callV hx hG (c_X9_takeWord hst b1 16) lk_RX7_50 hb1 (by decide) rfl rfl rfl rfl [.ref (zTa E 16)] ⟨rfl, hG, hS_s3, hb1, (by decide)⟩ rfl rfl ⟨by decide, by decide⟩ ⟨by decide, by decide⟩ (k2 := 0) (n2 := 0) rfl rfl (Nat.le_of_ble_eq_true rfl) dX7_readAnd_18 (kIM (fun v5 s7 hS_s7 hF_s7 q6 => ?_))
        refine j_if_eq hx 43 dX7_readAnd_21 rfl (by omega) (fun h7 => ?_) (fun h7 => ?_)
        · skip
          exact j_vret hx hq rfl (by decide) (by decide) dX7_readAnd_43 ⟨rfl, rfl, hS_s7, (zFr_t (zFr_t (zFr_t zFr_rf hF_s1 (by decide)) hF_s3 (by decide)) hF_s7 (by decide)), trivial⟩
        · skip
          refine j_aload_n hx 0 dX7_readAnd_24 rfl ?_
          refine j_aload_n hx 1 dX7_readAnd_25 rfl ?_
          refine j_iload_n hx 2 dX7_readAnd_26 rfl ?_
          refine j_callV hx hG (c_X7_readOne_6 hst a b1 6) lk_RX7_58 ha (by decide) rfl rfl rfl rfl [.ref b1, .int (zI 6)] ⟨rfl, hG, hS_s7, ha, hb1, (by omega)⟩ rfl rfl ⟨by decide, by decide⟩ ⟨by decide, by decide⟩ (k2 := 0) (n2 := 0) rfl rfl (Nat.le_of_ble_eq_true rfl) dX7_readAnd_27 (kVM (fun s8 hS_s8 hF_s8 q9 => ?_))
          refine j_aload_n hx 0 dX7_readAnd_30 rfl ?_
          refine j_bipush hx dX7_readAnd_31 rfl ?_
          refine j_iconst hx dX7_readAnd_33 ?_
          refine j_callV hx hG (c_X7_emit hst a 12 0) lk_RX7_54 ha (by decide) rfl rfl rfl rfl [.int (zI 12), .int (zI 0)] ⟨rfl, hG, hS_s8, ha, (by omega), (by omega)⟩ rfl rfl ⟨by decide, by decide⟩ ⟨by decide, by decide⟩ (k2 := 0) (n2 := 0) rfl rfl (Nat.le_of_ble_eq_true rfl) dX7_readAnd_34 (kVM (fun s9 hS_s9 hF_s9 q11 => ?_))
          refine j_iinc hx 3 [(3, .int (zI (v3 + 1))), (0, .ref a), (1, .ref b1), (2, .int (zI 6))] dX7_readAnd_37 rfl (by omega) (by decide) rfl ?_
          refine j_goto hx 8 dX7_readAnd_40 rfl ?_
          exact j_sub [1, 2, 3, 0] [(0, .ref a), (1, .ref b1), (2, .int (zI 6)), (3, .int (zI (v3 + 1)))] rfl (ih_c8_2 (v3 + 1) s9 (by omega) (by omega) hS_s9 (zFr_t (zFr_t (zFr_t (zFr_t zFr_rf hF_s3 (by decide)) hF_s7 (by decide)) hF_s8 (by decide)) hF_s9 (by decide)))
  exact j_sub [1, 2, 3, 0] [(0, .ref a), (1, .ref b1), (2, .int (zI 6)), (3, .int (zI 0))] rfl (c8_2 (2147483648 * 4) 0 s1 (by omega) (by omega) hS_s1 zFr_rf)

theorem lk_RX7_45 : LkV RX7 45 RX7 yX7_readAnd cX7_readAnd 4 none 2 := ⟨km_RX7_45, ki_yX7_readAnd, ks_RX7_yX7_readAnd, kn_RX7, kc_yX7_readAnd, rfl, by decide +kernel, by decide +kernel, by decide +kernel⟩
set_option maxHeartbeats 4000000 in
set_option maxRecDepth 20000 in
theorem c_X7_readOr_6 {E : zE} {l : Launch} (hst : l.stackTraces = false) (a : Nat) (b1 : Nat) (x2 : Int) : Con E l yX7_readOr cX7_readOr 4 none { frames := 9, cells := 0, slots := 0, locals := 271 } (fun G s vs => vs = [.ref a, .ref b1, .int (zI x2)] ∧ zGK G ∧ zSK G s ∧ (gT G a = 8) ∧ (gT G b1 = 10) ∧ (6 ≤ x2 ∧ x2 ≤ 6)) (fun G s _ => pV (fun G2 s2 => G2 = G ∧ zSK G s2 ∧ zFr [8, 10, 46] G s s2 ∧ True)) := by
  refine Con.mk hst (by decide) (fun G s vs h => by rw [h.1]; exact Nat.le_of_ble_eq_true rfl) ?_
  rintro X G s0 vs ⟨rfl, hG, hS0, ha, hb1, hx2⟩ rfl hx hq
  obtain rfl : x2 = 6 := by omega
  show JJ X E 4 G s0 0 0 [(0, .ref a), (1, .ref b1), (2, .int (zI 6))] 0 []
  refine j_aload_n hx 0 dX7_readOr_0 rfl ?_
  refine j_aload_n hx 1 dX7_readOr_1 rfl ?_
  refine j_iload_n hx 2 dX7_readOr_2 rfl ?_
  refine j_callV hx hG (c_X7_readAnd_6 hst a b1 6) lk_RX7_45 ha (by decide) rfl rfl rfl rfl [.ref b1, .int (zI 6)] ⟨rfl, hG, hS0, ha, hb1, (by omega)⟩ rfl rfl ⟨by decide, by decide⟩ ⟨by decide, by decide⟩ (k2 := 0) (n2 := 0) rfl rfl (Nat.le_of_ble_eq_true rfl) dX7_readOr_3 (kVM (fun s1 hS_s1 hF_s1 q2 => ?_))
  refine j_iconst hx dX7_readOr_6 ?_
  refine j_istore_n hx [(3, .int (zI 0)), (0, .ref a), (1, .ref b1), (2, .int (zI 6))] dX7_readOr_7 (by decide) rfl ?_
  have c8_2 : ∀ (m_c8_2 : Nat) (v3 : Int) (s3 : zS), 2147483648 - v3 < m_c8_2 → (0 ≤ v3 ∧ v3 ≤ 150) → (zSK G s3) → (zFr [8, 10, 46] G s1 s3) → JJ X E 4 G s3 0 0 [(0, .ref a), (1, .ref b1), (2, .int (zI 6)), (3, .int (zI v3))] 8 [] := by
    intro m_c8_2
    induction m_c8_2 with
    | zero => intro v3 s3 hm_c8_2 fA4 hS_s3 hF_s3; exfalso; omega
    | succ m_c8_2 ih_c8_2 => 
      intro v3 s3 hm_c8_2 fA4 hS_s3 hF_s3
      refine j_iload_n hx 3 dX7_readOr_8 rfl ?_
      refine j_sipush hx dX7_readOr_9 rfl ?_
      refine j_icmp_ge hx 43 dX7_readOr_12 rfl (by omega) ⟨by decide, by decide⟩ (fun h4 => ?_) (fun h4 => ?_)
      · skip
        exact j_vret hx hq rfl (by decide) (by decide) dX7_readOr_43 ⟨rfl, rfl, hS_s3, (zFr_t (zFr_t zFr_rf hF_s1 (by decide)) hF_s3 (by decide)), trivial⟩
      · skip
        refine j_aload_n hx 1 dX7_readOr_15 rfl ?_
        refine j_ldcT hx (i := 17) 19 (by decide) rfl rfl rfl dX7_readOr_16 ?_
        refine j_callV hx hG (c_X9_takeWord hst b1 17) lk_RX7_50 hb1 (by decide) rfl rfl rfl rfl [.ref (zTa E 17)] ⟨rfl, hG, hS_s3, hb1, (by decide)⟩ rfl rfl ⟨by decide, by decide⟩ ⟨by decide, by decide⟩ (k2 := 0) (n2 := 0) rfl rfl (Nat.le_of_ble_eq_true rfl) dX7_readOr_18 (kIM (fun v5 s7 hS_s7 hF_s7 q6 => ?_))
        refine j_if_eq hx 43 dX7_readOr_21 rfl (by omega) (fun h7 => ?_) (fun h7 => ?_)
        · skip
          exact j_vret hx hq rfl (by decide) (by decide) dX7_readOr_43 ⟨rfl, rfl, hS_s7, (zFr_t (zFr_t (zFr_t zFr_rf hF_s1 (by decide)) hF_s3 (by decide)) hF_s7 (by decide)), trivial⟩
        · skip
          refine j_aload_n hx 0 dX7_readOr_24 rfl ?_
          refine j_aload_n hx 1 dX7_readOr_25 rfl ?_
          refine j_iload_n hx 2 dX7_readOr_26 rfl ?_
          refine j_callV hx hG (c_X7_readAnd_6 hst a b1 6) lk_RX7_45 ha (by decide) rfl rfl rfl rfl [.ref b1, .int (zI 6)] ⟨rfl, hG, hS_s7, ha, hb1, (by omega)⟩ rfl rfl ⟨by decide, by decide⟩ ⟨by decide, by decide⟩ (k2 := 0) (n2 := 0) rfl rfl (Nat.le_of_ble_eq_true rfl) dX7_readOr_27 (kVM (fun s8 hS_s8 hF_s8 q9 => ?_))
          refine j_aload_n hx 0 dX7_readOr_30 rfl ?_
          refine j_bipush hx dX7_readOr_31 rfl ?_
          refine j_iconst hx dX7_readOr_33 ?_
          refine j_callV hx hG (c_X7_emit hst a 13 0) lk_RX7_54 ha (by decide) rfl rfl rfl rfl [.int (zI 13), .int (zI 0)] ⟨rfl, hG, hS_s8, ha, (by omega), (by omega)⟩ rfl rfl ⟨by decide, by decide⟩ ⟨by decide, by decide⟩ (k2 := 0) (n2 := 0) rfl rfl (Nat.le_of_ble_eq_true rfl) dX7_readOr_34 (kVM (fun s9 hS_s9 hF_s9 q11 => ?_))
          refine j_iinc hx 3 [(3, .int (zI (v3 + 1))), (0, .ref a), (1, .ref b1), (2, .int (zI 6))] dX7_readOr_37 rfl (by omega) (by decide) rfl ?_
          refine j_goto hx 8 dX7_readOr_40 rfl ?_
          exact j_sub [1, 2, 3, 0] [(0, .ref a), (1, .ref b1), (2, .int (zI 6)), (3, .int (zI (v3 + 1)))] rfl (ih_c8_2 (v3 + 1) s9 (by omega) (by omega) hS_s9 (zFr_t (zFr_t (zFr_t (zFr_t zFr_rf hF_s3 (by decide)) hF_s7 (by decide)) hF_s8 (by decide)) hF_s9 (by decide)))
  exact j_sub [1, 2, 3, 0] [(0, .ref a), (1, .ref b1), (2, .int (zI 6)), (3, .int (zI 0))] rfl (c8_2 (2147483648 * 4) 0 s1 (by omega) (by omega) hS_s1 zFr_rf)

theorem lk_RX7_31 : LkV RX7 31 RX7 yX7_readOr cX7_readOr 4 none 2 := ⟨km_RX7_31, ki_yX7_readOr, ks_RX7_yX7_readOr, kn_RX7, kc_yX7_readOr, rfl, by decide +kernel, by decide +kernel, by decide +kernel⟩
set_option maxHeartbeats 4000000 in
set_option maxRecDepth 20000 in
theorem c_X7_readOne_5 {E : zE} {l : Launch} (hst : l.stackTraces = false) (a : Nat) (b1 : Nat) (x2 : Int) : Con E l yX7_readOne cX7_readOne 4 none { frames := 10, cells := 0, slots := 0, locals := 294 } (fun G s vs => vs = [.ref a, .ref b1, .int (zI x2)] ∧ zGK G ∧ zSK G s ∧ (gT G a = 8) ∧ (gT G b1 = 10) ∧ (5 ≤ x2 ∧ x2 ≤ 5)) (fun G s _ => pV (fun G2 s2 => G2 = G ∧ zSK G s2 ∧ zFr [8, 10, 46] G s s2 ∧ True)) := by
  refine Con.mk hst (by decide) (fun G s vs h => by rw [h.1]; exact Nat.le_of_ble_eq_true rfl) ?_
  rintro X G s0 vs ⟨rfl, hG, hS0, ha, hb1, hx2⟩ rfl hx hq
  obtain rfl : x2 = 5 := by omega
  show JJ X E 4 G s0 0 0 [(0, .ref a), (1, .ref b1), (2, .int (zI 5))] 0 []
  refine j_aload_n hx 1 dX7_readOne_0 rfl ?_
  refine j_callV hx hG (c_X9_peek hst b1) lk_RX7_35 hb1 (by decide) rfl rfl rfl rfl [] ⟨rfl, hG, hS0, hb1⟩ rfl rfl ⟨by decide, by decide⟩ ⟨by decide, by decide⟩ (k2 := 0) (n2 := 0) rfl rfl (Nat.le_of_ble_eq_true rfl) dX7_readOne_1 (kIM (fun v1 s1 hS_s1 hF_s1 q2 => ?_))
  refine j_pop hx dX7_readOne_4 rfl ?_
  refine j_aload_n hx 1 dX7_readOne_5 rfl ?_
  have f3 := zf hS_s1 hb1 (k := 3) rfl
  refine gN10_3 hx hG hb1 kf_RX7_63 rfl dX7_readOne_6 ?_
  refine j_istore_n hx [(3, .int (zI ((s1 b1 3)))), (0, .ref a), (1, .ref b1), (2, .int (zI 5))] dX7_readOne_9 (by decide) rfl ?_
  refine j_aload_n hx 2 dX7_readOne_10 rfl ?_
  refine j_bipush hx dX7_readOne_11 rfl ?_
  refine j_callV hx hG (c_X9_takeSign hst b1 91) lk_RX7_66 hb1 (by decide) rfl rfl rfl rfl [.int (zI 91)] ⟨rfl, hG, hS_s1, hb1, (by omega)⟩ rfl rfl ⟨by decide, by decide⟩ ⟨by decide, by decide⟩ (k2 := 0) (n2 := 0) rfl rfl (Nat.le_of_ble_eq_true rfl) dX7_readOne_13 (kIM (fun v4 s2 hS_s2 hF_s2 q5 => ?_))
  refine j_if_eq hx 59 dX7_readOne_16 rfl (by omega) (fun h6 => ?_) (fun h6 => ?_)
  · skip
    refine j_aload_n hx 2 dX7_readOne_59 rfl ?_
    refine j_ldcT hx (i := 8) 8 (by decide) rfl rfl rfl dX7_readOne_60 ?_
    refine j_callV hx hG (c_X9_takeWord hst b1 8) lk_RX7_50 hb1 (by decide) rfl rfl rfl rfl [.ref (zTa E 8)] ⟨rfl, hG, hS_s2, hb1, (by decide)⟩ rfl rfl ⟨by decide, by decide⟩ ⟨by decide, by decide⟩ (k2 := 0) (n2 := 0) rfl rfl (Nat.le_of_ble_eq_true rfl) dX7_readOne_62 (kIM (fun v7 s3 hS_s3 hF_s3 q8 => ?_))
    refine j_if_eq hx 109 dX7_readOne_65 rfl (by omega) (fun h9 => ?_) (fun h9 => ?_)
    · skip
      refine j_aload_n hx 1 dX7_readOne_109 rfl ?_
      refine j_aload_n hx 2 dX7_readOne_110 rfl ?_
      refine j_callV hx hG (c_X7_readFact hst a b1) lk_RX7_80 ha (by decide) rfl rfl rfl rfl [.ref b1] ⟨rfl, hG, hS_s3, ha, hb1⟩ rfl rfl ⟨by decide, by decide⟩ ⟨by decide, by decide⟩ (k2 := 0) (n2 := 0) rfl rfl (Nat.le_of_ble_eq_true rfl) dX7_readOne_111 (kVM (fun s4 hS_s4 hF_s4 q11 => ?_))
      exact j_vret hx hq rfl (by decide) (by decide) dX7_readOne_114 ⟨rfl, rfl, hS_s4, (zFr_t (zFr_t (zFr_t (zFr_t zFr_rf hF_s1 (by decide)) hF_s2 (by decide)) hF_s3 (by decide)) hF_s4 (by decide)), trivial⟩
    · skip
      refine j_aload_n hx 2 dX7_readOne_68 rfl ?_
      refine j_iload_n hx 3 dX7_readOne_69 rfl ?_
      refine j_bipush hx dX7_readOne_70 rfl ?_
      refine j_icmp_lt hx 79 dX7_readOne_72 rfl ⟨by decide, by decide⟩ ⟨by decide, by decide⟩ (fun h12 => ?_) (fun h12 => absurd h12 (by omega))
      refine j_iconst hx dX7_readOne_79 ?_
      refine j_iconst hx dX7_readOne_80 ?_
      refine j_iload_n hx 0 dX7_readOne_81 rfl ?_
      refine j_callV hx hG (c_X9_failIf hst b1 0 3 ((s1 b1 3))) lk_RX7_70 hb1 (by decide) rfl rfl rfl rfl [.int (zI 0), .int (zI 3), .int (zI ((s1 b1 3)))] ⟨rfl, hG, hS_s3, hb1, (by omega), (by omega), (by omega)⟩ rfl rfl ⟨by decide, by decide⟩ ⟨by decide, by decide⟩ (k2 := 0) (n2 := 0) rfl rfl (Nat.le_of_ble_eq_true rfl) dX7_readOne_82 (kVM (fun s5 hS_s5 hF_s5 q14 => ?_))
      refine j_iload_n hx 3 dX7_readOne_85 rfl ?_
      refine j_bipush hx dX7_readOne_86 rfl ?_
      refine j_icmp_ge hx 114 dX7_readOne_88 rfl ⟨by decide, by decide⟩ ⟨by decide, by decide⟩ (fun h15 => absurd h15 (by omega)) (fun h15 => ?_)
      refine j_aload_n hx 1 dX7_readOne_91 rfl ?_
      refine j_aload_n hx 2 dX7_readOne_92 rfl ?_
      refine j_iload_n hx 3 dX7_readOne_93 rfl ?_
      refine j_iconst hx dX7_readOne_94 ?_
      refine j_iadd hx (r := 6) dX7_readOne_95 (by omega) ?_
      refine j_callV hx hG (c_X7_readOne_6 hst a b1 6) lk_RX7_58 ha (by decide) rfl rfl rfl rfl [.ref b1, .int (zI 6)] ⟨rfl, hG, hS_s5, ha, hb1, (by omega)⟩ rfl rfl ⟨by decide, by decide⟩ ⟨by decide, by decide⟩ (k2 := 0) (n2 := 0) rfl rfl (Nat.le_of_ble_eq_true rfl) dX7_readOne_96 (kVM (fun s6 hS_s6 hF_s6 q17 => ?_))
      refine j_aload_n hx 1 dX7_readOne_99 rfl ?_
      refine j_bipush hx dX7_readOne_100 rfl ?_
      refine j_iconst hx dX7_readOne_102 ?_
      refine j_callV hx hG (c_X7_emit hst a 11 0) lk_RX7_54 ha (by decide) rfl rfl rfl rfl [.int (zI 11), .int (zI 0)] ⟨rfl, hG, hS_s6, ha, (by omega), (by omega)⟩ rfl rfl ⟨by decide, by decide⟩ ⟨by decide, by decide⟩ (k2 := 0) (n2 := 0) rfl rfl (Nat.le_of_ble_eq_true rfl) dX7_readOne_103 (kVM (fun s7 hS_s7 hF_s7 q19 => ?_))
      refine j_goto hx 114 dX7_readOne_106 rfl ?_
      exact j_vret hx hq rfl (by decide) (by decide) dX7_readOne_114 ⟨rfl, rfl, hS_s7, (zFr_t (zFr_t (zFr_t (zFr_t (zFr_t (zFr_t zFr_rf hF_s1 (by decide)) hF_s2 (by decide)) hF_s3 (by decide)) hF_s5 (by decide)) hF_s6 (by decide)) hF_s7 (by decide)), trivial⟩
  · skip
    refine j_aload_n hx 2 dX7_readOne_19 rfl ?_
    refine j_iload_n hx 3 dX7_readOne_20 rfl ?_
    refine j_bipush hx dX7_readOne_21 rfl ?_
    refine j_icmp_lt hx 30 dX7_readOne_23 rfl ⟨by decide, by decide⟩ ⟨by decide, by decide⟩ (fun h20 => ?_) (fun h20 => absurd h20 (by omega))
    refine j_iconst hx dX7_readOne_30 ?_
    refine j_iconst hx dX7_readOne_31 ?_
    refine j_iload_n hx 0 dX7_readOne_32 rfl ?_
    refine j_callV hx hG (c_X9_failIf hst b1 0 3 ((s1 b1 3))) lk_RX7_70 hb1 (by decide) rfl rfl rfl rfl [.int (zI 0), .int (zI 3), .int (zI ((s1 b1 3)))] ⟨rfl, hG, hS_s2, hb1, (by omega), (by omega), (by omega)⟩ rfl rfl ⟨by decide, by decide⟩ ⟨by decide, by decide⟩ (k2 := 0) (n2 := 0) rfl rfl (Nat.le_of_ble_eq_true rfl) dX7_readOne_33 (kVM (fun s8 hS_s8 hF_s8 q22 => ?_))
    refine j_iload_n hx 3 dX7_readOne_36 rfl ?_
    refine j_bipush hx dX7_readOne_37 rfl ?_
    refine j_icmp_ge hx 114 dX7_readOne_39 rfl ⟨by decide, by decide⟩ ⟨by decide, by decide⟩ (fun h23 => absurd h23 (by omega)) (fun h23 => ?_)
    refine j_aload_n hx 1 dX7_readOne_42 rfl ?_
    refine j_aload_n hx 2 dX7_readOne_43 rfl ?_
    refine j_iload_n hx 3 dX7_readOne_44 rfl ?_
    refine j_iconst hx dX7_readOne_45 ?_
    refine j_iadd hx (r := 6) dX7_readOne_46 (by omega) ?_
    refine j_callV hx hG (c_X7_readOr_6 hst a b1 6) lk_RX7_31 ha (by decide) rfl rfl rfl rfl [.ref b1, .int (zI 6)] ⟨rfl, hG, hS_s8, ha, hb1, (by omega)⟩ rfl rfl ⟨by decide, by decide⟩ ⟨by decide, by decide⟩ (k2 := 0) (n2 := 0) rfl rfl (Nat.le_of_ble_eq_true rfl) dX7_readOne_47 (kVM (fun s9 hS_s9 hF_s9 q25 => ?_))
    refine j_aload_n hx 2 dX7_readOne_50 rfl ?_
    refine j_bipush hx dX7_readOne_51 rfl ?_
    refine j_callV hx hG (c_X9_needSign hst b1 93) lk_RX7_74 hb1 (by decide) rfl rfl rfl rfl [.int (zI 93)] ⟨rfl, hG, hS_s9, hb1, (by omega)⟩ rfl rfl ⟨by decide, by decide⟩ ⟨by decide, by decide⟩ (k2 := 0) (n2 := 0) rfl rfl (Nat.le_of_ble_eq_true rfl) dX7_readOne_53 (kVM (fun s10 hS_s10 hF_s10 q27 => ?_))
    refine j_goto hx 114 dX7_readOne_56 rfl ?_
    exact j_vret hx hq rfl (by decide) (by decide) dX7_readOne_114 ⟨rfl, rfl, hS_s10, (zFr_t (zFr_t (zFr_t (zFr_t (zFr_t zFr_rf hF_s1 (by decide)) hF_s2 (by decide)) hF_s8 (by decide)) hF_s9 (by decide)) hF_s10 (by decide)), trivial⟩

set_option maxHeartbeats 4000000 in
set_option maxRecDepth 20000 in
theorem c_X7_readAnd_5 {E : zE} {l : Launch} (hst : l.stackTraces = false) (a : Nat) (b1 : Nat) (x2 : Int) : Con E l yX7_readAnd cX7_readAnd 4 none { frames := 11, cells := 0, slots := 0, locals := 317 } (fun G s vs => vs = [.ref a, .ref b1, .int (zI x2)] ∧ zGK G ∧ zSK G s ∧ (gT G a = 8) ∧ (gT G b1 = 10) ∧ (5 ≤ x2 ∧ x2 ≤ 5)) (fun G s _ => pV (fun G2 s2 => G2 = G ∧ zSK G s2 ∧ zFr [8, 10, 46] G s s2 ∧ True)) := by
  refine Con.mk hst (by decide) (fun G s vs h => by rw [h.1]; exact Nat.le_of_ble_eq_true rfl) ?_
  rintro X G s0 vs ⟨rfl, hG, hS0, ha, hb1, hx2⟩ rfl hx hq
  obtain rfl : x2 = 5 := by omega
  show JJ X E 4 G s0 0 0 [(0, .ref a), (1, .ref b1), (2, .int (zI 5))] 0 []
  refine j_aload_n hx 0 dX7_readAnd_0 rfl ?_
  refine j_aload_n hx 1 dX7_readAnd_1 rfl ?_
  refine j_iload_n hx 2 dX7_readAnd_2 rfl ?_
  refine j_callV hx hG (c_X7_readOne_5 hst a b1 5) lk_RX7_58 ha (by decide) rfl rfl rfl rfl [.ref b1, .int (zI 5)] ⟨rfl, hG, hS0, ha, hb1, (by omega)⟩ rfl rfl ⟨by decide, by decide⟩ ⟨by decide, by decide⟩ (k2 := 0) (n2 := 0) rfl rfl (Nat.le_of_ble_eq_true rfl) dX7_readAnd_3 (kVM (fun s1 hS_s1 hF_s1 q2 => ?_))
  refine j_iconst hx dX7_readAnd_6 ?_
  refine j_istore_n hx [(3, .int (zI 0)), (0, .ref a), (1, .ref b1), (2, .int (zI 5))] dX7_readAnd_7 (by decide) rfl ?_
  have c8_2 : ∀ (m_c8_2 : Nat) (v3 : Int) (s3 : zS), 2147483648 - v3 < m_c8_2 → (0 ≤ v3 ∧ v3 ≤ 150) → (zSK G s3) → (zFr [8, 10, 46] G s1 s3) → JJ X E 4 G s3 0 0 [(0, .ref a), (1, .ref b1), (2, .int (zI 5)), (3, .int (zI v3))] 8 [] := by
    intro m_c8_2
    induction m_c8_2 with
    | zero => intro v3 s3 hm_c8_2 fA4 hS_s3 hF_s3; exfalso; omega
    | succ m_c8_2 ih_c8_2 => 
      intro v3 s3 hm_c8_2 fA4 hS_s3 hF_s3
      refine j_iload_n hx 3 dX7_readAnd_8 rfl ?_
      refine j_sipush hx dX7_readAnd_9 rfl ?_
      refine j_icmp_ge hx 43 dX7_readAnd_12 rfl (by omega) ⟨by decide, by decide⟩ (fun h4 => ?_) (fun h4 => ?_)
      · skip
        exact j_vret hx hq rfl (by decide) (by decide) dX7_readAnd_43 ⟨rfl, rfl, hS_s3, (zFr_t (zFr_t zFr_rf hF_s1 (by decide)) hF_s3 (by decide)), trivial⟩
      · skip
        refine j_aload_n hx 1 dX7_readAnd_15 rfl ?_
        refine j_ldcT hx (i := 16) 18 (by decide) rfl rfl rfl dX7_readAnd_16 ?_
        refine j_callV hx hG (c_X9_takeWord hst b1 16) lk_RX7_50 hb1 (by decide) rfl rfl rfl rfl [.ref (zTa E 16)] ⟨rfl, hG, hS_s3, hb1, (by decide)⟩ rfl rfl ⟨by decide, by decide⟩ ⟨by decide, by decide⟩ (k2 := 0) (n2 := 0) rfl rfl (Nat.le_of_ble_eq_true rfl) dX7_readAnd_18 (kIM (fun v5 s7 hS_s7 hF_s7 q6 => ?_))
        refine j_if_eq hx 43 dX7_readAnd_21 rfl (by omega) (fun h7 => ?_) (fun h7 => ?_)
        · skip
          exact j_vret hx hq rfl (by decide) (by decide) dX7_readAnd_43 ⟨rfl, rfl, hS_s7, (zFr_t (zFr_t (zFr_t zFr_rf hF_s1 (by decide)) hF_s3 (by decide)) hF_s7 (by decide)), trivial⟩
        · skip
          refine j_aload_n hx 0 dX7_readAnd_24 rfl ?_
          refine j_aload_n hx 1 dX7_readAnd_25 rfl ?_
          refine j_iload_n hx 2 dX7_readAnd_26 rfl ?_
          refine j_callV hx hG (c_X7_readOne_5 hst a b1 5) lk_RX7_58 ha (by decide) rfl rfl rfl rfl [.ref b1, .int (zI 5)] ⟨rfl, hG, hS_s7, ha, hb1, (by omega)⟩ rfl rfl ⟨by decide, by decide⟩ ⟨by decide, by decide⟩ (k2 := 0) (n2 := 0) rfl rfl (Nat.le_of_ble_eq_true rfl) dX7_readAnd_27 (kVM (fun s8 hS_s8 hF_s8 q9 => ?_))
          refine j_aload_n hx 0 dX7_readAnd_30 rfl ?_
          refine j_bipush hx dX7_readAnd_31 rfl ?_
          refine j_iconst hx dX7_readAnd_33 ?_
          refine j_callV hx hG (c_X7_emit hst a 12 0) lk_RX7_54 ha (by decide) rfl rfl rfl rfl [.int (zI 12), .int (zI 0)] ⟨rfl, hG, hS_s8, ha, (by omega), (by omega)⟩ rfl rfl ⟨by decide, by decide⟩ ⟨by decide, by decide⟩ (k2 := 0) (n2 := 0) rfl rfl (Nat.le_of_ble_eq_true rfl) dX7_readAnd_34 (kVM (fun s9 hS_s9 hF_s9 q11 => ?_))
          refine j_iinc hx 3 [(3, .int (zI (v3 + 1))), (0, .ref a), (1, .ref b1), (2, .int (zI 5))] dX7_readAnd_37 rfl (by omega) (by decide) rfl ?_
          refine j_goto hx 8 dX7_readAnd_40 rfl ?_
          exact j_sub [1, 2, 3, 0] [(0, .ref a), (1, .ref b1), (2, .int (zI 5)), (3, .int (zI (v3 + 1)))] rfl (ih_c8_2 (v3 + 1) s9 (by omega) (by omega) hS_s9 (zFr_t (zFr_t (zFr_t (zFr_t zFr_rf hF_s3 (by decide)) hF_s7 (by decide)) hF_s8 (by decide)) hF_s9 (by decide)))
  exact j_sub [1, 2, 3, 0] [(0, .ref a), (1, .ref b1), (2, .int (zI 5)), (3, .int (zI 0))] rfl (c8_2 (2147483648 * 4) 0 s1 (by omega) (by omega) hS_s1 zFr_rf)

set_option maxHeartbeats 4000000 in
set_option maxRecDepth 20000 in
theorem c_X7_readOr_5 {E : zE} {l : Launch} (hst : l.stackTraces = false) (a : Nat) (b1 : Nat) (x2 : Int) : Con E l yX7_readOr cX7_readOr 4 none { frames := 12, cells := 0, slots := 0, locals := 340 } (fun G s vs => vs = [.ref a, .ref b1, .int (zI x2)] ∧ zGK G ∧ zSK G s ∧ (gT G a = 8) ∧ (gT G b1 = 10) ∧ (5 ≤ x2 ∧ x2 ≤ 5)) (fun G s _ => pV (fun G2 s2 => G2 = G ∧ zSK G s2 ∧ zFr [8, 10, 46] G s s2 ∧ True)) := by
  refine Con.mk hst (by decide) (fun G s vs h => by rw [h.1]; exact Nat.le_of_ble_eq_true rfl) ?_
  rintro X G s0 vs ⟨rfl, hG, hS0, ha, hb1, hx2⟩ rfl hx hq
  obtain rfl : x2 = 5 := by omega
  show JJ X E 4 G s0 0 0 [(0, .ref a), (1, .ref b1), (2, .int (zI 5))] 0 []
  refine j_aload_n hx 0 dX7_readOr_0 rfl ?_
  refine j_aload_n hx 1 dX7_readOr_1 rfl ?_
  refine j_iload_n hx 2 dX7_readOr_2 rfl ?_
  refine j_callV hx hG (c_X7_readAnd_5 hst a b1 5) lk_RX7_45 ha (by decide) rfl rfl rfl rfl [.ref b1, .int (zI 5)] ⟨rfl, hG, hS0, ha, hb1, (by omega)⟩ rfl rfl ⟨by decide, by decide⟩ ⟨by decide, by decide⟩ (k2 := 0) (n2 := 0) rfl rfl (Nat.le_of_ble_eq_true rfl) dX7_readOr_3 (kVM (fun s1 hS_s1 hF_s1 q2 => ?_))
  refine j_iconst hx dX7_readOr_6 ?_
  refine j_istore_n hx [(3, .int (zI 0)), (0, .ref a), (1, .ref b1), (2, .int (zI 5))] dX7_readOr_7 (by decide) rfl ?_
  have c8_2 : ∀ (m_c8_2 : Nat) (v3 : Int) (s3 : zS), 2147483648 - v3 < m_c8_2 → (0 ≤ v3 ∧ v3 ≤ 150) → (zSK G s3) → (zFr [8, 10, 46] G s1 s3) → JJ X E 4 G s3 0 0 [(0, .ref a), (1, .ref b1), (2, .int (zI 5)), (3, .int (zI v3))] 8 [] := by
    intro m_c8_2
    induction m_c8_2 with
    | zero => intro v3 s3 hm_c8_2 fA4 hS_s3 hF_s3; exfalso; omega
    | succ m_c8_2 ih_c8_2 => 
      intro v3 s3 hm_c8_2 fA4 hS_s3 hF_s3
      refine j_iload_n hx 3 dX7_readOr_8 rfl ?_
      refine j_sipush hx dX7_readOr_9 rfl ?_
      refine j_icmp_ge hx 43 dX7_readOr_12 rfl (by omega) ⟨by decide, by decide⟩ (fun h4 => ?_) (fun h4 => ?_)
      · skip
        exact j_vret hx hq rfl (by decide) (by decide) dX7_readOr_43 ⟨rfl, rfl, hS_s3, (zFr_t (zFr_t zFr_rf hF_s1 (by decide)) hF_s3 (by decide)), trivial⟩
      · skip
        refine j_aload_n hx 1 dX7_readOr_15 rfl ?_
        refine j_ldcT hx (i := 17) 19 (by decide) rfl rfl rfl dX7_readOr_16 ?_
        refine j_callV hx hG (c_X9_takeWord hst b1 17) lk_RX7_50 hb1 (by decide) rfl rfl rfl rfl [.ref (zTa E 17)] ⟨rfl, hG, hS_s3, hb1, (by decide)⟩ rfl rfl ⟨by decide, by decide⟩ ⟨by decide, by decide⟩ (k2 := 0) (n2 := 0) rfl rfl (Nat.le_of_ble_eq_true rfl) dX7_readOr_18 (kIM (fun v5 s7 hS_s7 hF_s7 q6 => ?_))
        refine j_if_eq hx 43 dX7_readOr_21 rfl (by omega) (fun h7 => ?_) (fun h7 => ?_)
        · skip
          exact j_vret hx hq rfl (by decide) (by decide) dX7_readOr_43 ⟨rfl, rfl, hS_s7, (zFr_t (zFr_t (zFr_t zFr_rf hF_s1 (by decide)) hF_s3 (by decide)) hF_s7 (by decide)), trivial⟩
        · skip
          refine j_aload_n hx 0 dX7_readOr_24 rfl ?_
          refine j_aload_n hx 1 dX7_readOr_25 rfl ?_
          refine j_iload_n hx 2 dX7_readOr_26 rfl ?_
          refine j_callV hx hG (c_X7_readAnd_5 hst a b1 5) lk_RX7_45 ha (by decide) rfl rfl rfl rfl [.ref b1, .int (zI 5)] ⟨rfl, hG, hS_s7, ha, hb1, (by omega)⟩ rfl rfl ⟨by decide, by decide⟩ ⟨by decide, by decide⟩ (k2 := 0) (n2 := 0) rfl rfl (Nat.le_of_ble_eq_true rfl) dX7_readOr_27 (kVM (fun s8 hS_s8 hF_s8 q9 => ?_))
          refine j_aload_n hx 0 dX7_readOr_30 rfl ?_
          refine j_bipush hx dX7_readOr_31 rfl ?_
          refine j_iconst hx dX7_readOr_33 ?_
          refine j_callV hx hG (c_X7_emit hst a 13 0) lk_RX7_54 ha (by decide) rfl rfl rfl rfl [.int (zI 13), .int (zI 0)] ⟨rfl, hG, hS_s8, ha, (by omega), (by omega)⟩ rfl rfl ⟨by decide, by decide⟩ ⟨by decide, by decide⟩ (k2 := 0) (n2 := 0) rfl rfl (Nat.le_of_ble_eq_true rfl) dX7_readOr_34 (kVM (fun s9 hS_s9 hF_s9 q11 => ?_))
          refine j_iinc hx 3 [(3, .int (zI (v3 + 1))), (0, .ref a), (1, .ref b1), (2, .int (zI 5))] dX7_readOr_37 rfl (by omega) (by decide) rfl ?_
          refine j_goto hx 8 dX7_readOr_40 rfl ?_
          exact j_sub [1, 2, 3, 0] [(0, .ref a), (1, .ref b1), (2, .int (zI 5)), (3, .int (zI (v3 + 1)))] rfl (ih_c8_2 (v3 + 1) s9 (by omega) (by omega) hS_s9 (zFr_t (zFr_t (zFr_t (zFr_t zFr_rf hF_s3 (by decide)) hF_s7 (by decide)) hF_s8 (by decide)) hF_s9 (by decide)))
  exact j_sub [1, 2, 3, 0] [(0, .ref a), (1, .ref b1), (2, .int (zI 5)), (3, .int (zI 0))] rfl (c8_2 (2147483648 * 4) 0 s1 (by omega) (by omega) hS_s1 zFr_rf)

set_option maxHeartbeats 4000000 in
set_option maxRecDepth 20000 in
theorem c_X7_readOne_4 {E : zE} {l : Launch} (hst : l.stackTraces = false) (a : Nat) (b1 : Nat) (x2 : Int) : Con E l yX7_readOne cX7_readOne 4 none { frames := 13, cells := 0, slots := 0, locals := 363 } (fun G s vs => vs = [.ref a, .ref b1, .int (zI x2)] ∧ zGK G ∧ zSK G s ∧ (gT G a = 8) ∧ (gT G b1 = 10) ∧ (4 ≤ x2 ∧ x2 ≤ 4)) (fun G s _ => pV (fun G2 s2 => G2 = G ∧ zSK G s2 ∧ zFr [8, 10, 46] G s s2 ∧ True)) := by
  refine Con.mk hst (by decide) (fun G s vs h => by rw [h.1]; exact Nat.le_of_ble_eq_true rfl) ?_
  rintro X G s0 vs ⟨rfl, hG, hS0, ha, hb1, hx2⟩ rfl hx hq
  obtain rfl : x2 = 4 := by omega
  show JJ X E 4 G s0 0 0 [(0, .ref a), (1, .ref b1), (2, .int (zI 4))] 0 []
  refine j_aload_n hx 1 dX7_readOne_0 rfl ?_
  refine j_callV hx hG (c_X9_peek hst b1) lk_RX7_35 hb1 (by decide) rfl rfl rfl rfl [] ⟨rfl, hG, hS0, hb1⟩ rfl rfl ⟨by decide, by decide⟩ ⟨by decide, by decide⟩ (k2 := 0) (n2 := 0) rfl rfl (Nat.le_of_ble_eq_true rfl) dX7_readOne_1 (kIM (fun v1 s1 hS_s1 hF_s1 q2 => ?_))
  refine j_pop hx dX7_readOne_4 rfl ?_
  refine j_aload_n hx 1 dX7_readOne_5 rfl ?_
  have f3 := zf hS_s1 hb1 (k := 3) rfl
  refine gN10_3 hx hG hb1 kf_RX7_63 rfl dX7_readOne_6 ?_
  refine j_istore_n hx [(3, .int (zI ((s1 b1 3)))), (0, .ref a), (1, .ref b1), (2, .int (zI 4))] dX7_readOne_9 (by decide) rfl ?_
  refine j_aload_n hx 2 dX7_readOne_10 rfl ?_
  refine j_bipush hx dX7_readOne_11 rfl ?_
  refine j_callV hx hG (c_X9_takeSign hst b1 91) lk_RX7_66 hb1 (by decide) rfl rfl rfl rfl [.int (zI 91)] ⟨rfl, hG, hS_s1, hb1, (by omega)⟩ rfl rfl ⟨by decide, by decide⟩ ⟨by decide, by decide⟩ (k2 := 0) (n2 := 0) rfl rfl (Nat.le_of_ble_eq_true rfl) dX7_readOne_13 (kIM (fun v4 s2 hS_s2 hF_s2 q5 => ?_))
  refine j_if_eq hx 59 dX7_readOne_16 rfl (by omega) (fun h6 => ?_) (fun h6 => ?_)
  · skip
    refine j_aload_n hx 2 dX7_readOne_59 rfl ?_
    refine j_ldcT hx (i := 8) 8 (by decide) rfl rfl rfl dX7_readOne_60 ?_
    refine j_callV hx hG (c_X9_takeWord hst b1 8) lk_RX7_50 hb1 (by decide) rfl rfl rfl rfl [.ref (zTa E 8)] ⟨rfl, hG, hS_s2, hb1, (by decide)⟩ rfl rfl ⟨by decide, by decide⟩ ⟨by decide, by decide⟩ (k2 := 0) (n2 := 0) rfl rfl (Nat.le_of_ble_eq_true rfl) dX7_readOne_62 (kIM (fun v7 s3 hS_s3 hF_s3 q8 => ?_))
    refine j_if_eq hx 109 dX7_readOne_65 rfl (by omega) (fun h9 => ?_) (fun h9 => ?_)
    · skip
      refine j_aload_n hx 1 dX7_readOne_109 rfl ?_
      refine j_aload_n hx 2 dX7_readOne_110 rfl ?_
      refine j_callV hx hG (c_X7_readFact hst a b1) lk_RX7_80 ha (by decide) rfl rfl rfl rfl [.ref b1] ⟨rfl, hG, hS_s3, ha, hb1⟩ rfl rfl ⟨by decide, by decide⟩ ⟨by decide, by decide⟩ (k2 := 0) (n2 := 0) rfl rfl (Nat.le_of_ble_eq_true rfl) dX7_readOne_111 (kVM (fun s4 hS_s4 hF_s4 q11 => ?_))
      exact j_vret hx hq rfl (by decide) (by decide) dX7_readOne_114 ⟨rfl, rfl, hS_s4, (zFr_t (zFr_t (zFr_t (zFr_t zFr_rf hF_s1 (by decide)) hF_s2 (by decide)) hF_s3 (by decide)) hF_s4 (by decide)), trivial⟩
    · skip
      refine j_aload_n hx 2 dX7_readOne_68 rfl ?_
      refine j_iload_n hx 3 dX7_readOne_69 rfl ?_
      refine j_bipush hx dX7_readOne_70 rfl ?_
      refine j_icmp_lt hx 79 dX7_readOne_72 rfl ⟨by decide, by decide⟩ ⟨by decide, by decide⟩ (fun h12 => ?_) (fun h12 => absurd h12 (by omega))
      refine j_iconst hx dX7_readOne_79 ?_
      refine j_iconst hx dX7_readOne_80 ?_
      refine j_iload_n hx 0 dX7_readOne_81 rfl ?_
      refine j_callV hx hG (c_X9_failIf hst b1 0 3 ((s1 b1 3))) lk_RX7_70 hb1 (by decide) rfl rfl rfl rfl [.int (zI 0), .int (zI 3), .int (zI ((s1 b1 3)))] ⟨rfl, hG, hS_s3, hb1, (by omega), (by omega), (by omega)⟩ rfl rfl ⟨by decide, by decide⟩ ⟨by decide, by decide⟩ (k2 := 0) (n2 := 0) rfl rfl (Nat.le_of_ble_eq_true rfl) dX7_readOne_82 (kVM (fun s5 hS_s5 hF_s5 q14 => ?_))
      refine j_iload_n hx 3 dX7_readOne_85 rfl ?_
      refine j_bipush hx dX7_readOne_86 rfl ?_
      refine j_icmp_ge hx 114 dX7_readOne_88 rfl ⟨by decide, by decide⟩ ⟨by decide, by decide⟩ (fun h15 => absurd h15 (by omega)) (fun h15 => ?_)
      refine j_aload_n hx 1 dX7_readOne_91 rfl ?_
      refine j_aload_n hx 2 dX7_readOne_92 rfl ?_
      refine j_iload_n hx 3 dX7_readOne_93 rfl ?_
      refine j_iconst hx dX7_readOne_94 ?_
      refine j_iadd hx (r := 5) dX7_readOne_95 (by omega) ?_
      refine j_callV hx hG (c_X7_readOne_5 hst a b1 5) lk_RX7_58 ha (by decide) rfl rfl rfl rfl [.ref b1, .int (zI 5)] ⟨rfl, hG, hS_s5, ha, hb1, (by omega)⟩ rfl rfl ⟨by decide, by decide⟩ ⟨by decide, by decide⟩ (k2 := 0) (n2 := 0) rfl rfl (Nat.le_of_ble_eq_true rfl) dX7_readOne_96 (kVM (fun s6 hS_s6 hF_s6 q17 => ?_))
      refine j_aload_n hx 1 dX7_readOne_99 rfl ?_
      refine j_bipush hx dX7_readOne_100 rfl ?_
      refine j_iconst hx dX7_readOne_102 ?_
      refine j_callV hx hG (c_X7_emit hst a 11 0) lk_RX7_54 ha (by decide) rfl rfl rfl rfl [.int (zI 11), .int (zI 0)] ⟨rfl, hG, hS_s6, ha, (by omega), (by omega)⟩ rfl rfl ⟨by decide, by decide⟩ ⟨by decide, by decide⟩ (k2 := 0) (n2 := 0) rfl rfl (Nat.le_of_ble_eq_true rfl) dX7_readOne_103 (kVM (fun s7 hS_s7 hF_s7 q19 => ?_))
      refine j_goto hx 114 dX7_readOne_106 rfl ?_
      exact j_vret hx hq rfl (by decide) (by decide) dX7_readOne_114 ⟨rfl, rfl, hS_s7, (zFr_t (zFr_t (zFr_t (zFr_t (zFr_t (zFr_t zFr_rf hF_s1 (by decide)) hF_s2 (by decide)) hF_s3 (by decide)) hF_s5 (by decide)) hF_s6 (by decide)) hF_s7 (by decide)), trivial⟩
  · skip
    refine j_aload_n hx 2 dX7_readOne_19 rfl ?_
    refine j_iload_n hx 3 dX7_readOne_20 rfl ?_
    refine j_bipush hx dX7_readOne_21 rfl ?_
    refine j_icmp_lt hx 30 dX7_readOne_23 rfl ⟨by decide, by decide⟩ ⟨by decide, by decide⟩ (fun h20 => ?_) (fun h20 => absurd h20 (by omega))
    refine j_iconst hx dX7_readOne_30 ?_
    refine j_iconst hx dX7_readOne_31 ?_
    refine j_iload_n hx 0 dX7_readOne_32 rfl ?_
    refine j_callV hx hG (c_X9_failIf hst b1 0 3 ((s1 b1 3))) lk_RX7_70 hb1 (by decide) rfl rfl rfl rfl [.int (zI 0), .int (zI 3), .int (zI ((s1 b1 3)))] ⟨rfl, hG, hS_s2, hb1, (by omega), (by omega), (by omega)⟩ rfl rfl ⟨by decide, by decide⟩ ⟨by decide, by decide⟩ (k2 := 0) (n2 := 0) rfl rfl (Nat.le_of_ble_eq_true rfl) dX7_readOne_33 (kVM (fun s8 hS_s8 hF_s8 q22 => ?_))
    refine j_iload_n hx 3 dX7_readOne_36 rfl ?_
    refine j_bipush hx dX7_readOne_37 rfl ?_
    refine j_icmp_ge hx 114 dX7_readOne_39 rfl ⟨by decide, by decide⟩ ⟨by decide, by decide⟩ (fun h23 => absurd h23 (by omega)) (fun h23 => ?_)
    refine j_aload_n hx 1 dX7_readOne_42 rfl ?_
    refine j_aload_n hx 2 dX7_readOne_43 rfl ?_
    refine j_iload_n hx 3 dX7_readOne_44 rfl ?_
    refine j_iconst hx dX7_readOne_45 ?_
    refine j_iadd hx (r := 5) dX7_readOne_46 (by omega) ?_
    refine j_callV hx hG (c_X7_readOr_5 hst a b1 5) lk_RX7_31 ha (by decide) rfl rfl rfl rfl [.ref b1, .int (zI 5)] ⟨rfl, hG, hS_s8, ha, hb1, (by omega)⟩ rfl rfl ⟨by decide, by decide⟩ ⟨by decide, by decide⟩ (k2 := 0) (n2 := 0) rfl rfl (Nat.le_of_ble_eq_true rfl) dX7_readOne_47 (kVM (fun s9 hS_s9 hF_s9 q25 => ?_))
    refine j_aload_n hx 2 dX7_readOne_50 rfl ?_
    refine j_bipush hx dX7_readOne_51 rfl ?_
    refine j_callV hx hG (c_X9_needSign hst b1 93) lk_RX7_74 hb1 (by decide) rfl rfl rfl rfl [.int (zI 93)] ⟨rfl, hG, hS_s9, hb1, (by omega)⟩ rfl rfl ⟨by decide, by decide⟩ ⟨by decide, by decide⟩ (k2 := 0) (n2 := 0) rfl rfl (Nat.le_of_ble_eq_true rfl) dX7_readOne_53 (kVM (fun s10 hS_s10 hF_s10 q27 => ?_))
    refine j_goto hx 114 dX7_readOne_56 rfl ?_
    exact j_vret hx hq rfl (by decide) (by decide) dX7_readOne_114 ⟨rfl, rfl, hS_s10, (zFr_t (zFr_t (zFr_t (zFr_t (zFr_t zFr_rf hF_s1 (by decide)) hF_s2 (by decide)) hF_s8 (by decide)) hF_s9 (by decide)) hF_s10 (by decide)), trivial⟩

set_option maxHeartbeats 4000000 in
set_option maxRecDepth 20000 in
theorem c_X7_readAnd_4 {E : zE} {l : Launch} (hst : l.stackTraces = false) (a : Nat) (b1 : Nat) (x2 : Int) : Con E l yX7_readAnd cX7_readAnd 4 none { frames := 14, cells := 0, slots := 0, locals := 386 } (fun G s vs => vs = [.ref a, .ref b1, .int (zI x2)] ∧ zGK G ∧ zSK G s ∧ (gT G a = 8) ∧ (gT G b1 = 10) ∧ (4 ≤ x2 ∧ x2 ≤ 4)) (fun G s _ => pV (fun G2 s2 => G2 = G ∧ zSK G s2 ∧ zFr [8, 10, 46] G s s2 ∧ True)) := by
  refine Con.mk hst (by decide) (fun G s vs h => by rw [h.1]; exact Nat.le_of_ble_eq_true rfl) ?_
  rintro X G s0 vs ⟨rfl, hG, hS0, ha, hb1, hx2⟩ rfl hx hq
  obtain rfl : x2 = 4 := by omega
  show JJ X E 4 G s0 0 0 [(0, .ref a), (1, .ref b1), (2, .int (zI 4))] 0 []
  refine j_aload_n hx 0 dX7_readAnd_0 rfl ?_
  refine j_aload_n hx 1 dX7_readAnd_1 rfl ?_
  refine j_iload_n hx 2 dX7_readAnd_2 rfl ?_
  refine j_callV hx hG (c_X7_readOne_4 hst a b1 4) lk_RX7_58 ha (by decide) rfl rfl rfl rfl [.ref b1, .int (zI 4)] ⟨rfl, hG, hS0, ha, hb1, (by omega)⟩ rfl rfl ⟨by decide, by decide⟩ ⟨by decide, by decide⟩ (k2 := 0) (n2 := 0) rfl rfl (Nat.le_of_ble_eq_true rfl) dX7_readAnd_3 (kVM (fun s1 hS_s1 hF_s1 q2 => ?_))
  refine j_iconst hx dX7_readAnd_6 ?_
  refine j_istore_n hx [(3, .int (zI 0)), (0, .ref a), (1, .ref b1), (2, .int (zI 4))] dX7_readAnd_7 (by decide) rfl ?_
  have c8_2 : ∀ (m_c8_2 : Nat) (v3 : Int) (s3 : zS), 2147483648 - v3 < m_c8_2 → (0 ≤ v3 ∧ v3 ≤ 150) → (zSK G s3) → (zFr [8, 10, 46] G s1 s3) → JJ X E 4 G s3 0 0 [(0, .ref a), (1, .ref b1), (2, .int (zI 4)), (3, .int (zI v3))] 8 [] := by
    intro m_c8_2
    induction m_c8_2 with
    | zero => intro v3 s3 hm_c8_2 fA4 hS_s3 hF_s3; exfalso; omega
    | succ m_c8_2 ih_c8_2 => 
      intro v3 s3 hm_c8_2 fA4 hS_s3 hF_s3
      refine j_iload_n hx 3 dX7_readAnd_8 rfl ?_
      refine j_sipush hx dX7_readAnd_9 rfl ?_
      refine j_icmp_ge hx 43 dX7_readAnd_12 rfl (by omega) ⟨by decide, by decide⟩ (fun h4 => ?_) (fun h4 => ?_)
      · skip
        exact j_vret hx hq rfl (by decide) (by decide) dX7_readAnd_43 ⟨rfl, rfl, hS_s3, (zFr_t (zFr_t zFr_rf hF_s1 (by decide)) hF_s3 (by decide)), trivial⟩
      · skip
        refine j_aload_n hx 1 dX7_readAnd_15 rfl ?_
        refine j_ldcT hx (i := 16) 18 (by decide) rfl rfl rfl dX7_readAnd_16 ?_
        refine j_callV hx hG (c_X9_takeWord hst b1 16) lk_RX7_50 hb1 (by decide) rfl rfl rfl rfl [.ref (zTa E 16)] ⟨rfl, hG, hS_s3, hb1, (by decide)⟩ rfl rfl ⟨by decide, by decide⟩ ⟨by decide, by decide⟩ (k2 := 0) (n2 := 0) rfl rfl (Nat.le_of_ble_eq_true rfl) dX7_readAnd_18 (kIM (fun v5 s7 hS_s7 hF_s7 q6 => ?_))
        refine j_if_eq hx 43 dX7_readAnd_21 rfl (by omega) (fun h7 => ?_) (fun h7 => ?_)
        · skip
          exact j_vret hx hq rfl (by decide) (by decide) dX7_readAnd_43 ⟨rfl, rfl, hS_s7, (zFr_t (zFr_t (zFr_t zFr_rf hF_s1 (by decide)) hF_s3 (by decide)) hF_s7 (by decide)), trivial⟩
        · skip
          refine j_aload_n hx 0 dX7_readAnd_24 rfl ?_
          refine j_aload_n hx 1 dX7_readAnd_25 rfl ?_
          refine j_iload_n hx 2 dX7_readAnd_26 rfl ?_
          refine j_callV hx hG (c_X7_readOne_4 hst a b1 4) lk_RX7_58 ha (by decide) rfl rfl rfl rfl [.ref b1, .int (zI 4)] ⟨rfl, hG, hS_s7, ha, hb1, (by omega)⟩ rfl rfl ⟨by decide, by decide⟩ ⟨by decide, by decide⟩ (k2 := 0) (n2 := 0) rfl rfl (Nat.le_of_ble_eq_true rfl) dX7_readAnd_27 (kVM (fun s8 hS_s8 hF_s8 q9 => ?_))
          refine j_aload_n hx 0 dX7_readAnd_30 rfl ?_
          refine j_bipush hx dX7_readAnd_31 rfl ?_
          refine j_iconst hx dX7_readAnd_33 ?_
          refine j_callV hx hG (c_X7_emit hst a 12 0) lk_RX7_54 ha (by decide) rfl rfl rfl rfl [.int (zI 12), .int (zI 0)] ⟨rfl, hG, hS_s8, ha, (by omega), (by omega)⟩ rfl rfl ⟨by decide, by decide⟩ ⟨by decide, by decide⟩ (k2 := 0) (n2 := 0) rfl rfl (Nat.le_of_ble_eq_true rfl) dX7_readAnd_34 (kVM (fun s9 hS_s9 hF_s9 q11 => ?_))
          refine j_iinc hx 3 [(3, .int (zI (v3 + 1))), (0, .ref a), (1, .ref b1), (2, .int (zI 4))] dX7_readAnd_37 rfl (by omega) (by decide) rfl ?_
          refine j_goto hx 8 dX7_readAnd_40 rfl ?_
          exact j_sub [1, 2, 3, 0] [(0, .ref a), (1, .ref b1), (2, .int (zI 4)), (3, .int (zI (v3 + 1)))] rfl (ih_c8_2 (v3 + 1) s9 (by omega) (by omega) hS_s9 (zFr_t (zFr_t (zFr_t (zFr_t zFr_rf hF_s3 (by decide)) hF_s7 (by decide)) hF_s8 (by decide)) hF_s9 (by decide)))
  exact j_sub [1, 2, 3, 0] [(0, .ref a), (1, .ref b1), (2, .int (zI 4)), (3, .int (zI 0))] rfl (c8_2 (2147483648 * 4) 0 s1 (by omega) (by omega) hS_s1 zFr_rf)

set_option maxHeartbeats 4000000 in
set_option maxRecDepth 20000 in
theorem c_X7_readOr_4 {E : zE} {l : Launch} (hst : l.stackTraces = false) (a : Nat) (b1 : Nat) (x2 : Int) : Con E l yX7_readOr cX7_readOr 4 none { frames := 15, cells := 0, slots := 0, locals := 409 } (fun G s vs => vs = [.ref a, .ref b1, .int (zI x2)] ∧ zGK G ∧ zSK G s ∧ (gT G a = 8) ∧ (gT G b1 = 10) ∧ (4 ≤ x2 ∧ x2 ≤ 4)) (fun G s _ => pV (fun G2 s2 => G2 = G ∧ zSK G s2 ∧ zFr [8, 10, 46] G s s2 ∧ True)) := by
  refine Con.mk hst (by decide) (fun G s vs h => by rw [h.1]; exact Nat.le_of_ble_eq_true rfl) ?_
  rintro X G s0 vs ⟨rfl, hG, hS0, ha, hb1, hx2⟩ rfl hx hq
  obtain rfl : x2 = 4 := by omega
  show JJ X E 4 G s0 0 0 [(0, .ref a), (1, .ref b1), (2, .int (zI 4))] 0 []
  refine j_aload_n hx 0 dX7_readOr_0 rfl ?_
  refine j_aload_n hx 1 dX7_readOr_1 rfl ?_
  refine j_iload_n hx 2 dX7_readOr_2 rfl ?_
  refine j_callV hx hG (c_X7_readAnd_4 hst a b1 4) lk_RX7_45 ha (by decide) rfl rfl rfl rfl [.ref b1, .int (zI 4)] ⟨rfl, hG, hS0, ha, hb1, (by omega)⟩ rfl rfl ⟨by decide, by decide⟩ ⟨by decide, by decide⟩ (k2 := 0) (n2 := 0) rfl rfl (Nat.le_of_ble_eq_true rfl) dX7_readOr_3 (kVM (fun s1 hS_s1 hF_s1 q2 => ?_))
  refine j_iconst hx dX7_readOr_6 ?_
  refine j_istore_n hx [(3, .int (zI 0)), (0, .ref a), (1, .ref b1), (2, .int (zI 4))] dX7_readOr_7 (by decide) rfl ?_
  have c8_2 : ∀ (m_c8_2 : Nat) (v3 : Int) (s3 : zS), 2147483648 - v3 < m_c8_2 → (0 ≤ v3 ∧ v3 ≤ 150) → (zSK G s3) → (zFr [8, 10, 46] G s1 s3) → JJ X E 4 G s3 0 0 [(0, .ref a), (1, .ref b1), (2, .int (zI 4)), (3, .int (zI v3))] 8 [] := by
    intro m_c8_2
    induction m_c8_2 with
    | zero => intro v3 s3 hm_c8_2 fA4 hS_s3 hF_s3; exfalso; omega
    | succ m_c8_2 ih_c8_2 => 
      intro v3 s3 hm_c8_2 fA4 hS_s3 hF_s3
      refine j_iload_n hx 3 dX7_readOr_8 rfl ?_
      refine j_sipush hx dX7_readOr_9 rfl ?_
      refine j_icmp_ge hx 43 dX7_readOr_12 rfl (by omega) ⟨by decide, by decide⟩ (fun h4 => ?_) (fun h4 => ?_)
      · skip
        exact j_vret hx hq rfl (by decide) (by decide) dX7_readOr_43 ⟨rfl, rfl, hS_s3, (zFr_t (zFr_t zFr_rf hF_s1 (by decide)) hF_s3 (by decide)), trivial⟩
      · skip
        refine j_aload_n hx 1 dX7_readOr_15 rfl ?_
        refine j_ldcT hx (i := 17) 19 (by decide) rfl rfl rfl dX7_readOr_16 ?_
        refine j_callV hx hG (c_X9_takeWord hst b1 17) lk_RX7_50 hb1 (by decide) rfl rfl rfl rfl [.ref (zTa E 17)] ⟨rfl, hG, hS_s3, hb1, (by decide)⟩ rfl rfl ⟨by decide, by decide⟩ ⟨by decide, by decide⟩ (k2 := 0) (n2 := 0) rfl rfl (Nat.le_of_ble_eq_true rfl) dX7_readOr_18 (kIM (fun v5 s7 hS_s7 hF_s7 q6 => ?_))
        refine j_if_eq hx 43 dX7_readOr_21 rfl (by omega) (fun h7 => ?_) (fun h7 => ?_)
        · skip
          exact j_vret hx hq rfl (by decide) (by decide) dX7_readOr_43 ⟨rfl, rfl, hS_s7, (zFr_t (zFr_t (zFr_t zFr_rf hF_s1 (by decide)) hF_s3 (by decide)) hF_s7 (by decide)), trivial⟩
        · skip
          refine j_aload_n hx 0 dX7_readOr_24 rfl ?_
          refine j_aload_n hx 1 dX7_readOr_25 rfl ?_
          refine j_iload_n hx 2 dX7_readOr_26 rfl ?_
          refine j_callV hx hG (c_X7_readAnd_4 hst a b1 4) lk_RX7_45 ha (by decide) rfl rfl rfl rfl [.ref b1, .int (zI 4)] ⟨rfl, hG, hS_s7, ha, hb1, (by omega)⟩ rfl rfl ⟨by decide, by decide⟩ ⟨by decide, by decide⟩ (k2 := 0) (n2 := 0) rfl rfl (Nat.le_of_ble_eq_true rfl) dX7_readOr_27 (kVM (fun s8 hS_s8 hF_s8 q9 => ?_))
          refine j_aload_n hx 0 dX7_readOr_30 rfl ?_
          refine j_bipush hx dX7_readOr_31 rfl ?_
          refine j_iconst hx dX7_readOr_33 ?_
          refine j_callV hx hG (c_X7_emit hst a 13 0) lk_RX7_54 ha (by decide) rfl rfl rfl rfl [.int (zI 13), .int (zI 0)] ⟨rfl, hG, hS_s8, ha, (by omega), (by omega)⟩ rfl rfl ⟨by decide, by decide⟩ ⟨by decide, by decide⟩ (k2 := 0) (n2 := 0) rfl rfl (Nat.le_of_ble_eq_true rfl) dX7_readOr_34 (kVM (fun s9 hS_s9 hF_s9 q11 => ?_))
          refine j_iinc hx 3 [(3, .int (zI (v3 + 1))), (0, .ref a), (1, .ref b1), (2, .int (zI 4))] dX7_readOr_37 rfl (by omega) (by decide) rfl ?_
          refine j_goto hx 8 dX7_readOr_40 rfl ?_
          exact j_sub [1, 2, 3, 0] [(0, .ref a), (1, .ref b1), (2, .int (zI 4)), (3, .int (zI (v3 + 1)))] rfl (ih_c8_2 (v3 + 1) s9 (by omega) (by omega) hS_s9 (zFr_t (zFr_t (zFr_t (zFr_t zFr_rf hF_s3 (by decide)) hF_s7 (by decide)) hF_s8 (by decide)) hF_s9 (by decide)))
  exact j_sub [1, 2, 3, 0] [(0, .ref a), (1, .ref b1), (2, .int (zI 4)), (3, .int (zI 0))] rfl (c8_2 (2147483648 * 4) 0 s1 (by omega) (by omega) hS_s1 zFr_rf)

set_option maxHeartbeats 4000000 in
set_option maxRecDepth 20000 in
theorem c_X7_readOne_3 {E : zE} {l : Launch} (hst : l.stackTraces = false) (a : Nat) (b1 : Nat) (x2 : Int) : Con E l yX7_readOne cX7_readOne 4 none { frames := 16, cells := 0, slots := 0, locals := 432 } (fun G s vs => vs = [.ref a, .ref b1, .int (zI x2)] ∧ zGK G ∧ zSK G s ∧ (gT G a = 8) ∧ (gT G b1 = 10) ∧ (3 ≤ x2 ∧ x2 ≤ 3)) (fun G s _ => pV (fun G2 s2 => G2 = G ∧ zSK G s2 ∧ zFr [8, 10, 46] G s s2 ∧ True)) := by
  refine Con.mk hst (by decide) (fun G s vs h => by rw [h.1]; exact Nat.le_of_ble_eq_true rfl) ?_
  rintro X G s0 vs ⟨rfl, hG, hS0, ha, hb1, hx2⟩ rfl hx hq
  obtain rfl : x2 = 3 := by omega
  show JJ X E 4 G s0 0 0 [(0, .ref a), (1, .ref b1), (2, .int (zI 3))] 0 []
  refine j_aload_n hx 1 dX7_readOne_0 rfl ?_
  refine j_callV hx hG (c_X9_peek hst b1) lk_RX7_35 hb1 (by decide) rfl rfl rfl rfl [] ⟨rfl, hG, hS0, hb1⟩ rfl rfl ⟨by decide, by decide⟩ ⟨by decide, by decide⟩ (k2 := 0) (n2 := 0) rfl rfl (Nat.le_of_ble_eq_true rfl) dX7_readOne_1 (kIM (fun v1 s1 hS_s1 hF_s1 q2 => ?_))
  refine j_pop hx dX7_readOne_4 rfl ?_
  refine j_aload_n hx 1 dX7_readOne_5 rfl ?_
  have f3 := zf hS_s1 hb1 (k := 3) rfl
  refine gN10_3 hx hG hb1 kf_RX7_63 rfl dX7_readOne_6 ?_
  refine j_istore_n hx [(3, .int (zI ((s1 b1 3)))), (0, .ref a), (1, .ref b1), (2, .int (zI 3))] dX7_readOne_9 (by decide) rfl ?_
  refine j_aload_n hx 2 dX7_readOne_10 rfl ?_
  refine j_bipush hx dX7_readOne_11 rfl ?_
  refine j_callV hx hG (c_X9_takeSign hst b1 91) lk_RX7_66 hb1 (by decide) rfl rfl rfl rfl [.int (zI 91)] ⟨rfl, hG, hS_s1, hb1, (by omega)⟩ rfl rfl ⟨by decide, by decide⟩ ⟨by decide, by decide⟩ (k2 := 0) (n2 := 0) rfl rfl (Nat.le_of_ble_eq_true rfl) dX7_readOne_13 (kIM (fun v4 s2 hS_s2 hF_s2 q5 => ?_))
  refine j_if_eq hx 59 dX7_readOne_16 rfl (by omega) (fun h6 => ?_) (fun h6 => ?_)
  · skip
    refine j_aload_n hx 2 dX7_readOne_59 rfl ?_
    refine j_ldcT hx (i := 8) 8 (by decide) rfl rfl rfl dX7_readOne_60 ?_
    refine j_callV hx hG (c_X9_takeWord hst b1 8) lk_RX7_50 hb1 (by decide) rfl rfl rfl rfl [.ref (zTa E 8)] ⟨rfl, hG, hS_s2, hb1, (by decide)⟩ rfl rfl ⟨by decide, by decide⟩ ⟨by decide, by decide⟩ (k2 := 0) (n2 := 0) rfl rfl (Nat.le_of_ble_eq_true rfl) dX7_readOne_62 (kIM (fun v7 s3 hS_s3 hF_s3 q8 => ?_))
    refine j_if_eq hx 109 dX7_readOne_65 rfl (by omega) (fun h9 => ?_) (fun h9 => ?_)
    · skip
      refine j_aload_n hx 1 dX7_readOne_109 rfl ?_
      refine j_aload_n hx 2 dX7_readOne_110 rfl ?_
      refine j_callV hx hG (c_X7_readFact hst a b1) lk_RX7_80 ha (by decide) rfl rfl rfl rfl [.ref b1] ⟨rfl, hG, hS_s3, ha, hb1⟩ rfl rfl ⟨by decide, by decide⟩ ⟨by decide, by decide⟩ (k2 := 0) (n2 := 0) rfl rfl (Nat.le_of_ble_eq_true rfl) dX7_readOne_111 (kVM (fun s4 hS_s4 hF_s4 q11 => ?_))
      exact j_vret hx hq rfl (by decide) (by decide) dX7_readOne_114 ⟨rfl, rfl, hS_s4, (zFr_t (zFr_t (zFr_t (zFr_t zFr_rf hF_s1 (by decide)) hF_s2 (by decide)) hF_s3 (by decide)) hF_s4 (by decide)), trivial⟩
    · skip
      refine j_aload_n hx 2 dX7_readOne_68 rfl ?_
      refine j_iload_n hx 3 dX7_readOne_69 rfl ?_
      refine j_bipush hx dX7_readOne_70 rfl ?_
      refine j_icmp_lt hx 79 dX7_readOne_72 rfl ⟨by decide, by decide⟩ ⟨by decide, by decide⟩ (fun h12 => ?_) (fun h12 => absurd h12 (by omega))
      refine j_iconst hx dX7_readOne_79 ?_
      refine j_iconst hx dX7_readOne_80 ?_
      refine j_iload_n hx 0 dX7_readOne_81 rfl ?_
      refine j_callV hx hG (c_X9_failIf hst b1 0 3 ((s1 b1 3))) lk_RX7_70 hb1 (by decide) rfl rfl rfl rfl [.int (zI 0), .int (zI 3), .int (zI ((s1 b1 3)))] ⟨rfl, hG, hS_s3, hb1, (by omega), (by omega), (by omega)⟩ rfl rfl ⟨by decide, by decide⟩ ⟨by decide, by decide⟩ (k2 := 0) (n2 := 0) rfl rfl (Nat.le_of_ble_eq_true rfl) dX7_readOne_82 (kVM (fun s5 hS_s5 hF_s5 q14 => ?_))
      refine j_iload_n hx 3 dX7_readOne_85 rfl ?_
      refine j_bipush hx dX7_readOne_86 rfl ?_
      refine j_icmp_ge hx 114 dX7_readOne_88 rfl ⟨by decide, by decide⟩ ⟨by decide, by decide⟩ (fun h15 => absurd h15 (by omega)) (fun h15 => ?_)
      refine j_aload_n hx 1 dX7_readOne_91 rfl ?_
      refine j_aload_n hx 2 dX7_readOne_92 rfl ?_
      refine j_iload_n hx 3 dX7_readOne_93 rfl ?_
      refine j_iconst hx dX7_readOne_94 ?_
      refine j_iadd hx (r := 4) dX7_readOne_95 (by omega) ?_
      refine j_callV hx hG (c_X7_readOne_4 hst a b1 4) lk_RX7_58 ha (by decide) rfl rfl rfl rfl [.ref b1, .int (zI 4)] ⟨rfl, hG, hS_s5, ha, hb1, (by omega)⟩ rfl rfl ⟨by decide, by decide⟩ ⟨by decide, by decide⟩ (k2 := 0) (n2 := 0) rfl rfl (Nat.le_of_ble_eq_true rfl) dX7_readOne_96 (kVM (fun s6 hS_s6 hF_s6 q17 => ?_))
      refine j_aload_n hx 1 dX7_readOne_99 rfl ?_
      refine j_bipush hx dX7_readOne_100 rfl ?_
      refine j_iconst hx dX7_readOne_102 ?_
      refine j_callV hx hG (c_X7_emit hst a 11 0) lk_RX7_54 ha (by decide) rfl rfl rfl rfl [.int (zI 11), .int (zI 0)] ⟨rfl, hG, hS_s6, ha, (by omega), (by omega)⟩ rfl rfl ⟨by decide, by decide⟩ ⟨by decide, by decide⟩ (k2 := 0) (n2 := 0) rfl rfl (Nat.le_of_ble_eq_true rfl) dX7_readOne_103 (kVM (fun s7 hS_s7 hF_s7 q19 => ?_))
      refine j_goto hx 114 dX7_readOne_106 rfl ?_
      exact j_vret hx hq rfl (by decide) (by decide) dX7_readOne_114 ⟨rfl, rfl, hS_s7, (zFr_t (zFr_t (zFr_t (zFr_t (zFr_t (zFr_t zFr_rf hF_s1 (by decide)) hF_s2 (by decide)) hF_s3 (by decide)) hF_s5 (by decide)) hF_s6 (by decide)) hF_s7 (by decide)), trivial⟩
  · skip
    refine j_aload_n hx 2 dX7_readOne_19 rfl ?_
    refine j_iload_n hx 3 dX7_readOne_20 rfl ?_
    refine j_bipush hx dX7_readOne_21 rfl ?_
    refine j_icmp_lt hx 30 dX7_readOne_23 rfl ⟨by decide, by decide⟩ ⟨by decide, by decide⟩ (fun h20 => ?_) (fun h20 => absurd h20 (by omega))
    refine j_iconst hx dX7_readOne_30 ?_
    refine j_iconst hx dX7_readOne_31 ?_
    refine j_iload_n hx 0 dX7_readOne_32 rfl ?_
    refine j_callV hx hG (c_X9_failIf hst b1 0 3 ((s1 b1 3))) lk_RX7_70 hb1 (by decide) rfl rfl rfl rfl [.int (zI 0), .int (zI 3), .int (zI ((s1 b1 3)))] ⟨rfl, hG, hS_s2, hb1, (by omega), (by omega), (by omega)⟩ rfl rfl ⟨by decide, by decide⟩ ⟨by decide, by decide⟩ (k2 := 0) (n2 := 0) rfl rfl (Nat.le_of_ble_eq_true rfl) dX7_readOne_33 (kVM (fun s8 hS_s8 hF_s8 q22 => ?_))
    refine j_iload_n hx 3 dX7_readOne_36 rfl ?_
    refine j_bipush hx dX7_readOne_37 rfl ?_
    refine j_icmp_ge hx 114 dX7_readOne_39 rfl ⟨by decide, by decide⟩ ⟨by decide, by decide⟩ (fun h23 => absurd h23 (by omega)) (fun h23 => ?_)
    refine j_aload_n hx 1 dX7_readOne_42 rfl ?_
    refine j_aload_n hx 2 dX7_readOne_43 rfl ?_
    refine j_iload_n hx 3 dX7_readOne_44 rfl ?_
    refine j_iconst hx dX7_readOne_45 ?_
    refine j_iadd hx (r := 4) dX7_readOne_46 (by omega) ?_
    refine j_callV hx hG (c_X7_readOr_4 hst a b1 4) lk_RX7_31 ha (by decide) rfl rfl rfl rfl [.ref b1, .int (zI 4)] ⟨rfl, hG, hS_s8, ha, hb1, (by omega)⟩ rfl rfl ⟨by decide, by decide⟩ ⟨by decide, by decide⟩ (k2 := 0) (n2 := 0) rfl rfl (Nat.le_of_ble_eq_true rfl) dX7_readOne_47 (kVM (fun s9 hS_s9 hF_s9 q25 => ?_))
    refine j_aload_n hx 2 dX7_readOne_50 rfl ?_
    refine j_bipush hx dX7_readOne_51 rfl ?_
    refine j_callV hx hG (c_X9_needSign hst b1 93) lk_RX7_74 hb1 (by decide) rfl rfl rfl rfl [.int (zI 93)] ⟨rfl, hG, hS_s9, hb1, (by omega)⟩ rfl rfl ⟨by decide, by decide⟩ ⟨by decide, by decide⟩ (k2 := 0) (n2 := 0) rfl rfl (Nat.le_of_ble_eq_true rfl) dX7_readOne_53 (kVM (fun s10 hS_s10 hF_s10 q27 => ?_))
    refine j_goto hx 114 dX7_readOne_56 rfl ?_
    exact j_vret hx hq rfl (by decide) (by decide) dX7_readOne_114 ⟨rfl, rfl, hS_s10, (zFr_t (zFr_t (zFr_t (zFr_t (zFr_t zFr_rf hF_s1 (by decide)) hF_s2 (by decide)) hF_s8 (by decide)) hF_s9 (by decide)) hF_s10 (by decide)), trivial⟩
