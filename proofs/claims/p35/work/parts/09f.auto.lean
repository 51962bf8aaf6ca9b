set_option maxHeartbeats 4000000 in
set_option maxRecDepth 20000 in
theorem c_X3_become {E : zE} {l : Launch} (hst : l.stackTraces = false) (a : Nat) (b1 : Nat) : Con E l yX3_become cX3_become 3 none { frames := 3, cells := 0, slots := 0, locals := 65 } (fun G s vs => vs = [.ref a, .ref b1] ∧ zGK G ∧ zSK G s ∧ (gT G a = 4) ∧ (gT G b1 = 4)) (fun G s _ => pV (fun G2 s2 => G2 = G ∧ zSK G s2 ∧ zFr [1, 4, 7, 41, 44, 49, 50] G s s2 ∧ True)) := by
  refine Con.mk hst (by decide) (fun G s vs h => by rw [h.1]; exact Nat.le_of_ble_eq_true rfl) ?_
  rintro X G s0 vs ⟨rfl, hG, hS0, ha, hb1⟩ rfl hx hq
  show JJ X E 3 G s0 0 0 [(0, .ref a), (1, .ref b1)] 0 []
  refine j_aload_n hx 0 dX3_become_0 rfl ?_
  refine g4_1 hx hG ha kf_RX3_14 dX3_become_1 ?_
  refine j_aload_n hx 1 dX3_become_4 rfl ?_
  refine g4_1 hx hG hb1 kf_RX3_14 dX3_become_5 ?_
  refine j_callV hx hG (c_X0_become hst (gP G a 1) (gP G b1 1)) lk_RX3_50 (zr (k := 1) (t2 := 1) hG ha rfl) (by decide) rfl rfl rfl rfl [.ref (gP G b1 1)] ⟨rfl, hG, hS0, (zr (k := 1) (t2 := 1) hG ha rfl), (zr (k := 1) (t2 := 1) hG hb1 rfl)⟩ rfl rfl ⟨by decide, by decide⟩ ⟨by decide, by decide⟩ (k2 := 0) (n2 := 0) rfl rfl (Nat.le_of_ble_eq_true rfl) dX3_become_8 (kVM (fun s1 hS_s1 hF_s1 q2 => ?_))
  refine j_iconst hx dX3_become_11 ?_
  refine j_istore_n hx [(2, .int (zI 0)), (0, .ref a), (1, .ref b1)] dX3_become_12 (by decide) rfl ?_
  have c13_2 : ∀ (m_c13_2 : Nat) (v3 : Int) (s3 : zS), 2147483648 - v3 < m_c13_2 → (0 ≤ v3 ∧ v3 ≤ 3) → (zSK G s3) → (zFr [44] G s1 s3) → JJ X E 3 G s3 0 0 [(0, .ref a), (1, .ref b1), (2, .int (zI v3))] 13 [] := by
    intro m_c13_2
    induction m_c13_2 with
    | zero => intro v3 s3 hm_c13_2 fA4 hS_s3 hF_s3; exfalso; omega
    | succ m_c13_2 ih_c13_2 => 
      intro v3 s3 hm_c13_2 fA4 hS_s3 hF_s3
      refine j_iload_n hx 2 dX3_become_13 rfl ?_
      refine j_aload_n hx 0 dX3_become_14 rfl ?_
      refine g4_2 hx hG ha kf_RX3_18 dX3_become_15 ?_
      refine j_alen hx hG (zr (k := 2) (t2 := 44) hG ha rfl) (by decide) (by decide) (zlen hG (zr (k := 2) (t2 := 44) hG ha rfl) (n := 3) rfl rfl) dX3_become_18 ?_
      refine j_icmp_ge hx 49 dX3_become_19 rfl (by omega) ⟨by decide, by decide⟩ (fun h4 => ?_) (fun h4 => ?_)
      · skip
        refine j_iconst hx dX3_become_49 ?_
        refine j_istore_n hx [(2, .int (zI 0)), (0, .ref a), (1, .ref b1)] dX3_become_50 (by decide) rfl ?_
        have c51_7 : ∀ (m_c51_7 : Nat) (v5 : Int) (s8 : zS), 2147483648 - v5 < m_c51_7 → (0 ≤ v5 ∧ v5 ≤ 6) → (zSK G s8) → (zFr [49] G s3 s8) → JJ X E 3 G s8 0 0 [(0, .ref a), (1, .ref b1), (2, .int (zI v5))] 51 [] := by
          intro m_c51_7
          induction m_c51_7 with
          | zero => intro v5 s8 hm_c51_7 fA9 hS_s8 hF_s8; exfalso; omega
          | succ m_c51_7 ih_c51_7 => 
            intro v5 s8 hm_c51_7 fA9 hS_s8 hF_s8
            refine j_iload_n hx 2 dX3_become_51 rfl ?_
            refine j_aload_n hx 0 dX3_become_52 rfl ?_
            refine g4_3 hx hG ha kf_RX3_24 dX3_become_53 ?_
            refine j_alen hx hG (zr (k := 3) (t2 := 49) hG ha rfl) (by decide) (by decide) (zlen hG (zr (k := 3) (t2 := 49) hG ha rfl) (n := 6) rfl rfl) dX3_become_56 ?_
            refine j_icmp_ge hx 87 dX3_become_57 rfl (by omega) ⟨by decide, by decide⟩ (fun h6 => ?_) (fun h6 => ?_)
            · skip
              refine j_iconst hx dX3_become_87 ?_
              refine j_istore_n hx [(2, .int (zI 0)), (0, .ref a), (1, .ref b1)] dX3_become_88 (by decide) rfl ?_
              have c89_12 : ∀ (m_c89_12 : Nat) (v7 : Int) (s13 : zS), 2147483648 - v7 < m_c89_12 → (0 ≤ v7 ∧ v7 ≤ 21) → (zSK G s13) → (zFr [50] G s8 s13) → JJ X E 3 G s13 0 0 [(0, .ref a), (1, .ref b1), (2, .int (zI v7))] 89 [] := by
                intro m_c89_12
                induction m_c89_12 with
                | zero => intro v7 s13 hm_c89_12 fA14 hS_s13 hF_s13; exfalso; omega
                | succ m_c89_12 ih_c89_12 => 
                  intro v7 s13 hm_c89_12 fA14 hS_s13 hF_s13
                  refine j_iload_n hx 2 dX3_become_89 rfl ?_
                  refine j_aload_n hx 0 dX3_become_90 rfl ?_
                  refine g4_4 hx hG ha kf_RX3_28 dX3_become_91 ?_
                  refine j_alen hx hG (zr (k := 4) (t2 := 50) hG ha rfl) (by decide) (by decide) (zlen hG (zr (k := 4) (t2 := 50) hG ha rfl) (n := 21) rfl rfl) dX3_become_94 ?_
                  refine j_icmp_ge hx 125 dX3_become_95 rfl (by omega) ⟨by decide, by decide⟩ (fun h8 => ?_) (fun h8 => ?_)
                  · skip
                    refine j_aload_n hx 0 dX3_become_125 rfl ?_
                    refine j_iconst hx dX3_become_126 ?_
                    refine p4_7 hx hG ha kf_RX3_61 (by omega) dX3_become_127 ?_
                    obtain ⟨s17, e_s17⟩ : ∃ z, z = zU s13 a 7 0 := ⟨_, rfl⟩
                    rw [← e_s17]
                    have hS_s17 : zSK G s17 := by rw [e_s17]; exact zSK_F hS_s13 ha rfl rfl rfl (by omega)
                    refine j_aload_n hx 0 dX3_become_130 rfl ?_
                    refine j_aload_n hx 1 dX3_become_131 rfl ?_
                    have f9 := zf hS_s17 hb1 (k := 8) rfl
                    refine g4_8 hx hG hb1 kf_RX3_65 rfl dX3_become_132 ?_
                    refine p4_8 hx hG ha kf_RX3_65 (by omega) dX3_become_135 ?_
                    obtain ⟨s18, e_s18⟩ : ∃ z, z = zU s17 a 8 ((s17 b1 8)) := ⟨_, rfl⟩
                    rw [← e_s18]
                    have hS_s18 : zSK G s18 := by rw [e_s18]; exact zSK_F hS_s17 ha rfl rfl rfl (by omega)
                    refine j_aload_n hx 0 dX3_become_138 rfl ?_
                    refine j_aload_n hx 1 dX3_become_139 rfl ?_
                    have f10 := zf hS_s18 hb1 (k := 9) rfl
                    refine g4_9 hx hG hb1 kf_RX3_68 rfl dX3_become_140 ?_
                    refine p4_9 hx hG ha kf_RX3_68 dX3_become_143 ?_
                    obtain ⟨s19, e_s19⟩ : ∃ z, z = zU s18 a 9 ((s18 b1 9)) := ⟨_, rfl⟩
                    rw [← e_s19]
                    have hS_s19 : zSK G s19 := by rw [e_s19]; exact zSK_F hS_s18 ha rfl rfl rfl (by omega)
                    refine j_aload_n hx 0 dX3_become_146 rfl ?_
                    refine j_aload_n hx 1 dX3_become_147 rfl ?_
                    have f11 := zf hS_s19 hb1 (k := 10) rfl
                    refine g4_10 hx hG hb1 kf_RX3_71 rfl dX3_become_148 ?_
                    refine p4_10 hx hG ha kf_RX3_71 dX3_become_151 ?_
                    obtain ⟨s20, e_s20⟩ : ∃ z, z = zU s19 a 10 ((s19 b1 10)) := ⟨_, rfl⟩
                    rw [← e_s20]
                    have hS_s20 : zSK G s20 := by rw [e_s20]; exact zSK_F hS_s19 ha rfl rfl rfl (by omega)
                    exact j_vret hx hq rfl (by decide) (by decide) dX3_become_154 ⟨rfl, rfl, hS_s20, (zFr_u (zFr_u (zFr_u (zFr_u (zFr_t (zFr_t (zFr_t (zFr_t zFr_rf hF_s1 (by decide)) hF_s3 (by decide)) hF_s8 (by decide)) hF_s13 (by decide)) e_s17 ha (by decide)) e_s18 ha (by decide)) e_s19 ha (by decide)) e_s20 ha (by decide)), trivial⟩
                  · skip
                    refine j_iload_n hx 2 dX3_become_98 rfl ?_
                    refine j_aload_n hx 1 dX3_become_99 rfl ?_
                    refine g4_4 hx hG hb1 kf_RX3_28 dX3_become_100 ?_
                    refine j_alen hx hG (zr (k := 4) (t2 := 50) hG hb1 rfl) (by decide) (by decide) (zlen hG (zr (k := 4) (t2 := 50) hG hb1 rfl) (n := 21) rfl rfl) dX3_become_103 ?_
                    refine j_icmp_ge hx 125 dX3_become_104 rfl (by omega) ⟨by decide, by decide⟩ (fun h12 => absurd h12 (by omega)) (fun h12 => ?_)
                    refine j_aload_n hx 0 dX3_become_107 rfl ?_
                    refine g4_4 hx hG ha kf_RX3_28 dX3_become_108 ?_
                    refine j_iload_n hx 2 dX3_become_111 rfl ?_
                    refine j_aload_n hx 1 dX3_become_112 rfl ?_
                    refine g4_4 hx hG hb1 kf_RX3_28 dX3_become_113 ?_
                    refine j_iload_n hx 2 dX3_become_116 rfl ?_
                    have f13 := zaI (j := (v7).toNat) hS_s13 (zr (k := 4) (t2 := 50) hG hb1 rfl) rfl (zlen hG (zr (k := 4) (t2 := 50) hG hb1 rfl) (n := 21) rfl rfl) (show 0 ≤ v7 by omega) (by omega) rfl
                    refine j_iald hx hG (zr (k := 4) (t2 := 50) hG hb1 rfl) (by decide) rfl (zlen hG (zr (k := 4) (t2 := 50) hG hb1 rfl) (n := 21) rfl rfl) (by omega) (by omega) (j := (v7).toNat) rfl rfl dX3_become_117 ?_
                    refine j_iast hx hG (zr (k := 4) (t2 := 50) hG ha rfl) (by decide) rfl (zlen hG (zr (k := 4) (t2 := 50) hG ha rfl) (n := 21) rfl rfl) (by omega) (by omega) (j := (v7).toNat) rfl dX3_become_118 ?_
                    obtain ⟨s21, e_s21⟩ : ∃ z, z = zU s13 (gP G a 4) (v7).toNat ((s13 (gP G b1 4) (v7).toNat)) := ⟨_, rfl⟩
                    rw [← e_s21]
                    have hS_s21 : zSK G s21 := by rw [e_s21]; exact zSK_A hS_s13 (zr (k := 4) (t2 := 50) hG ha rfl) rfl rfl rfl (by omega)
                    refine j_iinc hx 2 [(2, .int (zI (v7 + 1))), (0, .ref a), (1, .ref b1)] dX3_become_119 rfl (by omega) (by decide) rfl ?_
                    refine j_goto hx 89 dX3_become_122 rfl ?_
                    exact j_sub [1, 2, 0] [(0, .ref a), (1, .ref b1), (2, .int (zI (v7 + 1)))] rfl (ih_c89_12 (v7 + 1) s21 (by omega) (by omega) hS_s21 (zFr_u (zFr_t zFr_rf hF_s13 (by decide)) e_s21 (zr (k := 4) (t2 := 50) hG ha rfl) (by decide)))
              exact j_sub [1, 2, 0] [(0, .ref a), (1, .ref b1), (2, .int (zI 0))] rfl (c89_12 (2147483648 * 4) 0 s8 (by omega) (by omega) hS_s8 zFr_rf)
            · skip
              refine j_iload_n hx 2 dX3_become_60 rfl ?_
              refine j_aload_n hx 1 dX3_become_61 rfl ?_
              refine g4_3 hx hG hb1 kf_RX3_24 dX3_become_62 ?_
              refine j_alen hx hG (zr (k := 3) (t2 := 49) hG hb1 rfl) (by decide) (by decide) (zlen hG (zr (k := 3) (t2 := 49) hG hb1 rfl) (n := 6) rfl rfl) dX3_become_65 ?_
              refine j_icmp_ge hx 87 dX3_become_66 rfl (by omega) ⟨by decide, by decide⟩ (fun h14 => absurd h14 (by omega)) (fun h14 => ?_)
              refine j_aload_n hx 0 dX3_become_69 rfl ?_
              refine g4_3 hx hG ha kf_RX3_24 dX3_become_70 ?_
              refine j_iload_n hx 2 dX3_become_73 rfl ?_
              refine j_aload_n hx 1 dX3_become_74 rfl ?_
              refine g4_3 hx hG hb1 kf_RX3_24 dX3_become_75 ?_
              refine j_iload_n hx 2 dX3_become_78 rfl ?_
              refine j_aald hx hG hS_s8 (zr (k := 3) (t2 := 49) hG hb1 rfl) (by decide) (by decide) rfl (zlen hG (zr (k := 3) (t2 := 49) hG hb1 rfl) (n := 6) rfl rfl) (by omega) (by omega) dX3_become_79 (fun h15 => ?_) (fun h16 h17 => ?_)
              · skip
                refine j_aastN hx hG (zr (k := 3) (t2 := 49) hG ha rfl) (by decide) rfl (zlen hG (zr (k := 3) (t2 := 49) hG ha rfl) (n := 6) rfl rfl) (by omega) (by omega) dX3_become_80 ?_
                obtain ⟨s22, e_s22⟩ : ∃ z, z = zU s8 (gP G a 3) (v5).toNat 0 := ⟨_, rfl⟩
                rw [← e_s22]
                have hS_s22 : zSK G s22 := by rw [e_s22]; exact zSK_d hS_s8 (zr (k := 3) (t2 := 49) hG ha rfl) (fun _ => rfl) (fun _ => rfl) rfl (Or.inl rfl)
                refine j_iinc hx 2 [(2, .int (zI (v5 + 1))), (0, .ref a), (1, .ref b1)] dX3_become_81 rfl (by omega) (by decide) rfl ?_
                refine j_goto hx 51 dX3_become_84 rfl ?_
                exact j_sub [1, 2, 0] [(0, .ref a), (1, .ref b1), (2, .int (zI (v5 + 1)))] rfl (ih_c51_7 (v5 + 1) s22 (by omega) (by omega) hS_s22 (zFr_u (zFr_t zFr_rf hF_s8 (by decide)) e_s22 (zr (k := 3) (t2 := 49) hG ha rfl) (by decide)))
              · skip
                refine j_aast6 hx hG (zr (k := 3) (t2 := 49) hG ha rfl) (by decide) rfl h17 (by decide) rfl rfl rfl rfl (zlen hG (zr (k := 3) (t2 := 49) hG ha rfl) (n := 6) rfl rfl) (by omega) (by omega) dX3_become_80 ?_
                obtain ⟨s23, e_s23⟩ : ∃ z, z = zU s8 (gP G a 3) (v5).toNat ((((((s8 (gP G b1 3) (v5).toNat).toNat - 1) : Nat) : Int)) + 1) := ⟨_, rfl⟩
                rw [← e_s23]
                have hS_s23 : zSK G s23 := by rw [e_s23]; exact zSK_d hS_s8 (zr (k := 3) (t2 := 49) hG ha rfl) (fun _ => rfl) (fun _ => rfl) rfl (zdyn h17)
                refine j_iinc hx 2 [(2, .int (zI (v5 + 1))), (0, .ref a), (1, .ref b1)] dX3_become_81 rfl (by omega) (by decide) rfl ?_
                refine j_goto hx 51 dX3_become_84 rfl ?_
                exact j_sub [1, 2, 0] [(0, .ref a), (1, .ref b1), (2, .int (zI (v5 + 1)))] rfl (ih_c51_7 (v5 + 1) s23 (by omega) (by omega) hS_s23 (zFr_u (zFr_t zFr_rf hF_s8 (by decide)) e_s23 (zr (k := 3) (t2 := 49) hG ha rfl) (by decide)))
        exact j_sub [1, 2, 0] [(0, .ref a), (1, .ref b1), (2, .int (zI 0))] rfl (c51_7 (2147483648 * 4) 0 s3 (by omega) (by omega) hS_s3 zFr_rf)
      · skip
        refine j_iload_n hx 2 dX3_become_22 rfl ?_
        refine j_aload_n hx 1 dX3_become_23 rfl ?_
        refine g4_2 hx hG hb1 kf_RX3_18 dX3_become_24 ?_
        refine j_alen hx hG (zr (k := 2) (t2 := 44) hG hb1 rfl) (by decide) (by decide) (zlen hG (zr (k := 2) (t2 := 44) hG hb1 rfl) (n := 3) rfl rfl) dX3_become_27 ?_
        refine j_icmp_ge hx 49 dX3_become_28 rfl (by omega) ⟨by decide, by decide⟩ (fun h18 => absurd h18 (by omega)) (fun h18 => ?_)
        refine j_aload_n hx 0 dX3_become_31 rfl ?_
        refine g4_2 hx hG ha kf_RX3_18 dX3_become_32 ?_
        refine j_iload_n hx 2 dX3_become_35 rfl ?_
        refine j_aload_n hx 1 dX3_become_36 rfl ?_
        refine g4_2 hx hG hb1 kf_RX3_18 dX3_become_37 ?_
        refine j_iload_n hx 2 dX3_become_40 rfl ?_
        have f19 := zaI (j := (v3).toNat) hS_s3 (zr (k := 2) (t2 := 44) hG hb1 rfl) rfl (zlen hG (zr (k := 2) (t2 := 44) hG hb1 rfl) (n := 3) rfl rfl) (show 0 ≤ v3 by omega) (by omega) rfl
        refine j_iald hx hG (zr (k := 2) (t2 := 44) hG hb1 rfl) (by decide) rfl (zlen hG (zr (k := 2) (t2 := 44) hG hb1 rfl) (n := 3) rfl rfl) (by omega) (by omega) (j := (v3).toNat) rfl rfl dX3_become_41 ?_
        refine j_iast hx hG (zr (k := 2) (t2 := 44) hG ha rfl) (by decide) rfl (zlen hG (zr (k := 2) (t2 := 44) hG ha rfl) (n := 3) rfl rfl) (by omega) (by omega) (j := (v3).toNat) rfl dX3_become_42 ?_
        obtain ⟨s24, e_s24⟩ : ∃ z, z = zU s3 (gP G a 2) (v3).toNat ((s3 (gP G b1 2) (v3).toNat)) := ⟨_, rfl⟩
        rw [← e_s24]
        have hS_s24 : zSK G s24 := by rw [e_s24]; exact zSK_A hS_s3 (zr (k := 2) (t2 := 44) hG ha rfl) rfl rfl rfl (by omega)
        refine j_iinc hx 2 [(2, .int (zI (v3 + 1))), (0, .ref a), (1, .ref b1)] dX3_become_43 rfl (by omega) (by decide) rfl ?_
        refine j_goto hx 13 dX3_become_46 rfl ?_
        exact j_sub [1, 2, 0] [(0, .ref a), (1, .ref b1), (2, .int (zI (v3 + 1)))] rfl (ih_c13_2 (v3 + 1) s24 (by omega) (by omega) hS_s24 (zFr_u (zFr_t zFr_rf hF_s3 (by decide)) e_s24 (zr (k := 2) (t2 := 44) hG ha rfl) (by decide)))
  exact j_sub [1, 2, 0] [(0, .ref a), (1, .ref b1), (2, .int (zI 0))] rfl (c13_2 (2147483648 * 4) 0 s1 (by omega) (by omega) hS_s1 zFr_rf)

theorem lk_RX2_31 : LkV RX2 31 RX3 yX3_become cX3_become 3 none 1 := ⟨km_RX2_31, ki_yX3_become, ks_RX3_yX3_become, kn_RX3, kc_yX3_become, rfl, by decide +kernel, by decide +kernel, by decide +kernel⟩
set_option maxHeartbeats 4000000 in
set_option maxRecDepth 20000 in
theorem c_X2_begin {E : zE} {l : Launch} (hst : l.stackTraces = false) (a : Nat) (b1 : Nat) : Con E l yX2_begin cX2_begin 2 none { frames := 4, cells := 0, slots := 0, locals := 87 } (fun G s vs => vs = [.ref a, .ref b1] ∧ zGK G ∧ zSK G s ∧ (gT G a = 3) ∧ (gT G b1 = 4)) (fun G s _ => pV (fun G2 s2 => G2 = G ∧ zSK G s2 ∧ zFr [1, 4, 7, 41, 44, 49, 50] G s s2 ∧ True)) := by
  refine Con.mk hst (by decide) (fun G s vs h => by rw [h.1]; exact Nat.le_of_ble_eq_true rfl) ?_
  rintro X G s0 vs ⟨rfl, hG, hS0, ha, hb1⟩ rfl hx hq
  show JJ X E 2 G s0 0 0 [(0, .ref a), (1, .ref b1)] 0 []
  refine j_aload_n hx 0 dX2_begin_0 rfl ?_
  refine g3_0 hx hG ha kf_RX2_27 dX2_begin_1 ?_
  refine j_aload_n hx 1 dX2_begin_4 rfl ?_
  refine j_callV hx hG (c_X3_become hst (gP G a 0) b1) lk_RX2_31 (zr (k := 0) (t2 := 4) hG ha rfl) (by decide) rfl rfl rfl rfl [.ref b1] ⟨rfl, hG, hS0, (zr (k := 0) (t2 := 4) hG ha rfl), hb1⟩ rfl rfl ⟨by decide, by decide⟩ ⟨by decide, by decide⟩ (k2 := 0) (n2 := 0) rfl rfl (Nat.le_of_ble_eq_true rfl) dX2_begin_5 (kVM (fun s1 hS_s1 hF_s1 q2 => ?_))
  exact j_vret hx hq rfl (by decide) (by decide) dX2_begin_8 ⟨rfl, rfl, hS_s1, (zFr_t zFr_rf hF_s1 (by decide)), trivial⟩

set_option maxHeartbeats 4000000 in
set_option maxRecDepth 20000 in
theorem c_X11_commonDivisor {E : zE} {l : Launch} (hst : l.stackTraces = false) (y0 : Int) (y1 : Int) : Con E l yX11_commonDivisor cX11_commonDivisor 11 (some .long) { frames := 0, cells := 0, slots := 0, locals := 0 } (fun G s vs => vs = [.long (zL y0), .long (zL y1)] ∧ zGK G ∧ zSK G s ∧ ((-9223372036854775808) ≤ y0 ∧ y0 ≤ 9223372036854775807) ∧ ((-9223372036854775808) ≤ y1 ∧ y1 ≤ 9223372036854775807)) (fun G s _ => pL (fun r G2 s2 => G2 = G ∧ s2 = s ∧ ((-9223372036854775808) ≤ r ∧ r ≤ 9223372036854775807))) := by
  refine Con.mk hst (by decide) (fun G s vs h => by rw [h.1]; exact Nat.le_of_ble_eq_true rfl) ?_
  rintro X G s0 vs ⟨rfl, hG, hS0, hy0, hy1⟩ rfl hx hq
  show JJ X E 11 G s0 0 0 [(0, .long (zL y0)), (2, .long (zL y1))] 0 []
  refine j_lload_n hx 0 dX11_commonDivisor_0 rfl ?_
  refine j_lstore hx [(4, .long (zL y0)), (0, .long (zL y0)), (2, .long (zL y1))] dX11_commonDivisor_1 (by decide) rfl ?_
  refine j_lload_n hx 2 dX11_commonDivisor_3 rfl ?_
  refine j_lstore hx [(6, .long (zL y1)), (4, .long (zL y0)), (0, .long (zL y0)), (2, .long (zL y1))] dX11_commonDivisor_4 (by decide) rfl ?_
  refine j_iconst hx dX11_commonDivisor_6 ?_
  refine j_istore hx [(8, .int (zI 0)), (6, .long (zL y1)), (4, .long (zL y0)), (0, .long (zL y0)), (2, .long (zL y1))] dX11_commonDivisor_7 (by decide) rfl ?_
  have c9_1 : ∀ (m_c9_1 : Nat) (w1 : Int) (w2 : Int) (v3 : Int), 2147483648 - v3 < m_c9_1 → ((-9223372036854775808) ≤ w1 ∧ w1 ≤ 9223372036854775807) → ((-9223372036854775808) ≤ w2 ∧ w2 ≤ 9223372036854775807) → (0 ≤ v3 ∧ v3 ≤ 200) → JJ X E 11 G s0 0 0 [(4, .long (zL w1)), (6, .long (zL w2)), (8, .int (zI v3))] 9 [] := by
    intro m_c9_1
    induction m_c9_1 with
    | zero => intro w1 w2 v3 hm_c9_1 fA2 fA3 fA4; exfalso; omega
    | succ m_c9_1 ih_c9_1 => 
      intro w1 w2 v3 hm_c9_1 fA2 fA3 fA4
      refine j_iload hx 2 dX11_commonDivisor_9 rfl ?_
      refine j_sipush hx dX11_commonDivisor_11 rfl ?_
      refine j_icmp_ge hx 45 dX11_commonDivisor_14 rfl (by omega) ⟨by decide, by decide⟩ (fun h4 => ?_) (fun h4 => ?_)
      · skip
        refine j_lload hx 0 dX11_commonDivisor_45 rfl ?_
        exact j_lret hx hq rfl (by decide) (by decide) dX11_commonDivisor_47 ⟨w1, rfl, rfl, rfl, (by omega)⟩
      · skip
        refine j_lload hx 1 dX11_commonDivisor_17 rfl ?_
        refine j_lconst hx dX11_commonDivisor_19 ?_
        show JJ X E 11 G s0 0 0 [(4, .long (zL w1)), (6, .long (zL w2)), (8, .int (zI v3))] 20 [.long (zL 0), .long (zL w2)]
        refine j_lcmp hx dX11_commonDivisor_20 (by omega) (by omega) (fun v5 f6 f7 f8 => ?_)
        have f9 : -1 ≤ v5 ∧ v5 ≤ 1 := by omega
        refine j_if_le hx 45 dX11_commonDivisor_21 rfl (by omega) (fun h10 => ?_) (fun h10 => ?_)
        · skip
          refine j_lload hx 0 dX11_commonDivisor_45 rfl ?_
          exact j_lret hx hq rfl (by decide) (by decide) dX11_commonDivisor_47 ⟨w1, rfl, rfl, rfl, (by omega)⟩
        · skip
          refine j_lload hx 0 dX11_commonDivisor_24 rfl ?_
          refine j_lload hx 1 dX11_commonDivisor_26 rfl ?_
          refine j_lrem hx dX11_commonDivisor_28 (by omega) (by omega) (fun w11 f12 f13 => ?_)
          refine j_lstore hx [(9, .long (zL w11)), (4, .long (zL w1)), (6, .long (zL w2)), (8, .int (zI v3))] dX11_commonDivisor_29 (by decide) rfl ?_
          refine j_lload hx 2 dX11_commonDivisor_31 rfl ?_
          refine j_lstore hx [(4, .long (zL w2)), (9, .long (zL w11)), (6, .long (zL w2)), (8, .int (zI v3))] dX11_commonDivisor_33 (by decide) rfl ?_
          refine j_lload hx 1 dX11_commonDivisor_35 rfl ?_
          refine j_lstore hx [(6, .long (zL w11)), (4, .long (zL w2)), (9, .long (zL w11)), (8, .int (zI v3))] dX11_commonDivisor_37 (by decide) rfl ?_
          refine j_iinc hx 3 [(8, .int (zI (v3 + 1))), (6, .long (zL w11)), (4, .long (zL w2)), (9, .long (zL w11))] dX11_commonDivisor_39 rfl (by omega) (by decide) rfl ?_
          refine j_goto hx 9 dX11_commonDivisor_42 rfl ?_
          exact j_sub [2, 1, 0] [(4, .long (zL w2)), (6, .long (zL w11)), (8, .int (zI (v3 + 1)))] rfl (ih_c9_1 w2 w11 (v3 + 1) (by omega) (by omega) (by omega) (by omega))
  exact j_sub [2, 1, 0] [(4, .long (zL y0)), (6, .long (zL y1)), (8, .int (zI 0))] rfl (c9_1 (2147483648 * 4) y0 y1 0 (by omega) (by omega) (by omega) (by omega))

theorem lk_RX7_120 : LkSN RX7 120 RX11 yX11_commonDivisor cX11_commonDivisor 11 (some .long) 2 := ⟨km_RX7_120, kst_yX11_commonDivisor, kn_RX11, kc_yX11_commonDivisor, by decide +kernel, by decide +kernel, by decide +kernel⟩
set_option maxHeartbeats 4000000 in
set_option maxRecDepth 20000 in
theorem c_X7_cycle {E : zE} {l : Launch} (hst : l.stackTraces = false) (a : Nat) (x1 : Int) : Con E l yX7_cycle cX7_cycle 7 (some .int) { frames := 1, cells := 0, slots := 0, locals := 30 } (fun G s vs => vs = [.ref a, .int (zI x1)] ∧ zGK G ∧ zSK G s ∧ (gT G a = 8) ∧ ((-2147483648) ≤ x1 ∧ x1 ≤ 2147483647)) (fun G s _ => pI (fun r G2 s2 => G2 = G ∧ s2 = s ∧ ((-2147483648) ≤ r ∧ r ≤ 2147483647))) := by
  refine Con.mk hst (by decide) (fun G s vs h => by rw [h.1]; exact Nat.le_of_ble_eq_true rfl) ?_
  rintro X G s0 vs ⟨rfl, hG, hS0, ha, hx1⟩ rfl hx hq
  show JJ X E 7 G s0 0 0 [(0, .ref a), (1, .int (zI x1))] 0 []
  refine j_iload_n hx 1 dX7_cycle_0 rfl ?_
  refine j_istore_n hx [(2, .int (zI x1)), (0, .ref a), (1, .int (zI x1))] dX7_cycle_1 (by decide) rfl ?_
  refine j_iconst hx dX7_cycle_2 ?_
  refine j_istore_n hx [(3, .int (zI 0)), (2, .int (zI x1)), (0, .ref a), (1, .int (zI x1))] dX7_cycle_3 (by decide) rfl ?_
  have c4_1 : ∀ (m_c4_1 : Nat) (v1 : Int) (v2 : Int), 2147483648 - v2 < m_c4_1 → ((-2147483648) ≤ v1 ∧ v1 ≤ 2147483647) → (0 ≤ v2 ∧ v2 ≤ 150) → JJ X E 7 G s0 0 0 [(0, .ref a), (2, .int (zI v1)), (3, .int (zI v2))] 4 [] := by
    intro m_c4_1
    induction m_c4_1 with
    | zero => intro v1 v2 hm_c4_1 fA2 fA3; exfalso; omega
    | succ m_c4_1 ih_c4_1 => 
      intro v1 v2 hm_c4_1 fA2 fA3
      refine j_iload_n hx 2 dX7_cycle_4 rfl ?_
      refine j_aload_n hx 0 dX7_cycle_5 rfl ?_
      have f3 := zf hS0 ha (k := 1) rfl
      refine g8_1 hx hG ha kf_RX7_15 rfl dX7_cycle_6 ?_
      refine j_icmp_ge hx 112 dX7_cycle_9 rfl (by omega) (by omega) (fun h4 => ?_) (fun h4 => ?_)
      · skip
        refine j_iload_n hx 1 dX7_cycle_112 rfl ?_
        exact j_iret hx hq rfl (by decide) (by decide) dX7_cycle_113 ⟨v1, rfl, rfl, rfl, (by omega)⟩
      · skip
        refine j_iload_n hx 2 dX7_cycle_12 rfl ?_
        refine j_aload_n hx 0 dX7_cycle_13 rfl ?_
        refine g8_0 hx hG ha kf_RX7_11 dX7_cycle_14 ?_
        have f5 := zn46 hG (zr (k := 0) (t2 := 46) hG ha rfl)
        refine j_alen hx hG (zr (k := 0) (t2 := 46) hG ha rfl) (by decide) (by decide) rfl dX7_cycle_17 ?_
        refine j_icmp_ge hx 112 dX7_cycle_18 rfl (by omega) (by omega) (fun h6 => ?_) (fun h6 => ?_)
        · skip
          refine j_iload_n hx 1 dX7_cycle_112 rfl ?_
          exact j_iret hx hq rfl (by decide) (by decide) dX7_cycle_113 ⟨v1, rfl, rfl, rfl, (by omega)⟩
        · skip
          refine j_aload_n hx 0 dX7_cycle_21 rfl ?_
          refine g8_0 hx hG ha kf_RX7_11 dX7_cycle_22 ?_
          refine j_iload_n hx 2 dX7_cycle_25 rfl ?_
          have f7 := zaI (j := (v2).toNat) hS0 (zr (k := 0) (t2 := 46) hG ha rfl) rfl rfl (show 0 ≤ v2 by omega) (by omega) rfl
          refine j_iald hx hG (zr (k := 0) (t2 := 46) hG ha rfl) (by decide) rfl rfl (by omega) (by omega) (j := (v2).toNat) rfl rfl dX7_cycle_26 ?_
          refine j_sipush hx dX7_cycle_27 rfl ?_
          refine j_iand hx dX7_cycle_30 (by omega) ⟨by decide, by decide⟩ (fun v8 f9 f10 f11 f12 _ => ?_)
          refine j_bipush hx dX7_cycle_31 rfl ?_
          refine j_ishr hx 6 64 dX7_cycle_33 (by omega) rfl (by decide) (by decide) (fun v14 f15 f16 f17 f18 => ?_)
          refine j_istore hx [(4, .int (zI v14)), (0, .ref a), (2, .int (zI v1)), (3, .int (zI v2))] dX7_cycle_34 (by decide) rfl ?_
          refine j_aload_n hx 1 dX7_cycle_36 rfl ?_
          refine g8_0 hx hG ha kf_RX7_11 dX7_cycle_37 ?_
          refine j_iload_n hx 3 dX7_cycle_40 rfl ?_
          refine j_iald hx hG (zr (k := 0) (t2 := 46) hG ha rfl) (by decide) rfl rfl (by omega) (by omega) (j := (v2).toNat) rfl rfl dX7_cycle_41 ?_
          refine j_bipush hx dX7_cycle_42 rfl ?_
          refine j_ishr hx 12 4096 dX7_cycle_44 (by omega) rfl (by decide) (by decide) (fun v19 f20 f21 f22 f23 => ?_)
          refine j_bipush hx dX7_cycle_45 rfl ?_
          have c95_4 : ∀ (v24 : Int), ((-2147483648) ≤ v24 ∧ v24 ≤ 2147483647) → JJ X E 7 G s0 0 0 [(0, .ref a), (2, .int (zI v24)), (3, .int (zI v2))] 95 [] := by
            intro v24 fA5
            refine j_iload_n hx 1 dX7_cycle_95 rfl ?_
            refine j_sipush hx dX7_cycle_96 rfl ?_
            refine j_icmp_lt hx 106 dX7_cycle_99 rfl (by omega) ⟨by decide, by decide⟩ (fun h25 => ?_) (fun h25 => ?_)
            · skip
              refine j_iinc hx 2 [(3, .int (zI (v2 + 1))), (0, .ref a), (2, .int (zI v24))] dX7_cycle_106 rfl (by omega) (by decide) rfl ?_
              refine j_goto hx 4 dX7_cycle_109 rfl ?_
              exact j_sub [1, 2, 0] [(0, .ref a), (2, .int (zI v24)), (3, .int (zI (v2 + 1)))] rfl (ih_c4_1 v24 (v2 + 1) (by omega) (by omega) (by omega))
            · skip
              refine j_sipush hx dX7_cycle_102 rfl ?_
              exact j_iret hx hq rfl (by decide) (by decide) dX7_cycle_105 ⟨3001, rfl, rfl, rfl, (by omega)⟩
          refine j_icmp_ne hx 95 dX7_cycle_47 rfl (by omega) ⟨by decide, by decide⟩ (fun h26 => ?_) (fun h26 => ?_)
          · skip
            exact j_sub [1, 2, 3] [(0, .ref a), (2, .int (zI v1)), (3, .int (zI v2))] rfl (c95_4 v1 (by omega))
          · skip
            refine j_iload hx 0 dX7_cycle_50 rfl ?_
            refine j_if_le hx 95 dX7_cycle_52 rfl (by omega) (fun h27 => ?_) (fun h27 => ?_)
            · skip
              exact j_sub [1, 2, 3] [(0, .ref a), (2, .int (zI v1)), (3, .int (zI v2))] rfl (c95_4 v1 (by omega))
            · skip
              refine j_iload_n hx 2 dX7_cycle_55 rfl ?_
              refine j_i2l hx dX7_cycle_56 (by omega) ?_
              refine j_iload hx 0 dX7_cycle_57 rfl ?_
              refine j_i2l hx dX7_cycle_59 (by omega) ?_
              refine j_callSN hx (c_X11_commonDivisor hst v1 v14) lk_RX7_120 [.long (zL v1), .long (zL v14)] ⟨rfl, hG, hS0, (by omega), (by omega)⟩ rfl rfl ⟨by decide, by decide⟩ ⟨by decide, by decide⟩ (k2 := 0) (n2 := 0) rfl rfl (Nat.le_of_ble_eq_true rfl) dX7_cycle_60 (kLP (fun v28 q29 => ?_))
              refine j_lstore hx [(5, .long (zL v28)), (4, .int (zI v14)), (0, .ref a), (2, .int (zI v1)), (3, .int (zI v2))] dX7_cycle_63 (by decide) rfl ?_
              refine j_lload hx 0 dX7_cycle_65 rfl ?_
              refine j_lconst hx dX7_cycle_67 ?_
              show JJ X E 7 G s0 0 0 [(5, .long (zL v28)), (4, .int (zI v14)), (0, .ref a), (2, .int (zI v1)), (3, .int (zI v2))] 68 [.long (zL 0), .long (zL v28)]
              refine j_lcmp hx dX7_cycle_68 (by omega) (by omega) (fun v30 f31 f32 f33 => ?_)
              have f34 : -1 ≤ v30 ∧ v30 ≤ 1 := by omega
              have c94_6 : ∀ (v35 : Int), ((-2147483648) ≤ v35 ∧ v35 ≤ 2147483647) → JJ X E 7 G s0 0 0 [(0, .ref a), (3, .int (zI v2))] 94 [.int (zI v35)] := by
                intro v35 fA7
                refine j_istore_n hx [(2, .int (zI v35)), (0, .ref a), (3, .int (zI v2))] dX7_cycle_94 (by decide) rfl ?_
                exact j_sub [1, 0, 2] [(0, .ref a), (2, .int (zI v35)), (3, .int (zI v2))] rfl (c95_4 v35 (by omega))
              refine j_if_le hx 91 dX7_cycle_69 rfl (by omega) (fun h36 => ?_) (fun h36 => ?_)
              · skip
                refine j_sipush hx dX7_cycle_91 rfl ?_
                exact j_sub [2, 4] [(0, .ref a), (3, .int (zI v2))] rfl (c94_6 3001 (by omega))
              · skip
                refine j_ldc2 hx (c := 3001) dX7_cycle_72 kk_RX7_124 (by decide) ?_
                refine j_iload_n hx 3 dX7_cycle_75 rfl ?_
                refine j_i2l hx dX7_cycle_76 (by omega) ?_
                refine j_lload hx 0 dX7_cycle_77 rfl ?_
                refine j_ldiv hx dX7_cycle_79 (by omega) (by omega) (fun w37 f38 f39 => ?_)
                refine j_iload hx 1 dX7_cycle_80 rfl ?_
                refine j_i2l hx dX7_cycle_82 (by omega) ?_
                refine j_lmul hx dX7_cycle_83 (fun w40 f41 f42 => ?_)
                refine j_mminL hx km_RX7_126 (by omega) (by omega) ⟨by decide, Nat.le_of_ble_eq_true rfl⟩ ⟨by decide, by decide⟩ dX7_cycle_84 (fun w43 f44 f45 f46 => ?_)
                refine j_l2i hx dX7_cycle_87 (by omega) (fun v47 f48 f49 f50 => ?_)
                refine j_goto hx 94 dX7_cycle_88 rfl ?_
                exact j_sub [2, 4] [(0, .ref a), (3, .int (zI v2))] rfl (c94_6 v47 (by omega))
  exact j_sub [2, 1, 0] [(0, .ref a), (2, .int (zI x1)), (3, .int (zI 0))] rfl (c4_1 (2147483648 * 4) x1 0 (by omega) (by omega) (by omega))

theorem lk_RX3_74 : LkV RX3 74 RX7 yX7_cycle cX7_cycle 7 (some .int) 1 := ⟨km_RX3_74, ki_yX7_cycle, ks_RX7_yX7_cycle, kn_RX7, kc_yX7_cycle, rfl, by decide +kernel, by decide +kernel, by decide +kernel⟩
set_option maxHeartbeats 4000000 in
set_option maxRecDepth 20000 in
theorem c_X3_cycle {E : zE} {l : Launch} (hst : l.stackTraces = false) (a : Nat) : Con E l yX3_cycle cX3_cycle 4 (some .int) { frames := 2, cells := 0, slots := 0, locals := 56 } (fun G s vs => vs = [.ref a] ∧ zGK G ∧ zSK G s ∧ (gT G a = 4)) (fun G s _ => pI (fun r G2 s2 => G2 = G ∧ s2 = s ∧ ((-2147483648) ≤ r ∧ r ≤ 2147483647))) := by
  refine Con.mk hst (by decide) (fun G s vs h => by rw [h.1]; exact Nat.le_of_ble_eq_true rfl) ?_
  rintro X G s0 vs ⟨rfl, hG, hS0, ha⟩ rfl hx hq
  show JJ X E 4 G s0 0 0 [(0, .ref a)] 0 []
  refine j_iconst hx dX3_cycle_0 ?_
  refine j_istore_n hx [(1, .int (zI 1)), (0, .ref a)] dX3_cycle_1 (by decide) rfl ?_
  refine j_iconst hx dX3_cycle_2 ?_
  refine j_istore_n hx [(2, .int (zI 0)), (1, .int (zI 1)), (0, .ref a)] dX3_cycle_3 (by decide) rfl ?_
  have c4_1 : ∀ (m_c4_1 : Nat) (v1 : Int) (v2 : Int), 2147483648 - v2 < m_c4_1 → ((-2147483648) ≤ v1 ∧ v1 ≤ 2147483647) → (0 ≤ v2 ∧ v2 ≤ 6) → JJ X E 4 G s0 0 0 [(0, .ref a), (1, .int (zI v1)), (2, .int (zI v2))] 4 [] := by
    intro m_c4_1
    induction m_c4_1 with
    | zero => intro v1 v2 hm_c4_1 fA2 fA3; exfalso; omega
    | succ m_c4_1 ih_c4_1 => 
      intro v1 v2 hm_c4_1 fA2 fA3
      refine j_iload_n hx 2 dX3_cycle_4 rfl ?_
      refine j_aload_n hx 0 dX3_cycle_5 rfl ?_
      refine g4_3 hx hG ha kf_RX3_24 dX3_cycle_6 ?_
      refine j_alen hx hG (zr (k := 3) (t2 := 49) hG ha rfl) (by decide) (by decide) (zlen hG (zr (k := 3) (t2 := 49) hG ha rfl) (n := 6) rfl rfl) dX3_cycle_9 ?_
      refine j_icmp_ge hx 40 dX3_cycle_10 rfl (by omega) ⟨by decide, by decide⟩ (fun h3 => ?_) (fun h3 => ?_)
      · skip
        refine j_iload_n hx 1 dX3_cycle_40 rfl ?_
        exact j_iret hx hq rfl (by decide) (by decide) dX3_cycle_41 ⟨v1, rfl, rfl, rfl, (by omega)⟩
      · skip
        refine j_aload_n hx 0 dX3_cycle_13 rfl ?_
        refine g4_3 hx hG ha kf_RX3_24 dX3_cycle_14 ?_
        refine j_iload_n hx 2 dX3_cycle_17 rfl ?_
        refine j_aald hx hG hS0 (zr (k := 3) (t2 := 49) hG ha rfl) (by decide) (by decide) rfl (zlen hG (zr (k := 3) (t2 := 49) hG ha rfl) (n := 6) rfl rfl) (by omega) (by omega) dX3_cycle_18 (fun h4 => ?_) (fun h5 h6 => ?_)
        · skip
          refine j_astore_nN hx [(3, .null), (0, .ref a), (1, .int (zI v1)), (2, .int (zI v2))] dX3_cycle_19 (by decide) rfl ?_
          refine j_aload_nN hx 0 dX3_cycle_20 rfl ?_
          have c33_4 : ∀ (v7 : Int), ((-2147483648) ≤ v7 ∧ v7 ≤ 2147483647) → JJ X E 4 G s0 0 0 [(0, .ref a), (2, .int (zI v2))] 33 [.int (zI v7)] := by
            intro v7 fA5
            refine j_istore_n hx [(1, .int (zI v7)), (0, .ref a), (2, .int (zI v2))] dX3_cycle_33 (by decide) rfl ?_
            refine j_iinc hx 2 [(2, .int (zI (v2 + 1))), (1, .int (zI v7)), (0, .ref a)] dX3_cycle_34 rfl (by omega) (by decide) rfl ?_
            refine j_goto hx 4 dX3_cycle_37 rfl ?_
            exact j_sub [2, 1, 0] [(0, .ref a), (1, .int (zI v7)), (2, .int (zI (v2 + 1)))] rfl (ih_c4_1 v7 (v2 + 1) (by omega) (by omega) (by omega))
          refine j_ifnonnullN hx dX3_cycle_21 ?_
          refine j_iload_n hx 2 dX3_cycle_24 rfl ?_
          refine j_goto hx 33 dX3_cycle_25 rfl ?_
          exact j_sub [1, 3] [(0, .ref a), (2, .int (zI v2))] rfl (c33_4 v1 (by omega))
        · skip
          refine j_astore_n hx [(3, .ref (((s0 (gP G a 3) (v2).toNat).toNat - 1))), (0, .ref a), (1, .int (zI v1)), (2, .int (zI v2))] dX3_cycle_19 (by decide) rfl ?_
          refine j_aload_n hx 0 dX3_cycle_20 rfl ?_
          have c33_6 : ∀ (v8 : Int), ((-2147483648) ≤ v8 ∧ v8 ≤ 2147483647) → JJ X E 4 G s0 0 0 [(0, .ref a), (2, .int (zI v2))] 33 [.int (zI v8)] := by
            intro v8 fA7
            refine j_istore_n hx [(1, .int (zI v8)), (0, .ref a), (2, .int (zI v2))] dX3_cycle_33 (by decide) rfl ?_
            refine j_iinc hx 2 [(2, .int (zI (v2 + 1))), (1, .int (zI v8)), (0, .ref a)] dX3_cycle_34 rfl (by omega) (by decide) rfl ?_
            refine j_goto hx 4 dX3_cycle_37 rfl ?_
            exact j_sub [2, 1, 0] [(0, .ref a), (1, .int (zI v8)), (2, .int (zI (v2 + 1)))] rfl (ih_c4_1 v8 (v2 + 1) (by omega) (by omega) (by omega))
          refine j_ifnonnull hx 28 dX3_cycle_21 rfl ?_
          refine j_aload_n hx 0 dX3_cycle_28 rfl ?_
          refine j_iload_n hx 2 dX3_cycle_29 rfl ?_
          refine j_callV hx hG (c_X7_cycle hst ((s0 (gP G a 3) (v2).toNat).toNat - 1) v1) lk_RX3_74 h6 (by decide) rfl rfl rfl rfl [.int (zI v1)] ⟨rfl, hG, hS0, h6, (by omega)⟩ rfl rfl ⟨by decide, by decide⟩ ⟨by decide, by decide⟩ (k2 := 0) (n2 := 0) rfl rfl (Nat.le_of_ble_eq_true rfl) dX3_cycle_30 (kIP (fun v9 q10 => ?_))
          exact j_sub [1, 3] [(0, .ref a), (2, .int (zI v2))] rfl (c33_6 v9 (by omega))
  exact j_sub [2, 1, 0] [(0, .ref a), (1, .int (zI 1)), (2, .int (zI 0))] rfl (c4_1 (2147483648 * 4) 1 0 (by omega) (by omega) (by omega))

set_option maxHeartbeats 4000000 in
set_option maxRecDepth 20000 in
theorem c_fill_54m {E : zE} {l : Launch} (hst : l.stackTraces = false) (b0 : Nat) (x1 : Int) : Con E l yJ7_fill_53178 cJ7_fill_53178 4 none { frames := 0, cells := 0, slots := 0, locals := 0 } (fun G s vs => vs = [.ref b0, .int (zI x1)] ∧ zGK G ∧ zSK G s ∧ (gT G b0 = 54) ∧ ((-1) ≤ x1 ∧ x1 ≤ (-1))) (fun G s _ => pV (fun G2 s2 => G2 = G ∧ zSK G s2 ∧ zFr [54] G s s2 ∧ True)) := by
  refine Con.mk hst (by decide) (fun G s vs h => by rw [h.1]; exact Nat.le_of_ble_eq_true rfl) ?_
  rintro X G s0 vs ⟨rfl, hG, hS0, hb0, hx1⟩ rfl hx hq
  show JJ X E 4 G s0 0 0 [(0, .ref b0), (1, .int (zI x1))] 0 []
  refine j_iconst hx dJ7_fill_53178_0 ?_
  refine j_istore_n hx [(2, .int (zI 0)), (0, .ref b0), (1, .int (zI x1))] dJ7_fill_53178_1 (by decide) rfl ?_
  refine j_aload_n hx 1 dJ7_fill_53178_2 rfl ?_
  refine j_alen hx hG hb0 (by decide) (by decide) (zlen hG hb0 (n := 4096) rfl rfl) dJ7_fill_53178_3 ?_
  refine j_istore_n hx [(3, .int (zI 4096)), (2, .int (zI 0)), (0, .ref b0), (1, .int (zI x1))] dJ7_fill_53178_4 (by decide) rfl ?_
  have c5_1 : ∀ (m_c5_1 : Nat) (v1 : Int) (s2 : zS), 2147483648 - v1 < m_c5_1 → (0 ≤ v1 ∧ v1 ≤ 4096) → (zSK G s2) → (zFr [54] G s0 s2) → JJ X E 4 G s2 0 0 [(0, .ref b0), (1, .int (zI x1)), (2, .int (zI v1)), (3, .int (zI 4096))] 5 [] := by
    intro m_c5_1
    induction m_c5_1 with
    | zero => intro v1 s2 hm_c5_1 fA3 hS_s2 hF_s2; exfalso; omega
    | succ m_c5_1 ih_c5_1 => 
      intro v1 s2 hm_c5_1 fA3 hS_s2 hF_s2
      refine j_iload_n hx 2 dJ7_fill_53178_5 rfl ?_
      refine j_iload_n hx 3 dJ7_fill_53178_6 rfl ?_
      refine j_icmp_ge hx 20 dJ7_fill_53178_7 rfl (by omega) ⟨by decide, by decide⟩ (fun h2 => ?_) (fun h2 => ?_)
      · skip
        exact j_vret hx hq rfl (by decide) (by decide) dJ7_fill_53178_20 ⟨rfl, rfl, hS_s2, (zFr_t zFr_rf hF_s2 (by decide)), trivial⟩
      · skip
        refine j_aload_n hx 0 dJ7_fill_53178_10 rfl ?_
        refine j_iload_n hx 2 dJ7_fill_53178_11 rfl ?_
        refine j_iload_n hx 1 dJ7_fill_53178_12 rfl ?_
        refine j_iast hx hG hb0 (by decide) rfl (zlen hG hb0 (n := 4096) rfl rfl) (by omega) (by omega) (j := (v1).toNat) rfl dJ7_fill_53178_13 ?_
        obtain ⟨s6, e_s6⟩ : ∃ z, z = zU s2 b0 (v1).toNat x1 := ⟨_, rfl⟩
        rw [← e_s6]
        have hS_s6 : zSK G s6 := by rw [e_s6]; exact zSK_A hS_s2 hb0 rfl rfl rfl (by omega)
        refine j_iinc hx 2 [(2, .int (zI (v1 + 1))), (0, .ref b0), (1, .int (zI x1)), (3, .int (zI 4096))] dJ7_fill_53178_14 rfl (by omega) (by decide) rfl ?_
        refine j_goto hx 5 dJ7_fill_53178_17 rfl ?_
        exact j_sub [1, 2, 0, 3] [(0, .ref b0), (1, .int (zI x1)), (2, .int (zI (v1 + 1))), (3, .int (zI 4096))] rfl (ih_c5_1 (v1 + 1) s6 (by omega) (by omega) hS_s6 (zFr_u (zFr_t zFr_rf hF_s2 (by decide)) e_s6 hb0 (by decide)))
  exact j_sub [2, 3, 1, 0] [(0, .ref b0), (1, .int (zI x1)), (2, .int (zI 0)), (3, .int (zI 4096))] rfl (c5_1 (2147483648 * 4) 0 s0 (by omega) (by omega) hS0 zFr_rf)

set_option maxHeartbeats 4000000 in
set_option maxRecDepth 20000 in
theorem c_X2_slotOf {E : zE} {l : Launch} (hst : l.stackTraces = false) (a : Nat) (x1 : Int) : Con E l yX2_slotOf cX2_slotOf 5 (some .int) { frames := 0, cells := 0, slots := 0, locals := 0 } (fun G s vs => vs = [.ref a, .int (zI x1)] ∧ zGK G ∧ zSK G s ∧ (gT G a = 3) ∧ ((-2147483648) ≤ x1 ∧ x1 ≤ 2147483647)) (fun G s _ => pI (fun r G2 s2 => G2 = G ∧ s2 = s ∧ ((-2147483648) ≤ r ∧ r ≤ 2147483647))) := by
  refine Con.mk hst (by decide) (fun G s vs h => by rw [h.1]; exact Nat.le_of_ble_eq_true rfl) ?_
  rintro X G s0 vs ⟨rfl, hG, hS0, ha, hx1⟩ rfl hx hq
  show JJ X E 5 G s0 0 0 [(0, .ref a), (1, .int (zI x1))] 0 []
  refine j_lconst hx dX2_slotOf_0 ?_
  show JJ X E 5 G s0 0 0 [(0, .ref a), (1, .int (zI x1))] 1 [.long (zL 0)]
  refine j_lstore_n hx [(2, .long (zL 0)), (0, .ref a), (1, .int (zI x1))] dX2_slotOf_1 (by decide) rfl ?_
  refine j_iload_n hx 2 dX2_slotOf_2 rfl ?_
  refine j_istore hx [(4, .int (zI x1)), (2, .long (zL 0)), (0, .ref a), (1, .int (zI x1))] dX2_slotOf_3 (by decide) rfl ?_
  have c5_1 : ∀ (m_c5_1 : Nat) (w1 : Int) (v2 : Int), 2147483648 - v2 < m_c5_1 → ((-9223372036854775808) ≤ w1 ∧ w1 ≤ 9223372036854775807) → ((-2147483648) ≤ v2 ∧ v2 ≤ 2147483647) → JJ X E 5 G s0 0 0 [(0, .ref a), (1, .int (zI x1)), (2, .long (zL w1)), (4, .int (zI v2))] 5 [] := by
    intro m_c5_1
    induction m_c5_1 with
    | zero => intro w1 v2 hm_c5_1 fA2 fA3; exfalso; omega
    | succ m_c5_1 ih_c5_1 => 
      intro w1 v2 hm_c5_1 fA2 fA3
      refine j_iload hx 3 dX2_slotOf_5 rfl ?_
      refine j_if_lt hx 56 dX2_slotOf_7 rfl (by omega) (fun h3 => ?_) (fun h3 => ?_)
      · skip
        refine j_lload_n hx 2 dX2_slotOf_56 rfl ?_
        refine j_bipush hx dX2_slotOf_57 rfl ?_
        refine j_lushr hx dX2_slotOf_59 (fun w4 f5 f6 => ?_)
        refine j_l2i hx dX2_slotOf_60 (by omega) (fun v7 f8 f9 f10 => ?_)
        exact j_iret hx hq rfl (by decide) (by decide) dX2_slotOf_61 ⟨v7, rfl, rfl, rfl, (by omega)⟩
      · skip
        refine j_iload hx 3 dX2_slotOf_10 rfl ?_
        refine j_iload_n hx 1 dX2_slotOf_12 rfl ?_
        refine j_bipush hx dX2_slotOf_13 rfl ?_
        refine j_iadd hx (r := x1 + 7) dX2_slotOf_15 rfl ?_
        refine j_norm (fun v11 f12 f13 f14 => ?_)
        refine j_icmp_ge hx 56 dX2_slotOf_16 rfl (by omega) (by omega) (fun h15 => ?_) (fun h15 => ?_)
        · skip
          refine j_lload_n hx 2 dX2_slotOf_56 rfl ?_
          refine j_bipush hx dX2_slotOf_57 rfl ?_
          refine j_lushr hx dX2_slotOf_59 (fun w16 f17 f18 => ?_)
          refine j_l2i hx dX2_slotOf_60 (by omega) (fun v19 f20 f21 f22 => ?_)
          exact j_iret hx hq rfl (by decide) (by decide) dX2_slotOf_61 ⟨v19, rfl, rfl, rfl, (by omega)⟩
        · skip
          refine j_iload hx 3 dX2_slotOf_19 rfl ?_
          refine j_aload_n hx 0 dX2_slotOf_21 rfl ?_
          refine g3_1 hx hG ha kf_RX2_11 dX2_slotOf_22 ?_
          have f23 := znb hG (gP G a 1)
          refine j_alen hx hG (zr (k := 1) (t2 := 53) hG ha rfl) (by decide) (by decide) rfl dX2_slotOf_25 ?_
          refine j_icmp_ge hx 56 dX2_slotOf_26 rfl (by omega) (by omega) (fun h24 => ?_) (fun h24 => ?_)
          · skip
            refine j_lload_n hx 2 dX2_slotOf_56 rfl ?_
            refine j_bipush hx dX2_slotOf_57 rfl ?_
            refine j_lushr hx dX2_slotOf_59 (fun w25 f26 f27 => ?_)
            refine j_l2i hx dX2_slotOf_60 (by omega) (fun v28 f29 f30 f31 => ?_)
            exact j_iret hx hq rfl (by decide) (by decide) dX2_slotOf_61 ⟨v28, rfl, rfl, rfl, (by omega)⟩
          · skip
            refine j_lload_n hx 2 dX2_slotOf_29 rfl ?_
            refine j_aload_n hx 0 dX2_slotOf_30 rfl ?_
            refine g3_1 hx hG ha kf_RX2_11 dX2_slotOf_31 ?_
            refine j_iload hx 3 dX2_slotOf_34 rfl ?_
            have f32 := zaI (j := (v2).toNat) hS0 (zr (k := 1) (t2 := 53) hG ha rfl) rfl rfl (show 0 ≤ v2 by omega) (by omega) rfl
            refine j_lald hx hG (zr (k := 1) (t2 := 53) hG ha rfl) (by decide) rfl rfl (by omega) (by omega) (j := (v2).toNat) rfl rfl dX2_slotOf_36 ?_
            refine j_lxor hx dX2_slotOf_37 (fun w33 f34 f35 => ?_)
            refine j_ldc2 hx (c := (-7046029254386353131)) dX2_slotOf_38 kk_RX2_105 (by decide) ?_
            refine j_lmul hx dX2_slotOf_41 (fun w36 f37 f38 => ?_)
            refine j_lstore_n hx [(2, .long (zL w36)), (0, .ref a), (1, .int (zI x1)), (4, .int (zI v2))] dX2_slotOf_42 (by decide) rfl ?_
            refine j_lload_n hx 0 dX2_slotOf_43 rfl ?_
            refine j_lload_n hx 0 dX2_slotOf_44 rfl ?_
            refine j_bipush hx dX2_slotOf_45 rfl ?_
            refine j_lushr hx dX2_slotOf_47 (fun w39 f40 f41 => ?_)
            refine j_lxor hx dX2_slotOf_48 (fun w42 f43 f44 => ?_)
            refine j_lstore_n hx [(2, .long (zL w42)), (0, .ref a), (1, .int (zI x1)), (4, .int (zI v2))] dX2_slotOf_49 (by decide) rfl ?_
            refine j_iinc hx 3 [(4, .int (zI (v2 + 1))), (2, .long (zL w42)), (0, .ref a), (1, .int (zI x1))] dX2_slotOf_50 rfl (by omega) (by decide) rfl ?_
            refine j_goto hx 5 dX2_slotOf_53 rfl ?_
            exact j_sub [2, 3, 1, 0] [(0, .ref a), (1, .int (zI x1)), (2, .long (zL w42)), (4, .int (zI (v2 + 1)))] rfl (ih_c5_1 w42 (v2 + 1) (by omega) (by omega) (by omega))
  exact j_sub [2, 3, 1, 0] [(0, .ref a), (1, .int (zI x1)), (2, .long (zL 0)), (4, .int (zI x1))] rfl (c5_1 (2147483648 * 4) 0 x1 (by omega) (by omega) (by omega))

set_option maxHeartbeats 4000000 in
set_option maxRecDepth 20000 in
theorem c_X2_isSame {E : zE} {l : Launch} (hst : l.stackTraces = false) (a : Nat) (x1 : Int) (x2 : Int) : Con E l yX2_isSame cX2_isSame 5 (some .boolean) { frames := 0, cells := 0, slots := 0, locals := 0 } (fun G s vs => vs = [.ref a, .int (zI x1), .int (zI x2)] ∧ zGK G ∧ zSK G s ∧ (gT G a = 3) ∧ ((-2147483648) ≤ x1 ∧ x1 ≤ 2147483647) ∧ ((-2147483648) ≤ x2 ∧ x2 ≤ 2147483647)) (fun G s _ => pI (fun r G2 s2 => G2 = G ∧ s2 = s ∧ (0 ≤ r ∧ r ≤ 1))) := by
  refine Con.mk hst (by decide) (fun G s vs h => by rw [h.1]; exact Nat.le_of_ble_eq_true rfl) ?_
  rintro X G s0 vs ⟨rfl, hG, hS0, ha, hx1, hx2⟩ rfl hx hq
  show JJ X E 5 G s0 0 0 [(0, .ref a), (1, .int (zI x1)), (2, .int (zI x2))] 0 []
  refine j_aload_n hx 0 dX2_isSame_0 rfl ?_
  refine g3_1 hx hG ha kf_RX2_11 dX2_isSame_1 ?_
  have f1 := znb hG (gP G a 1)
  refine j_alen hx hG (zr (k := 1) (t2 := 53) hG ha rfl) (by decide) (by decide) rfl dX2_isSame_4 ?_
  refine j_bipush hx dX2_isSame_5 rfl ?_
  refine j_isub hx (r := (gN G (gP G a 1) : Int) - 7) dX2_isSame_7 (by omega) ?_
  refine j_istore_n hx [(3, .int (zI ((gN G (gP G a 1) : Int) - 7))), (0, .ref a), (1, .int (zI x1)), (2, .int (zI x2))] dX2_isSame_8 (by decide) rfl ?_
  refine j_iload_n hx 2 dX2_isSame_9 rfl ?_
  refine j_if_lt hx 27 dX2_isSame_10 rfl (by omega) (fun h2 => ?_) (fun h2 => ?_)
  · skip
    refine j_iconst hx dX2_isSame_27 ?_
    exact j_zret hx hq rfl (by decide) (by decide) dX2_isSame_28 (by omega) ⟨0, rfl, rfl, rfl, (by omega)⟩
  · skip
    refine j_iload_n hx 3 dX2_isSame_13 rfl ?_
    refine j_if_lt hx 27 dX2_isSame_14 rfl (by omega) (fun h3 => ?_) (fun h3 => ?_)
    · skip
      refine j_iconst hx dX2_isSame_27 ?_
      exact j_zret hx hq rfl (by decide) (by decide) dX2_isSame_28 (by omega) ⟨0, rfl, rfl, rfl, (by omega)⟩
    · skip
      refine j_iload_n hx 2 dX2_isSame_17 rfl ?_
      refine j_iload_n hx 0 dX2_isSame_18 rfl ?_
      refine j_icmp_gt hx 27 dX2_isSame_19 rfl (by omega) (by omega) (fun h4 => ?_) (fun h4 => ?_)
      · skip
        refine j_iconst hx dX2_isSame_27 ?_
        exact j_zret hx hq rfl (by decide) (by decide) dX2_isSame_28 (by omega) ⟨0, rfl, rfl, rfl, (by omega)⟩
      · skip
        refine j_iload_n hx 3 dX2_isSame_22 rfl ?_
        refine j_iload_n hx 0 dX2_isSame_23 rfl ?_
        refine j_icmp_le hx 29 dX2_isSame_24 rfl (by omega) (by omega) (fun h5 => ?_) (fun h5 => ?_)
        · skip
          refine j_iconst hx dX2_isSame_29 ?_
          refine j_istore hx [(4, .int (zI 0)), (3, .int (zI ((gN G (gP G a 1) : Int) - 7))), (0, .ref a), (1, .int (zI x1)), (2, .int (zI x2))] dX2_isSame_30 (by decide) rfl ?_
          have c32_1 : ∀ (m_c32_1 : Nat) (v6 : Int), 2147483648 - v6 < m_c32_1 → (0 ≤ v6 ∧ v6 ≤ 7) → JJ X E 5 G s0 0 0 [(0, .ref a), (1, .int (zI x1)), (2, .int (zI x2)), (4, .int (zI v6))] 32 [] := by
            intro m_c32_1
            induction m_c32_1 with
            | zero => intro v6 hm_c32_1 fA2; exfalso; omega
            | succ m_c32_1 ih_c32_1 => 
              intro v6 hm_c32_1 fA2
              refine j_iload hx 3 dX2_isSame_32 rfl ?_
              refine j_bipush hx dX2_isSame_34 rfl ?_
              refine j_icmp_ge hx 69 dX2_isSame_36 rfl (by omega) ⟨by decide, by decide⟩ (fun h7 => ?_) (fun h7 => ?_)
              · skip
                refine j_iconst hx dX2_isSame_69 ?_
                exact j_zret hx hq rfl (by decide) (by decide) dX2_isSame_70 (by omega) ⟨1, rfl, rfl, rfl, (by omega)⟩
              · skip
                refine j_aload_n hx 0 dX2_isSame_39 rfl ?_
                refine g3_1 hx hG ha kf_RX2_11 dX2_isSame_40 ?_
                refine j_iload_n hx 1 dX2_isSame_43 rfl ?_
                refine j_iload hx 3 dX2_isSame_44 rfl ?_
                refine j_iadd hx (r := x1 + v6) dX2_isSame_46 rfl ?_
                have f8 := zaI (j := (x1 + v6).toNat) hS0 (zr (k := 1) (t2 := 53) hG ha rfl) rfl rfl (show 0 ≤ x1 + v6 by omega) (by omega) rfl
                refine j_lald hx hG (zr (k := 1) (t2 := 53) hG ha rfl) (by decide) rfl rfl (by omega) (by omega) (j := (x1 + v6).toNat) rfl rfl dX2_isSame_47 ?_
                refine j_aload_n hx 0 dX2_isSame_48 rfl ?_
                refine g3_1 hx hG ha kf_RX2_11 dX2_isSame_49 ?_
                refine j_iload_n hx 2 dX2_isSame_52 rfl ?_
                refine j_iload hx 3 dX2_isSame_53 rfl ?_
                refine j_iadd hx (r := x2 + v6) dX2_isSame_55 rfl ?_
                have f9 := zaI (j := (x2 + v6).toNat) hS0 (zr (k := 1) (t2 := 53) hG ha rfl) rfl rfl (show 0 ≤ x2 + v6 by omega) (by omega) rfl
                refine j_lald hx hG (zr (k := 1) (t2 := 53) hG ha rfl) (by decide) rfl rfl (by omega) (by omega) (j := (x2 + v6).toNat) rfl rfl dX2_isSame_56 ?_
                refine j_lcmp hx dX2_isSame_57 (by omega) (by omega) (fun v10 f11 f12 f13 => ?_)
                have f14 : -1 ≤ v10 ∧ v10 ≤ 1 := by omega
                refine j_if_eq hx 63 dX2_isSame_58 rfl (by omega) (fun h15 => ?_) (fun h15 => ?_)
                · skip
                  refine j_iinc hx 3 [(4, .int (zI (v6 + 1))), (0, .ref a), (1, .int (zI x1)), (2, .int (zI x2))] dX2_isSame_63 rfl (by omega) (by decide) rfl ?_
                  refine j_goto hx 32 dX2_isSame_66 rfl ?_
                  exact j_sub [1, 2, 3, 0] [(0, .ref a), (1, .int (zI x1)), (2, .int (zI x2)), (4, .int (zI (v6 + 1)))] rfl (ih_c32_1 (v6 + 1) (by omega) (by omega))
                · skip
                  refine j_iconst hx dX2_isSame_61 ?_
                  exact j_zret hx hq rfl (by decide) (by decide) dX2_isSame_62 (by omega) ⟨0, rfl, rfl, rfl, (by omega)⟩
          exact j_sub [2, 3, 4, 0] [(0, .ref a), (1, .int (zI x1)), (2, .int (zI x2)), (4, .int (zI 0))] rfl (c32_1 (2147483648 * 4) 0 (by omega) (by omega))
        · skip
          refine j_iconst hx dX2_isSame_27 ?_
          exact j_zret hx hq rfl (by decide) (by decide) dX2_isSame_28 (by omega) ⟨0, rfl, rfl, rfl, (by omega)⟩

theorem lk_RX2_83 : LkV RX2 83 RX0 yX0_pack cX0_pack 12 none 2 := ⟨km_RX2_83, ki_yX0_pack, ks_RX0_yX0_pack, kn_RX0, kc_yX0_pack, rfl, by decide +kernel, by decide +kernel, by decide +kernel⟩
theorem lk_RX2_97 : LkV RX2 97 RX2 yX2_slotOf cX2_slotOf 5 (some .int) 1 := ⟨km_RX2_97, ki_yX2_slotOf, ks_RX2_yX2_slotOf, kn_RX2, kc_yX2_slotOf, rfl, by decide +kernel, by decide +kernel, by decide +kernel⟩
theorem lk_RX2_101 : LkV RX2 101 RX2 yX2_isSame cX2_isSame 5 (some .boolean) 2 := ⟨km_RX2_101, ki_yX2_isSame, ks_RX2_yX2_isSame, kn_RX2, kc_yX2_isSame, rfl, by decide +kernel, by decide +kernel, by decide +kernel⟩
set_option maxHeartbeats 4000000 in
set_option maxRecDepth 20000 in
theorem c_X2_note {E : zE} {l : Launch} (hst : l.stackTraces = false) (a : Nat) (x1 : Int) (x2 : Int) : Con E l yX2_note cX2_note 7 (some .int) { frames := 4, cells := 0, slots := 0, locals := 96 } (fun G s vs => vs = [.ref a, .int (zI x1), .int (zI x2)] ∧ zGK G ∧ zSK G s ∧ (gT G a = 3) ∧ ((-2147483648) ≤ x1 ∧ x1 ≤ 2147483647) ∧ ((-2147483648) ≤ x2 ∧ x2 ≤ 2147483647)) (fun G s _ => pI (fun r G2 s2 => G2 = G ∧ zSK G s2 ∧ zFr [53, 54, 55] G s s2 ∧ ((-2147483648) ≤ r ∧ r ≤ 2147483647))) := by
  refine Con.mk hst (by decide) (fun G s vs h => by rw [h.1]; exact Nat.le_of_ble_eq_true rfl) ?_
  rintro X G s0 vs ⟨rfl, hG, hS0, ha, hx1, hx2⟩ rfl hx hq
  show JJ X E 7 G s0 0 0 [(0, .ref a), (1, .int (zI x1)), (2, .int (zI x2))] 0 []
  refine j_iload_n hx 1 dX2_note_0 rfl ?_
  refine j_bipush hx dX2_note_1 rfl ?_
  refine j_imul hx (r := 7 * x1) dX2_note_3 (by omega) ?_
  refine j_norm (fun v1 f2 f3 f4 => ?_)
  refine j_istore_n hx [(3, .int (zI v1)), (0, .ref a), (1, .int (zI x1)), (2, .int (zI x2))] dX2_note_4 (by decide) rfl ?_
  refine j_iload_n hx 2 dX2_note_5 rfl ?_
  refine j_if_lt hx 34 dX2_note_6 rfl (by omega) (fun h5 => ?_) (fun h5 => ?_)
  · skip
    refine j_iconst hx dX2_note_34 ?_
    exact j_iret hx hq rfl (by decide) (by decide) dX2_note_35 ⟨(-1), rfl, rfl, hS0, zFr_rf, (by omega)⟩
  · skip
    refine j_iload_n hx 2 dX2_note_9 rfl ?_
    refine j_aload_n hx 1 dX2_note_10 rfl ?_
    refine g3_3 hx hG ha kf_RX2_19 dX2_note_11 ?_
    refine j_alen hx hG (zr (k := 3) (t2 := 55) hG ha rfl) (by decide) (by decide) (zlen hG (zr (k := 3) (t2 := 55) hG ha rfl) (n := 3001) rfl rfl) dX2_note_14 ?_
    refine j_icmp_ge hx 34 dX2_note_15 rfl (by omega) ⟨by decide, by decide⟩ (fun h6 => ?_) (fun h6 => ?_)
    · skip
      refine j_iconst hx dX2_note_34 ?_
      exact j_iret hx hq rfl (by decide) (by decide) dX2_note_35 ⟨(-1), rfl, rfl, hS0, zFr_rf, (by omega)⟩
    · skip
      refine j_iload_n hx 0 dX2_note_18 rfl ?_
      refine j_aload_n hx 1 dX2_note_19 rfl ?_
      refine g3_1 hx hG ha kf_RX2_11 dX2_note_20 ?_
      have f7 := znb hG (gP G a 1)
      refine j_alen hx hG (zr (k := 1) (t2 := 53) hG ha rfl) (by decide) (by decide) rfl dX2_note_23 ?_
      refine j_bipush hx dX2_note_24 rfl ?_
      refine j_isub hx (r := (gN G (gP G a 1) : Int) - 7) dX2_note_26 (by omega) ?_
      refine j_icmp_gt hx 34 dX2_note_27 rfl (by omega) (by omega) (fun h8 => ?_) (fun h8 => ?_)
      · skip
        refine j_iconst hx dX2_note_34 ?_
        exact j_iret hx hq rfl (by decide) (by decide) dX2_note_35 ⟨(-1), rfl, rfl, hS0, zFr_rf, (by omega)⟩
      · skip
        refine j_iload_n hx 3 dX2_note_30 rfl ?_
        refine j_if_gt hx 36 dX2_note_31 rfl (by omega) (fun h9 => ?_) (fun h9 => ?_)
        · skip
          refine j_aload_n hx 1 dX2_note_36 rfl ?_
          refine g3_0 hx hG ha kf_RX2_27 dX2_note_37 ?_
          refine gN4_1 hx hG (zr (k := 0) (t2 := 4) hG ha rfl) kf_RX2_61 dX2_note_40 ?_
          refine j_aload_n hx 1 dX2_note_43 rfl ?_
          refine g3_1 hx hG ha kf_RX2_11 dX2_note_44 ?_
          refine j_iload_n hx 0 dX2_note_47 rfl ?_
          refine j_callV hx hG (c_X0_pack hst (gP G (gP G a 0) 1) (gP G a 1) v1) lk_RX2_83 (zr (k := 1) (t2 := 1) hG (zr (k := 0) (t2 := 4) hG ha rfl) rfl) (by decide) rfl rfl rfl rfl [.ref (gP G a 1), .int (zI v1)] ⟨rfl, hG, hS0, (zr (k := 1) (t2 := 1) hG (zr (k := 0) (t2 := 4) hG ha rfl) rfl), (zr (k := 1) (t2 := 53) hG ha rfl), (by omega)⟩ rfl rfl ⟨by decide, by decide⟩ ⟨by decide, by decide⟩ (k2 := 0) (n2 := 0) rfl rfl (Nat.le_of_ble_eq_true rfl) dX2_note_48 (kVM (fun s1 hS_s1 hF_s1 q11 => ?_))
          refine j_aload_n hx 1 dX2_note_51 rfl ?_
          refine g3_1 hx hG ha kf_RX2_11 dX2_note_52 ?_
          refine j_iload_n hx 0 dX2_note_55 rfl ?_
          refine j_iconst hx dX2_note_56 ?_
          refine j_iadd hx (r := v1 + 5) dX2_note_57 rfl ?_
          refine j_dup2 hx dX2_note_58 rfl rfl ?_
          have f12 := zaI (j := (v1 + 5).toNat) hS_s1 (zr (k := 1) (t2 := 53) hG ha rfl) rfl rfl (show 0 ≤ v1 + 5 by omega) (by omega) rfl
          refine j_lald hx hG (zr (k := 1) (t2 := 53) hG ha rfl) (by decide) rfl rfl (by omega) (by omega) (j := (v1 + 5).toNat) rfl rfl dX2_note_59 ?_
          refine j_aload_n hx 1 dX2_note_60 rfl ?_
          refine g3_0 hx hG ha kf_RX2_27 dX2_note_61 ?_
          have f13 := zf hS0 (zr (k := 0) (t2 := 4) hG ha rfl) (k := 10) rfl
          refine gN4_10 hx hG (zr (k := 0) (t2 := 4) hG ha rfl) kf_RX2_87 (v := (s0 (gP G a 0) 10)) (by rw [(zFr_g hF_s1 (zr (k := 0) (t2 := 4) hG ha rfl) (by decide))]) dX2_note_64 ?_
          refine j_iload_n hx 3 dX2_note_67 rfl ?_
          refine j_irem hx dX2_note_68 (by omega) (by omega) (by omega) (fun v14 f15 f16 f17 f18 => ?_)
          refine j_i2l hx dX2_note_69 (by omega) ?_
          refine j_bipush hx dX2_note_70 rfl ?_
          refine j_lshl hx dX2_note_72 (fun w20 f21 f22 => ?_)
          refine j_lor hx dX2_note_73 (fun w23 f24 f25 => ?_)
          refine j_last hx hG (zr (k := 1) (t2 := 53) hG ha rfl) (by decide) rfl rfl (by omega) (by omega) (j := (v1 + 5).toNat) rfl dX2_note_74 ?_
          obtain ⟨s2, e_s2⟩ : ∃ z, z = zU s1 (gP G a 1) (v1 + 5).toNat w23 := ⟨_, rfl⟩
          rw [← e_s2]
          have hS_s2 : zSK G s2 := by rw [e_s2]; exact zSK_A hS_s1 (zr (k := 1) (t2 := 53) hG ha rfl) rfl rfl rfl (by omega)
          refine j_aload_n hx 1 dX2_note_75 rfl ?_
          refine g3_1 hx hG ha kf_RX2_11 dX2_note_76 ?_
          refine j_iload_n hx 0 dX2_note_79 rfl ?_
          refine j_bipush hx dX2_note_80 rfl ?_
          refine j_iadd hx (r := v1 + 6) dX2_note_82 rfl ?_
          refine j_aload_n hx 1 dX2_note_83 rfl ?_
          refine g3_0 hx hG ha kf_RX2_27 dX2_note_84 ?_
          have f26 := zf hS0 (zr (k := 0) (t2 := 4) hG ha rfl) (k := 8) rfl
          refine gN4_8 hx hG (zr (k := 0) (t2 := 4) hG ha rfl) kf_RX2_90 (v := (s0 (gP G a 0) 8)) (by rw [e_s2, zU_at (Or.inl (zne (zr (k := 1) (t2 := 53) hG ha rfl) (zr (k := 0) (t2 := 4) hG ha rfl) (by decide))), (zFr_g hF_s1 (zr (k := 0) (t2 := 4) hG ha rfl) (by decide))]) dX2_note_87 ?_
          have c105_3 : ∀ (w27 : Int), ((-2147483648) ≤ w27 ∧ w27 ≤ 2147483647) → JJ X E 7 G s2 0 0 [(0, .ref a), (1, .int (zI x1)), (3, .int (zI v1))] 105 [.long (zL w27), .int (zI (v1 + 6)), .ref (gP G a 1)] := by
            intro w27 fA4
            refine j_last hx hG (zr (k := 1) (t2 := 53) hG ha rfl) (by decide) rfl rfl (by omega) (by omega) (j := (v1 + 6).toNat) rfl dX2_note_105 ?_
            obtain ⟨s5, e_s5⟩ : ∃ z, z = zU s2 (gP G a 1) (v1 + 6).toNat w27 := ⟨_, rfl⟩
            rw [← e_s5]
            have hS_s5 : zSK G s5 := by rw [e_s5]; exact zSK_A hS_s2 (zr (k := 1) (t2 := 53) hG ha rfl) rfl rfl rfl (by omega)
            refine j_aload_n hx 0 dX2_note_106 rfl ?_
            refine j_iload_n hx 2 dX2_note_107 rfl ?_
            refine j_callV hx hG (c_X2_slotOf hst a v1) lk_RX2_97 ha (by decide) rfl rfl rfl rfl [.int (zI v1)] ⟨rfl, hG, hS_s5, ha, (by omega)⟩ rfl rfl ⟨by decide, by decide⟩ ⟨by decide, by decide⟩ (k2 := 0) (n2 := 0) rfl rfl (Nat.le_of_ble_eq_true rfl) dX2_note_108 (kIP (fun v28 q29 => ?_))
            refine j_istore hx [(4, .int (zI v28)), (0, .ref a), (1, .int (zI x1)), (3, .int (zI v1))] dX2_note_111 (by decide) rfl ?_
            refine j_iload hx 0 dX2_note_113 rfl ?_
            refine j_if_lt hx 128 dX2_note_115 rfl (by omega) (fun h30 => ?_) (fun h30 => ?_)
            · skip
              refine j_iconst hx dX2_note_128 ?_
              exact j_iret hx hq rfl (by decide) (by decide) dX2_note_129 ⟨(-1), rfl, rfl, hS_s5, (zFr_u (zFr_u (zFr_t zFr_rf hF_s1 (by decide)) e_s2 (zr (k := 1) (t2 := 53) hG ha rfl) (by decide)) e_s5 (zr (k := 1) (t2 := 53) hG ha rfl) (by decide)), (by omega)⟩
            · skip
              refine j_iload hx 0 dX2_note_118 rfl ?_
              refine j_aload_n hx 1 dX2_note_120 rfl ?_
              refine g3_2 hx hG ha kf_RX2_15 dX2_note_121 ?_
              refine j_alen hx hG (zr (k := 2) (t2 := 54) hG ha rfl) (by decide) (by decide) (zlen hG (zr (k := 2) (t2 := 54) hG ha rfl) (n := 4096) rfl rfl) dX2_note_124 ?_
              refine j_icmp_lt hx 130 dX2_note_125 rfl (by omega) ⟨by decide, by decide⟩ (fun h31 => ?_) (fun h31 => ?_)
              · skip
                refine j_aload_n hx 1 dX2_note_130 rfl ?_
                refine g3_2 hx hG ha kf_RX2_15 dX2_note_131 ?_
                refine j_iload hx 0 dX2_note_134 rfl ?_
                have f32 := zaI (j := (v28).toNat) hS0 (zr (k := 2) (t2 := 54) hG ha rfl) rfl (zlen hG (zr (k := 2) (t2 := 54) hG ha rfl) (n := 4096) rfl rfl) (show 0 ≤ v28 by omega) (by omega) rfl
                refine j_iald hx hG (zr (k := 2) (t2 := 54) hG ha rfl) (by decide) rfl (zlen hG (zr (k := 2) (t2 := 54) hG ha rfl) (n := 4096) rfl rfl) (by omega) (by omega) (j := (v28).toNat) rfl (v := (s0 (gP G a 2) (v28).toNat)) (by rw [e_s5, zU_at (Or.inl (zne (zr (k := 1) (t2 := 53) hG ha rfl) (zr (k := 2) (t2 := 54) hG ha rfl) (by decide))), e_s2, zU_at (Or.inl (zne (zr (k := 1) (t2 := 53) hG ha rfl) (zr (k := 2) (t2 := 54) hG ha rfl) (by decide))), (zFr_g hF_s1 (zr (k := 2) (t2 := 54) hG ha rfl) (by decide))]) dX2_note_136 ?_
                refine j_istore hx [(5, .int (zI ((s0 (gP G a 2) (v28).toNat)))), (4, .int (zI v28)), (0, .ref a), (1, .int (zI x1)), (3, .int (zI v1))] dX2_note_137 (by decide) rfl ?_
                refine j_iconst hx dX2_note_139 ?_
                refine j_istore hx [(6, .int (zI 0)), (5, .int (zI ((s0 (gP G a 2) (v28).toNat)))), (4, .int (zI v28)), (0, .ref a), (1, .int (zI x1)), (3, .int (zI v1))] dX2_note_140 (by decide) rfl ?_
                have c142_6 : ∀ (m_c142_6 : Nat) (v33 : Int) (v34 : Int), 2147483648 - v34 < m_c142_6 → ((-2147483648) ≤ v33 ∧ v33 ≤ 2147483647) → (0 ≤ v34 ∧ v34 ≤ 3001) → JJ X E 7 G s5 0 0 [(0, .ref a), (1, .int (zI x1)), (3, .int (zI v1)), (4, .int (zI v28)), (5, .int (zI v33)), (6, .int (zI v34))] 142 [] := by
                  intro m_c142_6
                  induction m_c142_6 with
                  | zero => intro v33 v34 hm_c142_6 fA7 fA8; exfalso; omega
                  | succ m_c142_6 ih_c142_6 => 
                    intro v33 v34 hm_c142_6 fA7 fA8
                    refine j_iload hx 5 dX2_note_142 rfl ?_
                    refine j_sipush hx dX2_note_144 rfl ?_
                    have c196_9 : JJ X E 7 G s5 0 0 [(0, .ref a), (1, .int (zI x1)), (4, .int (zI v28))] 196 [] := by
                      refine j_aload_n hx 0 dX2_note_196 rfl ?_
                      refine g3_3 hx hG ha kf_RX2_19 dX2_note_197 ?_
                      refine j_iload_n hx 1 dX2_note_200 rfl ?_
                      refine j_aload_n hx 0 dX2_note_201 rfl ?_
                      refine g3_2 hx hG ha kf_RX2_15 dX2_note_202 ?_
                      refine j_iload hx 2 dX2_note_205 rfl ?_
                      refine j_iald hx hG (zr (k := 2) (t2 := 54) hG ha rfl) (by decide) rfl (zlen hG (zr (k := 2) (t2 := 54) hG ha rfl) (n := 4096) rfl rfl) (by omega) (by omega) (j := (v28).toNat) rfl (v := (s0 (gP G a 2) (v28).toNat)) (by rw [e_s5, zU_at (Or.inl (zne (zr (k := 1) (t2 := 53) hG ha rfl) (zr (k := 2) (t2 := 54) hG ha rfl) (by decide))), e_s2, zU_at (Or.inl (zne (zr (k := 1) (t2 := 53) hG ha rfl) (zr (k := 2) (t2 := 54) hG ha rfl) (by decide))), (zFr_g hF_s1 (zr (k := 2) (t2 := 54) hG ha rfl) (by decide))]) dX2_note_207 ?_
                      refine j_iast hx hG (zr (k := 3) (t2 := 55) hG ha rfl) (by decide) rfl (zlen hG (zr (k := 3) (t2 := 55) hG ha rfl) (n := 3001) rfl rfl) (by omega) (by omega) (j := (x1).toNat) rfl dX2_note_208 ?_
                      obtain ⟨s10, e_s10⟩ : ∃ z, z = zU s5 (gP G a 3) (x1).toNat ((s0 (gP G a 2) (v28).toNat)) := ⟨_, rfl⟩
                      rw [← e_s10]
                      have hS_s10 : zSK G s10 := by rw [e_s10]; exact zSK_A hS_s5 (zr (k := 3) (t2 := 55) hG ha rfl) rfl rfl rfl (by omega)
                      refine j_aload_n hx 0 dX2_note_209 rfl ?_
                      refine g3_2 hx hG ha kf_RX2_15 dX2_note_210 ?_
                      refine j_iload hx 2 dX2_note_213 rfl ?_
                      refine j_iload_n hx 1 dX2_note_215 rfl ?_
                      refine j_iast hx hG (zr (k := 2) (t2 := 54) hG ha rfl) (by decide) rfl (zlen hG (zr (k := 2) (t2 := 54) hG ha rfl) (n := 4096) rfl rfl) (by omega) (by omega) (j := (v28).toNat) rfl dX2_note_216 ?_
                      obtain ⟨s11, e_s11⟩ : ∃ z, z = zU s10 (gP G a 2) (v28).toNat x1 := ⟨_, rfl⟩
                      rw [← e_s11]
                      have hS_s11 : zSK G s11 := by rw [e_s11]; exact zSK_A hS_s10 (zr (k := 2) (t2 := 54) hG ha rfl) rfl rfl rfl (by omega)
                      refine j_iconst hx dX2_note_217 ?_
                      exact j_iret hx hq rfl (by decide) (by decide) dX2_note_218 ⟨(-1), rfl, rfl, hS_s11, (zFr_u (zFr_u (zFr_u (zFr_u (zFr_t zFr_rf hF_s1 (by decide)) e_s2 (zr (k := 1) (t2 := 53) hG ha rfl) (by decide)) e_s5 (zr (k := 1) (t2 := 53) hG ha rfl) (by decide)) e_s10 (zr (k := 3) (t2 := 55) hG ha rfl) (by decide)) e_s11 (zr (k := 2) (t2 := 54) hG ha rfl) (by decide)), (by omega)⟩
                    refine j_icmp_gt hx 196 dX2_note_147 rfl (by omega) ⟨by decide, by decide⟩ (fun h35 => ?_) (fun h35 => ?_)
                    · skip
                      exact j_sub [0, 1, 3] [(0, .ref a), (1, .int (zI x1)), (4, .int (zI v28))] rfl (c196_9  )
                    · skip
                      refine j_iload hx 4 dX2_note_150 rfl ?_
                      refine j_if_lt hx 196 dX2_note_152 rfl (by omega) (fun h36 => ?_) (fun h36 => ?_)
                      · skip
                        exact j_sub [0, 1, 3] [(0, .ref a), (1, .int (zI x1)), (4, .int (zI v28))] rfl (c196_9  )
                      · skip
                        refine j_iload hx 4 dX2_note_155 rfl ?_
                        refine j_aload_n hx 0 dX2_note_157 rfl ?_
                        refine g3_3 hx hG ha kf_RX2_19 dX2_note_158 ?_
                        refine j_alen hx hG (zr (k := 3) (t2 := 55) hG ha rfl) (by decide) (by decide) (zlen hG (zr (k := 3) (t2 := 55) hG ha rfl) (n := 3001) rfl rfl) dX2_note_161 ?_
                        refine j_icmp_ge hx 196 dX2_note_162 rfl (by omega) ⟨by decide, by decide⟩ (fun h37 => ?_) (fun h37 => ?_)
                        · skip
                          exact j_sub [0, 1, 3] [(0, .ref a), (1, .int (zI x1)), (4, .int (zI v28))] rfl (c196_9  )
                        · skip
                          refine j_aload_n hx 0 dX2_note_165 rfl ?_
                          refine j_iload hx 4 dX2_note_166 rfl ?_
                          refine j_bipush hx dX2_note_168 rfl ?_
                          refine j_imul hx (r := 7 * v33) dX2_note_170 (by omega) ?_
                          refine j_iload_n hx 2 dX2_note_171 rfl ?_
                          refine j_callV hx hG (c_X2_isSame hst a (7 * v33) v1) lk_RX2_101 ha (by decide) rfl rfl rfl rfl [.int (zI (7 * v33)), .int (zI v1)] ⟨rfl, hG, hS_s5, ha, (by omega), (by omega)⟩ rfl rfl ⟨by decide, by decide⟩ ⟨by decide, by decide⟩ (k2 := 0) (n2 := 0) rfl rfl (Nat.le_of_ble_eq_true rfl) dX2_note_172 (kIP (fun v38 q39 => ?_))
                          refine j_if_eq hx 181 dX2_note_175 rfl (by omega) (fun h40 => ?_) (fun h40 => ?_)
                          · skip
                            refine j_aload_n hx 0 dX2_note_181 rfl ?_
                            refine g3_3 hx hG ha kf_RX2_19 dX2_note_182 ?_
                            refine j_iload hx 4 dX2_note_185 rfl ?_
                            have f41 := zaI (j := (v33).toNat) hS0 (zr (k := 3) (t2 := 55) hG ha rfl) rfl (zlen hG (zr (k := 3) (t2 := 55) hG ha rfl) (n := 3001) rfl rfl) (show 0 ≤ v33 by omega) (by omega) rfl
                            refine j_iald hx hG (zr (k := 3) (t2 := 55) hG ha rfl) (by decide) rfl (zlen hG (zr (k := 3) (t2 := 55) hG ha rfl) (n := 3001) rfl rfl) (by omega) (by omega) (j := (v33).toNat) rfl (v := (s0 (gP G a 3) (v33).toNat)) (by rw [e_s5, zU_at (Or.inl (zne (zr (k := 1) (t2 := 53) hG ha rfl) (zr (k := 3) (t2 := 55) hG ha rfl) (by decide))), e_s2, zU_at (Or.inl (zne (zr (k := 1) (t2 := 53) hG ha rfl) (zr (k := 3) (t2 := 55) hG ha rfl) (by decide))), (zFr_g hF_s1 (zr (k := 3) (t2 := 55) hG ha rfl) (by decide))]) dX2_note_187 ?_
                            refine j_istore hx [(5, .int (zI ((s0 (gP G a 3) (v33).toNat)))), (0, .ref a), (1, .int (zI x1)), (3, .int (zI v1)), (4, .int (zI v28)), (6, .int (zI v34))] dX2_note_188 (by decide) rfl ?_
                            refine j_iinc hx 5 [(6, .int (zI (v34 + 1))), (5, .int (zI ((s0 (gP G a 3) (v33).toNat)))), (0, .ref a), (1, .int (zI x1)), (3, .int (zI v1)), (4, .int (zI v28))] dX2_note_190 rfl (by omega) (by decide) rfl ?_
                            refine j_goto hx 142 dX2_note_193 rfl ?_
                            exact j_sub [2, 3, 4, 5, 1, 0] [(0, .ref a), (1, .int (zI x1)), (3, .int (zI v1)), (4, .int (zI v28)), (5, .int (zI ((s0 (gP G a 3) (v33).toNat)))), (6, .int (zI (v34 + 1)))] rfl (ih_c142_6 ((s0 (gP G a 3) (v33).toNat)) (v34 + 1) (by omega) (by omega) (by omega))
                          · skip
                            refine j_iload hx 4 dX2_note_178 rfl ?_
                            exact j_iret hx hq rfl (by decide) (by decide) dX2_note_180 ⟨v33, rfl, rfl, hS_s5, (zFr_u (zFr_u (zFr_t zFr_rf hF_s1 (by decide)) e_s2 (zr (k := 1) (t2 := 53) hG ha rfl) (by decide)) e_s5 (zr (k := 1) (t2 := 53) hG ha rfl) (by decide)), (by omega)⟩
                exact j_sub [3, 4, 5, 2, 1, 0] [(0, .ref a), (1, .int (zI x1)), (3, .int (zI v1)), (4, .int (zI v28)), (5, .int (zI ((s0 (gP G a 2) (v28).toNat)))), (6, .int (zI 0))] rfl (c142_6 (2147483648 * 4) ((s0 (gP G a 2) (v28).toNat)) 0 (by omega) (by omega) (by omega))
              · skip
                refine j_iconst hx dX2_note_128 ?_
                exact j_iret hx hq rfl (by decide) (by decide) dX2_note_129 ⟨(-1), rfl, rfl, hS_s5, (zFr_u (zFr_u (zFr_t zFr_rf hF_s1 (by decide)) e_s2 (zr (k := 1) (t2 := 53) hG ha rfl) (by decide)) e_s5 (zr (k := 1) (t2 := 53) hG ha rfl) (by decide)), (by omega)⟩
          refine j_if_eq hx 104 dX2_note_90 rfl (by omega) (fun h42 => ?_) (fun h42 => ?_)
          · skip
            refine j_lconst hx dX2_note_104 ?_
            show JJ X E 7 G s2 0 0 [(3, .int (zI v1)), (0, .ref a), (1, .int (zI x1)), (2, .int (zI x2))] 105 [.long (zL 0), .int (zI (v1 + 6)), .ref (gP G a 1)]
            exact j_sub [1, 2, 0] [(0, .ref a), (1, .int (zI x1)), (3, .int (zI v1))] rfl (c105_3 0 (by omega))
          · skip
            refine j_aload_n hx 1 dX2_note_93 rfl ?_
            refine g3_0 hx hG ha kf_RX2_27 dX2_note_94 ?_
            have f43 := zf hS0 (zr (k := 0) (t2 := 4) hG ha rfl) (k := 9) rfl
            refine gN4_9 hx hG (zr (k := 0) (t2 := 4) hG ha rfl) kf_RX2_94 (v := (s0 (gP G a 0) 9)) (by rw [e_s2, zU_at (Or.inl (zne (zr (k := 1) (t2 := 53) hG ha rfl) (zr (k := 0) (t2 := 4) hG ha rfl) (by decide))), (zFr_g hF_s1 (zr (k := 0) (t2 := 4) hG ha rfl) (by decide))]) dX2_note_97 ?_
            refine j_i2l hx dX2_note_100 (by omega) ?_
            refine j_goto hx 105 dX2_note_101 rfl ?_
            exact j_sub [1, 2, 0] [(0, .ref a), (1, .int (zI x1)), (3, .int (zI v1))] rfl (c105_3 ((s0 (gP G a 0) 9)) (by omega))
        · skip
          refine j_iconst hx dX2_note_34 ?_
          exact j_iret hx hq rfl (by decide) (by decide) dX2_note_35 ⟨(-1), rfl, rfl, hS0, zFr_rf, (by omega)⟩

set_option maxHeartbeats 4000000 in
set_option maxRecDepth 20000 in
theorem c_X0_leftOne {E : zE} {l : Launch} (hst : l.stackTraces = false) (a : Nat) : Con E l yX0_leftOne cX0_leftOne 1 (some .int) { frames := 2, cells := 0, slots := 0, locals := 45 } (fun G s vs => vs = [.ref a] ∧ zGK G ∧ zSK G s ∧ (gT G a = 1)) (fun G s _ => pI (fun r G2 s2 => G2 = G ∧ s2 = s ∧ ((-1) ≤ r ∧ r ≤ 2))) := by
  refine Con.mk hst (by decide) (fun G s vs h => by rw [h.1]; exact Nat.le_of_ble_eq_true rfl) ?_
  rintro X G s0 vs ⟨rfl, hG, hS0, ha⟩ rfl hx hq
  show JJ X E 1 G s0 0 0 [(0, .ref a)] 0 []
  refine j_aload_n hx 0 dX0_leftOne_0 rfl ?_
  refine j_callV hx hG (c_X0_remaining hst a) lk_RX0_68 ha (by decide) rfl rfl rfl rfl [] ⟨rfl, hG, hS0, ha⟩ rfl rfl ⟨by decide, by decide⟩ ⟨by decide, by decide⟩ (k2 := 0) (n2 := 0) rfl rfl (Nat.le_of_ble_eq_true rfl) dX0_leftOne_1 (kIP (fun v1 q2 => ?_))
  refine j_iconst hx dX0_leftOne_4 ?_
  refine j_icmp_ne hx 20 dX0_leftOne_5 rfl (by omega) ⟨by decide, by decide⟩ (fun h3 => ?_) (fun h3 => ?_)
  · skip
    refine j_iconst hx dX0_leftOne_20 ?_
    exact j_iret hx hq rfl (by decide) (by decide) dX0_leftOne_21 ⟨(-1), rfl, rfl, rfl, (by omega)⟩
  · skip
    refine j_aload_n hx 0 dX0_leftOne_8 rfl ?_
    refine j_iconst hx dX0_leftOne_9 ?_
    refine j_aload_n hx 0 dX0_leftOne_10 rfl ?_
    have f4 := zf hS0 ha (k := 7) rfl
    refine g1_7 hx hG ha kf_RX0_50 rfl dX0_leftOne_11 ?_
    refine j_callV hx hG (c_X0_firstIn hst a 0 ((s0 a 7))) lk_RX0_64 ha (by decide) rfl rfl rfl rfl [.int (zI 0), .int (zI ((s0 a 7)))] ⟨rfl, hG, hS0, ha, (by omega), (by omega)⟩ rfl rfl ⟨by decide, by decide⟩ ⟨by decide, by decide⟩ (k2 := 0) (n2 := 0) rfl rfl (Nat.le_of_ble_eq_true rfl) dX0_leftOne_14 (kIP (fun v5 q6 => ?_))
    refine j_goto hx 21 dX0_leftOne_17 rfl ?_
    exact j_iret hx hq rfl (by decide) (by decide) dX0_leftOne_21 ⟨v5, rfl, rfl, rfl, (by omega)⟩

theorem lk_RX2_35 : LkV RX2 35 RX3 yX3_cycle cX3_cycle 4 (some .int) 0 := ⟨km_RX2_35, ki_yX3_cycle, ks_RX3_yX3_cycle, kn_RX3, kc_yX3_cycle, rfl, by decide +kernel, by decide +kernel, by decide +kernel⟩
theorem lk_RX2_45 : LkS RX2 45 yJ7_fill_53178 cJ7_fill_53178 4 none 2 := ⟨km_RX2_45, kst_yJ7_fill_53178, kn_RJ7, kc_yJ7_fill_53178, by decide +kernel, by decide +kernel, by decide +kernel⟩
theorem lk_RX2_77 : LkV RX2 77 RX0 yX0_leftOne cX0_leftOne 1 (some .int) 0 := ⟨km_RX2_77, ki_yX0_leftOne, ks_RX0_yX0_leftOne, kn_RX0, kc_yX0_leftOne, rfl, by decide +kernel, by decide +kernel, by decide +kernel⟩
theorem lk_RX2_65 : LkV RX2 65 RX0 yX0_whose cX0_whose 1 (some .int) 0 := ⟨km_RX2_65, ki_yX0_whose, ks_RX0_yX0_whose, kn_RX0, kc_yX0_whose, rfl, by decide +kernel, by decide +kernel, by decide +kernel⟩
theorem lk_RX2_70 : LkV RX2 70 RX2 yX2_note cX2_note 7 (some .int) 2 := ⟨km_RX2_70, ki_yX2_note, ks_RX2_yX2_note, kn_RX2, kc_yX2_note, rfl, by decide +kernel, by decide +kernel, by decide +kernel⟩
theorem lk_RX2_73 : LkV RX2 73 RX3 yX3_playTurn cX3_playTurn 3 (some .boolean) 0 := ⟨km_RX2_73, ki_yX3_playTurn, ks_RX3_yX3_playTurn, kn_RX3, kc_yX3_playTurn, rfl, by decide +kernel, by decide +kernel, by decide +kernel⟩
set_option maxHeartbeats 4000000 in
set_option maxRecDepth 20000 in
theorem c_X2_run {E : zE} {l : Launch} (hst : l.stackTraces = false) (a : Nat) : Con E l yX2_run cX2_run 4 none { frames := 6, cells := 0, slots := 0, locals := 143 } (fun G s vs => vs = [.ref a] ∧ zGK G ∧ zSK G s ∧ (gT G a = 3)) (fun G s _ => pV (fun G2 s2 => G2 = G ∧ zSK G s2 ∧ zFr [1, 3, 4, 7, 41, 50, 51, 52, 53, 54, 55] G s s2 ∧ True)) := by
  refine Con.mk hst (by decide) (fun G s vs h => by rw [h.1]; exact Nat.le_of_ble_eq_true rfl) ?_
  rintro X G s0 vs ⟨rfl, hG, hS0, ha⟩ rfl hx hq
  show JJ X E 4 G s0 0 0 [(0, .ref a)] 0 []
  refine j_iconst hx dX2_run_0 ?_
  refine j_aload_n hx 0 dX2_run_1 rfl ?_
  refine g3_0 hx hG ha kf_RX2_27 dX2_run_2 ?_
  refine j_callV hx hG (c_X3_cycle hst (gP G a 0)) lk_RX2_35 (zr (k := 0) (t2 := 4) hG ha rfl) (by decide) rfl rfl rfl rfl [] ⟨rfl, hG, hS0, (zr (k := 0) (t2 := 4) hG ha rfl)⟩ rfl rfl ⟨by decide, by decide⟩ ⟨by decide, by decide⟩ (k2 := 0) (n2 := 0) rfl rfl (Nat.le_of_ble_eq_true rfl) dX2_run_5 (kIP (fun v1 q2 => ?_))
  refine j_mmax hx km_RX2_39 kst_max kn_RJ9 kc_Lib_Math_max_name ⟨by decide, by decide⟩ (by omega) ⟨by decide, Nat.le_of_ble_eq_true rfl⟩ ⟨by decide, by decide⟩ dX2_run_8 (fun v3 f4 f5 f6 => ?_)
  refine j_istore_n hx [(1, .int (zI v3)), (0, .ref a)] dX2_run_11 (by decide) rfl ?_
  refine j_aload_n hx 1 dX2_run_12 rfl ?_
  refine g3_2 hx hG ha kf_RX2_15 dX2_run_13 ?_
  refine j_iconst hx dX2_run_16 ?_
  refine j_callS hx (c_fill_54m hst (gP G a 2) (-1)) lk_RX2_45 [.ref (gP G a 2), .int (zI (-1))] ⟨rfl, hG, hS0, (zr (k := 2) (t2 := 54) hG ha rfl), (by omega)⟩ rfl rfl ⟨by decide, by decide⟩ ⟨by decide, by decide⟩ (k2 := 0) (n2 := 0) rfl rfl (Nat.le_of_ble_eq_true rfl) dX2_run_17 (kVM (fun s1 hS_s1 hF_s1 q8 => ?_))
  refine j_aload_n hx 1 dX2_run_20 rfl ?_
  refine j_iconst hx dX2_run_21 ?_
  refine p3_6 hx hG ha kf_RX2_51 dX2_run_22 ?_
  obtain ⟨s2, e_s2⟩ : ∃ z, z = zU s1 a 6 0 := ⟨_, rfl⟩
  rw [← e_s2]
  have hS_s2 : zSK G s2 := by rw [e_s2]; exact zSK_F hS_s1 ha rfl rfl rfl (by omega)
  refine j_aload_n hx 1 dX2_run_25 rfl ?_
  refine j_iconst hx dX2_run_26 ?_
  refine p3_7 hx hG ha kf_RX2_55 dX2_run_27 ?_
  obtain ⟨s3, e_s3⟩ : ∃ z, z = zU s2 a 7 0 := ⟨_, rfl⟩
  rw [← e_s3]
  have hS_s3 : zSK G s3 := by rw [e_s3]; exact zSK_F hS_s2 ha rfl rfl rfl (by omega)
  refine j_aload_n hx 1 dX2_run_30 rfl ?_
  refine j_iconst hx dX2_run_31 ?_
  refine p3_5 hx hG ha kf_RX2_58 dX2_run_32 ?_
  obtain ⟨s4, e_s4⟩ : ∃ z, z = zU s3 a 5 0 := ⟨_, rfl⟩
  rw [← e_s4]
  have hS_s4 : zSK G s4 := by rw [e_s4]; exact zSK_F hS_s3 ha rfl rfl rfl (by omega)
  refine j_iconst hx dX2_run_35 ?_
  refine j_istore_n hx [(2, .int (zI 0)), (1, .int (zI v3)), (0, .ref a)] dX2_run_36 (by decide) rfl ?_
  have c37_5 : ∀ (m_c37_5 : Nat) (v9 : Int) (s6 : zS), 2147483648 - v9 < m_c37_5 → (0 ≤ v9 ∧ v9 ≤ 3001) → (zSK G s6) → (zFr [1, 3, 4, 7, 41, 50, 51, 52, 53, 54, 55] G s4 s6) → JJ X E 4 G s6 0 0 [(0, .ref a), (1, .int (zI v3)), (2, .int (zI v9))] 37 [] := by
    intro m_c37_5
    induction m_c37_5 with
    | zero => intro v9 s6 hm_c37_5 fA7 hS_s6 hF_s6; exfalso; omega
    | succ m_c37_5 ih_c37_5 => 
      intro v9 s6 hm_c37_5 fA7 hS_s6 hF_s6
      refine j_iload_n hx 2 dX2_run_37 rfl ?_
      refine j_sipush hx dX2_run_38 rfl ?_
      have c126_10 : ∀ (s11 : zS), (zSK G s11) → (zFr [3] G s6 s11) → JJ X E 4 G s11 0 0 [(0, .ref a)] 126 [] := by
        intro s11 hS_s11 hF_s11
        refine j_aload_n hx 0 dX2_run_126 rfl ?_
        refine j_aload_n hx 0 dX2_run_127 rfl ?_
        have f10 := zf hS_s11 ha (k := 6) rfl
        refine g3_6 hx hG ha kf_RX2_51 rfl dX2_run_128 ?_
        refine j_iconst hx dX2_run_131 ?_
        refine j_icmp_ne hx 148 dX2_run_132 rfl (by omega) ⟨by decide, by decide⟩ (fun h11 => ?_) (fun h11 => ?_)
        · skip
          refine j_iconst hx dX2_run_148 ?_
          refine p3_4 hx hG ha kf_RX2_80 dX2_run_149 ?_
          obtain ⟨s14, e_s14⟩ : ∃ z, z = zU s11 a 4 (-1) := ⟨_, rfl⟩
          rw [← e_s14]
          have hS_s14 : zSK G s14 := by rw [e_s14]; exact zSK_F hS_s11 ha rfl rfl rfl (by omega)
          exact j_vret hx hq rfl (by decide) (by decide) dX2_run_152 ⟨rfl, rfl, hS_s14, (zFr_u (zFr_t (zFr_t (zFr_u (zFr_u (zFr_u (zFr_t zFr_rf hF_s1 (by decide)) e_s2 ha (by decide)) e_s3 ha (by decide)) e_s4 ha (by decide)) hF_s6 (by decide)) hF_s11 (by decide)) e_s14 ha (by decide)), trivial⟩
        · skip
          refine j_aload_n hx 0 dX2_run_135 rfl ?_
          refine g3_0 hx hG ha kf_RX2_27 dX2_run_136 ?_
          refine gN4_1 hx hG (zr (k := 0) (t2 := 4) hG ha rfl) kf_RX2_61 dX2_run_139 ?_
          refine j_callV hx hG (c_X0_leftOne hst (gP G (gP G a 0) 1)) lk_RX2_77 (zr (k := 1) (t2 := 1) hG (zr (k := 0) (t2 := 4) hG ha rfl) rfl) (by decide) rfl rfl rfl rfl [] ⟨rfl, hG, hS_s11, (zr (k := 1) (t2 := 1) hG (zr (k := 0) (t2 := 4) hG ha rfl) rfl)⟩ rfl rfl ⟨by decide, by decide⟩ ⟨by decide, by decide⟩ (k2 := 0) (n2 := 0) rfl rfl (Nat.le_of_ble_eq_true rfl) dX2_run_142 (kIP (fun v12 q13 => ?_))
          refine j_goto hx 149 dX2_run_145 rfl ?_
          refine p3_4 hx hG ha kf_RX2_80 dX2_run_149 ?_
          obtain ⟨s15, e_s15⟩ : ∃ z, z = zU s11 a 4 v12 := ⟨_, rfl⟩
          rw [← e_s15]
          have hS_s15 : zSK G s15 := by rw [e_s15]; exact zSK_F hS_s11 ha rfl rfl rfl (by omega)
          exact j_vret hx hq rfl (by decide) (by decide) dX2_run_152 ⟨rfl, rfl, hS_s15, (zFr_u (zFr_t (zFr_t (zFr_u (zFr_u (zFr_u (zFr_t zFr_rf hF_s1 (by decide)) e_s2 ha (by decide)) e_s3 ha (by decide)) e_s4 ha (by decide)) hF_s6 (by decide)) hF_s11 (by decide)) e_s15 ha (by decide)), trivial⟩
      refine j_icmp_gt hx 126 dX2_run_41 rfl (by omega) ⟨by decide, by decide⟩ (fun h14 => ?_) (fun h14 => ?_)
      · skip
        exact j_sub [0] [(0, .ref a)] rfl (c126_10 s6 hS_s6 zFr_rf)
      · skip
        refine j_aload_n hx 0 dX2_run_44 rfl ?_
        have f15 := zf hS_s6 ha (k := 6) rfl
        refine g3_6 hx hG ha kf_RX2_51 rfl dX2_run_45 ?_
        refine j_if_ne hx 126 dX2_run_48 rfl (by omega) (fun h16 => ?_) (fun h16 => ?_)
        · skip
          exact j_sub [0] [(0, .ref a)] rfl (c126_10 s6 hS_s6 zFr_rf)
        · skip
          refine j_aload_n hx 0 dX2_run_51 rfl ?_
          refine j_iload_n hx 2 dX2_run_52 rfl ?_
          refine p3_5 hx hG ha kf_RX2_58 dX2_run_53 ?_
          obtain ⟨s16, e_s16⟩ : ∃ z, z = zU s6 a 5 v9 := ⟨_, rfl⟩
          rw [← e_s16]
          have hS_s16 : zSK G s16 := by rw [e_s16]; exact zSK_F hS_s6 ha rfl rfl rfl (by omega)
          refine j_aload_n hx 0 dX2_run_56 rfl ?_
          refine g3_0 hx hG ha kf_RX2_27 dX2_run_57 ?_
          refine gN4_1 hx hG (zr (k := 0) (t2 := 4) hG ha rfl) kf_RX2_61 dX2_run_60 ?_
          refine j_callV hx hG (c_X0_whose hst (gP G (gP G a 0) 1)) lk_RX2_65 (zr (k := 1) (t2 := 1) hG (zr (k := 0) (t2 := 4) hG ha rfl) rfl) (by decide) rfl rfl rfl rfl [] ⟨rfl, hG, hS_s16, (zr (k := 1) (t2 := 1) hG (zr (k := 0) (t2 := 4) hG ha rfl) rfl)⟩ rfl rfl ⟨by decide, by decide⟩ ⟨by decide, by decide⟩ (k2 := 0) (n2 := 0) rfl rfl (Nat.le_of_ble_eq_true rfl) dX2_run_63 (kIP (fun v17 q18 => ?_))
          refine j_iconst hx dX2_run_66 ?_
          refine j_icmp_ne hx 78 dX2_run_67 rfl (by omega) ⟨by decide, by decide⟩ (fun h19 => ?_) (fun h19 => ?_)
          · skip
            refine j_aload_n hx 0 dX2_run_78 rfl ?_
            refine j_iload_n hx 2 dX2_run_79 rfl ?_
            refine j_iload_n hx 1 dX2_run_80 rfl ?_
            refine j_callV hx hG (c_X2_note hst a v9 v3) lk_RX2_70 ha (by decide) rfl rfl rfl rfl [.int (zI v9), .int (zI v3)] ⟨rfl, hG, hS_s16, ha, (by omega), (by omega)⟩ rfl rfl ⟨by decide, by decide⟩ ⟨by decide, by decide⟩ (k2 := 0) (n2 := 0) rfl rfl (Nat.le_of_ble_eq_true rfl) dX2_run_81 (kIM (fun v20 s17 hS_s17 hF_s17 q21 => ?_))
            refine j_istore_n hx [(3, .int (zI v20)), (0, .ref a), (1, .int (zI v3)), (2, .int (zI v9))] dX2_run_84 (by decide) rfl ?_
            refine j_iload_n hx 0 dX2_run_85 rfl ?_
            refine j_iconst hx dX2_run_86 ?_
            have c120_18 : ∀ (s19 : zS), (zSK G s19) → (zFr [1, 3, 4, 7, 41, 50, 51, 52] G s17 s19) → JJ X E 4 G s19 0 0 [(0, .ref a), (1, .int (zI v3)), (2, .int (zI v9))] 120 [] := by
              intro s19 hS_s19 hF_s19
              refine j_iinc hx 2 [(2, .int (zI (v9 + 1))), (0, .ref a), (1, .int (zI v3))] dX2_run_120 rfl (by omega) (by decide) rfl ?_
              refine j_goto hx 37 dX2_run_123 rfl ?_
              exact j_sub [1, 2, 0] [(0, .ref a), (1, .int (zI v3)), (2, .int (zI (v9 + 1)))] rfl (ih_c37_5 (v9 + 1) s19 (by omega) (by omega) hS_s19 (zFr_t (zFr_t (zFr_u (zFr_t zFr_rf hF_s6 (by decide)) e_s16 ha (by decide)) hF_s17 (by decide)) hF_s19 (by decide)))
            refine j_icmp_eq hx 105 dX2_run_87 rfl (by omega) ⟨by decide, by decide⟩ (fun h22 => ?_) (fun h22 => ?_)
            · skip
              refine j_iload_n hx 3 dX2_run_105 rfl ?_
              refine j_sipush hx dX2_run_106 rfl ?_
              refine j_icmp_ge hx 120 dX2_run_109 rfl (by omega) ⟨by decide, by decide⟩ (fun h23 => ?_) (fun h23 => ?_)
              · skip
                exact j_sub [1, 2, 3] [(0, .ref a), (1, .int (zI v3)), (2, .int (zI v9))] rfl (c120_18 s17 hS_s17 zFr_rf)
              · skip
                refine j_aload_n hx 1 dX2_run_112 rfl ?_
                refine g3_0 hx hG ha kf_RX2_27 dX2_run_113 ?_
                refine j_callV hx hG (c_X3_playTurn hst (gP G a 0)) lk_RX2_73 (zr (k := 0) (t2 := 4) hG ha rfl) (by decide) rfl rfl rfl rfl [] ⟨rfl, hG, hS_s17, (zr (k := 0) (t2 := 4) hG ha rfl)⟩ rfl rfl ⟨by decide, by decide⟩ ⟨by decide, by decide⟩ (k2 := 0) (n2 := 0) rfl rfl (Nat.le_of_ble_eq_true rfl) dX2_run_116 (kIM (fun v24 s22 hS_s22 hF_s22 q25 => ?_))
                refine j_pop hx dX2_run_119 rfl ?_
                exact j_sub [1, 2, 3] [(0, .ref a), (1, .int (zI v3)), (2, .int (zI v9))] rfl (c120_18 s22 hS_s22 (zFr_t zFr_rf hF_s22 (by decide)))
            · skip
              refine j_aload_n hx 1 dX2_run_90 rfl ?_
              refine j_iconst hx dX2_run_91 ?_
              refine p3_6 hx hG ha kf_RX2_51 dX2_run_92 ?_
              obtain ⟨s23, e_s23⟩ : ∃ z, z = zU s17 a 6 2 := ⟨_, rfl⟩
              rw [← e_s23]
              have hS_s23 : zSK G s23 := by rw [e_s23]; exact zSK_F hS_s17 ha rfl rfl rfl (by omega)
              refine j_aload_n hx 1 dX2_run_95 rfl ?_
              refine j_iload_n hx 3 dX2_run_96 rfl ?_
              refine j_iload_n hx 0 dX2_run_97 rfl ?_
              refine j_isub hx (r := v9 - v20) dX2_run_98 rfl ?_
              refine j_norm (fun v26 f27 f28 f29 => ?_)
              refine p3_7 hx hG ha kf_RX2_55 dX2_run_99 ?_
              obtain ⟨s24, e_s24⟩ : ∃ z, z = zU s23 a 7 v26 := ⟨_, rfl⟩
              rw [← e_s24]
              have hS_s24 : zSK G s24 := by rw [e_s24]; exact zSK_F hS_s23 ha rfl rfl rfl (by omega)
              refine j_goto hx 120 dX2_run_102 rfl ?_
              exact j_sub [1, 2, 3] [(0, .ref a), (1, .int (zI v3)), (2, .int (zI v9))] rfl (c120_18 s24 hS_s24 (zFr_u (zFr_u zFr_rf e_s23 ha (by decide)) e_s24 ha (by decide)))
          · skip
            refine j_aload_n hx 0 dX2_run_70 rfl ?_
            refine j_iconst hx dX2_run_71 ?_
            refine p3_6 hx hG ha kf_RX2_51 dX2_run_72 ?_
            obtain ⟨s25, e_s25⟩ : ∃ z, z = zU s16 a 6 1 := ⟨_, rfl⟩
            rw [← e_s25]
            have hS_s25 : zSK G s25 := by rw [e_s25]; exact zSK_F hS_s16 ha rfl rfl rfl (by omega)
            refine j_goto hx 126 dX2_run_75 rfl ?_
            exact j_sub [0] [(0, .ref a)] rfl (c126_10 s25 hS_s25 (zFr_u (zFr_u zFr_rf e_s16 ha (by decide)) e_s25 ha (by decide)))
  exact j_sub [2, 1, 0] [(0, .ref a), (1, .int (zI v3)), (2, .int (zI 0))] rfl (c37_5 (2147483648 * 4) 0 s4 (by omega) (by omega) hS_s4 zFr_rf)

theorem lk_RX11_237 : LkV RX11 237 RX2 yX2_begin cX2_begin 2 none 1 := ⟨km_RX11_237, ki_yX2_begin, ks_RX2_yX2_begin, kn_RX2, kc_yX2_begin, rfl, by decide +kernel, by decide +kernel, by decide +kernel⟩
theorem lk_RX11_240 : LkV RX11 240 RX2 yX2_run cX2_run 4 none 0 := ⟨km_RX11_240, ki_yX2_run, ks_RX2_yX2_run, kn_RX2, kc_yX2_run, rfl, by decide +kernel, by decide +kernel, by decide +kernel⟩
set_option maxHeartbeats 4000000 in
set_option maxRecDepth 20000 in
theorem c_X11_ends {E : zE} {l : Launch} (hst : l.stackTraces = false) (a : Nat) (x1 : Int) : ConX E l yX11_ends cX11_ends 2 (some .int) { frames := 7, cells := 1, slots := 6, locals := 166 } (fun G s vs => vs = [.ref a, .int (zI x1)] ∧ zGK G ∧ zSK G s ∧ (gT G a = 12) ∧ ((-2147483648) ≤ x1 ∧ x1 ≤ 2147483647)) (fun G s _ => pI (fun r G2 s2 => G2 = G ∧ zSK G s2 ∧ zFr [1, 3, 4, 7, 41, 44, 49, 50, 51, 52, 53, 54, 55] G s s2 ∧ ((-2147483648) ≤ r ∧ r ≤ 2147483647))) (fun G s _ Ex G2 s2 => G2 = G ∧ zSK G s2 ∧ zFr [1, 3, 4, 7, 12, 41, 44, 49, 50, 51, 52, 53, 54, 55] G s s2 ∧ ((Ex = "java/lang/IllegalArgumentException" ∧ (True)))) := by
  refine ConX.mk hst (by decide) (fun G s vs h => by rw [h.1]; exact Nat.le_of_ble_eq_true rfl) ?_
  rintro X G s0 vs ⟨rfl, hG, hS0, ha, hx1⟩ rfl hx hq
  show JJ X E 2 G s0 0 0 [(0, .ref a), (1, .int (zI x1))] 0 []
  refine j_aload_n hx 0 dX11_ends_0 rfl ?_
  refine j_iload_n hx 1 dX11_ends_1 rfl ?_
  refine j_iconst hx dX11_ends_2 ?_
  refine j_iconst hx dX11_ends_3 ?_
  refine j_callVX hx hq hG (c_X11_needRange hst a x1 0 3) lk_RX11_98 ha (by decide) rfl rfl rfl rfl [.int (zI x1), .int (zI 0), .int (zI 3)] ⟨rfl, hG, hS0, ha, (by omega), (by omega), (by omega)⟩ rfl rfl ⟨by decide, by decide⟩ ⟨by decide, by decide⟩ (k2 := 1) (n2 := 6) rfl rfl (Nat.le_of_ble_eq_true rfl) ⟨by decide, by decide⟩ dX11_ends_4 (by rintro Ex9 G9 s9 ⟨rfl, hS9, hF9, e9, c9⟩; exact ⟨rfl, hS9, (zFr_t zFr_rf hF9 (by decide)), ⟨e9, by first | trivial | omega⟩⟩) (kVP (fun q2 => ?_))
  refine j_aload_n hx 0 dX11_ends_7 rfl ?_
  refine g12_7 hx hG ha kf_RX11_55 dX11_ends_8 ?_
  refine j_aload_n hx 0 dX11_ends_11 rfl ?_
  refine g12_6 hx hG ha kf_RX11_48 dX11_ends_12 ?_
  refine j_callV hx hG (c_X2_begin hst (gP G a 7) (gP G a 6)) lk_RX11_237 (zr (k := 7) (t2 := 3) hG ha rfl) (by decide) rfl rfl rfl rfl [.ref (gP G a 6)] ⟨rfl, hG, hS0, (zr (k := 7) (t2 := 3) hG ha rfl), (zr (k := 6) (t2 := 4) hG ha rfl)⟩ rfl rfl ⟨by decide, by decide⟩ ⟨by decide, by decide⟩ (k2 := 1) (n2 := 6) rfl rfl (Nat.le_of_ble_eq_true rfl) dX11_ends_15 (kVM (fun s1 hS_s1 hF_s1 q4 => ?_))
  refine j_aload_n hx 0 dX11_ends_18 rfl ?_
  refine g12_7 hx hG ha kf_RX11_55 dX11_ends_19 ?_
  refine j_callV hx hG (c_X2_run hst (gP G a 7)) lk_RX11_240 (zr (k := 7) (t2 := 3) hG ha rfl) (by decide) rfl rfl rfl rfl [] ⟨rfl, hG, hS_s1, (zr (k := 7) (t2 := 3) hG ha rfl)⟩ rfl rfl ⟨by decide, by decide⟩ ⟨by decide, by decide⟩ (k2 := 1) (n2 := 6) rfl rfl (Nat.le_of_ble_eq_true rfl) dX11_ends_22 (kVM (fun s2 hS_s2 hF_s2 q6 => ?_))
  refine j_iload_n hx 1 dX11_ends_25 rfl ?_
  refine j_if_ne hx 37 dX11_ends_26 rfl (by omega) (fun h7 => ?_) (fun h7 => ?_)
  · skip
    refine j_iload_n hx 1 dX11_ends_37 rfl ?_
    refine j_iconst hx dX11_ends_38 ?_
    refine j_icmp_ne hx 50 dX11_ends_39 rfl (by omega) ⟨by decide, by decide⟩ (fun h8 => ?_) (fun h8 => ?_)
    · skip
      refine j_iload_n hx 1 dX11_ends_50 rfl ?_
      refine j_iconst hx dX11_ends_51 ?_
      refine j_icmp_ne hx 65 dX11_ends_52 rfl (by omega) ⟨by decide, by decide⟩ (fun h9 => ?_) (fun h9 => ?_)
      · skip
        refine j_aload_n hx 0 dX11_ends_65 rfl ?_
        refine g12_7 hx hG ha kf_RX11_55 dX11_ends_66 ?_
        have f10 := zf hS_s2 (zr (k := 7) (t2 := 3) hG ha rfl) (k := 7) rfl
        refine gN3_7 hx hG (zr (k := 7) (t2 := 3) hG ha rfl) kf_RX11_252 rfl dX11_ends_69 ?_
        exact j_iret hx hq.r rfl (by decide) (by decide) dX11_ends_72 ⟨(s2 (gP G a 7) 7), rfl, rfl, hS_s2, (zFr_t (zFr_t zFr_rf hF_s1 (by decide)) hF_s2 (by decide)), (by omega)⟩
      · skip
        refine j_aload_n hx 0 dX11_ends_55 rfl ?_
        refine g12_7 hx hG ha kf_RX11_55 dX11_ends_56 ?_
        have f11 := zf hS_s2 (zr (k := 7) (t2 := 3) hG ha rfl) (k := 6) rfl
        refine gN3_6 hx hG (zr (k := 7) (t2 := 3) hG ha rfl) kf_RX11_249 rfl dX11_ends_59 ?_
        refine j_goto hx 72 dX11_ends_62 rfl ?_
        exact j_iret hx hq.r rfl (by decide) (by decide) dX11_ends_72 ⟨(s2 (gP G a 7) 6), rfl, rfl, hS_s2, (zFr_t (zFr_t zFr_rf hF_s1 (by decide)) hF_s2 (by decide)), (by omega)⟩
    · skip
      refine j_aload_n hx 0 dX11_ends_42 rfl ?_
      refine g12_7 hx hG ha kf_RX11_55 dX11_ends_43 ?_
      have f12 := zf hS_s2 (zr (k := 7) (t2 := 3) hG ha rfl) (k := 5) rfl
      refine gN3_5 hx hG (zr (k := 7) (t2 := 3) hG ha rfl) kf_RX11_246 rfl dX11_ends_46 ?_
      exact j_iret hx hq.r rfl (by decide) (by decide) dX11_ends_49 ⟨(s2 (gP G a 7) 5), rfl, rfl, hS_s2, (zFr_t (zFr_t zFr_rf hF_s1 (by decide)) hF_s2 (by decide)), (by omega)⟩
  · skip
    refine j_aload_n hx 0 dX11_ends_29 rfl ?_
    refine g12_7 hx hG ha kf_RX11_55 dX11_ends_30 ?_
    have f13 := zf hS_s2 (zr (k := 7) (t2 := 3) hG ha rfl) (k := 4) rfl
    refine gN3_4 hx hG (zr (k := 7) (t2 := 3) hG ha rfl) kf_RX11_243 rfl dX11_ends_33 ?_
    exact j_iret hx hq.r rfl (by decide) (by decide) dX11_ends_36 ⟨(s2 (gP G a 7) 4), rfl, rfl, hS_s2, (zFr_t (zFr_t zFr_rf hF_s1 (by decide)) hF_s2 (by decide)), (by omega)⟩

set_option maxHeartbeats 4000000 in
set_option maxRecDepth 20000 in
theorem c_X10_boardAt {E : zE} {l : Launch} (hst : l.stackTraces = false) (a : Nat) (x1 : Int) : Con E l yX10_boardAt cX10_boardAt 2 (some (.object "SnapHeaps$Board")) { frames := 0, cells := 0, slots := 0, locals := 0 } (fun G s vs => vs = [.ref a, .int (zI x1)] ∧ zGK G ∧ zSK G s ∧ (gT G a = 11) ∧ ((-2147483648) ≤ x1 ∧ x1 ≤ 2147483647)) (fun G s _ => pN (fun G2 s2 => G2 = G ∧ s2 = s ∧ True) (fun r G2 s2 => G2 = G ∧ s2 = s ∧ gT G r = 1 ∧ x1 ≤ 12)) := by
  refine Con.mk hst (by decide) (fun G s vs h => by rw [h.1]; exact Nat.le_of_ble_eq_true rfl) ?_
  rintro X G s0 vs ⟨rfl, hG, hS0, ha, hx1⟩ rfl hx hq
  show JJ X E 2 G s0 0 0 [(0, .ref a), (1, .int (zI x1))] 0 []
  refine j_iload_n hx 1 dX10_boardAt_0 rfl ?_
  refine j_if_lt hx 22 dX10_boardAt_1 rfl (by omega) (fun h1 => ?_) (fun h1 => ?_)
  · skip
    refine j_null hx dX10_boardAt_22 ?_
    exact j_aret hx hq rfl (by decide) (by decide) dX10_boardAt_23 (Or.inl rfl) (Or.inl ⟨rfl, rfl, rfl, trivial⟩)
  · skip
    refine j_iload_n hx 1 dX10_boardAt_4 rfl ?_
    refine j_aload_n hx 0 dX10_boardAt_5 rfl ?_
    refine g11_1 hx hG ha kf_RX10_13 dX10_boardAt_6 ?_
    refine j_alen hx hG (zr (k := 1) (t2 := 56) hG ha rfl) (by decide) (by decide) (zlen hG (zr (k := 1) (t2 := 56) hG ha rfl) (n := 13) rfl rfl) dX10_boardAt_9 ?_
    refine j_icmp_ge hx 22 dX10_boardAt_10 rfl (by omega) ⟨by decide, by decide⟩ (fun h2 => ?_) (fun h2 => ?_)
    · skip
      refine j_null hx dX10_boardAt_22 ?_
      exact j_aret hx hq rfl (by decide) (by decide) dX10_boardAt_23 (Or.inl rfl) (Or.inl ⟨rfl, rfl, rfl, trivial⟩)
    · skip
      refine j_aload_n hx 0 dX10_boardAt_13 rfl ?_
      refine g11_1 hx hG ha kf_RX10_13 dX10_boardAt_14 ?_
      refine j_iload_n hx 1 dX10_boardAt_17 rfl ?_
      refine j_aald hx hG hS0 (zr (k := 1) (t2 := 56) hG ha rfl) (by decide) (by decide) rfl (zlen hG (zr (k := 1) (t2 := 56) hG ha rfl) (n := 13) rfl rfl) (by omega) (by omega) dX10_boardAt_18 (fun h3 => ?_) (fun h4 h5 => ?_)
      · skip
        refine j_goto hx 23 dX10_boardAt_19 rfl ?_
        exact j_aret hx hq rfl (by decide) (by decide) dX10_boardAt_23 (Or.inl rfl) (Or.inl ⟨rfl, rfl, rfl, trivial⟩)
      · skip
        refine j_goto hx 23 dX10_boardAt_19 rfl ?_
        exact j_aret hx hq rfl (by decide) (by decide) dX10_boardAt_23 (Or.inr ⟨_, rfl⟩) (Or.inr ⟨_, rfl, rfl, rfl, ⟨h5, (by omega)⟩⟩)

theorem lk_RX10_22 : LkV RX10 22 RX10 yX10_boardAt cX10_boardAt 2 (some (.object "SnapHeaps$Board")) 1 := ⟨km_RX10_22, ki_yX10_boardAt, ks_RX10_yX10_boardAt, kn_RX10, kc_yX10_boardAt, rfl, by decide +kernel, by decide +kernel, by decide +kernel⟩
theorem lk_RX10_26 : LkV RX10 26 RX0 yX0_become cX0_become 3 none 1 := ⟨km_RX10_26, ki_yX0_become, ks_RX0_yX0_become, kn_RX0, kc_yX0_become, rfl, by decide +kernel, by decide +kernel, by decide +kernel⟩
set_option maxHeartbeats 4000000 in
set_option maxRecDepth 20000 in
theorem c_X10_start {E : zE} {l : Launch} (hst : l.stackTraces = false) (a : Nat) (b1 : Nat) : Con E l yX10_start cX10_start 3 none { frames := 3, cells := 0, slots := 0, locals := 65 } (fun G s vs => vs = [.ref a, .ref b1] ∧ zGK G ∧ zSK G s ∧ (gT G a = 11) ∧ (gT G b1 = 1)) (fun G s _ => pV (fun G2 s2 => G2 = G ∧ zSK G s2 ∧ zFr [1, 7, 41] G s s2 ∧ True)) := by
  refine Con.mk hst (by decide) (fun G s vs h => by rw [h.1]; exact Nat.le_of_ble_eq_true rfl) ?_
  rintro X G s0 vs ⟨rfl, hG, hS0, ha, hb1⟩ rfl hx hq
  show JJ X E 3 G s0 0 0 [(0, .ref a), (1, .ref b1)] 0 []
  refine j_aload_n hx 0 dX10_start_0 rfl ?_
  refine j_iconst hx dX10_start_1 ?_
  refine j_callV hx hG (c_X10_boardAt hst a 0) lk_RX10_22 ha (by decide) rfl rfl rfl rfl [.int (zI 0)] ⟨rfl, hG, hS0, ha, (by omega)⟩ rfl rfl ⟨by decide, by decide⟩ ⟨by decide, by decide⟩ (k2 := 0) (n2 := 0) rfl rfl (Nat.le_of_ble_eq_true rfl) dX10_start_2 (kNP (fun _ => ?_) (fun r1 q2 => ?_))
  · skip
    refine j_astore_nN hx [(2, .null), (0, .ref a), (1, .ref b1)] dX10_start_5 (by decide) rfl ?_
    refine j_aload_nN hx 0 dX10_start_6 rfl ?_
    refine j_ifnullN hx 15 dX10_start_7 rfl ?_
    exact j_vret hx hq rfl (by decide) (by decide) dX10_start_15 ⟨rfl, rfl, hS0, zFr_rf, trivial⟩
  · skip
    refine j_astore_n hx [(2, .ref r1), (0, .ref a), (1, .ref b1)] dX10_start_5 (by decide) rfl ?_
    refine j_aload_n hx 0 dX10_start_6 rfl ?_
    refine j_ifnull hx dX10_start_7 ?_
    refine j_aload_n hx 0 dX10_start_10 rfl ?_
    refine j_aload_n hx 2 dX10_start_11 rfl ?_
    refine j_callV hx hG (c_X0_become hst r1 b1) lk_RX10_26 q2.1 (by decide) rfl rfl rfl rfl [.ref b1] ⟨rfl, hG, hS0, q2.1, hb1⟩ rfl rfl ⟨by decide, by decide⟩ ⟨by decide, by decide⟩ (k2 := 0) (n2 := 0) rfl rfl (Nat.le_of_ble_eq_true rfl) dX10_start_12 (kVM (fun s1 hS_s1 hF_s1 q4 => ?_))
    exact j_vret hx hq rfl (by decide) (by decide) dX10_start_15 ⟨rfl, rfl, hS_s1, (zFr_t zFr_rf hF_s1 (by decide)), trivial⟩

theorem lk_RX0_95 : LkV RX0 95 RX0 yX0_turnOver cX0_turnOver 2 none 1 := ⟨km_RX0_95, ki_yX0_turnOver, ks_RX0_yX0_turnOver, kn_RX0, kc_yX0_turnOver, rfl, by decide +kernel, by decide +kernel, by decide +kernel⟩
theorem lk_RX0_98 : LkV RX0 98 RX0 yX0_lay cX0_lay 3 (some .int) 1 := ⟨km_RX0_98, ki_yX0_lay, ks_RX0_yX0_lay, kn_RX0, kc_yX0_lay, rfl, by decide +kernel, by decide +kernel, by decide +kernel⟩
set_option maxHeartbeats 4000000 in
set_option maxRecDepth 20000 in
theorem c_X0_step {E : zE} {l : Launch} (hst : l.stackTraces = false) (a : Nat) : Con E l yX0_step cX0_step 2 (some .boolean) { frames := 3, cells := 0, slots := 0, locals := 65 } (fun G s vs => vs = [.ref a] ∧ zGK G ∧ zSK G s ∧ (gT G a = 1)) (fun G s _ => pI (fun r G2 s2 => G2 = G ∧ zSK G s2 ∧ zFr [1, 7, 41] G s s2 ∧ (0 ≤ r ∧ r ≤ 1))) := by
  refine Con.mk hst (by decide) (fun G s vs h => by rw [h.1]; exact Nat.le_of_ble_eq_true rfl) ?_
  rintro X G s0 vs ⟨rfl, hG, hS0, ha⟩ rfl hx hq
  show JJ X E 2 G s0 0 0 [(0, .ref a)] 0 []
  refine j_aload_n hx 0 dX0_step_0 rfl ?_
  refine j_callV hx hG (c_X0_whose hst a) lk_RX0_92 ha (by decide) rfl rfl rfl rfl [] ⟨rfl, hG, hS0, ha⟩ rfl rfl ⟨by decide, by decide⟩ ⟨by decide, by decide⟩ (k2 := 0) (n2 := 0) rfl rfl (Nat.le_of_ble_eq_true rfl) dX0_step_1 (kIP (fun v1 q2 => ?_))
  refine j_istore_n hx [(1, .int (zI v1)), (0, .ref a)] dX0_step_4 (by decide) rfl ?_
  refine j_iload_n hx 0 dX0_step_5 rfl ?_
  refine j_iconst hx dX0_step_6 ?_
  refine j_icmp_ne hx 12 dX0_step_7 rfl (by omega) ⟨by decide, by decide⟩ (fun h3 => ?_) (fun h3 => ?_)
  · skip
    refine j_aload_n hx 1 dX0_step_12 rfl ?_
    refine j_iload_n hx 0 dX0_step_13 rfl ?_
    refine j_callV hx hG (c_X0_turnOver hst a v1) lk_RX0_95 ha (by decide) rfl rfl rfl rfl [.int (zI v1)] ⟨rfl, hG, hS0, ha, (by omega)⟩ rfl rfl ⟨by decide, by decide⟩ ⟨by decide, by decide⟩ (k2 := 0) (n2 := 0) rfl rfl (Nat.le_of_ble_eq_true rfl) dX0_step_14 (kVM (fun s1 hS_s1 hF_s1 q5 => ?_))
    refine j_aload_n hx 1 dX0_step_17 rfl ?_
    refine j_iload_n hx 0 dX0_step_18 rfl ?_
    refine j_callV hx hG (c_X0_lay hst a v1) lk_RX0_98 ha (by decide) rfl rfl rfl rfl [.int (zI v1)] ⟨rfl, hG, hS_s1, ha, (by omega)⟩ rfl rfl ⟨by decide, by decide⟩ ⟨by decide, by decide⟩ (k2 := 0) (n2 := 0) rfl rfl (Nat.le_of_ble_eq_true rfl) dX0_step_19 (kIM (fun v6 s2 hS_s2 hF_s2 q7 => ?_))
    refine j_pop hx dX0_step_22 rfl ?_
    refine j_iconst hx dX0_step_23 ?_
    exact j_zret hx hq rfl (by decide) (by decide) dX0_step_24 (by omega) ⟨1, rfl, rfl, hS_s2, (zFr_t (zFr_t zFr_rf hF_s1 (by decide)) hF_s2 (by decide)), (by omega)⟩
  · skip
    refine j_iconst hx dX0_step_10 ?_
    exact j_zret hx hq rfl (by decide) (by decide) dX0_step_11 (by omega) ⟨0, rfl, rfl, hS0, zFr_rf, (by omega)⟩

theorem lk_RX10_30 : LkV RX10 30 RX10 yX10_start cX10_start 3 none 1 := ⟨km_RX10_30, ki_yX10_start, ks_RX10_yX10_start, kn_RX10, kc_yX10_start, rfl, by decide +kernel, by decide +kernel, by decide +kernel⟩
theorem lk_RX10_33 : LkV RX10 33 RX0 yX0_step cX0_step 2 (some .boolean) 0 := ⟨km_RX10_33, ki_yX0_step, ks_RX0_yX0_step, kn_RX0, kc_yX0_step, rfl, by decide +kernel, by decide +kernel, by decide +kernel⟩
theorem lk_RX10_37 : LkV RX10 37 RX0 yX0_likeTops cX0_likeTops 1 (some .int) 0 := ⟨km_RX10_37, ki_yX0_likeTops, ks_RX0_yX0_likeTops, kn_RX0, kc_yX0_likeTops, rfl, by decide +kernel, by decide +kernel, by decide +kernel⟩
set_option maxHeartbeats 4000000 in
set_option maxRecDepth 20000 in
theorem c_X10_likeTurn {E : zE} {l : Launch} (hst : l.stackTraces = false) (a : Nat) (b1 : Nat) (x2 : Int) : Con E l yX10_likeTurn cX10_likeTurn 6 (some .int) { frames := 4, cells := 0, slots := 0, locals := 87 } (fun G s vs => vs = [.ref a, .ref b1, .int (zI x2)] ∧ zGK G ∧ zSK G s ∧ (gT G a = 11) ∧ (gT G b1 = 1) ∧ ((-2147483648) ≤ x2 ∧ x2 ≤ 2147483647)) (fun G s _ => pI (fun r G2 s2 => G2 = G ∧ zSK G s2 ∧ zFr [1, 7, 41] G s s2 ∧ ((-2147483648) ≤ r ∧ r ≤ 2147483647))) := by
  refine Con.mk hst (by decide) (fun G s vs h => by rw [h.1]; exact Nat.le_of_ble_eq_true rfl) ?_
  rintro X G s0 vs ⟨rfl, hG, hS0, ha, hb1, hx2⟩ rfl hx hq
  show JJ X E 6 G s0 0 0 [(0, .ref a), (1, .ref b1), (2, .int (zI x2))] 0 []
  refine j_aload_n hx 0 dX10_likeTurn_0 rfl ?_
  refine j_aload_n hx 1 dX10_likeTurn_1 rfl ?_
  refine j_callV hx hG (c_X10_start hst a b1) lk_RX10_30 ha (by decide) rfl rfl rfl rfl [.ref b1] ⟨rfl, hG, hS0, ha, hb1⟩ rfl rfl ⟨by decide, by decide⟩ ⟨by decide, by decide⟩ (k2 := 0) (n2 := 0) rfl rfl (Nat.le_of_ble_eq_true rfl) dX10_likeTurn_2 (kVM (fun s1 hS_s1 hF_s1 q2 => ?_))
  refine j_aload_n hx 0 dX10_likeTurn_5 rfl ?_
  refine j_iconst hx dX10_likeTurn_6 ?_
  refine j_callV hx hG (c_X10_boardAt hst a 0) lk_RX10_22 ha (by decide) rfl rfl rfl rfl [.int (zI 0)] ⟨rfl, hG, hS_s1, ha, (by omega)⟩ rfl rfl ⟨by decide, by decide⟩ ⟨by decide, by decide⟩ (k2 := 0) (n2 := 0) rfl rfl (Nat.le_of_ble_eq_true rfl) dX10_likeTurn_7 (kNP (fun _ => ?_) (fun r3 q4 => ?_))
  · skip
    refine j_astore_nN hx [(3, .null), (0, .ref a), (1, .ref b1), (2, .int (zI x2))] dX10_likeTurn_10 (by decide) rfl ?_
    refine j_iconst hx dX10_likeTurn_11 ?_
    refine j_istore hx [(4, .int (zI 0)), (3, .null), (0, .ref a), (1, .ref b1), (2, .int (zI x2))] dX10_likeTurn_12 (by decide) rfl ?_
    refine j_iconst hx dX10_likeTurn_14 ?_
    refine j_istore hx [(5, .int (zI 0)), (4, .int (zI 0)), (3, .null), (0, .ref a), (1, .ref b1), (2, .int (zI x2))] dX10_likeTurn_15 (by decide) rfl ?_
    have c17_2 : ∀ (m_c17_2 : Nat) (v5 : Int) (v6 : Int) (s3 : zS), 2147483648 - v6 < m_c17_2 → ((-2147483648) ≤ v5 ∧ v5 ≤ 2147483647) → (0 ≤ v6 ∧ v6 ≤ 60) → (zSK G s3) → (zFr [1, 7, 41] G s1 s3) → JJ X E 6 G s3 0 0 [(2, .int (zI x2)), (3, .null), (4, .int (zI v5)), (5, .int (zI v6))] 17 [] := by
      intro m_c17_2
      induction m_c17_2 with
      | zero => intro v5 v6 s3 hm_c17_2 fA4 fA5 hS_s3 hF_s3; exfalso; omega
      | succ m_c17_2 ih_c17_2 => 
        intro v5 v6 s3 hm_c17_2 fA4 fA5 hS_s3 hF_s3
        refine j_iload hx 3 dX10_likeTurn_17 rfl ?_
        refine j_bipush hx dX10_likeTurn_19 rfl ?_
        refine j_icmp_ge hx 61 dX10_likeTurn_21 rfl (by omega) ⟨by decide, by decide⟩ (fun h7 => ?_) (fun h7 => ?_)
        · skip
          refine j_iconst hx dX10_likeTurn_61 ?_
          exact j_iret hx hq rfl (by decide) (by decide) dX10_likeTurn_62 ⟨(-1), rfl, rfl, hS_s3, (zFr_t (zFr_t zFr_rf hF_s1 (by decide)) hF_s3 (by decide)), (by omega)⟩
        · skip
          refine j_aload_nN hx 1 dX10_likeTurn_24 rfl ?_
          refine j_ifnullN hx 61 dX10_likeTurn_25 rfl ?_
          refine j_iconst hx dX10_likeTurn_61 ?_
          exact j_iret hx hq rfl (by decide) (by decide) dX10_likeTurn_62 ⟨(-1), rfl, rfl, hS_s3, (zFr_t (zFr_t zFr_rf hF_s1 (by decide)) hF_s3 (by decide)), (by omega)⟩
    exact j_sub [5, 2, 1, 0] [(2, .int (zI x2)), (3, .null), (4, .int (zI 0)), (5, .int (zI 0))] rfl (c17_2 (2147483648 * 4) 0 0 s1 (by omega) (by omega) (by omega) hS_s1 zFr_rf)
  · skip
    refine j_astore_n hx [(3, .ref r3), (0, .ref a), (1, .ref b1), (2, .int (zI x2))] dX10_likeTurn_10 (by decide) rfl ?_
    refine j_iconst hx dX10_likeTurn_11 ?_
    refine j_istore hx [(4, .int (zI 0)), (3, .ref r3), (0, .ref a), (1, .ref b1), (2, .int (zI x2))] dX10_likeTurn_12 (by decide) rfl ?_
    refine j_iconst hx dX10_likeTurn_14 ?_
    refine j_istore hx [(5, .int (zI 0)), (4, .int (zI 0)), (3, .ref r3), (0, .ref a), (1, .ref b1), (2, .int (zI x2))] dX10_likeTurn_15 (by decide) rfl ?_
    have c17_8 : ∀ (m_c17_8 : Nat) (v8 : Int) (v9 : Int) (s9 : zS), 2147483648 - v9 < m_c17_8 → ((-2147483648) ≤ v8 ∧ v8 ≤ 2147483647) → (0 ≤ v9 ∧ v9 ≤ 60) → (zSK G s9) → (zFr [1, 7, 41] G s1 s9) → JJ X E 6 G s9 0 0 [(2, .int (zI x2)), (3, .ref r3), (4, .int (zI v8)), (5, .int (zI v9))] 17 [] := by
      intro m_c17_8
      induction m_c17_8 with
      | zero => intro v8 v9 s9 hm_c17_8 fA10 fA11 hS_s9 hF_s9; exfalso; omega
      | succ m_c17_8 ih_c17_8 => 
        intro v8 v9 s9 hm_c17_8 fA10 fA11 hS_s9 hF_s9
        refine j_iload hx 3 dX10_likeTurn_17 rfl ?_
        refine j_bipush hx dX10_likeTurn_19 rfl ?_
        refine j_icmp_ge hx 61 dX10_likeTurn_21 rfl (by omega) ⟨by decide, by decide⟩ (fun h10 => ?_) (fun h10 => ?_)
        · skip
          refine j_iconst hx dX10_likeTurn_61 ?_
          exact j_iret hx hq rfl (by decide) (by decide) dX10_likeTurn_62 ⟨(-1), rfl, rfl, hS_s9, (zFr_t (zFr_t zFr_rf hF_s1 (by decide)) hF_s9 (by decide)), (by omega)⟩
        · skip
          refine j_aload_n hx 1 dX10_likeTurn_24 rfl ?_
          refine j_ifnull hx dX10_likeTurn_25 ?_
          refine j_aload_n hx 1 dX10_likeTurn_28 rfl ?_
          refine j_callV hx hG (c_X0_step hst r3) lk_RX10_33 q4.1 (by decide) rfl rfl rfl rfl [] ⟨rfl, hG, hS_s9, q4.1⟩ rfl rfl ⟨by decide, by decide⟩ ⟨by decide, by decide⟩ (k2 := 0) (n2 := 0) rfl rfl (Nat.le_of_ble_eq_true rfl) dX10_likeTurn_29 (kIM (fun v11 s14 hS_s14 hF_s14 q12 => ?_))
          refine j_if_eq hx 61 dX10_likeTurn_32 rfl (by omega) (fun h13 => ?_) (fun h13 => ?_)
          · skip
            refine j_iconst hx dX10_likeTurn_61 ?_
            exact j_iret hx hq rfl (by decide) (by decide) dX10_likeTurn_62 ⟨(-1), rfl, rfl, hS_s14, (zFr_t (zFr_t (zFr_t zFr_rf hF_s1 (by decide)) hF_s9 (by decide)) hF_s14 (by decide)), (by omega)⟩
          · skip
            refine j_aload_n hx 1 dX10_likeTurn_35 rfl ?_
            refine j_callV hx hG (c_X0_likeTops hst r3) lk_RX10_37 q4.1 (by decide) rfl rfl rfl rfl [] ⟨rfl, hG, hS_s14, q4.1⟩ rfl rfl ⟨by decide, by decide⟩ ⟨by decide, by decide⟩ (k2 := 0) (n2 := 0) rfl rfl (Nat.le_of_ble_eq_true rfl) dX10_likeTurn_36 (kIP (fun v14 q15 => ?_))
            refine j_iconst hx dX10_likeTurn_39 ?_
            have c55_15 : ∀ (v16 : Int), ((-2147483648) ≤ v16 ∧ v16 ≤ 2147483647) → JJ X E 6 G s14 0 0 [(2, .int (zI x2)), (3, .ref r3), (4, .int (zI v16)), (5, .int (zI v9))] 55 [] := by
              intro v16 fA16
              refine j_iinc hx 3 [(5, .int (zI (v9 + 1))), (2, .int (zI x2)), (3, .ref r3), (4, .int (zI v16))] dX10_likeTurn_55 rfl (by omega) (by decide) rfl ?_
              refine j_goto hx 17 dX10_likeTurn_58 rfl ?_
              exact j_sub [1, 2, 3, 0] [(2, .int (zI x2)), (3, .ref r3), (4, .int (zI v16)), (5, .int (zI (v9 + 1)))] rfl (ih_c17_8 v16 (v9 + 1) s14 (by omega) (by omega) (by omega) hS_s14 (zFr_t (zFr_t zFr_rf hF_s9 (by decide)) hF_s14 (by decide)))
            refine j_icmp_eq hx 55 dX10_likeTurn_40 rfl (by omega) ⟨by decide, by decide⟩ (fun h17 => ?_) (fun h17 => ?_)
            · skip
              exact j_sub [0, 1, 2, 3] [(2, .int (zI x2)), (3, .ref r3), (4, .int (zI v8)), (5, .int (zI v9))] rfl (c55_15 v8 (by omega))
            · skip
              refine j_iload hx 2 dX10_likeTurn_43 rfl ?_
              refine j_iload_n hx 0 dX10_likeTurn_45 rfl ?_
              refine j_icmp_ne hx 52 dX10_likeTurn_46 rfl (by omega) (by omega) (fun h18 => ?_) (fun h18 => ?_)
              · skip
                refine j_iincN hx 2 (fun v19 => [(4, .int (zI v19)), (2, .int (zI x2)), (3, .ref r3), (5, .int (zI v9))]) dX10_likeTurn_52 rfl (by decide) (fun _ => rfl) (fun v19 f20 f21 f22 => ?_)
                exact j_sub [1, 2, 0, 3] [(2, .int (zI x2)), (3, .ref r3), (4, .int (zI v19)), (5, .int (zI v9))] rfl (c55_15 v19 (by omega))
              · skip
                refine j_iload hx 3 dX10_likeTurn_49 rfl ?_
                exact j_iret hx hq rfl (by decide) (by decide) dX10_likeTurn_51 ⟨v9, rfl, rfl, hS_s14, (zFr_t (zFr_t (zFr_t zFr_rf hF_s1 (by decide)) hF_s9 (by decide)) hF_s14 (by decide)), (by omega)⟩
    exact j_sub [5, 2, 1, 0] [(2, .int (zI x2)), (3, .ref r3), (4, .int (zI 0)), (5, .int (zI 0))] rfl (c17_8 (2147483648 * 4) 0 0 s1 (by omega) (by omega) (by omega) hS_s1 zFr_rf)

theorem lk_RX11_255 : LkV RX11 255 RX10 yX10_likeTurn cX10_likeTurn 6 (some .int) 2 := ⟨km_RX11_255, ki_yX10_likeTurn, ks_RX10_yX10_likeTurn, kn_RX10, kc_yX10_likeTurn, rfl, by decide +kernel, by decide +kernel, by decide +kernel⟩
set_option maxHeartbeats 4000000 in
set_option maxRecDepth 20000 in
theorem c_X11_where {E : zE} {l : Launch} (hst : l.stackTraces = false) (a : Nat) (x1 : Int) : Con E l yX11_where cX11_where 2 (some .int) { frames := 5, cells := 0, slots := 0, locals := 112 } (fun G s vs => vs = [.ref a, .int (zI x1)] ∧ zGK G ∧ zSK G s ∧ (gT G a = 12) ∧ ((-2147483648) ≤ x1 ∧ x1 ≤ 2147483647)) (fun G s _ => pI (fun r G2 s2 => G2 = G ∧ zSK G s2 ∧ zFr [1, 7, 41] G s s2 ∧ ((-2147483648) ≤ r ∧ r ≤ 2147483647))) := by
  refine Con.mk hst (by decide) (fun G s vs h => by rw [h.1]; exact Nat.le_of_ble_eq_true rfl) ?_
  rintro X G s0 vs ⟨rfl, hG, hS0, ha, hx1⟩ rfl hx hq
  show JJ X E 2 G s0 0 0 [(0, .ref a), (1, .int (zI x1))] 0 []
  refine j_aload_n hx 0 dX11_where_0 rfl ?_
  refine g12_8 hx hG ha kf_RX11_62 dX11_where_1 ?_
  refine j_aload_n hx 0 dX11_where_4 rfl ?_
  refine g12_6 hx hG ha kf_RX11_48 dX11_where_5 ?_
  refine gN4_1 hx hG (zr (k := 6) (t2 := 4) hG ha rfl) kf_RX11_155 dX11_where_8 ?_
  refine j_iload_n hx 1 dX11_where_11 rfl ?_
  refine j_callV hx hG (c_X10_likeTurn hst (gP G a 8) (gP G (gP G a 6) 1) x1) lk_RX11_255 (zr (k := 8) (t2 := 11) hG ha rfl) (by decide) rfl rfl rfl rfl [.ref (gP G (gP G a 6) 1), .int (zI x1)] ⟨rfl, hG, hS0, (zr (k := 8) (t2 := 11) hG ha rfl), (zr (k := 1) (t2 := 1) hG (zr (k := 6) (t2 := 4) hG ha rfl) rfl), (by omega)⟩ rfl rfl ⟨by decide, by decide⟩ ⟨by decide, by decide⟩ (k2 := 0) (n2 := 0) rfl rfl (Nat.le_of_ble_eq_true rfl) dX11_where_12 (kIM (fun v1 s1 hS_s1 hF_s1 q2 => ?_))
  exact j_iret hx hq rfl (by decide) (by decide) dX11_where_15 ⟨v1, rfl, rfl, hS_s1, (zFr_t zFr_rf hF_s1 (by decide)), (by omega)⟩

set_option maxHeartbeats 4000000 in
set_option maxRecDepth 20000 in
theorem c_X0_sourceOf {E : zE} {l : Launch} (hst : l.stackTraces = false) (a : Nat) (x1 : Int) : Con E l yX0_sourceOf cX0_sourceOf 3 (some (.object "SnapHeaps$Pile")) { frames := 1, cells := 0, slots := 0, locals := 21 } (fun G s vs => vs = [.ref a, .int (zI x1)] ∧ zGK G ∧ zSK G s ∧ (gT G a = 1) ∧ ((-2147483648) ≤ x1 ∧ x1 ≤ 2147483647)) (fun G s _ => pR (fun r G2 s2 => G2 = G ∧ s2 = s ∧ gT G r = 7)) := by
  refine Con.mk hst (by decide) (fun G s vs h => by rw [h.1]; exact Nat.le_of_ble_eq_true rfl) ?_
  rintro X G s0 vs ⟨rfl, hG, hS0, ha, hx1⟩ rfl hx hq
  show JJ X E 3 G s0 0 0 [(0, .ref a), (1, .int (zI x1))] 0 []
  refine j_aload_n hx 0 dX0_sourceOf_0 rfl ?_
  refine j_iload_n hx 1 dX0_sourceOf_1 rfl ?_
  refine j_callV hx hG (c_X0_rowOf hst a x1) lk_RX0_36 ha (by decide) rfl rfl rfl rfl [.int (zI x1)] ⟨rfl, hG, hS0, ha, (by omega)⟩ rfl rfl ⟨by decide, by decide⟩ ⟨by decide, by decide⟩ (k2 := 0) (n2 := 0) rfl rfl (Nat.le_of_ble_eq_true rfl) dX0_sourceOf_2 (kRP (fun r1 q2 => ?_))
  refine j_astore_n hx [(2, .ref r1), (0, .ref a), (1, .int (zI x1))] dX0_sourceOf_5 (by decide) rfl ?_
  refine j_aload_n hx 0 dX0_sourceOf_6 rfl ?_
  have f3 := zf hS0 q2 (k := 1) rfl
  refine gN7_1 hx hG q2 kf_RX0_43 rfl dX0_sourceOf_7 ?_
  refine j_if_le hx 17 dX0_sourceOf_10 rfl (by omega) (fun h4 => ?_) (fun h4 => ?_)
  · skip
    refine j_aload_n hx 1 dX0_sourceOf_17 rfl ?_
    refine j_iload_n hx 2 dX0_sourceOf_18 rfl ?_
    refine j_callV hx hG (c_X0_heapOf hst a x1) lk_RX0_40 ha (by decide) rfl rfl rfl rfl [.int (zI x1)] ⟨rfl, hG, hS0, ha, (by omega)⟩ rfl rfl ⟨by decide, by decide⟩ ⟨by decide, by decide⟩ (k2 := 0) (n2 := 0) rfl rfl (Nat.le_of_ble_eq_true rfl) dX0_sourceOf_19 (kRP (fun r5 q6 => ?_))
    exact j_aret hx hq rfl (by decide) (by decide) dX0_sourceOf_22 (Or.inr ⟨_, rfl⟩) ⟨_, rfl, rfl, rfl, q6⟩
  · skip
    refine j_aload_n hx 0 dX0_sourceOf_13 rfl ?_
    refine j_goto hx 22 dX0_sourceOf_14 rfl ?_
    exact j_aret hx hq rfl (by decide) (by decide) dX0_sourceOf_22 (Or.inr ⟨_, rfl⟩) ⟨_, rfl, rfl, rfl, q2⟩

theorem lk_RX0_78 : LkV RX0 78 RX6 yX6_cardAt cX6_cardAt 2 (some .int) 1 := ⟨km_RX0_78, ki_yX6_cardAt, ks_RX6_yX6_cardAt, kn_RX6, kc_yX6_cardAt, rfl, by decide +kernel, by decide +kernel, by decide +kernel⟩
set_option maxHeartbeats 4000000 in
set_option maxRecDepth 20000 in
theorem c_X0_firstHasLain {E : zE} {l : Launch} (hst : l.stackTraces = false) (a : Nat) (x1 : Int) : Con E l yX0_firstHasLain cX0_firstHasLain 3 (some .boolean) { frames := 1, cells := 0, slots := 0, locals := 21 } (fun G s vs => vs = [.ref a, .int (zI x1)] ∧ zGK G ∧ zSK G s ∧ (gT G a = 1) ∧ ((-2147483648) ≤ x1 ∧ x1 ≤ 2147483647)) (fun G s _ => pI (fun r G2 s2 => G2 = G ∧ s2 = s ∧ (0 ≤ r ∧ r ≤ 1))) := by
  refine Con.mk hst (by decide) (fun G s vs h => by rw [h.1]; exact Nat.le_of_ble_eq_true rfl) ?_
  rintro X G s0 vs ⟨rfl, hG, hS0, ha, hx1⟩ rfl hx hq
  show JJ X E 3 G s0 0 0 [(0, .ref a), (1, .int (zI x1))] 0 []
  refine j_aload_n hx 0 dX0_firstHasLain_0 rfl ?_
  refine j_iload_n hx 1 dX0_firstHasLain_1 rfl ?_
  refine j_callV hx hG (c_X0_rowOf hst a x1) lk_RX0_36 ha (by decide) rfl rfl rfl rfl [.int (zI x1)] ⟨rfl, hG, hS0, ha, (by omega)⟩ rfl rfl ⟨by decide, by decide⟩ ⟨by decide, by decide⟩ (k2 := 0) (n2 := 0) rfl rfl (Nat.le_of_ble_eq_true rfl) dX0_firstHasLain_2 (kRP (fun r1 q2 => ?_))
  refine j_iconst hx dX0_firstHasLain_5 ?_
  refine j_callV hx hG (c_X6_cardAt hst r1 0) lk_RX0_78 q2 (by decide) rfl rfl rfl rfl [.int (zI 0)] ⟨rfl, hG, hS0, q2, (by omega)⟩ rfl rfl ⟨by decide, by decide⟩ ⟨by decide, by decide⟩ (k2 := 0) (n2 := 0) rfl rfl (Nat.le_of_ble_eq_true rfl) dX0_firstHasLain_6 (kIP (fun v3 q4 => ?_))
  refine j_istore_n hx [(2, .int (zI v3)), (0, .ref a), (1, .int (zI x1))] dX0_firstHasLain_9 (by decide) rfl ?_
  refine j_iload_n hx 0 dX0_firstHasLain_10 rfl ?_
  refine j_iconst hx dX0_firstHasLain_11 ?_
  refine j_icmp_eq hx 26 dX0_firstHasLain_12 rfl (by omega) ⟨by decide, by decide⟩ (fun h5 => ?_) (fun h5 => ?_)
  · skip
    refine j_iconst hx dX0_firstHasLain_26 ?_
    exact j_zret hx hq rfl (by decide) (by decide) dX0_firstHasLain_27 (by omega) ⟨0, rfl, rfl, rfl, (by omega)⟩
  · skip
    refine j_iload_n hx 0 dX0_firstHasLain_15 rfl ?_
    refine j_iconst hx dX0_firstHasLain_16 ?_
    refine j_iand hx dX0_firstHasLain_17 (by omega) ⟨by decide, by decide⟩ (fun v6 f7 f8 f9 f10 _ => ?_)
    refine j_iconst hx dX0_firstHasLain_18 ?_
    refine j_icmp_ne hx 26 dX0_firstHasLain_19 rfl (by omega) ⟨by decide, by decide⟩ (fun h12 => ?_) (fun h12 => ?_)
    · skip
      refine j_iconst hx dX0_firstHasLain_26 ?_
      exact j_zret hx hq rfl (by decide) (by decide) dX0_firstHasLain_27 (by omega) ⟨0, rfl, rfl, rfl, (by omega)⟩
    · skip
      refine j_iconst hx dX0_firstHasLain_22 ?_
      refine j_goto hx 27 dX0_firstHasLain_23 rfl ?_
      exact j_zret hx hq rfl (by decide) (by decide) dX0_firstHasLain_27 (by omega) ⟨1, rfl, rfl, rfl, (by omega)⟩

set_option maxHeartbeats 4000000 in
set_option maxRecDepth 20000 in
theorem c_X0_isOtherTop {E : zE} {l : Launch} (hst : l.stackTraces = false) (a : Nat) (x1 : Int) (x2 : Int) : Con E l yX0_isOtherTop cX0_isOtherTop 4 (some .boolean) { frames := 1, cells := 0, slots := 0, locals := 21 } (fun G s vs => vs = [.ref a, .int (zI x1), .int (zI x2)] ∧ zGK G ∧ zSK G s ∧ (gT G a = 1) ∧ ((-2147483648) ≤ x1 ∧ x1 ≤ 2147483647) ∧ ((-2147483648) ≤ x2 ∧ x2 ≤ 2147483647)) (fun G s _ => pI (fun r G2 s2 => G2 = G ∧ s2 = s ∧ (0 ≤ r ∧ r ≤ 1))) := by
  refine Con.mk hst (by decide) (fun G s vs h => by rw [h.1]; exact Nat.le_of_ble_eq_true rfl) ?_
  rintro X G s0 vs ⟨rfl, hG, hS0, ha, hx1, hx2⟩ rfl hx hq
  show JJ X E 4 G s0 0 0 [(0, .ref a), (1, .int (zI x1)), (2, .int (zI x2))] 0 []
  refine j_iconst hx dX0_isOtherTop_0 ?_
  refine j_istore_n hx [(3, .int (zI 0)), (0, .ref a), (1, .int (zI x1)), (2, .int (zI x2))] dX0_isOtherTop_1 (by decide) rfl ?_
  have c2_1 : ∀ (m_c2_1 : Nat) (v1 : Int), 2147483648 - v1 < m_c2_1 → (0 ≤ v1 ∧ v1 ≤ 3) → JJ X E 4 G s0 0 0 [(0, .ref a), (1, .int (zI x1)), (2, .int (zI x2)), (3, .int (zI v1))] 2 [] := by
    intro m_c2_1
    induction m_c2_1 with
    | zero => intro v1 hm_c2_1 fA2; exfalso; omega
    | succ m_c2_1 ih_c2_1 => 
      intro v1 hm_c2_1 fA2
      refine j_iload_n hx 3 dX0_isOtherTop_2 rfl ?_
      refine j_aload_n hx 0 dX0_isOtherTop_3 rfl ?_
      have f2 := zf hS0 ha (k := 7) rfl
      refine g1_7 hx hG ha kf_RX0_50 rfl dX0_isOtherTop_4 ?_
      refine j_icmp_ge hx 40 dX0_isOtherTop_7 rfl (by omega) (by omega) (fun h3 => ?_) (fun h3 => ?_)
      · skip
        refine j_iconst hx dX0_isOtherTop_40 ?_
        exact j_zret hx hq rfl (by decide) (by decide) dX0_isOtherTop_41 (by omega) ⟨0, rfl, rfl, rfl, (by omega)⟩
      · skip
        refine j_iload_n hx 3 dX0_isOtherTop_10 rfl ?_
        refine j_iload_n hx 1 dX0_isOtherTop_11 rfl ?_
        have c34_3 : JJ X E 4 G s0 0 0 [(0, .ref a), (1, .int (zI x1)), (2, .int (zI x2)), (3, .int (zI v1))] 34 [] := by
          refine j_iinc hx 3 [(3, .int (zI (v1 + 1))), (0, .ref a), (1, .int (zI x1)), (2, .int (zI x2))] dX0_isOtherTop_34 rfl (by omega) (by decide) rfl ?_
          refine j_goto hx 2 dX0_isOtherTop_37 rfl ?_
          exact j_sub [1, 2, 3, 0] [(0, .ref a), (1, .int (zI x1)), (2, .int (zI x2)), (3, .int (zI (v1 + 1)))] rfl (ih_c2_1 (v1 + 1) (by omega) (by omega))
        refine j_icmp_eq hx 34 dX0_isOtherTop_12 rfl (by omega) (by omega) (fun h4 => ?_) (fun h4 => ?_)
        · skip
          exact j_sub [0, 1, 2, 3] [(0, .ref a), (1, .int (zI x1)), (2, .int (zI x2)), (3, .int (zI v1))] rfl (c34_3  )
        · skip
          refine j_iload_n hx 2 dX0_isOtherTop_15 rfl ?_
          refine j_iconst hx dX0_isOtherTop_16 ?_
          refine j_icmp_eq hx 34 dX0_isOtherTop_17 rfl (by omega) ⟨by decide, by decide⟩ (fun h5 => ?_) (fun h5 => ?_)
          · skip
            exact j_sub [0, 1, 2, 3] [(0, .ref a), (1, .int (zI x1)), (2, .int (zI x2)), (3, .int (zI v1))] rfl (c34_3  )
          · skip
            refine j_aload_n hx 0 dX0_isOtherTop_20 rfl ?_
            refine j_iload_n hx 3 dX0_isOtherTop_21 rfl ?_
            refine j_callV hx hG (c_X0_heapOf hst a v1) lk_RX0_40 ha (by decide) rfl rfl rfl rfl [.int (zI v1)] ⟨rfl, hG, hS0, ha, (by omega)⟩ rfl rfl ⟨by decide, by decide⟩ ⟨by decide, by decide⟩ (k2 := 0) (n2 := 0) rfl rfl (Nat.le_of_ble_eq_true rfl) dX0_isOtherTop_22 (kRP (fun r6 q7 => ?_))
            refine j_callV hx hG (c_X6_topKind hst r6) lk_RX0_75 q7 (by decide) rfl rfl rfl rfl [] ⟨rfl, hG, hS0, q7⟩ rfl rfl ⟨by decide, by decide⟩ ⟨by decide, by decide⟩ (k2 := 0) (n2 := 0) rfl rfl (Nat.le_of_ble_eq_true rfl) dX0_isOtherTop_25 (kIP (fun v8 q9 => ?_))
            refine j_iload_n hx 2 dX0_isOtherTop_28 rfl ?_
            refine j_icmp_ne hx 34 dX0_isOtherTop_29 rfl (by omega) (by omega) (fun h10 => ?_) (fun h10 => ?_)
            · skip
              exact j_sub [0, 1, 2, 3] [(0, .ref a), (1, .int (zI x1)), (2, .int (zI x2)), (3, .int (zI v1))] rfl (c34_3  )
            · skip
              refine j_iconst hx dX0_isOtherTop_32 ?_
              exact j_zret hx hq rfl (by decide) (by decide) dX0_isOtherTop_33 (by omega) ⟨1, rfl, rfl, rfl, (by omega)⟩
  exact j_sub [1, 2, 3, 0] [(0, .ref a), (1, .int (zI x1)), (2, .int (zI x2)), (3, .int (zI 0))] rfl (c2_1 (2147483648 * 4) 0 (by omega) (by omega))

theorem lk_RX11_362 : LkS RX11 362 yX11_commonDivisor cX11_commonDivisor 11 (some .long) 2 := ⟨km_RX11_362, kst_yX11_commonDivisor, kn_RX11, kc_yX11_commonDivisor, by decide +kernel, by decide +kernel, by decide +kernel⟩
set_option maxHeartbeats 4000000 in
set_option maxRecDepth 20000 in
theorem c_X11_leastTerm {E : zE} {l : Launch} (hst : l.stackTraces = false) (y0 : Int) (y1 : Int) (x2 : Int) : Con E l yX11_leastTerm cX11_leastTerm 7 (some .long) { frames := 1, cells := 0, slots := 0, locals := 30 } (fun G s vs => vs = [.long (zL y0), .long (zL y1), .int (zI x2)] ∧ zGK G ∧ zSK G s ∧ ((-9223372036854775808) ≤ y0 ∧ y0 ≤ 9223372036854775807) ∧ ((-9223372036854775808) ≤ y1 ∧ y1 ≤ 9223372036854775807) ∧ ((-2147483648) ≤ x2 ∧ x2 ≤ 2147483647)) (fun G s _ => pL (fun r G2 s2 => G2 = G ∧ s2 = s ∧ ((-9223372036854775808) ≤ r ∧ r ≤ 9223372036854775807))) := by
  refine Con.mk hst (by decide) (fun G s vs h => by rw [h.1]; exact Nat.le_of_ble_eq_true rfl) ?_
  rintro X G s0 vs ⟨rfl, hG, hS0, hy0, hy1, hx2⟩ rfl hx hq
  show JJ X E 7 G s0 0 0 [(0, .long (zL y0)), (2, .long (zL y1)), (4, .int (zI x2))] 0 []
  refine j_lload_n hx 0 dX11_leastTerm_0 rfl ?_
  refine j_lconst hx dX11_leastTerm_1 ?_
  show JJ X E 7 G s0 0 0 [(0, .long (zL y0)), (2, .long (zL y1)), (4, .int (zI x2))] 2 [.long (zL 0), .long (zL y0)]
  refine j_lcmp hx dX11_leastTerm_2 (by omega) (by omega) (fun v1 f2 f3 f4 => ?_)
  have f5 : -1 ≤ v1 ∧ v1 ≤ 1 := by omega
  refine j_if_le hx 12 dX11_leastTerm_3 rfl (by omega) (fun h6 => ?_) (fun h6 => ?_)
  · skip
    refine j_iload hx 2 dX11_leastTerm_12 rfl ?_
    refine j_i2l hx dX11_leastTerm_14 (by omega) ?_
    exact j_lret hx hq rfl (by decide) (by decide) dX11_leastTerm_15 ⟨x2, rfl, rfl, rfl, (by omega)⟩
  · skip
    refine j_lload_n hx 1 dX11_leastTerm_6 rfl ?_
    refine j_lconst hx dX11_leastTerm_7 ?_
    show JJ X E 7 G s0 0 0 [(0, .long (zL y0)), (2, .long (zL y1)), (4, .int (zI x2))] 8 [.long (zL 0), .long (zL y1)]
    refine j_lcmp hx dX11_leastTerm_8 (by omega) (by omega) (fun v7 f8 f9 f10 => ?_)
    have f11 : -1 ≤ v7 ∧ v7 ≤ 1 := by omega
    refine j_if_gt hx 16 dX11_leastTerm_9 rfl (by omega) (fun h12 => ?_) (fun h12 => ?_)
    · skip
      refine j_lload_n hx 0 dX11_leastTerm_16 rfl ?_
      refine j_lload_n hx 1 dX11_leastTerm_17 rfl ?_
      refine j_callS hx (c_X11_commonDivisor hst y0 y1) lk_RX11_362 [.long (zL y0), .long (zL y1)] ⟨rfl, hG, hS0, (by omega), (by omega)⟩ rfl rfl ⟨by decide, by decide⟩ ⟨by decide, by decide⟩ (k2 := 0) (n2 := 0) rfl rfl (Nat.le_of_ble_eq_true rfl) dX11_leastTerm_18 (kLP (fun v13 q14 => ?_))
      refine j_lstore hx [(5, .long (zL v13)), (0, .long (zL y0)), (2, .long (zL y1)), (4, .int (zI x2))] dX11_leastTerm_21 (by decide) rfl ?_
      refine j_lload hx 0 dX11_leastTerm_23 rfl ?_
      refine j_lconst hx dX11_leastTerm_25 ?_
      show JJ X E 7 G s0 0 0 [(5, .long (zL v13)), (0, .long (zL y0)), (2, .long (zL y1)), (4, .int (zI x2))] 26 [.long (zL 0), .long (zL v13)]
      refine j_lcmp hx dX11_leastTerm_26 (by omega) (by omega) (fun v15 f16 f17 f18 => ?_)
      have f19 : -1 ≤ v15 ∧ v15 ≤ 1 := by omega
      refine j_if_gt hx 41 dX11_leastTerm_27 rfl (by omega) (fun h20 => ?_) (fun h20 => ?_)
      · skip
        refine j_iload hx 3 dX11_leastTerm_41 rfl ?_
        refine j_if_ne hx 53 dX11_leastTerm_43 rfl (by omega) (fun h21 => ?_) (fun h21 => ?_)
        · skip
          refine j_lload_n hx 2 dX11_leastTerm_53 rfl ?_
          refine j_lload hx 0 dX11_leastTerm_54 rfl ?_
          refine j_ldiv hx dX11_leastTerm_56 (by omega) (by omega) (fun w22 f23 f24 => ?_)
          exact j_lret hx hq rfl (by decide) (by decide) dX11_leastTerm_57 ⟨w22, rfl, rfl, rfl, (by omega)⟩
        · skip
          refine j_lload_n hx 1 dX11_leastTerm_46 rfl ?_
          refine j_lload hx 0 dX11_leastTerm_47 rfl ?_
          refine j_ldiv hx dX11_leastTerm_49 (by omega) (by omega) (fun w25 f26 f27 => ?_)
          refine j_goto hx 57 dX11_leastTerm_50 rfl ?_
          exact j_lret hx hq rfl (by decide) (by decide) dX11_leastTerm_57 ⟨w25, rfl, rfl, rfl, (by omega)⟩
      · skip
        refine j_iload hx 3 dX11_leastTerm_30 rfl ?_
        refine j_if_ne hx 39 dX11_leastTerm_32 rfl (by omega) (fun h28 => ?_) (fun h28 => ?_)
        · skip
          refine j_lload_n hx 2 dX11_leastTerm_39 rfl ?_
          exact j_lret hx hq rfl (by decide) (by decide) dX11_leastTerm_40 ⟨y1, rfl, rfl, rfl, (by omega)⟩
        · skip
          refine j_lload_n hx 1 dX11_leastTerm_35 rfl ?_
          refine j_goto hx 40 dX11_leastTerm_36 rfl ?_
          exact j_lret hx hq rfl (by decide) (by decide) dX11_leastTerm_40 ⟨y0, rfl, rfl, rfl, (by omega)⟩
    · skip
      refine j_iload hx 2 dX11_leastTerm_12 rfl ?_
      refine j_i2l hx dX11_leastTerm_14 (by omega) ?_
      exact j_lret hx hq rfl (by decide) (by decide) dX11_leastTerm_15 ⟨x2, rfl, rfl, rfl, (by omega)⟩

theorem lk_RX11_259 : LkV RX11 259 RX0 yX0_sourceOf cX0_sourceOf 3 (some (.object "SnapHeaps$Pile")) 1 := ⟨km_RX11_259, ki_yX0_sourceOf, ks_RX0_yX0_sourceOf, kn_RX0, kc_yX0_sourceOf, rfl, by decide +kernel, by decide +kernel, by decide +kernel⟩
theorem lk_RX11_268 : LkS RX11 268 yX11_leastTerm cX11_leastTerm 7 (some .long) 3 := ⟨km_RX11_268, kst_yX11_leastTerm, kn_RX11, kc_yX11_leastTerm, by decide +kernel, by decide +kernel, by decide +kernel⟩
theorem lk_RX11_265 : LkV RX11 265 RX0 yX0_isOtherTop cX0_isOtherTop 4 (some .boolean) 2 := ⟨km_RX11_265, ki_yX0_isOtherTop, ks_RX0_yX0_isOtherTop, kn_RX0, kc_yX0_isOtherTop, rfl, by decide +kernel, by decide +kernel, by decide +kernel⟩
theorem lk_RX11_262 : LkV RX11 262 RX0 yX0_firstHasLain cX0_firstHasLain 3 (some .boolean) 1 := ⟨km_RX11_262, ki_yX0_firstHasLain, ks_RX0_yX0_firstHasLain, kn_RX0, kc_yX0_firstHasLain, rfl, by decide +kernel, by decide +kernel, by decide +kernel⟩
set_option maxHeartbeats 4000000 in
set_option maxRecDepth 20000 in
theorem c_X11_chance {E : zE} {l : Launch} (hst : l.stackTraces = false) (a : Nat) (x1 : Int) (x2 : Int) (x3 : Int) : ConX E l yX11_chance cX11_chance 9 (some .int) { frames := 7, cells := 3, slots := 18, locals := 113 } (fun G s vs => vs = [.ref a, .int (zI x1), .int (zI x2), .int (zI x3)] ∧ zGK G ∧ zSK G s ∧ (gT G a = 12) ∧ ((-2147483648) ≤ x1 ∧ x1 ≤ 2147483647) ∧ ((-2147483648) ≤ x2 ∧ x2 ≤ 2147483647) ∧ ((-2147483648) ≤ x3 ∧ x3 ≤ 2147483647)) (fun G s _ => pI (fun r G2 s2 => G2 = G ∧ s2 = s ∧ ((-2147483648) ≤ r ∧ r ≤ 2147483647))) (fun G s _ Ex G2 s2 => G2 = G ∧ zSK G s2 ∧ zFr [12] G s s2 ∧ ((Ex = "java/lang/IllegalArgumentException" ∧ (True)) ∨ (Ex = "java/util/NoSuchElementException" ∧ (True)))) := by
  refine ConX.mk hst (by decide) (fun G s vs h => by rw [h.1]; exact Nat.le_of_ble_eq_true rfl) ?_
  rintro X G s0 vs ⟨rfl, hG, hS0, ha, hx1, hx2, hx3⟩ rfl hx hq
  show JJ X E 9 G s0 0 0 [(0, .ref a), (1, .int (zI x1)), (2, .int (zI x2)), (3, .int (zI x3))] 0 []
  refine j_aload_n hx 0 dX11_chance_0 rfl ?_
  refine j_iload_n hx 1 dX11_chance_1 rfl ?_
  refine j_callVX hx hq hG (c_X11_needPlayer hst a x1) lk_RX11_134 ha (by decide) rfl rfl rfl rfl [.int (zI x1)] ⟨rfl, hG, hS0, ha, (by omega)⟩ rfl rfl ⟨by decide, by decide⟩ ⟨by decide, by decide⟩ (k2 := 1) (n2 := 6) rfl rfl (Nat.le_of_ble_eq_true rfl) ⟨by decide, by decide⟩ dX11_chance_2 (by rintro Ex9 G9 s9 ⟨rfl, hS9, hF9, e9, c9⟩; exact ⟨rfl, hS9, (zFr_t zFr_rf hF9 (by decide)), Or.inr ⟨e9, by first | trivial | omega⟩⟩) (kVP (fun q2 => ?_))
  refine j_aload_n hx 0 dX11_chance_5 rfl ?_
  refine j_iload_n hx 2 dX11_chance_6 rfl ?_
  refine j_callVX hx hq hG (c_X11_needPlayer hst a x2) lk_RX11_134 ha (by decide) rfl rfl rfl rfl [.int (zI x2)] ⟨rfl, hG, hS0, ha, (by omega)⟩ rfl rfl ⟨by decide, by decide⟩ ⟨by decide, by decide⟩ (k2 := 2) (n2 := 12) rfl rfl (Nat.le_of_ble_eq_true rfl) ⟨by decide, by decide⟩ dX11_chance_7 (by rintro Ex9 G9 s9 ⟨rfl, hS9, hF9, e9, c9⟩; exact ⟨rfl, hS9, (zFr_t zFr_rf hF9 (by decide)), Or.inr ⟨e9, by first | trivial | omega⟩⟩) (kVP (fun q4 => ?_))
  refine j_aload_n hx 0 dX11_chance_10 rfl ?_
  refine j_iload_n hx 3 dX11_chance_11 rfl ?_
  refine j_iconst hx dX11_chance_12 ?_
  refine j_iconst hx dX11_chance_13 ?_
  refine j_callVX hx hq hG (c_X11_needRange hst a x3 0 1) lk_RX11_98 ha (by decide) rfl rfl rfl rfl [.int (zI x3), .int (zI 0), .int (zI 1)] ⟨rfl, hG, hS0, ha, (by omega), (by omega), (by omega)⟩ rfl rfl ⟨by decide, by decide⟩ ⟨by decide, by decide⟩ (k2 := 3) (n2 := 18) rfl rfl (Nat.le_of_ble_eq_true rfl) ⟨by decide, by decide⟩ dX11_chance_14 (by rintro Ex9 G9 s9 ⟨rfl, hS9, hF9, e9, c9⟩; exact ⟨rfl, hS9, (zFr_t zFr_rf hF9 (by decide)), Or.inl ⟨e9, by first | trivial | omega⟩⟩) (kVP (fun q6 => ?_))
  refine j_aload_n hx 0 dX11_chance_17 rfl ?_
  refine g12_6 hx hG ha kf_RX11_48 dX11_chance_18 ?_
  refine gN4_1 hx hG (zr (k := 6) (t2 := 4) hG ha rfl) kf_RX11_155 dX11_chance_21 ?_
  refine j_astore hx [(4, .ref (gP G (gP G a 6) 1)), (0, .ref a), (1, .int (zI x1)), (2, .int (zI x2)), (3, .int (zI x3))] dX11_chance_24 (by decide) rfl ?_
  refine j_aload hx 0 dX11_chance_26 rfl ?_
  refine j_iload_n hx 2 dX11_chance_28 rfl ?_
  refine j_callV hx hG (c_X0_sourceOf hst (gP G (gP G a 6) 1) x1) lk_RX11_259 (zr (k := 1) (t2 := 1) hG (zr (k := 6) (t2 := 4) hG ha rfl) rfl) (by decide) rfl rfl rfl rfl [.int (zI x1)] ⟨rfl, hG, hS0, (zr (k := 1) (t2 := 1) hG (zr (k := 6) (t2 := 4) hG ha rfl) rfl), (by omega)⟩ rfl rfl ⟨by decide, by decide⟩ ⟨by decide, by decide⟩ (k2 := 3) (n2 := 18) rfl rfl (Nat.le_of_ble_eq_true rfl) dX11_chance_29 (kRP (fun r7 q8 => ?_))
  refine j_astore hx [(5, .ref r7), (4, .ref (gP G (gP G a 6) 1)), (0, .ref a), (1, .int (zI x1)), (2, .int (zI x2)), (3, .int (zI x3))] dX11_chance_32 (by decide) rfl ?_
  refine j_aload hx 0 dX11_chance_34 rfl ?_
  have f9 := zf hS0 q8 (k := 1) rfl
  refine gN7_1 hx hG q8 kf_RX11_175 rfl dX11_chance_36 ?_
  refine j_istore hx [(6, .int (zI ((s0 r7 1)))), (5, .ref r7), (4, .ref (gP G (gP G a 6) 1)), (0, .ref a), (1, .int (zI x1)), (2, .int (zI x2)), (3, .int (zI x3))] dX11_chance_39 (by decide) rfl ?_
  refine j_iconst hx dX11_chance_41 ?_
  refine j_istore hx [(7, .int (zI 0)), (6, .int (zI ((s0 r7 1)))), (5, .ref r7), (4, .ref (gP G (gP G a 6) 1)), (0, .ref a), (1, .int (zI x1)), (2, .int (zI x2)), (3, .int (zI x3))] dX11_chance_42 (by decide) rfl ?_
  refine j_iload hx 1 dX11_chance_44 rfl ?_
  have c141_1 : ∀ (v10 : Int) (v11 : Int), (0 ≤ v10 ∧ v10 ≤ 60) → ((-2147483648) ≤ v11 ∧ v11 ≤ 2147483647) → JJ X E 9 G s0 3 18 [(3, .int (zI x3)), (6, .int (zI v10)), (7, .int (zI v11))] 141 [] := by
    intro v10 v11 fA2 fA3
    refine j_iload hx 2 dX11_chance_141 rfl ?_
    refine j_i2l hx dX11_chance_143 (by omega) ?_
    refine j_iload hx 1 dX11_chance_144 rfl ?_
    refine j_i2l hx dX11_chance_146 (by omega) ?_
    refine j_iload_n hx 0 dX11_chance_147 rfl ?_
    refine j_callS hx (c_X11_leastTerm hst v11 v10 x3) lk_RX11_268 [.long (zL v11), .long (zL v10), .int (zI x3)] ⟨rfl, hG, hS0, (by omega), (by omega), (by omega)⟩ rfl rfl ⟨by decide, by decide⟩ ⟨by decide, by decide⟩ (k2 := 3) (n2 := 18) rfl rfl (Nat.le_of_ble_eq_true rfl) dX11_chance_148 (kLP (fun v12 q13 => ?_))
    refine j_l2i hx dX11_chance_151 (by omega) (fun v14 f15 f16 f17 => ?_)
    exact j_iret hx hq.r rfl (by decide) (by decide) dX11_chance_152 ⟨v14, rfl, rfl, rfl, (by omega)⟩
  have c99_4 : JJ X E 9 G s0 3 18 [(1, .int (zI x1)), (3, .int (zI x3)), (4, .ref (gP G (gP G a 6) 1)), (5, .ref r7), (6, .int (zI ((s0 r7 1)))), (7, .int (zI 0))] 99 [] := by
    refine j_iconst hx dX11_chance_99 ?_
    refine j_istore hx [(8, .int (zI 0)), (1, .int (zI x1)), (3, .int (zI x3)), (4, .ref (gP G (gP G a 6) 1)), (5, .ref r7), (6, .int (zI ((s0 r7 1)))), (7, .int (zI 0))] dX11_chance_100 (by decide) rfl ?_
    have c102_5 : ∀ (m_c102_5 : Nat) (v18 : Int) (v19 : Int), 2147483648 - v19 < m_c102_5 → ((-2147483648) ≤ v18 ∧ v18 ≤ 2147483647) → (0 ≤ v19 ∧ v19 ≤ 60) → JJ X E 9 G s0 3 18 [(1, .int (zI x1)), (3, .int (zI x3)), (4, .ref (gP G (gP G a 6) 1)), (5, .ref r7), (6, .int (zI ((s0 r7 1)))), (7, .int (zI v18)), (8, .int (zI v19))] 102 [] := by
      intro m_c102_5
      induction m_c102_5 with
      | zero => intro v18 v19 hm_c102_5 fA6 fA7; exfalso; omega
      | succ m_c102_5 ih_c102_5 => 
        intro v18 v19 hm_c102_5 fA6 fA7
        refine j_iload hx 6 dX11_chance_102 rfl ?_
        refine j_iload hx 4 dX11_chance_104 rfl ?_
        refine j_icmp_ge hx 141 dX11_chance_106 rfl (by omega) (by omega) (fun h20 => ?_) (fun h20 => ?_)
        · skip
          exact j_sub [1, 4, 5] [(3, .int (zI x3)), (6, .int (zI ((s0 r7 1)))), (7, .int (zI v18))] rfl (c141_1 ((s0 r7 1)) v18 (by omega) (by omega))
        · skip
          refine j_iload hx 5 dX11_chance_109 rfl ?_
          refine j_aload hx 2 dX11_chance_111 rfl ?_
          refine j_iload_n hx 0 dX11_chance_113 rfl ?_
          refine j_aload hx 3 dX11_chance_114 rfl ?_
          refine j_iload hx 6 dX11_chance_116 rfl ?_
          refine j_callV hx hG (c_X6_kindAt hst r7 v19) lk_RX11_197 q8 (by decide) rfl rfl rfl rfl [.int (zI v19)] ⟨rfl, hG, hS0, q8, (by omega)⟩ rfl rfl ⟨by decide, by decide⟩ ⟨by decide, by decide⟩ (k2 := 3) (n2 := 18) rfl rfl (Nat.le_of_ble_eq_true rfl) dX11_chance_118 (kIP (fun v21 q22 => ?_))
          refine j_callV hx hG (c_X0_isOtherTop hst (gP G (gP G a 6) 1) x1 v21) lk_RX11_265 (zr (k := 1) (t2 := 1) hG (zr (k := 6) (t2 := 4) hG ha rfl) rfl) (by decide) rfl rfl rfl rfl [.int (zI x1), .int (zI v21)] ⟨rfl, hG, hS0, (zr (k := 1) (t2 := 1) hG (zr (k := 6) (t2 := 4) hG ha rfl) rfl), (by omega), (by omega)⟩ rfl rfl ⟨by decide, by decide⟩ ⟨by decide, by decide⟩ (k2 := 3) (n2 := 18) rfl rfl (Nat.le_of_ble_eq_true rfl) dX11_chance_121 (kIP (fun v23 q24 => ?_))
          have c132_8 : ∀ (v25 : Int), (0 ≤ v25 ∧ v25 ≤ 1) → JJ X E 9 G s0 3 18 [(1, .int (zI x1)), (3, .int (zI x3)), (4, .ref (gP G (gP G a 6) 1)), (5, .ref r7), (6, .int (zI ((s0 r7 1)))), (8, .int (zI v19))] 132 [.int (zI v25), .int (zI v18)] := by
            intro v25 fA9
            refine j_iadd hx (r := v18 + v25) dX11_chance_132 rfl ?_
            refine j_norm (fun v26 f27 f28 f29 => ?_)
            refine j_istore hx [(7, .int (zI v26)), (1, .int (zI x1)), (3, .int (zI x3)), (4, .ref (gP G (gP G a 6) 1)), (5, .ref r7), (6, .int (zI ((s0 r7 1)))), (8, .int (zI v19))] dX11_chance_133 (by decide) rfl ?_
            refine j_iinc hx 6 [(8, .int (zI (v19 + 1))), (7, .int (zI v26)), (1, .int (zI x1)), (3, .int (zI x3)), (4, .ref (gP G (gP G a 6) 1)), (5, .ref r7), (6, .int (zI ((s0 r7 1))))] dX11_chance_135 rfl (by omega) (by decide) rfl ?_
            refine j_goto hx 102 dX11_chance_138 rfl ?_
            exact j_sub [2, 3, 4, 5, 6, 1, 0] [(1, .int (zI x1)), (3, .int (zI x3)), (4, .ref (gP G (gP G a 6) 1)), (5, .ref r7), (6, .int (zI ((s0 r7 1)))), (7, .int (zI v26)), (8, .int (zI (v19 + 1)))] rfl (ih_c102_5 v26 (v19 + 1) (by omega) (by omega) (by omega))
          refine j_if_eq hx 131 dX11_chance_124 rfl (by omega) (fun h30 => ?_) (fun h30 => ?_)
          · skip
            refine j_iconst hx dX11_chance_131 ?_
            exact j_sub [0, 1, 2, 3, 4, 6] [(1, .int (zI x1)), (3, .int (zI x3)), (4, .ref (gP G (gP G a 6) 1)), (5, .ref r7), (6, .int (zI ((s0 r7 1)))), (8, .int (zI v19))] rfl (c132_8 0 (by omega))
          · skip
            refine j_iconst hx dX11_chance_127 ?_
            refine j_goto hx 132 dX11_chance_128 rfl ?_
            exact j_sub [0, 1, 2, 3, 4, 6] [(1, .int (zI x1)), (3, .int (zI x3)), (4, .ref (gP G (gP G a 6) 1)), (5, .ref r7), (6, .int (zI ((s0 r7 1)))), (8, .int (zI v19))] rfl (c132_8 1 (by omega))
    exact j_sub [1, 2, 3, 4, 5, 6, 0] [(1, .int (zI x1)), (3, .int (zI x3)), (4, .ref (gP G (gP G a 6) 1)), (5, .ref r7), (6, .int (zI ((s0 r7 1)))), (7, .int (zI 0)), (8, .int (zI 0))] rfl (c102_5 (2147483648 * 4) 0 0 (by omega) (by omega) (by omega))
  refine j_if_le hx 99 dX11_chance_46 rfl (by omega) (fun h31 => ?_) (fun h31 => ?_)
  · skip
    exact j_sub [5, 7, 3, 2, 1, 0] [(1, .int (zI x1)), (3, .int (zI x3)), (4, .ref (gP G (gP G a 6) 1)), (5, .ref r7), (6, .int (zI ((s0 r7 1)))), (7, .int (zI 0))] rfl (c99_4  )
  · skip
    refine j_aload hx 3 dX11_chance_49 rfl ?_
    refine j_iload_n hx 5 dX11_chance_51 rfl ?_
    refine j_callV hx hG (c_X0_firstHasLain hst (gP G (gP G a 6) 1) x1) lk_RX11_262 (zr (k := 1) (t2 := 1) hG (zr (k := 6) (t2 := 4) hG ha rfl) rfl) (by decide) rfl rfl rfl rfl [.int (zI x1)] ⟨rfl, hG, hS0, (zr (k := 1) (t2 := 1) hG (zr (k := 6) (t2 := 4) hG ha rfl) rfl), (by omega)⟩ rfl rfl ⟨by decide, by decide⟩ ⟨by decide, by decide⟩ (k2 := 3) (n2 := 18) rfl rfl (Nat.le_of_ble_eq_true rfl) dX11_chance_52 (kIP (fun v32 q33 => ?_))
    refine j_if_eq hx 99 dX11_chance_55 rfl (by omega) (fun h34 => ?_) (fun h34 => ?_)
    · skip
      exact j_sub [5, 7, 3, 2, 1, 0] [(1, .int (zI x1)), (3, .int (zI x3)), (4, .ref (gP G (gP G a 6) 1)), (5, .ref r7), (6, .int (zI ((s0 r7 1)))), (7, .int (zI 0))] rfl (c99_4  )
    · skip
      refine j_aload_n hx 4 dX11_chance_58 rfl ?_
      refine g12_1 hx hG ha kf_RX11_19 dX11_chance_59 ?_
      refine j_iload_n hx 6 dX11_chance_62 rfl ?_
      refine j_iconst hx dX11_chance_63 ?_
      refine j_callV hx hG (c_X8_trait hst (gP G a 1) x2 1) lk_RX11_184 (zr (k := 1) (t2 := 9) hG ha rfl) (by decide) rfl rfl rfl rfl [.int (zI x2), .int (zI 1)] ⟨rfl, hG, hS0, (zr (k := 1) (t2 := 9) hG ha rfl), (by omega), (by omega)⟩ rfl rfl ⟨by decide, by decide⟩ ⟨by decide, by decide⟩ (k2 := 3) (n2 := 18) rfl rfl (Nat.le_of_ble_eq_true rfl) dX11_chance_64 (kIP (fun v35 q36 => ?_))
      refine j_iconst hx dX11_chance_67 ?_
      refine j_icmp_lt hx 99 dX11_chance_68 rfl (by omega) ⟨by decide, by decide⟩ (fun h37 => ?_) (fun h37 => ?_)
      · skip
        exact j_sub [5, 7, 3, 2, 1, 0] [(1, .int (zI x1)), (3, .int (zI x3)), (4, .ref (gP G (gP G a 6) 1)), (5, .ref r7), (6, .int (zI ((s0 r7 1)))), (7, .int (zI 0))] rfl (c99_4  )
      · skip
        refine j_iconst hx dX11_chance_71 ?_
        refine j_istore hx [(6, .int (zI 1)), (7, .int (zI 0)), (5, .ref r7), (4, .ref (gP G (gP G a 6) 1)), (0, .ref a), (1, .int (zI x1)), (2, .int (zI x2)), (3, .int (zI x3))] dX11_chance_72 (by decide) rfl ?_
        refine j_aload hx 3 dX11_chance_74 rfl ?_
        refine j_iload_n hx 5 dX11_chance_76 rfl ?_
        refine j_aload hx 2 dX11_chance_77 rfl ?_
        refine j_iconst hx dX11_chance_79 ?_
        refine j_callV hx hG (c_X6_kindAt hst r7 0) lk_RX11_197 q8 (by decide) rfl rfl rfl rfl [.int (zI 0)] ⟨rfl, hG, hS0, q8, (by omega)⟩ rfl rfl ⟨by decide, by decide⟩ ⟨by decide, by decide⟩ (k2 := 3) (n2 := 18) rfl rfl (Nat.le_of_ble_eq_true rfl) dX11_chance_80 (kIP (fun v38 q39 => ?_))
        refine j_callV hx hG (c_X0_isOtherTop hst (gP G (gP G a 6) 1) x1 v38) lk_RX11_265 (zr (k := 1) (t2 := 1) hG (zr (k := 6) (t2 := 4) hG ha rfl) rfl) (by decide) rfl rfl rfl rfl [.int (zI x1), .int (zI v38)] ⟨rfl, hG, hS0, (zr (k := 1) (t2 := 1) hG (zr (k := 6) (t2 := 4) hG ha rfl) rfl), (by omega), (by omega)⟩ rfl rfl ⟨by decide, by decide⟩ ⟨by decide, by decide⟩ (k2 := 3) (n2 := 18) rfl rfl (Nat.le_of_ble_eq_true rfl) dX11_chance_83 (kIP (fun v40 q41 => ?_))
        have c94_10 : ∀ (v42 : Int), (0 ≤ v42 ∧ v42 ≤ 1) → JJ X E 9 G s0 3 18 [(3, .int (zI x3)), (6, .int (zI 1))] 94 [.int (zI v42)] := by
          intro v42 fA11
          refine j_istore hx [(7, .int (zI v42)), (3, .int (zI x3)), (6, .int (zI 1))] dX11_chance_94 (by decide) rfl ?_
          refine j_goto hx 141 dX11_chance_96 rfl ?_
          exact j_sub [1, 2, 0] [(3, .int (zI x3)), (6, .int (zI 1)), (7, .int (zI v42))] rfl (c141_1 1 v42 (by omega) (by omega))
        refine j_if_eq hx 93 dX11_chance_86 rfl (by omega) (fun h43 => ?_) (fun h43 => ?_)
        · skip
          refine j_iconst hx dX11_chance_93 ?_
          exact j_sub [7, 0] [(3, .int (zI x3)), (6, .int (zI 1))] rfl (c94_10 0 (by omega))
        · skip
          refine j_iconst hx dX11_chance_89 ?_
          refine j_goto hx 94 dX11_chance_90 rfl ?_
          exact j_sub [7, 0] [(3, .int (zI x3)), (6, .int (zI 1))] rfl (c94_10 1 (by omega))

set_option maxHeartbeats 4000000 in
set_option maxRecDepth 20000 in
theorem c_X11_needWager {E : zE} {l : Launch} (hst : l.stackTraces = false) (a : Nat) (x1 : Int) (x2 : Int) (x3 : Int) (x4 : Int) : ConX E l yX11_needWager cX11_needWager 5 none { frames := 7, cells := 4, slots := 24, locals := 113 } (fun G s vs => vs = [.ref a, .int (zI x1), .int (zI x2), .int (zI x3), .int (zI x4)] ∧ zGK G ∧ zSK G s ∧ (gT G a = 12) ∧ ((-2147483648) ≤ x1 ∧ x1 ≤ 2147483647) ∧ ((-2147483648) ≤ x2 ∧ x2 ≤ 2147483647) ∧ ((-2147483648) ≤ x3 ∧ x3 ≤ 2147483647) ∧ ((-2147483648) ≤ x4 ∧ x4 ≤ 2147483647)) (fun G s _ => pV (fun G2 s2 => G2 = G ∧ s2 = s ∧ (1 ≤ x2 ∧ x2 ≤ 99 ∧ 0 ≤ x1 ∧ x1 ≤ x2 ∧ 0 ≤ x3 ∧ x3 ≤ 99 ∧ 0 ≤ x4 ∧ x4 ≤ 99))) (fun G s _ Ex G2 s2 => G2 = G ∧ zSK G s2 ∧ zFr [12] G s s2 ∧ ((Ex = "java/lang/IllegalArgumentException" ∧ (True)))) := by
  refine ConX.mk hst (by decide) (fun G s vs h => by rw [h.1]; exact Nat.le_of_ble_eq_true rfl) ?_
  rintro X G s0 vs ⟨rfl, hG, hS0, ha, hx1, hx2, hx3, hx4⟩ rfl hx hq
  show JJ X E 5 G s0 0 0 [(0, .ref a), (1, .int (zI x1)), (2, .int (zI x2)), (3, .int (zI x3)), (4, .int (zI x4))] 0 []
  refine j_aload_n hx 0 dX11_needWager_0 rfl ?_
  refine j_iload_n hx 2 dX11_needWager_1 rfl ?_
  refine j_iconst hx dX11_needWager_2 ?_
  refine j_bipush hx dX11_needWager_3 rfl ?_
  refine j_callVX hx hq hG (c_X11_needRange hst a x2 1 99) lk_RX11_98 ha (by decide) rfl rfl rfl rfl [.int (zI x2), .int (zI 1), .int (zI 99)] ⟨rfl, hG, hS0, ha, (by omega), (by omega), (by omega)⟩ rfl rfl ⟨by decide, by decide⟩ ⟨by decide, by decide⟩ (k2 := 1) (n2 := 6) rfl rfl (Nat.le_of_ble_eq_true rfl) ⟨by decide, by decide⟩ dX11_needWager_5 (by rintro Ex9 G9 s9 ⟨rfl, hS9, hF9, e9, c9⟩; exact ⟨rfl, hS9, (zFr_t zFr_rf hF9 (by decide)), ⟨e9, by first | trivial | omega⟩⟩) (kVP (fun q2 => ?_))
  refine j_aload_n hx 0 dX11_needWager_8 rfl ?_
  refine j_iload_n hx 1 dX11_needWager_9 rfl ?_
  refine j_iconst hx dX11_needWager_10 ?_
  refine j_iload_n hx 2 dX11_needWager_11 rfl ?_
  refine j_callVX hx hq hG (c_X11_needRange hst a x1 0 x2) lk_RX11_98 ha (by decide) rfl rfl rfl rfl [.int (zI x1), .int (zI 0), .int (zI x2)] ⟨rfl, hG, hS0, ha, (by omega), (by omega), (by omega)⟩ rfl rfl ⟨by decide, by decide⟩ ⟨by decide, by decide⟩ (k2 := 2) (n2 := 12) rfl rfl (Nat.le_of_ble_eq_true rfl) ⟨by decide, by decide⟩ dX11_needWager_12 (by rintro Ex9 G9 s9 ⟨rfl, hS9, hF9, e9, c9⟩; exact ⟨rfl, hS9, (zFr_t zFr_rf hF9 (by decide)), ⟨e9, by first | trivial | omega⟩⟩) (kVP (fun q4 => ?_))
  refine j_aload_n hx 0 dX11_needWager_15 rfl ?_
  refine j_iload_n hx 3 dX11_needWager_16 rfl ?_
  refine j_iconst hx dX11_needWager_17 ?_
  refine j_bipush hx dX11_needWager_18 rfl ?_
  refine j_callVX hx hq hG (c_X11_needRange hst a x3 0 99) lk_RX11_98 ha (by decide) rfl rfl rfl rfl [.int (zI x3), .int (zI 0), .int (zI 99)] ⟨rfl, hG, hS0, ha, (by omega), (by omega), (by omega)⟩ rfl rfl ⟨by decide, by decide⟩ ⟨by decide, by decide⟩ (k2 := 3) (n2 := 18) rfl rfl (Nat.le_of_ble_eq_true rfl) ⟨by decide, by decide⟩ dX11_needWager_20 (by rintro Ex9 G9 s9 ⟨rfl, hS9, hF9, e9, c9⟩; exact ⟨rfl, hS9, (zFr_t zFr_rf hF9 (by decide)), ⟨e9, by first | trivial | omega⟩⟩) (kVP (fun q6 => ?_))
  refine j_aload_n hx 0 dX11_needWager_23 rfl ?_
  refine j_iload hx 4 dX11_needWager_24 rfl ?_
  refine j_iconst hx dX11_needWager_26 ?_
  refine j_bipush hx dX11_needWager_27 rfl ?_
  refine j_callVX hx hq hG (c_X11_needRange hst a x4 0 99) lk_RX11_98 ha (by decide) rfl rfl rfl rfl [.int (zI x4), .int (zI 0), .int (zI 99)] ⟨rfl, hG, hS0, ha, (by omega), (by omega), (by omega)⟩ rfl rfl ⟨by decide, by decide⟩ ⟨by decide, by decide⟩ (k2 := 4) (n2 := 24) rfl rfl (Nat.le_of_ble_eq_true rfl) ⟨by decide, by decide⟩ dX11_needWager_29 (by rintro Ex9 G9 s9 ⟨rfl, hS9, hF9, e9, c9⟩; exact ⟨rfl, hS9, (zFr_t zFr_rf hF9 (by decide)), ⟨e9, by first | trivial | omega⟩⟩) (kVP (fun q8 => ?_))
  exact j_vret hx hq.r rfl (by decide) (by decide) dX11_needWager_32 ⟨rfl, rfl, rfl, by omega⟩

theorem lk_RX11_272 : LkV RX11 272 RX11 yX11_needWager cX11_needWager 5 none 4 := ⟨km_RX11_272, ki_yX11_needWager, ks_RX11_yX11_needWager, kn_RX11, kc_yX11_needWager, rfl, by decide +kernel, by decide +kernel, by decide +kernel⟩
set_option maxHeartbeats 4000000 in
set_option maxRecDepth 20000 in
theorem c_X11_waits {E : zE} {l : Launch} (hst : l.stackTraces = false) (a : Nat) (x1 : Int) (x2 : Int) (x3 : Int) (x4 : Int) : ConX E l yX11_waits cX11_waits 7 (some .int) { frames := 8, cells := 4, slots := 24, locals := 137 } (fun G s vs => vs = [.ref a, .int (zI x1), .int (zI x2), .int (zI x3), .int (zI x4)] ∧ zGK G ∧ zSK G s ∧ (gT G a = 12) ∧ ((-2147483648) ≤ x1 ∧ x1 ≤ 2147483647) ∧ ((-2147483648) ≤ x2 ∧ x2 ≤ 2147483647) ∧ ((-2147483648) ≤ x3 ∧ x3 ≤ 2147483647) ∧ ((-2147483648) ≤ x4 ∧ x4 ≤ 2147483647)) (fun G s _ => pI (fun r G2 s2 => G2 = G ∧ s2 = s ∧ ((-2147483648) ≤ r ∧ r ≤ 2147483647))) (fun G s _ Ex G2 s2 => G2 = G ∧ zSK G s2 ∧ zFr [12] G s s2 ∧ ((Ex = "java/lang/IllegalArgumentException" ∧ (True)))) := by
  refine ConX.mk hst (by decide) (fun G s vs h => by rw [h.1]; exact Nat.le_of_ble_eq_true rfl) ?_
  rintro X G s0 vs ⟨rfl, hG, hS0, ha, hx1, hx2, hx3, hx4⟩ rfl hx hq
  show JJ X E 7 G s0 0 0 [(0, .ref a), (1, .int (zI x1)), (2, .int (zI x2)), (3, .int (zI x3)), (4, .int (zI x4))] 0 []
  refine j_aload_n hx 0 dX11_waits_0 rfl ?_
  refine j_iload_n hx 1 dX11_waits_1 rfl ?_
  refine j_iload_n hx 2 dX11_waits_2 rfl ?_
  refine j_iload_n hx 3 dX11_waits_3 rfl ?_
  refine j_iload hx 4 dX11_waits_4 rfl ?_
  refine j_callVX hx hq hG (c_X11_needWager hst a x1 x2 x3 x4) lk_RX11_272 ha (by decide) rfl rfl rfl rfl [.int (zI x1), .int (zI x2), .int (zI x3), .int (zI x4)] ⟨rfl, hG, hS0, ha, (by omega), (by omega), (by omega), (by omega)⟩ rfl rfl ⟨by decide, by decide⟩ ⟨by decide, by decide⟩ (k2 := 4) (n2 := 24) rfl rfl (Nat.le_of_ble_eq_true rfl) ⟨by decide, by decide⟩ dX11_waits_6 (by rintro Ex9 G9 s9 ⟨rfl, hS9, hF9, e9, c9⟩; exact ⟨rfl, hS9, (zFr_t zFr_rf hF9 (by decide)), ⟨e9, by first | trivial | omega⟩⟩) (kVP (fun q2 => ?_))
  refine j_iload_n hx 1 dX11_waits_9 rfl ?_
  refine j_iload_n hx 3 dX11_waits_10 rfl ?_
  refine j_imul hx (r := (x1 * x3)) dX11_waits_11 rfl ?_
  have f3 : 0 ≤ (x1 * x3) ∧ (x1 * x3) ≤ 99 * 99 := zmulnn (by omega) (by omega)
  refine j_iload_n hx 2 dX11_waits_12 rfl ?_
  refine j_iload_n hx 1 dX11_waits_13 rfl ?_
  refine j_isub hx (r := x2 - x1) dX11_waits_14 rfl ?_
  refine j_iload hx 4 dX11_waits_15 rfl ?_
  refine j_imul hx (r := ((x2 - x1) * x4)) dX11_waits_17 rfl ?_
  have f4 : 0 ≤ ((x2 - x1) * x4) ∧ ((x2 - x1) * x4) ≤ 99 * 99 := zmulnn (by omega) (by omega)
  refine j_isub hx (r := (x1 * x3) - ((x2 - x1) * x4)) dX11_waits_18 (by omega) ?_
  refine j_istore hx [(5, .int (zI ((x1 * x3) - ((x2 - x1) * x4)))), (0, .ref a), (1, .int (zI x1)), (2, .int (zI x2)), (3, .int (zI x3)), (4, .int (zI x4))] dX11_waits_19 (by decide) rfl ?_
  refine j_iconst hx dX11_waits_21 ?_
  refine j_istore hx [(6, .int (zI 0)), (5, .int (zI ((x1 * x3) - ((x2 - x1) * x4)))), (0, .ref a), (1, .int (zI x1)), (2, .int (zI x2)), (3, .int (zI x3)), (4, .int (zI x4))] dX11_waits_22 (by decide) rfl ?_
  have c24_1 : ∀ (m_c24_1 : Nat) (v5 : Int), 2147483648 - v5 < m_c24_1 → (0 ≤ v5 ∧ v5 ≤ 17) → JJ X E 7 G s0 4 24 [(1, .int (zI x1)), (3, .int (zI x3)), (5, .int (zI ((x1 * x3) - ((x2 - x1) * x4)))), (6, .int (zI v5))] 24 [] := by
    intro m_c24_1
    induction m_c24_1 with
    | zero => intro v5 hm_c24_1 fA2; exfalso; omega
    | succ m_c24_1 ih_c24_1 => 
      intro v5 hm_c24_1 fA2
      refine j_iload hx 3 dX11_waits_24 rfl ?_
      refine j_bipush hx dX11_waits_26 rfl ?_
      refine j_icmp_gt hx 54 dX11_waits_28 rfl (by omega) ⟨by decide, by decide⟩ (fun h6 => ?_) (fun h6 => ?_)
      · skip
        refine j_bipush hx dX11_waits_54 rfl ?_
        exact j_iret hx hq.r rfl (by decide) (by decide) dX11_waits_56 ⟨17, rfl, rfl, rfl, (by omega)⟩
      · skip
        refine j_iload hx 3 dX11_waits_31 rfl ?_
        refine j_iload_n hx 0 dX11_waits_33 rfl ?_
        refine j_imul hx (r := (v5 * x1)) dX11_waits_34 rfl ?_
        have f7 : 0 ≤ (v5 * x1) ∧ (v5 * x1) ≤ 16 * 99 := zmulnn (by omega) (by omega)
        refine j_iload_n hx 1 dX11_waits_35 rfl ?_
        refine j_imul hx (r := (((v5 * x1)) * x3)) dX11_waits_36 rfl ?_
        have f8 : 0 ≤ (((v5 * x1)) * x3) ∧ (((v5 * x1)) * x3) ≤ 1584 * 99 := zmulnn (by omega) (by omega)
        refine j_bipush hx dX11_waits_37 rfl ?_
        refine j_iload hx 2 dX11_waits_39 rfl ?_
        refine j_imul hx (r := 16 * (x1 * x3) - 16 * ((x2 - x1) * x4)) dX11_waits_41 (by omega) ?_
        refine j_icmp_lt hx 48 dX11_waits_42 rfl (by omega) (by omega) (fun h9 => ?_) (fun h9 => ?_)
        · skip
          refine j_iinc hx 3 [(6, .int (zI (v5 + 1))), (1, .int (zI x1)), (3, .int (zI x3)), (5, .int (zI ((x1 * x3) - ((x2 - x1) * x4))))] dX11_waits_48 rfl (by omega) (by decide) rfl ?_
          refine j_goto hx 24 dX11_waits_51 rfl ?_
          exact j_sub [1, 2, 3, 0] [(1, .int (zI x1)), (3, .int (zI x3)), (5, .int (zI ((x1 * x3) - ((x2 - x1) * x4)))), (6, .int (zI (v5 + 1)))] rfl (ih_c24_1 (v5 + 1) (by omega) (by omega))
        · skip
          refine j_iload hx 3 dX11_waits_45 rfl ?_
          exact j_iret hx hq.r rfl (by decide) (by decide) dX11_waits_47 ⟨v5, rfl, rfl, rfl, (by omega)⟩
  exact j_sub [3, 5, 1, 0] [(1, .int (zI x1)), (3, .int (zI x3)), (5, .int (zI ((x1 * x3) - ((x2 - x1) * x4)))), (6, .int (zI 0))] rfl (c24_1 (2147483648 * 4) 0 (by omega) (by omega))

set_option maxHeartbeats 4000000 in
set_option maxRecDepth 20000 in
theorem c_X11_ahead {E : zE} {l : Launch} (hst : l.stackTraces = false) (a : Nat) (x1 : Int) (x2 : Int) (x3 : Int) (x4 : Int) : ConX E l yX11_ahead cX11_ahead 5 (some .int) { frames := 8, cells := 4, slots := 24, locals := 137 } (fun G s vs => vs = [.ref a, .int (zI x1), .int (zI x2), .int (zI x3), .int (zI x4)] ∧ zGK G ∧ zSK G s ∧ (gT G a = 12) ∧ ((-2147483648) ≤ x1 ∧ x1 ≤ 2147483647) ∧ ((-2147483648) ≤ x2 ∧ x2 ≤ 2147483647) ∧ ((-2147483648) ≤ x3 ∧ x3 ≤ 2147483647) ∧ ((-2147483648) ≤ x4 ∧ x4 ≤ 2147483647)) (fun G s _ => pI (fun r G2 s2 => G2 = G ∧ s2 = s ∧ ((-2147483648) ≤ r ∧ r ≤ 2147483647))) (fun G s _ Ex G2 s2 => G2 = G ∧ zSK G s2 ∧ zFr [12] G s s2 ∧ ((Ex = "java/lang/IllegalArgumentException" ∧ (True)))) := by
  refine ConX.mk hst (by decide) (fun G s vs h => by rw [h.1]; exact Nat.le_of_ble_eq_true rfl) ?_
  rintro X G s0 vs ⟨rfl, hG, hS0, ha, hx1, hx2, hx3, hx4⟩ rfl hx hq
  show JJ X E 5 G s0 0 0 [(0, .ref a), (1, .int (zI x1)), (2, .int (zI x2)), (3, .int (zI x3)), (4, .int (zI x4))] 0 []
  refine j_aload_n hx 0 dX11_ahead_0 rfl ?_
  refine j_iload_n hx 1 dX11_ahead_1 rfl ?_
  refine j_iload_n hx 2 dX11_ahead_2 rfl ?_
  refine j_iload_n hx 3 dX11_ahead_3 rfl ?_
  refine j_iload hx 4 dX11_ahead_4 rfl ?_
  refine j_callVX hx hq hG (c_X11_needWager hst a x1 x2 x3 x4) lk_RX11_272 ha (by decide) rfl rfl rfl rfl [.int (zI x1), .int (zI x2), .int (zI x3), .int (zI x4)] ⟨rfl, hG, hS0, ha, (by omega), (by omega), (by omega), (by omega)⟩ rfl rfl ⟨by decide, by decide⟩ ⟨by decide, by decide⟩ (k2 := 4) (n2 := 24) rfl rfl (Nat.le_of_ble_eq_true rfl) ⟨by decide, by decide⟩ dX11_ahead_6 (by rintro Ex9 G9 s9 ⟨rfl, hS9, hF9, e9, c9⟩; exact ⟨rfl, hS9, (zFr_t zFr_rf hF9 (by decide)), ⟨e9, by first | trivial | omega⟩⟩) (kVP (fun q2 => ?_))
  refine j_iload_n hx 1 dX11_ahead_9 rfl ?_
  refine j_iload_n hx 3 dX11_ahead_10 rfl ?_
  refine j_imul hx (r := (x1 * x3)) dX11_ahead_11 rfl ?_
  have f3 : 0 ≤ (x1 * x3) ∧ (x1 * x3) ≤ 99 * 99 := zmulnn (by omega) (by omega)
  refine j_iload_n hx 2 dX11_ahead_12 rfl ?_
  refine j_iload_n hx 1 dX11_ahead_13 rfl ?_
  refine j_isub hx (r := x2 - x1) dX11_ahead_14 rfl ?_
  refine j_iload hx 4 dX11_ahead_15 rfl ?_
  refine j_imul hx (r := ((x2 - x1) * x4)) dX11_ahead_17 rfl ?_
  have f4 : 0 ≤ ((x2 - x1) * x4) ∧ ((x2 - x1) * x4) ≤ 99 * 99 := zmulnn (by omega) (by omega)
  refine j_isub hx (r := (x1 * x3) - ((x2 - x1) * x4)) dX11_ahead_18 (by omega) ?_
  exact j_iret hx hq.r rfl (by decide) (by decide) dX11_ahead_19 ⟨(x1 * x3) - ((x2 - x1) * x4), rfl, rfl, rfl, (by omega)⟩
