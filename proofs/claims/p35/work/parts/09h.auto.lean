set_option maxHeartbeats 4000000 in
set_option maxRecDepth 20000 in
theorem c_X10_choose_5 {E : zE} {l : Launch} (hst : l.stackTraces = false) (a : Nat) (x1 : Int) (x2 : Int) (x3 : Int) : Con E l yX10_choose cX10_choose 8 none { frames := 10, cells := 0, slots := 0, locals := 248 } (fun G s vs => vs = [.ref a, .int (zI x1), .int (zI x2), .int (zI x3)] ∧ zGK G ∧ zSK G s ∧ (gT G a = 11) ∧ (5 ≤ x1 ∧ x1 ≤ 5) ∧ ((-2147483648) ≤ x2 ∧ x2 ≤ 2147483647) ∧ (0 ≤ x3 ∧ x3 ≤ 4)) (fun G s _ => pV (fun G2 s2 => G2 = G ∧ zSK G s2 ∧ zFr [1, 7, 11, 41] G s s2 ∧ True)) := by
  refine Con.mk hst (by decide) (fun G s vs h => by rw [h.1]; exact Nat.le_of_ble_eq_true rfl) ?_
  rintro X G s0 vs ⟨rfl, hG, hS0, ha, hx1, hx2, hx3⟩ rfl hx hq
  obtain rfl : x1 = 5 := by omega
  show JJ X E 8 G s0 0 0 [(0, .ref a), (1, .int (zI 5)), (2, .int (zI x2)), (3, .int (zI x3))] 0 []
  refine j_aload_n hx 0 dX10_choose_0 rfl ?_
  refine j_iload_n hx 1 dX10_choose_1 rfl ?_
  refine j_callV hx hG (c_X10_boardAt hst a 5) lk_RX10_22 ha (by decide) rfl rfl rfl rfl [.int (zI 5)] ⟨rfl, hG, hS0, ha, (by omega)⟩ rfl rfl ⟨by decide, by decide⟩ ⟨by decide, by decide⟩ (k2 := 0) (n2 := 0) rfl rfl (Nat.le_of_ble_eq_true rfl) dX10_choose_2 (kNP (fun _ => ?_) (fun r1 q2 => ?_))
  · skip
    refine j_astoreN hx [(4, .null), (0, .ref a), (1, .int (zI 5)), (2, .int (zI x2)), (3, .int (zI x3))] dX10_choose_5 (by decide) rfl ?_
    refine j_aload_n hx 1 dX10_choose_7 rfl ?_
    refine j_iload_n hx 2 dX10_choose_8 rfl ?_
    refine j_iconst hx dX10_choose_9 ?_
    refine j_iadd hx (r := 6) dX10_choose_10 (by omega) ?_
    refine j_callV hx hG (c_X10_boardAt hst a 6) lk_RX10_22 ha (by decide) rfl rfl rfl rfl [.int (zI 6)] ⟨rfl, hG, hS0, ha, (by omega)⟩ rfl rfl ⟨by decide, by decide⟩ ⟨by decide, by decide⟩ (k2 := 0) (n2 := 0) rfl rfl (Nat.le_of_ble_eq_true rfl) dX10_choose_11 (kNP (fun _ => ?_) (fun r3 q4 => ?_))
    · skip
      refine j_astoreN hx [(5, .null), (4, .null), (0, .ref a), (1, .int (zI 5)), (2, .int (zI x2)), (3, .int (zI x3))] dX10_choose_14 (by decide) rfl ?_
      refine j_aloadN hx 1 dX10_choose_16 rfl ?_
      refine j_ifnonnullN hx dX10_choose_18 ?_
      exact j_vret hx hq rfl (by decide) (by decide) dX10_choose_21 ⟨rfl, rfl, hS0, zFr_rf, trivial⟩
    · skip
      refine j_astore hx [(5, .ref r3), (4, .null), (0, .ref a), (1, .int (zI 5)), (2, .int (zI x2)), (3, .int (zI x3))] dX10_choose_14 (by decide) rfl ?_
      refine j_aloadN hx 1 dX10_choose_16 rfl ?_
      refine j_ifnonnullN hx dX10_choose_18 ?_
      exact j_vret hx hq rfl (by decide) (by decide) dX10_choose_21 ⟨rfl, rfl, hS0, zFr_rf, trivial⟩
  · skip
    refine j_astore hx [(4, .ref r1), (0, .ref a), (1, .int (zI 5)), (2, .int (zI x2)), (3, .int (zI x3))] dX10_choose_5 (by decide) rfl ?_
    refine j_aload_n hx 1 dX10_choose_7 rfl ?_
    refine j_iload_n hx 2 dX10_choose_8 rfl ?_
    refine j_iconst hx dX10_choose_9 ?_
    refine j_iadd hx (r := 6) dX10_choose_10 (by omega) ?_
    refine j_callV hx hG (c_X10_boardAt hst a 6) lk_RX10_22 ha (by decide) rfl rfl rfl rfl [.int (zI 6)] ⟨rfl, hG, hS0, ha, (by omega)⟩ rfl rfl ⟨by decide, by decide⟩ ⟨by decide, by decide⟩ (k2 := 0) (n2 := 0) rfl rfl (Nat.le_of_ble_eq_true rfl) dX10_choose_11 (kNP (fun _ => ?_) (fun r5 q6 => ?_))
    · skip
      refine j_astoreN hx [(5, .null), (4, .ref r1), (0, .ref a), (1, .int (zI 5)), (2, .int (zI x2)), (3, .int (zI x3))] dX10_choose_14 (by decide) rfl ?_
      refine j_aload hx 1 dX10_choose_16 rfl ?_
      refine j_ifnonnull hx 22 dX10_choose_18 rfl ?_
      refine j_aloadN hx 0 dX10_choose_22 rfl ?_
      have c35_1 : ∀ (s2 : zS), (zSK G s2) → (zFr [1, 7, 41] G s0 s2) → JJ X E 8 G s2 0 0 [(0, .ref a), (2, .int (zI x2)), (4, .ref r1)] 35 [] := by
        intro s2 hS_s2 hF_s2
        refine j_aload_n hx 0 dX10_choose_35 rfl ?_
        refine j_aload hx 2 dX10_choose_36 rfl ?_
        refine j_aload_n hx 0 dX10_choose_38 rfl ?_
        have f7 := zf hS0 ha (k := 2) rfl
        refine g11_2 hx hG ha kf_RX10_41 (v := (s0 a 2)) (by rw [(zFr_g hF_s2 ha (by decide))]) dX10_choose_39 ?_
        refine j_callV hx hG (c_X0_cardsOf hst r1 ((s0 a 2))) lk_RX10_58 q2.1 (by decide) rfl rfl rfl rfl [.int (zI ((s0 a 2)))] ⟨rfl, hG, hS_s2, q2.1, (by omega)⟩ rfl rfl ⟨by decide, by decide⟩ ⟨by decide, by decide⟩ (k2 := 0) (n2 := 0) rfl rfl (Nat.le_of_ble_eq_true rfl) dX10_choose_42 (kIP (fun v8 q9 => ?_))
        refine j_iload_n hx 1 dX10_choose_45 rfl ?_
        refine j_callV hx hG (c_X10_keepBetter hst a v8 x2) lk_RX10_62 ha (by decide) rfl rfl rfl rfl [.int (zI v8), .int (zI x2)] ⟨rfl, hG, hS_s2, ha, (by omega), (by omega)⟩ rfl rfl ⟨by decide, by decide⟩ ⟨by decide, by decide⟩ (k2 := 0) (n2 := 0) rfl rfl (Nat.le_of_ble_eq_true rfl) dX10_choose_46 (kVM (fun s5 hS_s5 hF_s5 q11 => ?_))
        exact j_vret hx hq rfl (by decide) (by decide) dX10_choose_49 ⟨rfl, rfl, hS_s5, (zFr_t (zFr_t zFr_rf hF_s2 (by decide)) hF_s5 (by decide)), trivial⟩
      refine j_ifnullN hx 35 dX10_choose_24 rfl ?_
      exact j_sub [2, 4, 1] [(0, .ref a), (2, .int (zI x2)), (4, .ref r1)] rfl (c35_1 s0 hS0 zFr_rf)
    · skip
      refine j_astore hx [(5, .ref r5), (4, .ref r1), (0, .ref a), (1, .int (zI 5)), (2, .int (zI x2)), (3, .int (zI x3))] dX10_choose_14 (by decide) rfl ?_
      refine j_aload hx 1 dX10_choose_16 rfl ?_
      refine j_ifnonnull hx 22 dX10_choose_18 rfl ?_
      refine j_aload hx 0 dX10_choose_22 rfl ?_
      have c35_6 : ∀ (s7 : zS), (zSK G s7) → (zFr [1, 7, 41] G s0 s7) → JJ X E 8 G s7 0 0 [(0, .ref a), (2, .int (zI x2)), (4, .ref r1)] 35 [] := by
        intro s7 hS_s7 hF_s7
        refine j_aload_n hx 0 dX10_choose_35 rfl ?_
        refine j_aload hx 2 dX10_choose_36 rfl ?_
        refine j_aload_n hx 0 dX10_choose_38 rfl ?_
        have f12 := zf hS0 ha (k := 2) rfl
        refine g11_2 hx hG ha kf_RX10_41 (v := (s0 a 2)) (by rw [(zFr_g hF_s7 ha (by decide))]) dX10_choose_39 ?_
        refine j_callV hx hG (c_X0_cardsOf hst r1 ((s0 a 2))) lk_RX10_58 q2.1 (by decide) rfl rfl rfl rfl [.int (zI ((s0 a 2)))] ⟨rfl, hG, hS_s7, q2.1, (by omega)⟩ rfl rfl ⟨by decide, by decide⟩ ⟨by decide, by decide⟩ (k2 := 0) (n2 := 0) rfl rfl (Nat.le_of_ble_eq_true rfl) dX10_choose_42 (kIP (fun v13 q14 => ?_))
        refine j_iload_n hx 1 dX10_choose_45 rfl ?_
        refine j_callV hx hG (c_X10_keepBetter hst a v13 x2) lk_RX10_62 ha (by decide) rfl rfl rfl rfl [.int (zI v13), .int (zI x2)] ⟨rfl, hG, hS_s7, ha, (by omega), (by omega)⟩ rfl rfl ⟨by decide, by decide⟩ ⟨by decide, by decide⟩ (k2 := 0) (n2 := 0) rfl rfl (Nat.le_of_ble_eq_true rfl) dX10_choose_46 (kVM (fun s10 hS_s10 hF_s10 q16 => ?_))
        exact j_vret hx hq rfl (by decide) (by decide) dX10_choose_49 ⟨rfl, rfl, hS_s10, (zFr_t (zFr_t zFr_rf hF_s7 (by decide)) hF_s10 (by decide)), trivial⟩
      refine j_ifnull hx dX10_choose_24 ?_
      refine j_aload hx 1 dX10_choose_27 rfl ?_
      refine j_callV hx hG (c_X0_step hst r1) lk_RX10_33 q2.1 (by decide) rfl rfl rfl rfl [] ⟨rfl, hG, hS0, q2.1⟩ rfl rfl ⟨by decide, by decide⟩ ⟨by decide, by decide⟩ (k2 := 0) (n2 := 0) rfl rfl (Nat.le_of_ble_eq_true rfl) dX10_choose_29 (kIM (fun v17 s11 hS_s11 hF_s11 q18 => ?_))
      refine j_if_ne hx 50 dX10_choose_32 rfl (by omega) (fun h19 => ?_) (fun h19 => ?_)
      · skip
        refine j_aload hx 1 dX10_choose_50 rfl ?_
        refine j_callV hx hG (c_X0_likeTops hst r1) lk_RX10_37 q2.1 (by decide) rfl rfl rfl rfl [] ⟨rfl, hG, hS_s11, q2.1⟩ rfl rfl ⟨by decide, by decide⟩ ⟨by decide, by decide⟩ (k2 := 0) (n2 := 0) rfl rfl (Nat.le_of_ble_eq_true rfl) dX10_choose_52 (kIP (fun v20 q21 => ?_))
        refine j_istore hx [(6, .int (zI v20)), (5, .ref r5), (4, .ref r1), (0, .ref a), (1, .int (zI 5)), (2, .int (zI x2)), (3, .int (zI x3))] dX10_choose_55 (by decide) rfl ?_
        refine j_aload hx 2 dX10_choose_57 rfl ?_
        refine j_aload_n hx 3 dX10_choose_59 rfl ?_
        have f22 := zf hS0 ha (k := 2) rfl
        refine g11_2 hx hG ha kf_RX10_41 (v := (s0 a 2)) (by rw [(zFr_g hF_s11 ha (by decide))]) dX10_choose_60 ?_
        refine j_callV hx hG (c_X0_following hst r1 ((s0 a 2))) lk_RX10_66 q2.1 (by decide) rfl rfl rfl rfl [.int (zI ((s0 a 2)))] ⟨rfl, hG, hS_s11, q2.1, (by omega)⟩ rfl rfl ⟨by decide, by decide⟩ ⟨by decide, by decide⟩ (k2 := 0) (n2 := 0) rfl rfl (Nat.le_of_ble_eq_true rfl) dX10_choose_63 (kIP (fun v23 q24 => ?_))
        refine j_istore hx [(7, .int (zI v23)), (6, .int (zI v20)), (5, .ref r5), (4, .ref r1), (0, .ref a), (1, .int (zI 5)), (2, .int (zI x2)), (3, .int (zI x3))] dX10_choose_66 (by decide) rfl ?_
        refine j_aload hx 2 dX10_choose_68 rfl ?_
        refine j_aload hx 3 dX10_choose_70 rfl ?_
        refine j_callV hx hG (c_X0_become hst r5 r1) lk_RX10_26 q6.1 (by decide) rfl rfl rfl rfl [.ref r1] ⟨rfl, hG, hS_s11, q6.1, q2.1⟩ rfl rfl ⟨by decide, by decide⟩ ⟨by decide, by decide⟩ (k2 := 0) (n2 := 0) rfl rfl (Nat.le_of_ble_eq_true rfl) dX10_choose_72 (kVM (fun s12 hS_s12 hF_s12 q26 => ?_))
        refine j_iload hx 1 dX10_choose_75 rfl ?_
        refine j_iconst hx dX10_choose_77 ?_
        have c101_13 : ∀ (s14 : zS), (zSK G s14) → (zFr [7, 41] G s12 s14) → JJ X E 8 G s14 0 0 [(0, .ref a), (1, .int (zI 5)), (2, .int (zI x2)), (3, .int (zI x3)), (4, .ref r1), (5, .ref r5), (6, .int (zI v20))] 101 [] := by
          intro s14 hS_s14 hF_s14
          refine j_aload_n hx 0 dX10_choose_101 rfl ?_
          refine j_iload_n hx 1 dX10_choose_102 rfl ?_
          refine j_iconst hx dX10_choose_103 ?_
          refine j_iadd hx (r := 6) dX10_choose_104 (by omega) ?_
          refine j_iload_n hx 2 dX10_choose_105 rfl ?_
          refine j_iload_n hx 3 dX10_choose_106 rfl ?_
          refine j_callV hx hG (c_X10_choose_6 hst a 6 x2 x3) lk_RX10_54 ha (by decide) rfl rfl rfl rfl [.int (zI 6), .int (zI x2), .int (zI x3)] ⟨rfl, hG, hS_s14, ha, (by omega), (by omega), (by omega)⟩ rfl rfl ⟨by decide, by decide⟩ ⟨by decide, by decide⟩ (k2 := 0) (n2 := 0) rfl rfl (Nat.le_of_ble_eq_true rfl) dX10_choose_107 (kVM (fun s17 hS_s17 hF_s17 q28 => ?_))
          refine j_iload hx 6 dX10_choose_110 rfl ?_
          refine j_iconst hx dX10_choose_112 ?_
          refine j_icmp_eq hx 170 dX10_choose_113 rfl (by omega) ⟨by decide, by decide⟩ (fun h29 => ?_) (fun h29 => ?_)
          · skip
            exact j_vret hx hq rfl (by decide) (by decide) dX10_choose_170 ⟨rfl, rfl, hS_s17, (zFr_t (zFr_t (zFr_t (zFr_t zFr_rf hF_s11 (by decide)) hF_s12 (by decide)) hF_s14 (by decide)) hF_s17 (by decide)), trivial⟩
          · skip
            refine j_iload_n hx 3 dX10_choose_116 rfl ?_
            refine j_if_le hx 170 dX10_choose_117 rfl (by omega) (fun h30 => ?_) (fun h30 => ?_)
            · skip
              exact j_vret hx hq rfl (by decide) (by decide) dX10_choose_170 ⟨rfl, rfl, hS_s17, (zFr_t (zFr_t (zFr_t (zFr_t zFr_rf hF_s11 (by decide)) hF_s12 (by decide)) hF_s14 (by decide)) hF_s17 (by decide)), trivial⟩
            · skip
              refine j_aload hx 4 dX10_choose_120 rfl ?_
              refine j_aload_n hx 0 dX10_choose_122 rfl ?_
              have f31 := zf hS_s17 ha (k := 2) rfl
              refine g11_2 hx hG ha kf_RX10_41 rfl dX10_choose_123 ?_
              refine j_callV hx hG (c_X0_isOut hst r1 ((s17 a 2))) lk_RX10_73 q2.1 (by decide) rfl rfl rfl rfl [.int (zI ((s17 a 2)))] ⟨rfl, hG, hS_s17, q2.1, (by omega)⟩ rfl rfl ⟨by decide, by decide⟩ ⟨by decide, by decide⟩ (k2 := 0) (n2 := 0) rfl rfl (Nat.le_of_ble_eq_true rfl) dX10_choose_126 (kIP (fun v32 q33 => ?_))
              refine j_if_ne hx 170 dX10_choose_129 rfl (by omega) (fun h34 => ?_) (fun h34 => ?_)
              · skip
                exact j_vret hx hq rfl (by decide) (by decide) dX10_choose_170 ⟨rfl, rfl, hS_s17, (zFr_t (zFr_t (zFr_t (zFr_t zFr_rf hF_s11 (by decide)) hF_s12 (by decide)) hF_s14 (by decide)) hF_s17 (by decide)), trivial⟩
              · skip
                refine j_aload hx 5 dX10_choose_132 rfl ?_
                refine j_aload hx 4 dX10_choose_134 rfl ?_
                refine j_callV hx hG (c_X0_become hst r5 r1) lk_RX10_26 q6.1 (by decide) rfl rfl rfl rfl [.ref r1] ⟨rfl, hG, hS_s17, q6.1, q2.1⟩ rfl rfl ⟨by decide, by decide⟩ ⟨by decide, by decide⟩ (k2 := 0) (n2 := 0) rfl rfl (Nat.le_of_ble_eq_true rfl) dX10_choose_136 (kVM (fun s18 hS_s18 hF_s18 q36 => ?_))
                refine j_aload hx 5 dX10_choose_139 rfl ?_
                refine j_aload_n hx 0 dX10_choose_141 rfl ?_
                refine g11_2 hx hG ha kf_RX10_41 (v := (s17 a 2)) (by rw [(zFr_g hF_s18 ha (by decide))]) dX10_choose_142 ?_
                refine j_iload hx 6 dX10_choose_145 rfl ?_
                refine j_aload_n hx 0 dX10_choose_147 rfl ?_
                have f37 := zf hS_s17 ha (k := 3) rfl
                refine g11_3 hx hG ha kf_RX10_45 (v := (s17 a 3)) (by rw [(zFr_g hF_s18 ha (by decide))]) dX10_choose_148 ?_
                refine j_callV hx hG (c_X0_win hst r5 ((s17 a 2)) v20 ((s17 a 3))) lk_RX10_69 q6.1 (by decide) rfl rfl rfl rfl [.int (zI ((s17 a 2))), .int (zI v20), .int (zI ((s17 a 3)))] ⟨rfl, hG, hS_s18, q6.1, (by omega), (by omega), (by omega)⟩ rfl rfl ⟨by decide, by decide⟩ ⟨by decide, by decide⟩ (k2 := 0) (n2 := 0) rfl rfl (Nat.le_of_ble_eq_true rfl) dX10_choose_151 (kIM (fun v38 s19 hS_s19 hF_s19 q39 => ?_))
                refine j_pop hx dX10_choose_154 rfl ?_
                refine j_aload_n hx 0 dX10_choose_155 rfl ?_
                refine j_iload_n hx 1 dX10_choose_156 rfl ?_
                refine j_iconst hx dX10_choose_157 ?_
                refine j_iadd hx (r := 6) dX10_choose_158 (by omega) ?_
                refine j_iload_n hx 2 dX10_choose_159 rfl ?_
                refine j_iconst hx dX10_choose_160 ?_
                refine j_iload_n hx 1 dX10_choose_161 rfl ?_
                refine j_ishl hx dX10_choose_162 (fun v40 f41 f42 => ?_)
                refine j_ior hx dX10_choose_163 (fun v43 f44 f45 => ?_)
                refine j_iload_n hx 3 dX10_choose_164 rfl ?_
                refine j_iconst hx dX10_choose_165 ?_
                refine j_isub hx (r := x3 - 1) dX10_choose_166 rfl ?_
                refine j_callV hx hG (c_X10_choose_6 hst a 6 v43 (x3 - 1)) lk_RX10_54 ha (by decide) rfl rfl rfl rfl [.int (zI 6), .int (zI v43), .int (zI (x3 - 1))] ⟨rfl, hG, hS_s19, ha, (by omega), (by omega), (by omega)⟩ rfl rfl ⟨by decide, by decide⟩ ⟨by decide, by decide⟩ (k2 := 0) (n2 := 0) rfl rfl (Nat.le_of_ble_eq_true rfl) dX10_choose_167 (kVM (fun s20 hS_s20 hF_s20 q47 => ?_))
                exact j_vret hx hq rfl (by decide) (by decide) dX10_choose_170 ⟨rfl, rfl, hS_s20, (zFr_t (zFr_t (zFr_t (zFr_t (zFr_t (zFr_t (zFr_t zFr_rf hF_s11 (by decide)) hF_s12 (by decide)) hF_s14 (by decide)) hF_s17 (by decide)) hF_s18 (by decide)) hF_s19 (by decide)) hF_s20 (by decide)), trivial⟩
        refine j_icmp_eq hx 101 dX10_choose_78 rfl (by omega) ⟨by decide, by decide⟩ (fun h48 => ?_) (fun h48 => ?_)
        · skip
          exact j_sub [4, 5, 6, 7, 3, 2, 1] [(0, .ref a), (1, .int (zI 5)), (2, .int (zI x2)), (3, .int (zI x3)), (4, .ref r1), (5, .ref r5), (6, .int (zI v20))] rfl (c101_13 s12 hS_s12 zFr_rf)
        · skip
          refine j_iload hx 0 dX10_choose_81 rfl ?_
          refine j_iconst hx dX10_choose_83 ?_
          refine j_icmp_eq hx 101 dX10_choose_84 rfl (by omega) ⟨by decide, by decide⟩ (fun h49 => ?_) (fun h49 => ?_)
          · skip
            exact j_sub [4, 5, 6, 7, 3, 2, 1] [(0, .ref a), (1, .int (zI 5)), (2, .int (zI x2)), (3, .int (zI x3)), (4, .ref r1), (5, .ref r5), (6, .int (zI v20))] rfl (c101_13 s12 hS_s12 zFr_rf)
          · skip
            refine j_aload hx 2 dX10_choose_87 rfl ?_
            refine j_iload hx 0 dX10_choose_89 rfl ?_
            refine j_iload hx 1 dX10_choose_91 rfl ?_
            refine j_aload_n hx 4 dX10_choose_93 rfl ?_
            have f50 := zf hS0 ha (k := 3) rfl
            refine g11_3 hx hG ha kf_RX10_45 (v := (s0 a 3)) (by rw [(zFr_g hF_s12 ha (by decide)), (zFr_g hF_s11 ha (by decide))]) dX10_choose_94 ?_
            refine j_callV hx hG (c_X0_win hst r5 v23 v20 ((s0 a 3))) lk_RX10_69 q6.1 (by decide) rfl rfl rfl rfl [.int (zI v23), .int (zI v20), .int (zI ((s0 a 3)))] ⟨rfl, hG, hS_s12, q6.1, (by omega), (by omega), (by omega)⟩ rfl rfl ⟨by decide, by decide⟩ ⟨by decide, by decide⟩ (k2 := 0) (n2 := 0) rfl rfl (Nat.le_of_ble_eq_true rfl) dX10_choose_97 (kIM (fun v51 s21 hS_s21 hF_s21 q52 => ?_))
            refine j_pop hx dX10_choose_100 rfl ?_
            exact j_sub [4, 5, 6, 7, 3, 2, 1] [(0, .ref a), (1, .int (zI 5)), (2, .int (zI x2)), (3, .int (zI x3)), (4, .ref r1), (5, .ref r5), (6, .int (zI v20))] rfl (c101_13 s21 hS_s21 (zFr_t zFr_rf hF_s21 (by decide)))
      · skip
        exact j_sub [2, 4, 1] [(0, .ref a), (2, .int (zI x2)), (4, .ref r1)] rfl (c35_6 s11 hS_s11 (zFr_t zFr_rf hF_s11 (by decide)))

set_option maxHeartbeats 4000000 in
set_option maxRecDepth 20000 in
theorem c_X10_choose_4 {E : zE} {l : Launch} (hst : l.stackTraces = false) (a : Nat) (x1 : Int) (x2 : Int) (x3 : Int) : Con E l yX10_choose cX10_choose 8 none { frames := 11, cells := 0, slots := 0, locals := 275 } (fun G s vs => vs = [.ref a, .int (zI x1), .int (zI x2), .int (zI x3)] ∧ zGK G ∧ zSK G s ∧ (gT G a = 11) ∧ (4 ≤ x1 ∧ x1 ≤ 4) ∧ ((-2147483648) ≤ x2 ∧ x2 ≤ 2147483647) ∧ (0 ≤ x3 ∧ x3 ≤ 4)) (fun G s _ => pV (fun G2 s2 => G2 = G ∧ zSK G s2 ∧ zFr [1, 7, 11, 41] G s s2 ∧ True)) := by
  refine Con.mk hst (by decide) (fun G s vs h => by rw [h.1]; exact Nat.le_of_ble_eq_true rfl) ?_
  rintro X G s0 vs ⟨rfl, hG, hS0, ha, hx1, hx2, hx3⟩ rfl hx hq
  obtain rfl : x1 = 4 := by omega
  show JJ X E 8 G s0 0 0 [(0, .ref a), (1, .int (zI 4)), (2, .int (zI x2)), (3, .int (zI x3))] 0 []
  refine j_aload_n hx 0 dX10_choose_0 rfl ?_
  refine j_iload_n hx 1 dX10_choose_1 rfl ?_
  refine j_callV hx hG (c_X10_boardAt hst a 4) lk_RX10_22 ha (by decide) rfl rfl rfl rfl [.int (zI 4)] ⟨rfl, hG, hS0, ha, (by omega)⟩ rfl rfl ⟨by decide, by decide⟩ ⟨by decide, by decide⟩ (k2 := 0) (n2 := 0) rfl rfl (Nat.le_of_ble_eq_true rfl) dX10_choose_2 (kNP (fun _ => ?_) (fun r1 q2 => ?_))
  · skip
    refine j_astoreN hx [(4, .null), (0, .ref a), (1, .int (zI 4)), (2, .int (zI x2)), (3, .int (zI x3))] dX10_choose_5 (by decide) rfl ?_
    refine j_aload_n hx 1 dX10_choose_7 rfl ?_
    refine j_iload_n hx 2 dX10_choose_8 rfl ?_
    refine j_iconst hx dX10_choose_9 ?_
    refine j_iadd hx (r := 5) dX10_choose_10 (by omega) ?_
    refine j_callV hx hG (c_X10_boardAt hst a 5) lk_RX10_22 ha (by decide) rfl rfl rfl rfl [.int (zI 5)] ⟨rfl, hG, hS0, ha, (by omega)⟩ rfl rfl ⟨by decide, by decide⟩ ⟨by decide, by decide⟩ (k2 := 0) (n2 := 0) rfl rfl (Nat.le_of_ble_eq_true rfl) dX10_choose_11 (kNP (fun _ => ?_) (fun r3 q4 => ?_))
    · skip
      refine j_astoreN hx [(5, .null), (4, .null), (0, .ref a), (1, .int (zI 4)), (2, .int (zI x2)), (3, .int (zI x3))] dX10_choose_14 (by decide) rfl ?_
      refine j_aloadN hx 1 dX10_choose_16 rfl ?_
      refine j_ifnonnullN hx dX10_choose_18 ?_
      exact j_vret hx hq rfl (by decide) (by decide) dX10_choose_21 ⟨rfl, rfl, hS0, zFr_rf, trivial⟩
    · skip
      refine j_astore hx [(5, .ref r3), (4, .null), (0, .ref a), (1, .int (zI 4)), (2, .int (zI x2)), (3, .int (zI x3))] dX10_choose_14 (by decide) rfl ?_
      refine j_aloadN hx 1 dX10_choose_16 rfl ?_
      refine j_ifnonnullN hx dX10_choose_18 ?_
      exact j_vret hx hq rfl (by decide) (by decide) dX10_choose_21 ⟨rfl, rfl, hS0, zFr_rf, trivial⟩
  · skip
    refine j_astore hx [(4, .ref r1), (0, .ref a), (1, .int (zI 4)), (2, .int (zI x2)), (3, .int (zI x3))] dX10_choose_5 (by decide) rfl ?_
    refine j_aload_n hx 1 dX10_choose_7 rfl ?_
    refine j_iload_n hx 2 dX10_choose_8 rfl ?_
    refine j_iconst hx dX10_choose_9 ?_
    refine j_iadd hx (r := 5) dX10_choose_10 (by omega) ?_
    refine j_callV hx hG (c_X10_boardAt hst a 5) lk_RX10_22 ha (by decide) rfl rfl rfl rfl [.int (zI 5)] ⟨rfl, hG, hS0, ha, (by omega)⟩ rfl rfl ⟨by decide, by decide⟩ ⟨by decide, by decide⟩ (k2 := 0) (n2 := 0) rfl rfl (Nat.le_of_ble_eq_true rfl) dX10_choose_11 (kNP (fun _ => ?_) (fun r5 q6 => ?_))
    · skip
      refine j_astoreN hx [(5, .null), (4, .ref r1), (0, .ref a), (1, .int (zI 4)), (2, .int (zI x2)), (3, .int (zI x3))] dX10_choose_14 (by decide) rfl ?_
      refine j_aload hx 1 dX10_choose_16 rfl ?_
      refine j_ifnonnull hx 22 dX10_choose_18 rfl ?_
      refine j_aloadN hx 0 dX10_choose_22 rfl ?_
      have c35_1 : ∀ (s2 : zS), (zSK G s2) → (zFr [1, 7, 41] G s0 s2) → JJ X E 8 G s2 0 0 [(0, .ref a), (2, .int (zI x2)), (4, .ref r1)] 35 [] := by
        intro s2 hS_s2 hF_s2
        refine j_aload_n hx 0 dX10_choose_35 rfl ?_
        refine j_aload hx 2 dX10_choose_36 rfl ?_
        refine j_aload_n hx 0 dX10_choose_38 rfl ?_
        have f7 := zf hS0 ha (k := 2) rfl
        refine g11_2 hx hG ha kf_RX10_41 (v := (s0 a 2)) (by rw [(zFr_g hF_s2 ha (by decide))]) dX10_choose_39 ?_
        refine j_callV hx hG (c_X0_cardsOf hst r1 ((s0 a 2))) lk_RX10_58 q2.1 (by decide) rfl rfl rfl rfl [.int (zI ((s0 a 2)))] ⟨rfl, hG, hS_s2, q2.1, (by omega)⟩ rfl rfl ⟨by decide, by decide⟩ ⟨by decide, by decide⟩ (k2 := 0) (n2 := 0) rfl rfl (Nat.le_of_ble_eq_true rfl) dX10_choose_42 (kIP (fun v8 q9 => ?_))
        refine j_iload_n hx 1 dX10_choose_45 rfl ?_
        refine j_callV hx hG (c_X10_keepBetter hst a v8 x2) lk_RX10_62 ha (by decide) rfl rfl rfl rfl [.int (zI v8), .int (zI x2)] ⟨rfl, hG, hS_s2, ha, (by omega), (by omega)⟩ rfl rfl ⟨by decide, by decide⟩ ⟨by decide, by decide⟩ (k2 := 0) (n2 := 0) rfl rfl (Nat.le_of_ble_eq_true rfl) dX10_choose_46 (kVM (fun s5 hS_s5 hF_s5 q11 => ?_))
        exact j_vret hx hq rfl (by decide) (by decide) dX10_choose_49 ⟨rfl, rfl, hS_s5, (zFr_t (zFr_t zFr_rf hF_s2 (by decide)) hF_s5 (by decide)), trivial⟩
      refine j_ifnullN hx 35 dX10_choose_24 rfl ?_
      exact j_sub [2, 4, 1] [(0, .ref a), (2, .int (zI x2)), (4, .ref r1)] rfl (c35_1 s0 hS0 zFr_rf)
    · skip
      refine j_astore hx [(5, .ref r5), (4, .ref r1), (0, .ref a), (1, .int (zI 4)), (2, .int (zI x2)), (3, .int (zI x3))] dX10_choose_14 (by decide) rfl ?_
      refine j_aload hx 1 dX10_choose_16 rfl ?_
      refine j_ifnonnull hx 22 dX10_choose_18 rfl ?_
      refine j_aload hx 0 dX10_choose_22 rfl ?_
      have c35_6 : ∀ (s7 : zS), (zSK G s7) → (zFr [1, 7, 41] G s0 s7) → JJ X E 8 G s7 0 0 [(0, .ref a), (2, .int (zI x2)), (4, .ref r1)] 35 [] := by
        intro s7 hS_s7 hF_s7
        refine j_aload_n hx 0 dX10_choose_35 rfl ?_
        refine j_aload hx 2 dX10_choose_36 rfl ?_
        refine j_aload_n hx 0 dX10_choose_38 rfl ?_
        have f12 := zf hS0 ha (k := 2) rfl
        refine g11_2 hx hG ha kf_RX10_41 (v := (s0 a 2)) (by rw [(zFr_g hF_s7 ha (by decide))]) dX10_choose_39 ?_
        refine j_callV hx hG (c_X0_cardsOf hst r1 ((s0 a 2))) lk_RX10_58 q2.1 (by decide) rfl rfl rfl rfl [.int (zI ((s0 a 2)))] ⟨rfl, hG, hS_s7, q2.1, (by omega)⟩ rfl rfl ⟨by decide, by decide⟩ ⟨by decide, by decide⟩ (k2 := 0) (n2 := 0) rfl rfl (Nat.le_of_ble_eq_true rfl) dX10_choose_42 (kIP (fun v13 q14 => ?_))
        refine j_iload_n hx 1 dX10_choose_45 rfl ?_
        refine j_callV hx hG (c_X10_keepBetter hst a v13 x2) lk_RX10_62 ha (by decide) rfl rfl rfl rfl [.int (zI v13), .int (zI x2)] ⟨rfl, hG, hS_s7, ha, (by omega), (by omega)⟩ rfl rfl ⟨by decide, by decide⟩ ⟨by decide, by decide⟩ (k2 := 0) (n2 := 0) rfl rfl (Nat.le_of_ble_eq_true rfl) dX10_choose_46 (kVM (fun s10 hS_s10 hF_s10 q16 => ?_))
        exact j_vret hx hq rfl (by decide) (by decide) dX10_choose_49 ⟨rfl, rfl, hS_s10, (zFr_t (zFr_t zFr_rf hF_s7 (by decide)) hF_s10 (by decide)), trivial⟩
      refine j_ifnull hx dX10_choose_24 ?_
      refine j_aload hx 1 dX10_choose_27 rfl ?_
      refine j_callV hx hG (c_X0_step hst r1) lk_RX10_33 q2.1 (by decide) rfl rfl rfl rfl [] ⟨rfl, hG, hS0, q2.1⟩ rfl rfl ⟨by decide, by decide⟩ ⟨by decide, by decide⟩ (k2 := 0) (n2 := 0) rfl rfl (Nat.le_of_ble_eq_true rfl) dX10_choose_29 (kIM (fun v17 s11 hS_s11 hF_s11 q18 => ?_))
      refine j_if_ne hx 50 dX10_choose_32 rfl (by omega) (fun h19 => ?_) (fun h19 => ?_)
      · skip
        refine j_aload hx 1 dX10_choose_50 rfl ?_
        refine j_callV hx hG (c_X0_likeTops hst r1) lk_RX10_37 q2.1 (by decide) rfl rfl rfl rfl [] ⟨rfl, hG, hS_s11, q2.1⟩ rfl rfl ⟨by decide, by decide⟩ ⟨by decide, by decide⟩ (k2 := 0) (n2 := 0) rfl rfl (Nat.le_of_ble_eq_true rfl) dX10_choose_52 (kIP (fun v20 q21 => ?_))
        refine j_istore hx [(6, .int (zI v20)), (5, .ref r5), (4, .ref r1), (0, .ref a), (1, .int (zI 4)), (2, .int (zI x2)), (3, .int (zI x3))] dX10_choose_55 (by decide) rfl ?_
        refine j_aload hx 2 dX10_choose_57 rfl ?_
        refine j_aload_n hx 3 dX10_choose_59 rfl ?_
        have f22 := zf hS0 ha (k := 2) rfl
        refine g11_2 hx hG ha kf_RX10_41 (v := (s0 a 2)) (by rw [(zFr_g hF_s11 ha (by decide))]) dX10_choose_60 ?_
        refine j_callV hx hG (c_X0_following hst r1 ((s0 a 2))) lk_RX10_66 q2.1 (by decide) rfl rfl rfl rfl [.int (zI ((s0 a 2)))] ⟨rfl, hG, hS_s11, q2.1, (by omega)⟩ rfl rfl ⟨by decide, by decide⟩ ⟨by decide, by decide⟩ (k2 := 0) (n2 := 0) rfl rfl (Nat.le_of_ble_eq_true rfl) dX10_choose_63 (kIP (fun v23 q24 => ?_))
        refine j_istore hx [(7, .int (zI v23)), (6, .int (zI v20)), (5, .ref r5), (4, .ref r1), (0, .ref a), (1, .int (zI 4)), (2, .int (zI x2)), (3, .int (zI x3))] dX10_choose_66 (by decide) rfl ?_
        refine j_aload hx 2 dX10_choose_68 rfl ?_
        refine j_aload hx 3 dX10_choose_70 rfl ?_
        refine j_callV hx hG (c_X0_become hst r5 r1) lk_RX10_26 q6.1 (by decide) rfl rfl rfl rfl [.ref r1] ⟨rfl, hG, hS_s11, q6.1, q2.1⟩ rfl rfl ⟨by decide, by decide⟩ ⟨by decide, by decide⟩ (k2 := 0) (n2 := 0) rfl rfl (Nat.le_of_ble_eq_true rfl) dX10_choose_72 (kVM (fun s12 hS_s12 hF_s12 q26 => ?_))
        refine j_iload hx 1 dX10_choose_75 rfl ?_
        refine j_iconst hx dX10_choose_77 ?_
        have c101_13 : ∀ (s14 : zS), (zSK G s14) → (zFr [7, 41] G s12 s14) → JJ X E 8 G s14 0 0 [(0, .ref a), (1, .int (zI 4)), (2, .int (zI x2)), (3, .int (zI x3)), (4, .ref r1), (5, .ref r5), (6, .int (zI v20))] 101 [] := by
          intro s14 hS_s14 hF_s14
          refine j_aload_n hx 0 dX10_choose_101 rfl ?_
          refine j_iload_n hx 1 dX10_choose_102 rfl ?_
          refine j_iconst hx dX10_choose_103 ?_
          refine j_iadd hx (r := 5) dX10_choose_104 (by omega) ?_
          refine j_iload_n hx 2 dX10_choose_105 rfl ?_
          refine j_iload_n hx 3 dX10_choose_106 rfl ?_
          refine j_callV hx hG (c_X10_choose_5 hst a 5 x2 x3) lk_RX10_54 ha (by decide) rfl rfl rfl rfl [.int (zI 5), .int (zI x2), .int (zI x3)] ⟨rfl, hG, hS_s14, ha, (by omega), (by omega), (by omega)⟩ rfl rfl ⟨by decide, by decide⟩ ⟨by decide, by decide⟩ (k2 := 0) (n2 := 0) rfl rfl (Nat.le_of_ble_eq_true rfl) dX10_choose_107 (kVM (fun s17 hS_s17 hF_s17 q28 => ?_))
          refine j_iload hx 6 dX10_choose_110 rfl ?_
          refine j_iconst hx dX10_choose_112 ?_
          refine j_icmp_eq hx 170 dX10_choose_113 rfl (by omega) ⟨by decide, by decide⟩ (fun h29 => ?_) (fun h29 => ?_)
          · skip
            exact j_vret hx hq rfl (by decide) (by decide) dX10_choose_170 ⟨rfl, rfl, hS_s17, (zFr_t (zFr_t (zFr_t (zFr_t zFr_rf hF_s11 (by decide)) hF_s12 (by decide)) hF_s14 (by decide)) hF_s17 (by decide)), trivial⟩
          · skip
            refine j_iload_n hx 3 dX10_choose_116 rfl ?_
            refine j_if_le hx 170 dX10_choose_117 rfl (by omega) (fun h30 => ?_) (fun h30 => ?_)
            · skip
              exact j_vret hx hq rfl (by decide) (by decide) dX10_choose_170 ⟨rfl, rfl, hS_s17, (zFr_t (zFr_t (zFr_t (zFr_t zFr_rf hF_s11 (by decide)) hF_s12 (by decide)) hF_s14 (by decide)) hF_s17 (by decide)), trivial⟩
            · skip
              refine j_aload hx 4 dX10_choose_120 rfl ?_
              refine j_aload_n hx 0 dX10_choose_122 rfl ?_
              have f31 := zf hS_s17 ha (k := 2) rfl
              refine g11_2 hx hG ha kf_RX10_41 rfl dX10_choose_123 ?_
              refine j_callV hx hG (c_X0_isOut hst r1 ((s17 a 2))) lk_RX10_73 q2.1 (by decide) rfl rfl rfl rfl [.int (zI ((s17 a 2)))] ⟨rfl, hG, hS_s17, q2.1, (by omega)⟩ rfl rfl ⟨by decide, by decide⟩ ⟨by decide, by decide⟩ (k2 := 0) (n2 := 0) rfl rfl (Nat.le_of_ble_eq_true rfl) dX10_choose_126 (kIP (fun v32 q33 => ?_))
              refine j_if_ne hx 170 dX10_choose_129 rfl (by omega) (fun h34 => ?_) (fun h34 => ?_)
              · skip
                exact j_vret hx hq rfl (by decide) (by decide) dX10_choose_170 ⟨rfl, rfl, hS_s17, (zFr_t (zFr_t (zFr_t (zFr_t zFr_rf hF_s11 (by decide)) hF_s12 (by decide)) hF_s14 (by decide)) hF_s17 (by decide)), trivial⟩
              · skip
                refine j_aload hx 5 dX10_choose_132 rfl ?_
                refine j_aload hx 4 dX10_choose_134 rfl ?_
                refine j_callV hx hG (c_X0_become hst r5 r1) lk_RX10_26 q6.1 (by decide) rfl rfl rfl rfl [.ref r1] ⟨rfl, hG, hS_s17, q6.1, q2.1⟩ rfl rfl ⟨by decide, by decide⟩ ⟨by decide, by decide⟩ (k2 := 0) (n2 := 0) rfl rfl (Nat.le_of_ble_eq_true rfl) dX10_choose_136 (kVM (fun s18 hS_s18 hF_s18 q36 => ?_))
                refine j_aload hx 5 dX10_choose_139 rfl ?_
                refine j_aload_n hx 0 dX10_choose_141 rfl ?_
                refine g11_2 hx hG ha kf_RX10_41 (v := (s17 a 2)) (by rw [(zFr_g hF_s18 ha (by decide))]) dX10_choose_142 ?_
                refine j_iload hx 6 dX10_choose_145 rfl ?_
                refine j_aload_n hx 0 dX10_choose_147 rfl ?_
                have f37 := zf hS_s17 ha (k := 3) rfl
                refine g11_3 hx hG ha kf_RX10_45 (v := (s17 a 3)) (by rw [(zFr_g hF_s18 ha (by decide))]) dX10_choose_148 ?_
                refine j_callV hx hG (c_X0_win hst r5 ((s17 a 2)) v20 ((s17 a 3))) lk_RX10_69 q6.1 (by decide) rfl rfl rfl rfl [.int (zI ((s17 a 2))), .int (zI v20), .int (zI ((s17 a 3)))] ⟨rfl, hG, hS_s18, q6.1, (by omega), (by omega), (by omega)⟩ rfl rfl ⟨by decide, by decide⟩ ⟨by decide, by decide⟩ (k2 := 0) (n2 := 0) rfl rfl (Nat.le_of_ble_eq_true rfl) dX10_choose_151 (kIM (fun v38 s19 hS_s19 hF_s19 q39 => ?_))
                refine j_pop hx dX10_choose_154 rfl ?_
                refine j_aload_n hx 0 dX10_choose_155 rfl ?_
                refine j_iload_n hx 1 dX10_choose_156 rfl ?_
                refine j_iconst hx dX10_choose_157 ?_
                refine j_iadd hx (r := 5) dX10_choose_158 (by omega) ?_
                refine j_iload_n hx 2 dX10_choose_159 rfl ?_
                refine j_iconst hx dX10_choose_160 ?_
                refine j_iload_n hx 1 dX10_choose_161 rfl ?_
                refine j_ishl hx dX10_choose_162 (fun v40 f41 f42 => ?_)
                refine j_ior hx dX10_choose_163 (fun v43 f44 f45 => ?_)
                refine j_iload_n hx 3 dX10_choose_164 rfl ?_
                refine j_iconst hx dX10_choose_165 ?_
                refine j_isub hx (r := x3 - 1) dX10_choose_166 rfl ?_
                refine j_callV hx hG (c_X10_choose_5 hst a 5 v43 (x3 - 1)) lk_RX10_54 ha (by decide) rfl rfl rfl rfl [.int (zI 5), .int (zI v43), .int (zI (x3 - 1))] ⟨rfl, hG, hS_s19, ha, (by omega), (by omega), (by omega)⟩ rfl rfl ⟨by decide, by decide⟩ ⟨by decide, by decide⟩ (k2 := 0) (n2 := 0) rfl rfl (Nat.le_of_ble_eq_true rfl) dX10_choose_167 (kVM (fun s20 hS_s20 hF_s20 q47 => ?_))
                exact j_vret hx hq rfl (by decide) (by decide) dX10_choose_170 ⟨rfl, rfl, hS_s20, (zFr_t (zFr_t (zFr_t (zFr_t (zFr_t (zFr_t (zFr_t zFr_rf hF_s11 (by decide)) hF_s12 (by decide)) hF_s14 (by decide)) hF_s17 (by decide)) hF_s18 (by decide)) hF_s19 (by decide)) hF_s20 (by decide)), trivial⟩
        refine j_icmp_eq hx 101 dX10_choose_78 rfl (by omega) ⟨by decide, by decide⟩ (fun h48 => ?_) (fun h48 => ?_)
        · skip
          exact j_sub [4, 5, 6, 7, 3, 2, 1] [(0, .ref a), (1, .int (zI 4)), (2, .int (zI x2)), (3, .int (zI x3)), (4, .ref r1), (5, .ref r5), (6, .int (zI v20))] rfl (c101_13 s12 hS_s12 zFr_rf)
        · skip
          refine j_iload hx 0 dX10_choose_81 rfl ?_
          refine j_iconst hx dX10_choose_83 ?_
          refine j_icmp_eq hx 101 dX10_choose_84 rfl (by omega) ⟨by decide, by decide⟩ (fun h49 => ?_) (fun h49 => ?_)
          · skip
            exact j_sub [4, 5, 6, 7, 3, 2, 1] [(0, .ref a), (1, .int (zI 4)), (2, .int (zI x2)), (3, .int (zI x3)), (4, .ref r1), (5, .ref r5), (6, .int (zI v20))] rfl (c101_13 s12 hS_s12 zFr_rf)
          · skip
            refine j_aload hx 2 dX10_choose_87 rfl ?_
            refine j_iload hx 0 dX10_choose_89 rfl ?_
            refine j_iload hx 1 dX10_choose_91 rfl ?_
            refine j_aload_n hx 4 dX10_choose_93 rfl ?_
            have f50 := zf hS0 ha (k := 3) rfl
            refine g11_3 hx hG ha kf_RX10_45 (v := (s0 a 3)) (by rw [(zFr_g hF_s12 ha (by decide)), (zFr_g hF_s11 ha (by decide))]) dX10_choose_94 ?_
            refine j_callV hx hG (c_X0_win hst r5 v23 v20 ((s0 a 3))) lk_RX10_69 q6.1 (by decide) rfl rfl rfl rfl [.int (zI v23), .int (zI v20), .int (zI ((s0 a 3)))] ⟨rfl, hG, hS_s12, q6.1, (by omega), (by omega), (by omega)⟩ rfl rfl ⟨by decide, by decide⟩ ⟨by decide, by decide⟩ (k2 := 0) (n2 := 0) rfl rfl (Nat.le_of_ble_eq_true rfl) dX10_choose_97 (kIM (fun v51 s21 hS_s21 hF_s21 q52 => ?_))
            refine j_pop hx dX10_choose_100 rfl ?_
            exact j_sub [4, 5, 6, 7, 3, 2, 1] [(0, .ref a), (1, .int (zI 4)), (2, .int (zI x2)), (3, .int (zI x3)), (4, .ref r1), (5, .ref r5), (6, .int (zI v20))] rfl (c101_13 s21 hS_s21 (zFr_t zFr_rf hF_s21 (by decide)))
      · skip
        exact j_sub [2, 4, 1] [(0, .ref a), (2, .int (zI x2)), (4, .ref r1)] rfl (c35_6 s11 hS_s11 (zFr_t zFr_rf hF_s11 (by decide)))

set_option maxHeartbeats 4000000 in
set_option maxRecDepth 20000 in
theorem c_X10_choose_3 {E : zE} {l : Launch} (hst : l.stackTraces = false) (a : Nat) (x1 : Int) (x2 : Int) (x3 : Int) : Con E l yX10_choose cX10_choose 8 none { frames := 12, cells := 0, slots := 0, locals := 302 } (fun G s vs => vs = [.ref a, .int (zI x1), .int (zI x2), .int (zI x3)] ∧ zGK G ∧ zSK G s ∧ (gT G a = 11) ∧ (3 ≤ x1 ∧ x1 ≤ 3) ∧ ((-2147483648) ≤ x2 ∧ x2 ≤ 2147483647) ∧ (0 ≤ x3 ∧ x3 ≤ 4)) (fun G s _ => pV (fun G2 s2 => G2 = G ∧ zSK G s2 ∧ zFr [1, 7, 11, 41] G s s2 ∧ True)) := by
  refine Con.mk hst (by decide) (fun G s vs h => by rw [h.1]; exact Nat.le_of_ble_eq_true rfl) ?_
  rintro X G s0 vs ⟨rfl, hG, hS0, ha, hx1, hx2, hx3⟩ rfl hx hq
  obtain rfl : x1 = 3 := by omega
  show JJ X E 8 G s0 0 0 [(0, .ref a), (1, .int (zI 3)), (2, .int (zI x2)), (3, .int (zI x3))] 0 []
  refine j_aload_n hx 0 dX10_choose_0 rfl ?_
  refine j_iload_n hx 1 dX10_choose_1 rfl ?_
  refine j_callV hx hG (c_X10_boardAt hst a 3) lk_RX10_22 ha (by decide) rfl rfl rfl rfl [.int (zI 3)] ⟨rfl, hG, hS0, ha, (by omega)⟩ rfl rfl ⟨by decide, by decide⟩ ⟨by decide, by decide⟩ (k2 := 0) (n2 := 0) rfl rfl (Nat.le_of_ble_eq_true rfl) dX10_choose_2 (kNP (fun _ => ?_) (fun r1 q2 => ?_))
  · skip
    refine j_astoreN hx [(4, .null), (0, .ref a), (1, .int (zI 3)), (2, .int (zI x2)), (3, .int (zI x3))] dX10_choose_5 (by decide) rfl ?_
    refine j_aload_n hx 1 dX10_choose_7 rfl ?_
    refine j_iload_n hx 2 dX10_choose_8 rfl ?_
    refine j_iconst hx dX10_choose_9 ?_
    refine j_iadd hx (r := 4) dX10_choose_10 (by omega) ?_
    refine j_callV hx hG (c_X10_boardAt hst a 4) lk_RX10_22 ha (by decide) rfl rfl rfl rfl [.int (zI 4)] ⟨rfl, hG, hS0, ha, (by omega)⟩ rfl rfl ⟨by decide, by decide⟩ ⟨by decide, by decide⟩ (k2 := 0) (n2 := 0) rfl rfl (Nat.le_of_ble_eq_true rfl) dX10_choose_11 (kNP (fun _ => ?_) (fun r3 q4 => ?_))
    · skip
      refine j_astoreN hx [(5, .null), (4, .null), (0, .ref a), (1, .int (zI 3)), (2, .int (zI x2)), (3, .int (zI x3))] dX10_choose_14 (by decide) rfl ?_
      refine j_aloadN hx 1 dX10_choose_16 rfl ?_
      refine j_ifnonnullN hx dX10_choose_18 ?_
      exact j_vret hx hq rfl (by decide) (by decide) dX10_choose_21 ⟨rfl, rfl, hS0, zFr_rf, trivial⟩
    · skip
      refine j_astore hx [(5, .ref r3), (4, .null), (0, .ref a), (1, .int (zI 3)), (2, .int (zI x2)), (3, .int (zI x3))] dX10_choose_14 (by decide) rfl ?_
      refine j_aloadN hx 1 dX10_choose_16 rfl ?_
      refine j_ifnonnullN hx dX10_choose_18 ?_
      exact j_vret hx hq rfl (by decide) (by decide) dX10_choose_21 ⟨rfl, rfl, hS0, zFr_rf, trivial⟩
  · skip
    refine j_astore hx [(4, .ref r1), (0, .ref a), (1, .int (zI 3)), (2, .int (zI x2)), (3, .int (zI x3))] dX10_choose_5 (by decide) rfl ?_
    refine j_aload_n hx 1 dX10_choose_7 rfl ?_
    refine j_iload_n hx 2 dX10_choose_8 rfl ?_
    refine j_iconst hx dX10_choose_9 ?_
    refine j_iadd hx (r := 4) dX10_choose_10 (by omega) ?_
    refine j_callV hx hG (c_X10_boardAt hst a 4) lk_RX10_22 ha (by decide) rfl rfl rfl rfl [.int (zI 4)] ⟨rfl, hG, hS0, ha, (by omega)⟩ rfl rfl ⟨by decide, by decide⟩ ⟨by decide, by decide⟩ (k2 := 0) (n2 := 0) rfl rfl (Nat.le_of_ble_eq_true rfl) dX10_choose_11 (kNP (fun _ => ?_) (fun r5 q6 => ?_))
    · skip
      refine j_astoreN hx [(5, .null), (4, .ref r1), (0, .ref a), (1, .int (zI 3)), (2, .int (zI x2)), (3, .int (zI x3))] dX10_choose_14 (by decide) rfl ?_
      refine j_aload hx 1 dX10_choose_16 rfl ?_
      refine j_ifnonnull hx 22 dX10_choose_18 rfl ?_
      refine j_aloadN hx 0 dX10_choose_22 rfl ?_
      have c35_1 : ∀ (s2 : zS), (zSK G s2) → (zFr [1, 7, 41] G s0 s2) → JJ X E 8 G s2 0 0 [(0, .ref a), (2, .int (zI x2)), (4, .ref r1)] 35 [] := by
        intro s2 hS_s2 hF_s2
        refine j_aload_n hx 0 dX10_choose_35 rfl ?_
        refine j_aload hx 2 dX10_choose_36 rfl ?_
        refine j_aload_n hx 0 dX10_choose_38 rfl ?_
        have f7 := zf hS0 ha (k := 2) rfl
        refine g11_2 hx hG ha kf_RX10_41 (v := (s0 a 2)) (by rw [(zFr_g hF_s2 ha (by decide))]) dX10_choose_39 ?_
        refine j_callV hx hG (c_X0_cardsOf hst r1 ((s0 a 2))) lk_RX10_58 q2.1 (by decide) rfl rfl rfl rfl [.int (zI ((s0 a 2)))] ⟨rfl, hG, hS_s2, q2.1, (by omega)⟩ rfl rfl ⟨by decide, by decide⟩ ⟨by decide, by decide⟩ (k2 := 0) (n2 := 0) rfl rfl (Nat.le_of_ble_eq_true rfl) dX10_choose_42 (kIP (fun v8 q9 => ?_))
        refine j_iload_n hx 1 dX10_choose_45 rfl ?_
        refine j_callV hx hG (c_X10_keepBetter hst a v8 x2) lk_RX10_62 ha (by decide) rfl rfl rfl rfl [.int (zI v8), .int (zI x2)] ⟨rfl, hG, hS_s2, ha, (by omega), (by omega)⟩ rfl rfl ⟨by decide, by decide⟩ ⟨by decide, by decide⟩ (k2 := 0) (n2 := 0) rfl rfl (Nat.le_of_ble_eq_true rfl) dX10_choose_46 (kVM (fun s5 hS_s5 hF_s5 q11 => ?_))
        exact j_vret hx hq rfl (by decide) (by decide) dX10_choose_49 ⟨rfl, rfl, hS_s5, (zFr_t (zFr_t zFr_rf hF_s2 (by decide)) hF_s5 (by decide)), trivial⟩
      refine j_ifnullN hx 35 dX10_choose_24 rfl ?_
      exact j_sub [2, 4, 1] [(0, .ref a), (2, .int (zI x2)), (4, .ref r1)] rfl (c35_1 s0 hS0 zFr_rf)
    · skip
      refine j_astore hx [(5, .ref r5), (4, .ref r1), (0, .ref a), (1, .int (zI 3)), (2, .int (zI x2)), (3, .int (zI x3))] dX10_choose_14 (by decide) rfl ?_
      refine j_aload hx 1 dX10_choose_16 rfl ?_
      refine j_ifnonnull hx 22 dX10_choose_18 rfl ?_
      refine j_aload hx 0 dX10_choose_22 rfl ?_
      have c35_6 : ∀ (s7 : zS), (zSK G s7) → (zFr [1, 7, 41] G s0 s7) → JJ X E 8 G s7 0 0 [(0, .ref a), (2, .int (zI x2)), (4, .ref r1)] 35 [] := by
        intro s7 hS_s7 hF_s7
        refine j_aload_n hx 0 dX10_choose_35 rfl ?_
        refine j_aload hx 2 dX10_choose_36 rfl ?_
        refine j_aload_n hx 0 dX10_choose_38 rfl ?_
        have f12 := zf hS0 ha (k := 2) rfl
        refine g11_2 hx hG ha kf_RX10_41 (v := (s0 a 2)) (by rw [(zFr_g hF_s7 ha (by decide))]) dX10_choose_39 ?_
        refine j_callV hx hG (c_X0_cardsOf hst r1 ((s0 a 2))) lk_RX10_58 q2.1 (by decide) rfl rfl rfl rfl [.int (zI ((s0 a 2)))] ⟨rfl, hG, hS_s7, q2.1, (by omega)⟩ rfl rfl ⟨by decide, by decide⟩ ⟨by decide, by decide⟩ (k2 := 0) (n2 := 0) rfl rfl (Nat.le_of_ble_eq_true rfl) dX10_choose_42 (kIP (fun v13 q14 => ?_))
        refine j_iload_n hx 1 dX10_choose_45 rfl ?_
        refine j_callV hx hG (c_X10_keepBetter hst a v13 x2) lk_RX10_62 ha (by decide) rfl rfl rfl rfl [.int (zI v13), .int (zI x2)] ⟨rfl, hG, hS_s7, ha, (by omega), (by omega)⟩ rfl rfl ⟨by decide, by decide⟩ ⟨by decide, by decide⟩ (k2 := 0) (n2 := 0) rfl rfl (Nat.le_of_ble_eq_true rfl) dX10_choose_46 (kVM (fun s10 hS_s10 hF_s10 q16 => ?_))
        exact j_vret hx hq rfl (by decide) (by decide) dX10_choose_49 ⟨rfl, rfl, hS_s10, (zFr_t (zFr_t zFr_rf hF_s7 (by decide)) hF_s10 (by decide)), trivial⟩
      refine j_ifnull hx dX10_choose_24 ?_
      refine j_aload hx 1 dX10_choose_27 rfl ?_
      refine j_callV hx hG (c_X0_step hst r1) lk_RX10_33 q2.1 (by decide) rfl rfl rfl rfl [] ⟨rfl, hG, hS0, q2.1⟩ rfl rfl ⟨by decide, by decide⟩ ⟨by decide, by decide⟩ (k2 := 0) (n2 := 0) rfl rfl (Nat.le_of_ble_eq_true rfl) dX10_choose_29 (kIM (fun v17 s11 hS_s11 hF_s11 q18 => ?_))
      refine j_if_ne hx 50 dX10_choose_32 rfl (by omega) (fun h19 => ?_) (fun h19 => ?_)
      · skip
        refine j_aload hx 1 dX10_choose_50 rfl ?_
        refine j_callV hx hG (c_X0_likeTops hst r1) lk_RX10_37 q2.1 (by decide) rfl rfl rfl rfl [] ⟨rfl, hG, hS_s11, q2.1⟩ rfl rfl ⟨by decide, by decide⟩ ⟨by decide, by decide⟩ (k2 := 0) (n2 := 0) rfl rfl (Nat.le_of_ble_eq_true rfl) dX10_choose_52 (kIP (fun v20 q21 => ?_))
        refine j_istore hx [(6, .int (zI v20)), (5, .ref r5), (4, .ref r1), (0, .ref a), (1, .int (zI 3)), (2, .int (zI x2)), (3, .int (zI x3))] dX10_choose_55 (by decide) rfl ?_
        refine j_aload hx 2 dX10_choose_57 rfl ?_
        refine j_aload_n hx 3 dX10_choose_59 rfl ?_
        have f22 := zf hS0 ha (k := 2) rfl
        refine g11_2 hx hG ha kf_RX10_41 (v := (s0 a 2)) (by rw [(zFr_g hF_s11 ha (by decide))]) dX10_choose_60 ?_
        refine j_callV hx hG (c_X0_following hst r1 ((s0 a 2))) lk_RX10_66 q2.1 (by decide) rfl rfl rfl rfl [.int (zI ((s0 a 2)))] ⟨rfl, hG, hS_s11, q2.1, (by omega)⟩ rfl rfl ⟨by decide, by decide⟩ ⟨by decide, by decide⟩ (k2 := 0) (n2 := 0) rfl rfl (Nat.le_of_ble_eq_true rfl) dX10_choose_63 (kIP (fun v23 q24 => ?_))
        refine j_istore hx [(7, .int (zI v23)), (6, .int (zI v20)), (5, .ref r5), (4, .ref r1), (0, .ref a), (1, .int (zI 3)), (2, .int (zI x2)), (3, .int (zI x3))] dX10_choose_66 (by decide) rfl ?_
        refine j_aload hx 2 dX10_choose_68 rfl ?_
        refine j_aload hx 3 dX10_choose_70 rfl ?_
        refine j_callV hx hG (c_X0_become hst r5 r1) lk_RX10_26 q6.1 (by decide) rfl rfl rfl rfl [.ref r1] ⟨rfl, hG, hS_s11, q6.1, q2.1⟩ rfl rfl ⟨by decide, by decide⟩ ⟨by decide, by decide⟩ (k2 := 0) (n2 := 0) rfl rfl (Nat.le_of_ble_eq_true rfl) dX10_choose_72 (kVM (fun s12 hS_s12 hF_s12 q26 => ?_))
        refine j_iload hx 1 dX10_choose_75 rfl ?_
        refine j_iconst hx dX10_choose_77 ?_
        have c101_13 : ∀ (s14 : zS), (zSK G s14) → (zFr [7, 41] G s12 s14) → JJ X E 8 G s14 0 0 [(0, .ref a), (1, .int (zI 3)), (2, .int (zI x2)), (3, .int (zI x3)), (4, .ref r1), (5, .ref r5), (6, .int (zI v20))] 101 [] := by
          intro s14 hS_s14 hF_s14
          refine j_aload_n hx 0 dX10_choose_101 rfl ?_
          refine j_iload_n hx 1 dX10_choose_102 rfl ?_
          refine j_iconst hx dX10_choose_103 ?_
          refine j_iadd hx (r := 4) dX10_choose_104 (by omega) ?_
          refine j_iload_n hx 2 dX10_choose_105 rfl ?_
          refine j_iload_n hx 3 dX10_choose_106 rfl ?_
          refine j_callV hx hG (c_X10_choose_4 hst a 4 x2 x3) lk_RX10_54 ha (by decide) rfl rfl rfl rfl [.int (zI 4), .int (zI x2), .int (zI x3)] ⟨rfl, hG, hS_s14, ha, (by omega), (by omega), (by omega)⟩ rfl rfl ⟨by decide, by decide⟩ ⟨by decide, by decide⟩ (k2 := 0) (n2 := 0) rfl rfl (Nat.le_of_ble_eq_true rfl) dX10_choose_107 (kVM (fun s17 hS_s17 hF_s17 q28 => ?_))
          refine j_iload hx 6 dX10_choose_110 rfl ?_
          refine j_iconst hx dX10_choose_112 ?_
          refine j_icmp_eq hx 170 dX10_choose_113 rfl (by omega) ⟨by decide, by decide⟩ (fun h29 => ?_) (fun h29 => ?_)
          · skip
            exact j_vret hx hq rfl (by decide) (by decide) dX10_choose_170 ⟨rfl, rfl, hS_s17, (zFr_t (zFr_t (zFr_t (zFr_t zFr_rf hF_s11 (by decide)) hF_s12 (by decide)) hF_s14 (by decide)) hF_s17 (by decide)), trivial⟩
          · skip
            refine j_iload_n hx 3 dX10_choose_116 rfl ?_
            refine j_if_le hx 170 dX10_choose_117 rfl (by omega) (fun h30 => ?_) (fun h30 => ?_)
            · skip
              exact j_vret hx hq rfl (by decide) (by decide) dX10_choose_170 ⟨rfl, rfl, hS_s17, (zFr_t (zFr_t (zFr_t (zFr_t zFr_rf hF_s11 (by decide)) hF_s12 (by decide)) hF_s14 (by decide)) hF_s17 (by decide)), trivial⟩
            · skip
              refine j_aload hx 4 dX10_choose_120 rfl ?_
              refine j_aload_n hx 0 dX10_choose_122 rfl ?_
              have f31 := zf hS_s17 ha (k := 2) rfl
              refine g11_2 hx hG ha kf_RX10_41 rfl dX10_choose_123 ?_
              refine j_callV hx hG (c_X0_isOut hst r1 ((s17 a 2))) lk_RX10_73 q2.1 (by decide) rfl rfl rfl rfl [.int (zI ((s17 a 2)))] ⟨rfl, hG, hS_s17, q2.1, (by omega)⟩ rfl rfl ⟨by decide, by decide⟩ ⟨by decide, by decide⟩ (k2 := 0) (n2 := 0) rfl rfl (Nat.le_of_ble_eq_true rfl) dX10_choose_126 (kIP (fun v32 q33 => ?_))
              refine j_if_ne hx 170 dX10_choose_129 rfl (by omega) (fun h34 => ?_) (fun h34 => ?_)
              · skip
                exact j_vret hx hq rfl (by decide) (by decide) dX10_choose_170 ⟨rfl, rfl, hS_s17, (zFr_t (zFr_t (zFr_t (zFr_t zFr_rf hF_s11 (by decide)) hF_s12 (by decide)) hF_s14 (by decide)) hF_s17 (by decide)), trivial⟩
              · skip
                refine j_aload hx 5 dX10_choose_132 rfl ?_
                refine j_aload hx 4 dX10_choose_134 rfl ?_
                refine j_callV hx hG (c_X0_become hst r5 r1) lk_RX10_26 q6.1 (by decide) rfl rfl rfl rfl [.ref r1] ⟨rfl, hG, hS_s17, q6.1, q2.1⟩ rfl rfl ⟨by decide, by decide⟩ ⟨by decide, by decide⟩ (k2 := 0) (n2 := 0) rfl rfl (Nat.le_of_ble_eq_true rfl) dX10_choose_136 (kVM (fun s18 hS_s18 hF_s18 q36 => ?_))
                refine j_aload hx 5 dX10_choose_139 rfl ?_
                refine j_aload_n hx 0 dX10_choose_141 rfl ?_
                refine g11_2 hx hG ha kf_RX10_41 (v := (s17 a 2)) (by rw [(zFr_g hF_s18 ha (by decide))]) dX10_choose_142 ?_
                refine j_iload hx 6 dX10_choose_145 rfl ?_
                refine j_aload_n hx 0 dX10_choose_147 rfl ?_
                have f37 := zf hS_s17 ha (k := 3) rfl
                refine g11_3 hx hG ha kf_RX10_45 (v := (s17 a 3)) (by rw [(zFr_g hF_s18 ha (by decide))]) dX10_choose_148 ?_
                refine j_callV hx hG (c_X0_win hst r5 ((s17 a 2)) v20 ((s17 a 3))) lk_RX10_69 q6.1 (by decide) rfl rfl rfl rfl [.int (zI ((s17 a 2))), .int (zI v20), .int (zI ((s17 a 3)))] ⟨rfl, hG, hS_s18, q6.1, (by omega), (by omega), (by omega)⟩ rfl rfl ⟨by decide, by decide⟩ ⟨by decide, by decide⟩ (k2 := 0) (n2 := 0) rfl rfl (Nat.le_of_ble_eq_true rfl) dX10_choose_151 (kIM (fun v38 s19 hS_s19 hF_s19 q39 => ?_))
                refine j_pop hx dX10_choose_154 rfl ?_
                refine j_aload_n hx 0 dX10_choose_155 rfl ?_
                refine j_iload_n hx 1 dX10_choose_156 rfl ?_
                refine j_iconst hx dX10_choose_157 ?_
                refine j_iadd hx (r := 4) dX10_choose_158 (by omega) ?_
                refine j_iload_n hx 2 dX10_choose_159 rfl ?_
                refine j_iconst hx dX10_choose_160 ?_
                refine j_iload_n hx 1 dX10_choose_161 rfl ?_
                refine j_ishl hx dX10_choose_162 (fun v40 f41 f42 => ?_)
                refine j_ior hx dX10_choose_163 (fun v43 f44 f45 => ?_)
                refine j_iload_n hx 3 dX10_choose_164 rfl ?_
                refine j_iconst hx dX10_choose_165 ?_
                refine j_isub hx (r := x3 - 1) dX10_choose_166 rfl ?_
                refine j_callV hx hG (c_X10_choose_4 hst a 4 v43 (x3 - 1)) lk_RX10_54 ha (by decide) rfl rfl rfl rfl [.int (zI 4), .int (zI v43), .int (zI (x3 - 1))] ⟨rfl, hG, hS_s19, ha, (by omega), (by omega), (by omega)⟩ rfl rfl ⟨by decide, by decide⟩ ⟨by decide, by decide⟩ (k2 := 0) (n2 := 0) rfl rfl (Nat.le_of_ble_eq_true rfl) dX10_choose_167 (kVM (fun s20 hS_s20 hF_s20 q47 => ?_))
                exact j_vret hx hq rfl (by decide) (by decide) dX10_choose_170 ⟨rfl, rfl, hS_s20, (zFr_t (zFr_t (zFr_t (zFr_t (zFr_t (zFr_t (zFr_t zFr_rf hF_s11 (by decide)) hF_s12 (by decide)) hF_s14 (by decide)) hF_s17 (by decide)) hF_s18 (by decide)) hF_s19 (by decide)) hF_s20 (by decide)), trivial⟩
        refine j_icmp_eq hx 101 dX10_choose_78 rfl (by omega) ⟨by decide, by decide⟩ (fun h48 => ?_) (fun h48 => ?_)
        · skip
          exact j_sub [4, 5, 6, 7, 3, 2, 1] [(0, .ref a), (1, .int (zI 3)), (2, .int (zI x2)), (3, .int (zI x3)), (4, .ref r1), (5, .ref r5), (6, .int (zI v20))] rfl (c101_13 s12 hS_s12 zFr_rf)
        · skip
          refine j_iload hx 0 dX10_choose_81 rfl ?_
          refine j_iconst hx dX10_choose_83 ?_
          refine j_icmp_eq hx 101 dX10_choose_84 rfl (by omega) ⟨by decide, by decide⟩ (fun h49 => ?_) (fun h49 => ?_)
          · skip
            exact j_sub [4, 5, 6, 7, 3, 2, 1] [(0, .ref a), (1, .int (zI 3)), (2, .int (zI x2)), (3, .int (zI x3)), (4, .ref r1), (5, .ref r5), (6, .int (zI v20))] rfl (c101_13 s12 hS_s12 zFr_rf)
          · skip
            refine j_aload hx 2 dX10_choose_87 rfl ?_
            refine j_iload hx 0 dX10_choose_89 rfl ?_
            refine j_iload hx 1 dX10_choose_91 rfl ?_
            refine j_aload_n hx 4 dX10_choose_93 rfl ?_
            have f50 := zf hS0 ha (k := 3) rfl
            refine g11_3 hx hG ha kf_RX10_45 (v := (s0 a 3)) (by rw [(zFr_g hF_s12 ha (by decide)), (zFr_g hF_s11 ha (by decide))]) dX10_choose_94 ?_
            refine j_callV hx hG (c_X0_win hst r5 v23 v20 ((s0 a 3))) lk_RX10_69 q6.1 (by decide) rfl rfl rfl rfl [.int (zI v23), .int (zI v20), .int (zI ((s0 a 3)))] ⟨rfl, hG, hS_s12, q6.1, (by omega), (by omega), (by omega)⟩ rfl rfl ⟨by decide, by decide⟩ ⟨by decide, by decide⟩ (k2 := 0) (n2 := 0) rfl rfl (Nat.le_of_ble_eq_true rfl) dX10_choose_97 (kIM (fun v51 s21 hS_s21 hF_s21 q52 => ?_))
            refine j_pop hx dX10_choose_100 rfl ?_
            exact j_sub [4, 5, 6, 7, 3, 2, 1] [(0, .ref a), (1, .int (zI 3)), (2, .int (zI x2)), (3, .int (zI x3)), (4, .ref r1), (5, .ref r5), (6, .int (zI v20))] rfl (c101_13 s21 hS_s21 (zFr_t zFr_rf hF_s21 (by decide)))
      · skip
        exact j_sub [2, 4, 1] [(0, .ref a), (2, .int (zI x2)), (4, .ref r1)] rfl (c35_6 s11 hS_s11 (zFr_t zFr_rf hF_s11 (by decide)))

set_option maxHeartbeats 4000000 in
set_option maxRecDepth 20000 in
theorem c_X10_choose_2 {E : zE} {l : Launch} (hst : l.stackTraces = false) (a : Nat) (x1 : Int) (x2 : Int) (x3 : Int) : Con E l yX10_choose cX10_choose 8 none { frames := 13, cells := 0, slots := 0, locals := 329 } (fun G s vs => vs = [.ref a, .int (zI x1), .int (zI x2), .int (zI x3)] ∧ zGK G ∧ zSK G s ∧ (gT G a = 11) ∧ (2 ≤ x1 ∧ x1 ≤ 2) ∧ ((-2147483648) ≤ x2 ∧ x2 ≤ 2147483647) ∧ (0 ≤ x3 ∧ x3 ≤ 4)) (fun G s _ => pV (fun G2 s2 => G2 = G ∧ zSK G s2 ∧ zFr [1, 7, 11, 41] G s s2 ∧ True)) := by
  refine Con.mk hst (by decide) (fun G s vs h => by rw [h.1]; exact Nat.le_of_ble_eq_true rfl) ?_
  rintro X G s0 vs ⟨rfl, hG, hS0, ha, hx1, hx2, hx3⟩ rfl hx hq
  obtain rfl : x1 = 2 := by omega
  show JJ X E 8 G s0 0 0 [(0, .ref a), (1, .int (zI 2)), (2, .int (zI x2)), (3, .int (zI x3))] 0 []
  refine j_aload_n hx 0 dX10_choose_0 rfl ?_
  refine j_iload_n hx 1 dX10_choose_1 rfl ?_
  refine j_callV hx hG (c_X10_boardAt hst a 2) lk_RX10_22 ha (by decide) rfl rfl rfl rfl [.int (zI 2)] ⟨rfl, hG, hS0, ha, (by omega)⟩ rfl rfl ⟨by decide, by decide⟩ ⟨by decide, by decide⟩ (k2 := 0) (n2 := 0) rfl rfl (Nat.le_of_ble_eq_true rfl) dX10_choose_2 (kNP (fun _ => ?_) (fun r1 q2 => ?_))
  · skip
    refine j_astoreN hx [(4, .null), (0, .ref a), (1, .int (zI 2)), (2, .int (zI x2)), (3, .int (zI x3))] dX10_choose_5 (by decide) rfl ?_
    refine j_aload_n hx 1 dX10_choose_7 rfl ?_
    refine j_iload_n hx 2 dX10_choose_8 rfl ?_
    refine j_iconst hx dX10_choose_9 ?_
    refine j_iadd hx (r := 3) dX10_choose_10 (by omega) ?_
    refine j_callV hx hG (c_X10_boardAt hst a 3) lk_RX10_22 ha (by decide) rfl rfl rfl rfl [.int (zI 3)] ⟨rfl, hG, hS0, ha, (by omega)⟩ rfl rfl ⟨by decide, by decide⟩ ⟨by decide, by decide⟩ (k2 := 0) (n2 := 0) rfl rfl (Nat.le_of_ble_eq_true rfl) dX10_choose_11 (kNP (fun _ => ?_) (fun r3 q4 => ?_))
    · skip
      refine j_astoreN hx [(5, .null), (4, .null), (0, .ref a), (1, .int (zI 2)), (2, .int (zI x2)), (3, .int (zI x3))] dX10_choose_14 (by decide) rfl ?_
      refine j_aloadN hx 1 dX10_choose_16 rfl ?_
      refine j_ifnonnullN hx dX10_choose_18 ?_
      exact j_vret hx hq rfl (by decide) (by decide) dX10_choose_21 ⟨rfl, rfl, hS0, zFr_rf, trivial⟩
    · skip
      refine j_astore hx [(5, .ref r3), (4, .null), (0, .ref a), (1, .int (zI 2)), (2, .int (zI x2)), (3, .int (zI x3))] dX10_choose_14 (by decide) rfl ?_
      refine j_aloadN hx 1 dX10_choose_16 rfl ?_
      refine j_ifnonnullN hx dX10_choose_18 ?_
      exact j_vret hx hq rfl (by decide) (by decide) dX10_choose_21 ⟨rfl, rfl, hS0, zFr_rf, trivial⟩
  · skip
    refine j_astore hx [(4, .ref r1), (0, .ref a), (1, .int (zI 2)), (2, .int (zI x2)), (3, .int (zI x3))] dX10_choose_5 (by decide) rfl ?_
    refine j_aload_n hx 1 dX10_choose_7 rfl ?_
    refine j_iload_n hx 2 dX10_choose_8 rfl ?_
    refine j_iconst hx dX10_choose_9 ?_
    refine j_iadd hx (r := 3) dX10_choose_10 (by omega) ?_
    refine j_callV hx hG (c_X10_boardAt hst a 3) lk_RX10_22 ha (by decide) rfl rfl rfl rfl [.int (zI 3)] ⟨rfl, hG, hS0, ha, (by omega)⟩ rfl rfl ⟨by decide, by decide⟩ ⟨by decide, by decide⟩ (k2 := 0) (n2 := 0) rfl rfl (Nat.le_of_ble_eq_true rfl) dX10_choose_11 (kNP (fun _ => ?_) (fun r5 q6 => ?_))
    · skip
      refine j_astoreN hx [(5, .null), (4, .ref r1), (0, .ref a), (1, .int (zI 2)), (2, .int (zI x2)), (3, .int (zI x3))] dX10_choose_14 (by decide) rfl ?_
      refine j_aload hx 1 dX10_choose_16 rfl ?_
      refine j_ifnonnull hx 22 dX10_choose_18 rfl ?_
      refine j_aloadN hx 0 dX10_choose_22 rfl ?_
      have c35_1 : ∀ (s2 : zS), (zSK G s2) → (zFr [1, 7, 41] G s0 s2) → JJ X E 8 G s2 0 0 [(0, .ref a), (2, .int (zI x2)), (4, .ref r1)] 35 [] := by
        intro s2 hS_s2 hF_s2
        refine j_aload_n hx 0 dX10_choose_35 rfl ?_
        refine j_aload hx 2 dX10_choose_36 rfl ?_
        refine j_aload_n hx 0 dX10_choose_38 rfl ?_
        have f7 := zf hS0 ha (k := 2) rfl
        refine g11_2 hx hG ha kf_RX10_41 (v := (s0 a 2)) (by rw [(zFr_g hF_s2 ha (by decide))]) dX10_choose_39 ?_
        refine j_callV hx hG (c_X0_cardsOf hst r1 ((s0 a 2))) lk_RX10_58 q2.1 (by decide) rfl rfl rfl rfl [.int (zI ((s0 a 2)))] ⟨rfl, hG, hS_s2, q2.1, (by omega)⟩ rfl rfl ⟨by decide, by decide⟩ ⟨by decide, by decide⟩ (k2 := 0) (n2 := 0) rfl rfl (Nat.le_of_ble_eq_true rfl) dX10_choose_42 (kIP (fun v8 q9 => ?_))
        refine j_iload_n hx 1 dX10_choose_45 rfl ?_
        refine j_callV hx hG (c_X10_keepBetter hst a v8 x2) lk_RX10_62 ha (by decide) rfl rfl rfl rfl [.int (zI v8), .int (zI x2)] ⟨rfl, hG, hS_s2, ha, (by omega), (by omega)⟩ rfl rfl ⟨by decide, by decide⟩ ⟨by decide, by decide⟩ (k2 := 0) (n2 := 0) rfl rfl (Nat.le_of_ble_eq_true rfl) dX10_choose_46 (kVM (fun s5 hS_s5 hF_s5 q11 => ?_))
        exact j_vret hx hq rfl (by decide) (by decide) dX10_choose_49 ⟨rfl, rfl, hS_s5, (zFr_t (zFr_t zFr_rf hF_s2 (by decide)) hF_s5 (by decide)), trivial⟩
      refine j_ifnullN hx 35 dX10_choose_24 rfl ?_
      exact j_sub [2, 4, 1] [(0, .ref a), (2, .int (zI x2)), (4, .ref r1)] rfl (c35_1 s0 hS0 zFr_rf)
    · skip
      refine j_astore hx [(5, .ref r5), (4, .ref r1), (0, .ref a), (1, .int (zI 2)), (2, .int (zI x2)), (3, .int (zI x3))] dX10_choose_14 (by decide) rfl ?_
      refine j_aload hx 1 dX10_choose_16 rfl ?_
      refine j_ifnonnull hx 22 dX10_choose_18 rfl ?_
      refine j_aload hx 0 dX10_choose_22 rfl ?_
      have c35_6 : ∀ (s7 : zS), (zSK G s7) → (zFr [1, 7, 41] G s0 s7) → JJ X E 8 G s7 0 0 [(0, .ref a), (2, .int (zI x2)), (4, .ref r1)] 35 [] := by
        intro s7 hS_s7 hF_s7
        refine j_aload_n hx 0 dX10_choose_35 rfl ?_
        refine j_aload hx 2 dX10_choose_36 rfl ?_
        refine j_aload_n hx 0 dX10_choose_38 rfl ?_
        have f12 := zf hS0 ha (k := 2) rfl
        refine g11_2 hx hG ha kf_RX10_41 (v := (s0 a 2)) (by rw [(zFr_g hF_s7 ha (by decide))]) dX10_choose_39 ?_
        refine j_callV hx hG (c_X0_cardsOf hst r1 ((s0 a 2))) lk_RX10_58 q2.1 (by decide) rfl rfl rfl rfl [.int (zI ((s0 a 2)))] ⟨rfl, hG, hS_s7, q2.1, (by omega)⟩ rfl rfl ⟨by decide, by decide⟩ ⟨by decide, by decide⟩ (k2 := 0) (n2 := 0) rfl rfl (Nat.le_of_ble_eq_true rfl) dX10_choose_42 (kIP (fun v13 q14 => ?_))
        refine j_iload_n hx 1 dX10_choose_45 rfl ?_
        refine j_callV hx hG (c_X10_keepBetter hst a v13 x2) lk_RX10_62 ha (by decide) rfl rfl rfl rfl [.int (zI v13), .int (zI x2)] ⟨rfl, hG, hS_s7, ha, (by omega), (by omega)⟩ rfl rfl ⟨by decide, by decide⟩ ⟨by decide, by decide⟩ (k2 := 0) (n2 := 0) rfl rfl (Nat.le_of_ble_eq_true rfl) dX10_choose_46 (kVM (fun s10 hS_s10 hF_s10 q16 => ?_))
        exact j_vret hx hq rfl (by decide) (by decide) dX10_choose_49 ⟨rfl, rfl, hS_s10, (zFr_t (zFr_t zFr_rf hF_s7 (by decide)) hF_s10 (by decide)), trivial⟩
      refine j_ifnull hx dX10_choose_24 ?_
      refine j_aload hx 1 dX10_choose_27 rfl ?_
      refine j_callV hx hG (c_X0_step hst r1) lk_RX10_33 q2.1 (by decide) rfl rfl rfl rfl [] ⟨rfl, hG, hS0, q2.1⟩ rfl rfl ⟨by decide, by decide⟩ ⟨by decide, by decide⟩ (k2 := 0) (n2 := 0) rfl rfl (Nat.le_of_ble_eq_true rfl) dX10_choose_29 (kIM (fun v17 s11 hS_s11 hF_s11 q18 => ?_))
      refine j_if_ne hx 50 dX10_choose_32 rfl (by omega) (fun h19 => ?_) (fun h19 => ?_)
      · skip
        refine j_aload hx 1 dX10_choose_50 rfl ?_
        refine j_callV hx hG (c_X0_likeTops hst r1) lk_RX10_37 q2.1 (by decide) rfl rfl rfl rfl [] ⟨rfl, hG, hS_s11, q2.1⟩ rfl rfl ⟨by decide, by decide⟩ ⟨by decide, by decide⟩ (k2 := 0) (n2 := 0) rfl rfl (Nat.le_of_ble_eq_true rfl) dX10_choose_52 (kIP (fun v20 q21 => ?_))
        refine j_istore hx [(6, .int (zI v20)), (5, .ref r5), (4, .ref r1), (0, .ref a), (1, .int (zI 2)), (2, .int (zI x2)), (3, .int (zI x3))] dX10_choose_55 (by decide) rfl ?_
        refine j_aload hx 2 dX10_choose_57 rfl ?_
        refine j_aload_n hx 3 dX10_choose_59 rfl ?_
        have f22 := zf hS0 ha (k := 2) rfl
        refine g11_2 hx hG ha kf_RX10_41 (v := (s0 a 2)) (by rw [(zFr_g hF_s11 ha (by decide))]) dX10_choose_60 ?_
        refine j_callV hx hG (c_X0_following hst r1 ((s0 a 2))) lk_RX10_66 q2.1 (by decide) rfl rfl rfl rfl [.int (zI ((s0 a 2)))] ⟨rfl, hG, hS_s11, q2.1, (by omega)⟩ rfl rfl ⟨by decide, by decide⟩ ⟨by decide, by decide⟩ (k2 := 0) (n2 := 0) rfl rfl (Nat.le_of_ble_eq_true rfl) dX10_choose_63 (kIP (fun v23 q24 => ?_))
        refine j_istore hx [(7, .int (zI v23)), (6, .int (zI v20)), (5, .ref r5), (4, .ref r1), (0, .ref a), (1, .int (zI 2)), (2, .int (zI x2)), (3, .int (zI x3))] dX10_choose_66 (by decide) rfl ?_
        refine j_aload hx 2 dX10_choose_68 rfl ?_
        refine j_aload hx 3 dX10_choose_70 rfl ?_
        refine j_callV hx hG (c_X0_become hst r5 r1) lk_RX10_26 q6.1 (by decide) rfl rfl rfl rfl [.ref r1] ⟨rfl, hG, hS_s11, q6.1, q2.1⟩ rfl rfl ⟨by decide, by decide⟩ ⟨by decide, by decide⟩ (k2 := 0) (n2 := 0) rfl rfl (Nat.le_of_ble_eq_true rfl) dX10_choose_72 (kVM (fun s12 hS_s12 hF_s12 q26 => ?_))
        refine j_iload hx 1 dX10_choose_75 rfl ?_
        refine j_iconst hx dX10_choose_77 ?_
        have c101_13 : ∀ (s14 : zS), (zSK G s14) → (zFr [7, 41] G s12 s14) → JJ X E 8 G s14 0 0 [(0, .ref a), (1, .int (zI 2)), (2, .int (zI x2)), (3, .int (zI x3)), (4, .ref r1), (5, .ref r5), (6, .int (zI v20))] 101 [] := by
          intro s14 hS_s14 hF_s14
          refine j_aload_n hx 0 dX10_choose_101 rfl ?_
          refine j_iload_n hx 1 dX10_choose_102 rfl ?_
          refine j_iconst hx dX10_choose_103 ?_
          refine j_iadd hx (r := 3) dX10_choose_104 (by omega) ?_
          refine j_iload_n hx 2 dX10_choose_105 rfl ?_
          refine j_iload_n hx 3 dX10_choose_106 rfl ?_
          refine j_callV hx hG (c_X10_choose_3 hst a 3 x2 x3) lk_RX10_54 ha (by decide) rfl rfl rfl rfl [.int (zI 3), .int (zI x2), .int (zI x3)] ⟨rfl, hG, hS_s14, ha, (by omega), (by omega), (by omega)⟩ rfl rfl ⟨by decide, by decide⟩ ⟨by decide, by decide⟩ (k2 := 0) (n2 := 0) rfl rfl (Nat.le_of_ble_eq_true rfl) dX10_choose_107 (kVM (fun s17 hS_s17 hF_s17 q28 => ?_))
          refine j_iload hx 6 dX10_choose_110 rfl ?_
          refine j_iconst hx dX10_choose_112 ?_
          refine j_icmp_eq hx 170 dX10_choose_113 rfl (by omega) ⟨by decide, by decide⟩ (fun h29 => ?_) (fun h29 => ?_)
          · skip
            exact j_vret hx hq rfl (by decide) (by decide) dX10_choose_170 ⟨rfl, rfl, hS_s17, (zFr_t (zFr_t (zFr_t (zFr_t zFr_rf hF_s11 (by decide)) hF_s12 (by decide)) hF_s14 (by decide)) hF_s17 (by decide)), trivial⟩
          · skip
            refine j_iload_n hx 3 dX10_choose_116 rfl ?_
            refine j_if_le hx 170 dX10_choose_117 rfl (by omega) (fun h30 => ?_) (fun h30 => ?_)
            · skip
              exact j_vret hx hq rfl (by decide) (by decide) dX10_choose_170 ⟨rfl, rfl, hS_s17, (zFr_t (zFr_t (zFr_t (zFr_t zFr_rf hF_s11 (by decide)) hF_s12 (by decide)) hF_s14 (by decide)) hF_s17 (by decide)), trivial⟩
            · skip
              refine j_aload hx 4 dX10_choose_120 rfl ?_
              refine j_aload_n hx 0 dX10_choose_122 rfl ?_
              have f31 := zf hS_s17 ha (k := 2) rfl
              refine g11_2 hx hG ha kf_RX10_41 rfl dX10_choose_123 ?_
              refine j_callV hx hG (c_X0_isOut hst r1 ((s17 a 2))) lk_RX10_73 q2.1 (by decide) rfl rfl rfl rfl [.int (zI ((s17 a 2)))] ⟨rfl, hG, hS_s17, q2.1, (by omega)⟩ rfl rfl ⟨by decide, by decide⟩ ⟨by decide, by decide⟩ (k2 := 0) (n2 := 0) rfl rfl (Nat.le_of_ble_eq_true rfl) dX10_choose_126 (kIP (fun v32 q33 => ?_))
              refine j_if_ne hx 170 dX10_choose_129 rfl (by omega) (fun h34 => ?_) (fun h34 => ?_)
              · skip
                exact j_vret hx hq rfl (by decide) (by decide) dX10_choose_170 ⟨rfl, rfl, hS_s17, (zFr_t (zFr_t (zFr_t (zFr_t zFr_rf hF_s11 (by decide)) hF_s12 (by decide)) hF_s14 (by decide)) hF_s17 (by decide)), trivial⟩
              · skip
                refine j_aload hx 5 dX10_choose_132 rfl ?_
                refine j_aload hx 4 dX10_choose_134 rfl ?_
                refine j_callV hx hG (c_X0_become hst r5 r1) lk_RX10_26 q6.1 (by decide) rfl rfl rfl rfl [.ref r1] ⟨rfl, hG, hS_s17, q6.1, q2.1⟩ rfl rfl ⟨by decide, by decide⟩ ⟨by decide, by decide⟩ (k2 := 0) (n2 := 0) rfl rfl (Nat.le_of_ble_eq_true rfl) dX10_choose_136 (kVM (fun s18 hS_s18 hF_s18 q36 => ?_))
                refine j_aload hx 5 dX10_choose_139 rfl ?_
                refine j_aload_n hx 0 dX10_choose_141 rfl ?_
                refine g11_2 hx hG ha kf_RX10_41 (v := (s17 a 2)) (by rw [(zFr_g hF_s18 ha (by decide))]) dX10_choose_142 ?_
                refine j_iload hx 6 dX10_choose_145 rfl ?_
                refine j_aload_n hx 0 dX10_choose_147 rfl ?_
                have f37 := zf hS_s17 ha (k := 3) rfl
                refine g11_3 hx hG ha kf_RX10_45 (v := (s17 a 3)) (by rw [(zFr_g hF_s18 ha (by decide))]) dX10_choose_148 ?_
                refine j_callV hx hG (c_X0_win hst r5 ((s17 a 2)) v20 ((s17 a 3))) lk_RX10_69 q6.1 (by decide) rfl rfl rfl rfl [.int (zI ((s17 a 2))), .int (zI v20), .int (zI ((s17 a 3)))] ⟨rfl, hG, hS_s18, q6.1, (by omega), (by omega), (by omega)⟩ rfl rfl ⟨by decide, by decide⟩ ⟨by decide, by decide⟩ (k2 := 0) (n2 := 0) rfl rfl (Nat.le_of_ble_eq_true rfl) dX10_choose_151 (kIM (fun v38 s19 hS_s19 hF_s19 q39 => ?_))
                refine j_pop hx dX10_choose_154 rfl ?_
                refine j_aload_n hx 0 dX10_choose_155 rfl ?_
                refine j_iload_n hx 1 dX10_choose_156 rfl ?_
                refine j_iconst hx dX10_choose_157 ?_
                refine j_iadd hx (r := 3) dX10_choose_158 (by omega) ?_
                refine j_iload_n hx 2 dX10_choose_159 rfl ?_
                refine j_iconst hx dX10_choose_160 ?_
                refine j_iload_n hx 1 dX10_choose_161 rfl ?_
                refine j_ishl hx dX10_choose_162 (fun v40 f41 f42 => ?_)
                refine j_ior hx dX10_choose_163 (fun v43 f44 f45 => ?_)
                refine j_iload_n hx 3 dX10_choose_164 rfl ?_
                refine j_iconst hx dX10_choose_165 ?_
                refine j_isub hx (r := x3 - 1) dX10_choose_166 rfl ?_
                refine j_callV hx hG (c_X10_choose_3 hst a 3 v43 (x3 - 1)) lk_RX10_54 ha (by decide) rfl rfl rfl rfl [.int (zI 3), .int (zI v43), .int (zI (x3 - 1))] ⟨rfl, hG, hS_s19, ha, (by omega), (by omega), (by omega)⟩ rfl rfl ⟨by decide, by decide⟩ ⟨by decide, by decide⟩ (k2 := 0) (n2 := 0) rfl rfl (Nat.le_of_ble_eq_true rfl) dX10_choose_167 (kVM (fun s20 hS_s20 hF_s20 q47 => ?_))
                exact j_vret hx hq rfl (by decide) (by decide) dX10_choose_170 ⟨rfl, rfl, hS_s20, (zFr_t (zFr_t (zFr_t (zFr_t (zFr_t (zFr_t (zFr_t zFr_rf hF_s11 (by decide)) hF_s12 (by decide)) hF_s14 (by decide)) hF_s17 (by decide)) hF_s18 (by decide)) hF_s19 (by decide)) hF_s20 (by decide)), trivial⟩
        refine j_icmp_eq hx 101 dX10_choose_78 rfl (by omega) ⟨by decide, by decide⟩ (fun h48 => ?_) (fun h48 => ?_)
        · skip
          exact j_sub [4, 5, 6, 7, 3, 2, 1] [(0, .ref a), (1, .int (zI 2)), (2, .int (zI x2)), (3, .int (zI x3)), (4, .ref r1), (5, .ref r5), (6, .int (zI v20))] rfl (c101_13 s12 hS_s12 zFr_rf)
        · skip
          refine j_iload hx 0 dX10_choose_81 rfl ?_
          refine j_iconst hx dX10_choose_83 ?_
          refine j_icmp_eq hx 101 dX10_choose_84 rfl (by omega) ⟨by decide, by decide⟩ (fun h49 => ?_) (fun h49 => ?_)
          · skip
            exact j_sub [4, 5, 6, 7, 3, 2, 1] [(0, .ref a), (1, .int (zI 2)), (2, .int (zI x2)), (3, .int (zI x3)), (4, .ref r1), (5, .ref r5), (6, .int (zI v20))] rfl (c101_13 s12 hS_s12 zFr_rf)
          · skip
            refine j_aload hx 2 dX10_choose_87 rfl ?_
            refine j_iload hx 0 dX10_choose_89 rfl ?_
            refine j_iload hx 1 dX10_choose_91 rfl ?_
            refine j_aload_n hx 4 dX10_choose_93 rfl ?_
            have f50 := zf hS0 ha (k := 3) rfl
            refine g11_3 hx hG ha kf_RX10_45 (v := (s0 a 3)) (by rw [(zFr_g hF_s12 ha (by decide)), (zFr_g hF_s11 ha (by decide))]) dX10_choose_94 ?_
            refine j_callV hx hG (c_X0_win hst r5 v23 v20 ((s0 a 3))) lk_RX10_69 q6.1 (by decide) rfl rfl rfl rfl [.int (zI v23), .int (zI v20), .int (zI ((s0 a 3)))] ⟨rfl, hG, hS_s12, q6.1, (by omega), (by omega), (by omega)⟩ rfl rfl ⟨by decide, by decide⟩ ⟨by decide, by decide⟩ (k2 := 0) (n2 := 0) rfl rfl (Nat.le_of_ble_eq_true rfl) dX10_choose_97 (kIM (fun v51 s21 hS_s21 hF_s21 q52 => ?_))
            refine j_pop hx dX10_choose_100 rfl ?_
            exact j_sub [4, 5, 6, 7, 3, 2, 1] [(0, .ref a), (1, .int (zI 2)), (2, .int (zI x2)), (3, .int (zI x3)), (4, .ref r1), (5, .ref r5), (6, .int (zI v20))] rfl (c101_13 s21 hS_s21 (zFr_t zFr_rf hF_s21 (by decide)))
      · skip
        exact j_sub [2, 4, 1] [(0, .ref a), (2, .int (zI x2)), (4, .ref r1)] rfl (c35_6 s11 hS_s11 (zFr_t zFr_rf hF_s11 (by decide)))

set_option maxHeartbeats 4000000 in
set_option maxRecDepth 20000 in
theorem c_X10_choose_1 {E : zE} {l : Launch} (hst : l.stackTraces = false) (a : Nat) (x1 : Int) (x2 : Int) (x3 : Int) : Con E l yX10_choose cX10_choose 8 none { frames := 14, cells := 0, slots := 0, locals := 356 } (fun G s vs => vs = [.ref a, .int (zI x1), .int (zI x2), .int (zI x3)] ∧ zGK G ∧ zSK G s ∧ (gT G a = 11) ∧ (1 ≤ x1 ∧ x1 ≤ 1) ∧ ((-2147483648) ≤ x2 ∧ x2 ≤ 2147483647) ∧ (0 ≤ x3 ∧ x3 ≤ 4)) (fun G s _ => pV (fun G2 s2 => G2 = G ∧ zSK G s2 ∧ zFr [1, 7, 11, 41] G s s2 ∧ True)) := by
  refine Con.mk hst (by decide) (fun G s vs h => by rw [h.1]; exact Nat.le_of_ble_eq_true rfl) ?_
  rintro X G s0 vs ⟨rfl, hG, hS0, ha, hx1, hx2, hx3⟩ rfl hx hq
  obtain rfl : x1 = 1 := by omega
  show JJ X E 8 G s0 0 0 [(0, .ref a), (1, .int (zI 1)), (2, .int (zI x2)), (3, .int (zI x3))] 0 []
  refine j_aload_n hx 0 dX10_choose_0 rfl ?_
  refine j_iload_n hx 1 dX10_choose_1 rfl ?_
  refine j_callV hx hG (c_X10_boardAt hst a 1) lk_RX10_22 ha (by decide) rfl rfl rfl rfl [.int (zI 1)] ⟨rfl, hG, hS0, ha, (by omega)⟩ rfl rfl ⟨by decide, by decide⟩ ⟨by decide, by decide⟩ (k2 := 0) (n2 := 0) rfl rfl (Nat.le_of_ble_eq_true rfl) dX10_choose_2 (kNP (fun _ => ?_) (fun r1 q2 => ?_))
  · skip
    refine j_astoreN hx [(4, .null), (0, .ref a), (1, .int (zI 1)), (2, .int (zI x2)), (3, .int (zI x3))] dX10_choose_5 (by decide) rfl ?_
    refine j_aload_n hx 1 dX10_choose_7 rfl ?_
    refine j_iload_n hx 2 dX10_choose_8 rfl ?_
    refine j_iconst hx dX10_choose_9 ?_
    refine j_iadd hx (r := 2) dX10_choose_10 (by omega) ?_
    refine j_callV hx hG (c_X10_boardAt hst a 2) lk_RX10_22 ha (by decide) rfl rfl rfl rfl [.int (zI 2)] ⟨rfl, hG, hS0, ha, (by omega)⟩ rfl rfl ⟨by decide, by decide⟩ ⟨by decide, by decide⟩ (k2 := 0) (n2 := 0) rfl rfl (Nat.le_of_ble_eq_true rfl) dX10_choose_11 (kNP (fun _ => ?_) (fun r3 q4 => ?_))
    · skip
      refine j_astoreN hx [(5, .null), (4, .null), (0, .ref a), (1, .int (zI 1)), (2, .int (zI x2)), (3, .int (zI x3))] dX10_choose_14 (by decide) rfl ?_
      refine j_aloadN hx 1 dX10_choose_16 rfl ?_
      refine j_ifnonnullN hx dX10_choose_18 ?_
      exact j_vret hx hq rfl (by decide) (by decide) dX10_choose_21 ⟨rfl, rfl, hS0, zFr_rf, trivial⟩
    · skip
      refine j_astore hx [(5, .ref r3), (4, .null), (0, .ref a), (1, .int (zI 1)), (2, .int (zI x2)), (3, .int (zI x3))] dX10_choose_14 (by decide) rfl ?_
      refine j_aloadN hx 1 dX10_choose_16 rfl ?_
      refine j_ifnonnullN hx dX10_choose_18 ?_
      exact j_vret hx hq rfl (by decide) (by decide) dX10_choose_21 ⟨rfl, rfl, hS0, zFr_rf, trivial⟩
  · skip
    refine j_astore hx [(4, .ref r1), (0, .ref a), (1, .int (zI 1)), (2, .int (zI x2)), (3, .int (zI x3))] dX10_choose_5 (by decide) rfl ?_
    refine j_aload_n hx 1 dX10_choose_7 rfl ?_
    refine j_iload_n hx 2 dX10_choose_8 rfl ?_
    refine j_iconst hx dX10_choose_9 ?_
    refine j_iadd hx (r := 2) dX10_choose_10 (by omega) ?_
    refine j_callV hx hG (c_X10_boardAt hst a 2) lk_RX10_22 ha (by decide) rfl rfl rfl rfl [.int (zI 2)] ⟨rfl, hG, hS0, ha, (by omega)⟩ rfl rfl ⟨by decide, by decide⟩ ⟨by decide, by decide⟩ (k2 := 0) (n2 := 0) rfl rfl (Nat.le_of_ble_eq_true rfl) dX10_choose_11 (kNP (fun _ => ?_) (fun r5 q6 => ?_))
    · skip
      refine j_astoreN hx [(5, .null), (4, .ref r1), (0, .ref a), (1, .int (zI 1)), (2, .int (zI x2)), (3, .int (zI x3))] dX10_choose_14 (by decide) rfl ?_
      refine j_aload hx 1 dX10_choose_16 rfl ?_
      refine j_ifnonnull hx 22 dX10_choose_18 rfl ?_
      refine j_aloadN hx 0 dX10_choose_22 rfl ?_
      have c35_1 : ∀ (s2 : zS), (zSK G s2) → (zFr [1, 7, 41] G s0 s2) → JJ X E 8 G s2 0 0 [(0, .ref a), (2, .int (zI x2)), (4, .ref r1)] 35 [] := by
        intro s2 hS_s2 hF_s2
        refine j_aload_n hx 0 dX10_choose_35 rfl ?_
        refine j_aload hx 2 dX10_choose_36 rfl ?_
        refine j_aload_n hx 0 dX10_choose_38 rfl ?_
        have f7 := zf hS0 ha (k := 2) rfl
        refine g11_2 hx hG ha kf_RX10_41 (v := (s0 a 2)) (by rw [(zFr_g hF_s2 ha (by decide))]) dX10_choose_39 ?_
        refine j_callV hx hG (c_X0_cardsOf hst r1 ((s0 a 2))) lk_RX10_58 q2.1 (by decide) rfl rfl rfl rfl [.int (zI ((s0 a 2)))] ⟨rfl, hG, hS_s2, q2.1, (by omega)⟩ rfl rfl ⟨by decide, by decide⟩ ⟨by decide, by decide⟩ (k2 := 0) (n2 := 0) rfl rfl (Nat.le_of_ble_eq_true rfl) dX10_choose_42 (kIP (fun v8 q9 => ?_))
        refine j_iload_n hx 1 dX10_choose_45 rfl ?_
        refine j_callV hx hG (c_X10_keepBetter hst a v8 x2) lk_RX10_62 ha (by decide) rfl rfl rfl rfl [.int (zI v8), .int (zI x2)] ⟨rfl, hG, hS_s2, ha, (by omega), (by omega)⟩ rfl rfl ⟨by decide, by decide⟩ ⟨by decide, by decide⟩ (k2 := 0) (n2 := 0) rfl rfl (Nat.le_of_ble_eq_true rfl) dX10_choose_46 (kVM (fun s5 hS_s5 hF_s5 q11 => ?_))
        exact j_vret hx hq rfl (by decide) (by decide) dX10_choose_49 ⟨rfl, rfl, hS_s5, (zFr_t (zFr_t zFr_rf hF_s2 (by decide)) hF_s5 (by decide)), trivial⟩
      refine j_ifnullN hx 35 dX10_choose_24 rfl ?_
      exact j_sub [2, 4, 1] [(0, .ref a), (2, .int (zI x2)), (4, .ref r1)] rfl (c35_1 s0 hS0 zFr_rf)
    · skip
      refine j_astore hx [(5, .ref r5), (4, .ref r1), (0, .ref a), (1, .int (zI 1)), (2, .int (zI x2)), (3, .int (zI x3))] dX10_choose_14 (by decide) rfl ?_
      refine j_aload hx 1 dX10_choose_16 rfl ?_
      refine j_ifnonnull hx 22 dX10_choose_18 rfl ?_
      refine j_aload hx 0 dX10_choose_22 rfl ?_
      have c35_6 : ∀ (s7 : zS), (zSK G s7) → (zFr [1, 7, 41] G s0 s7) → JJ X E 8 G s7 0 0 [(0, .ref a), (2, .int (zI x2)), (4, .ref r1)] 35 [] := by
        intro s7 hS_s7 hF_s7
        refine j_aload_n hx 0 dX10_choose_35 rfl ?_
        refine j_aload hx 2 dX10_choose_36 rfl ?_
        refine j_aload_n hx 0 dX10_choose_38 rfl ?_
        have f12 := zf hS0 ha (k := 2) rfl
        refine g11_2 hx hG ha kf_RX10_41 (v := (s0 a 2)) (by rw [(zFr_g hF_s7 ha (by decide))]) dX10_choose_39 ?_
        refine j_callV hx hG (c_X0_cardsOf hst r1 ((s0 a 2))) lk_RX10_58 q2.1 (by decide) rfl rfl rfl rfl [.int (zI ((s0 a 2)))] ⟨rfl, hG, hS_s7, q2.1, (by omega)⟩ rfl rfl ⟨by decide, by decide⟩ ⟨by decide, by decide⟩ (k2 := 0) (n2 := 0) rfl rfl (Nat.le_of_ble_eq_true rfl) dX10_choose_42 (kIP (fun v13 q14 => ?_))
        refine j_iload_n hx 1 dX10_choose_45 rfl ?_
        refine j_callV hx hG (c_X10_keepBetter hst a v13 x2) lk_RX10_62 ha (by decide) rfl rfl rfl rfl [.int (zI v13), .int (zI x2)] ⟨rfl, hG, hS_s7, ha, (by omega), (by omega)⟩ rfl rfl ⟨by decide, by decide⟩ ⟨by decide, by decide⟩ (k2 := 0) (n2 := 0) rfl rfl (Nat.le_of_ble_eq_true rfl) dX10_choose_46 (kVM (fun s10 hS_s10 hF_s10 q16 => ?_))
        exact j_vret hx hq rfl (by decide) (by decide) dX10_choose_49 ⟨rfl, rfl, hS_s10, (zFr_t (zFr_t zFr_rf hF_s7 (by decide)) hF_s10 (by decide)), trivial⟩
      refine j_ifnull hx dX10_choose_24 ?_
      refine j_aload hx 1 dX10_choose_27 rfl ?_
      refine j_callV hx hG (c_X0_step hst r1) lk_RX10_33 q2.1 (by decide) rfl rfl rfl rfl [] ⟨rfl, hG, hS0, q2.1⟩ rfl rfl ⟨by decide, by decide⟩ ⟨by decide, by decide⟩ (k2 := 0) (n2 := 0) rfl rfl (Nat.le_of_ble_eq_true rfl) dX10_choose_29 (kIM (fun v17 s11 hS_s11 hF_s11 q18 => ?_))
      refine j_if_ne hx 50 dX10_choose_32 rfl (by omega) (fun h19 => ?_) (fun h19 => ?_)
      · skip
        refine j_aload hx 1 dX10_choose_50 rfl ?_
        refine j_callV hx hG (c_X0_likeTops hst r1) lk_RX10_37 q2.1 (by decide) rfl rfl rfl rfl [] ⟨rfl, hG, hS_s11, q2.1⟩ rfl rfl ⟨by decide, by decide⟩ ⟨by decide, by decide⟩ (k2 := 0) (n2 := 0) rfl rfl (Nat.le_of_ble_eq_true rfl) dX10_choose_52 (kIP (fun v20 q21 => ?_))
        refine j_istore hx [(6, .int (zI v20)), (5, .ref r5), (4, .ref r1), (0, .ref a), (1, .int (zI 1)), (2, .int (zI x2)), (3, .int (zI x3))] dX10_choose_55 (by decide) rfl ?_
        refine j_aload hx 2 dX10_choose_57 rfl ?_
        refine j_aload_n hx 3 dX10_choose_59 rfl ?_
        have f22 := zf hS0 ha (k := 2) rfl
        refine g11_2 hx hG ha kf_RX10_41 (v := (s0 a 2)) (by rw [(zFr_g hF_s11 ha (by decide))]) dX10_choose_60 ?_
        refine j_callV hx hG (c_X0_following hst r1 ((s0 a 2))) lk_RX10_66 q2.1 (by decide) rfl rfl rfl rfl [.int (zI ((s0 a 2)))] ⟨rfl, hG, hS_s11, q2.1, (by omega)⟩ rfl rfl ⟨by decide, by decide⟩ ⟨by decide, by decide⟩ (k2 := 0) (n2 := 0) rfl rfl (Nat.le_of_ble_eq_true rfl) dX10_choose_63 (kIP (fun v23 q24 => ?_))
        refine j_istore hx [(7, .int (zI v23)), (6, .int (zI v20)), (5, .ref r5), (4, .ref r1), (0, .ref a), (1, .int (zI 1)), (2, .int (zI x2)), (3, .int (zI x3))] dX10_choose_66 (by decide) rfl ?_
        refine j_aload hx 2 dX10_choose_68 rfl ?_
        refine j_aload hx 3 dX10_choose_70 rfl ?_
        refine j_callV hx hG (c_X0_become hst r5 r1) lk_RX10_26 q6.1 (by decide) rfl rfl rfl rfl [.ref r1] ⟨rfl, hG, hS_s11, q6.1, q2.1⟩ rfl rfl ⟨by decide, by decide⟩ ⟨by decide, by decide⟩ (k2 := 0) (n2 := 0) rfl rfl (Nat.le_of_ble_eq_true rfl) dX10_choose_72 (kVM (fun s12 hS_s12 hF_s12 q26 => ?_))
        refine j_iload hx 1 dX10_choose_75 rfl ?_
        refine j_iconst hx dX10_choose_77 ?_
        have c101_13 : ∀ (s14 : zS), (zSK G s14) → (zFr [7, 41] G s12 s14) → JJ X E 8 G s14 0 0 [(0, .ref a), (1, .int (zI 1)), (2, .int (zI x2)), (3, .int (zI x3)), (4, .ref r1), (5, .ref r5), (6, .int (zI v20))] 101 [] := by
          intro s14 hS_s14 hF_s14
          refine j_aload_n hx 0 dX10_choose_101 rfl ?_
          refine j_iload_n hx 1 dX10_choose_102 rfl ?_
          refine j_iconst hx dX10_choose_103 ?_
          refine j_iadd hx (r := 2) dX10_choose_104 (by omega) ?_
          refine j_iload_n hx 2 dX10_choose_105 rfl ?_
          refine j_iload_n hx 3 dX10_choose_106 rfl ?_
          refine j_callV hx hG (c_X10_choose_2 hst a 2 x2 x3) lk_RX10_54 ha (by decide) rfl rfl rfl rfl [.int (zI 2), .int (zI x2), .int (zI x3)] ⟨rfl, hG, hS_s14, ha, (by omega), (by omega), (by omega)⟩ rfl rfl ⟨by decide, by decide⟩ ⟨by decide, by decide⟩ (k2 := 0) (n2 := 0) rfl rfl (Nat.le_of_ble_eq_true rfl) dX10_choose_107 (kVM (fun s17 hS_s17 hF_s17 q28 => ?_))
          refine j_iload hx 6 dX10_choose_110 rfl ?_
          refine j_iconst hx dX10_choose_112 ?_
          refine j_icmp_eq hx 170 dX10_choose_113 rfl (by omega) ⟨by decide, by decide⟩ (fun h29 => ?_) (fun h29 => ?_)
          · skip
            exact j_vret hx hq rfl (by decide) (by decide) dX10_choose_170 ⟨rfl, rfl, hS_s17, (zFr_t (zFr_t (zFr_t (zFr_t zFr_rf hF_s11 (by decide)) hF_s12 (by decide)) hF_s14 (by decide)) hF_s17 (by decide)), trivial⟩
          · skip
            refine j_iload_n hx 3 dX10_choose_116 rfl ?_
            refine j_if_le hx 170 dX10_choose_117 rfl (by omega) (fun h30 => ?_) (fun h30 => ?_)
            · skip
              exact j_vret hx hq rfl (by decide) (by decide) dX10_choose_170 ⟨rfl, rfl, hS_s17, (zFr_t (zFr_t (zFr_t (zFr_t zFr_rf hF_s11 (by decide)) hF_s12 (by decide)) hF_s14 (by decide)) hF_s17 (by decide)), trivial⟩
            · skip
              refine j_aload hx 4 dX10_choose_120 rfl ?_
              refine j_aload_n hx 0 dX10_choose_122 rfl ?_
              have f31 := zf hS_s17 ha (k := 2) rfl
              refine g11_2 hx hG ha kf_RX10_41 rfl dX10_choose_123 ?_
              refine j_callV hx hG (c_X0_isOut hst r1 ((s17 a 2))) lk_RX10_73 q2.1 (by decide) rfl rfl rfl rfl [.int (zI ((s17 a 2)))] ⟨rfl, hG, hS_s17, q2.1, (by omega)⟩ rfl rfl ⟨by decide, by decide⟩ ⟨by decide, by decide⟩ (k2 := 0) (n2 := 0) rfl rfl (Nat.le_of_ble_eq_true rfl) dX10_choose_126 (kIP (fun v32 q33 => ?_))
              refine j_if_ne hx 170 dX10_choose_129 rfl (by omega) (fun h34 => ?_) (fun h34 => ?_)
              · skip
                exact j_vret hx hq rfl (by decide) (by decide) dX10_choose_170 ⟨rfl, rfl, hS_s17, (zFr_t (zFr_t (zFr_t (zFr_t zFr_rf hF_s11 (by decide)) hF_s12 (by decide)) hF_s14 (by decide)) hF_s17 (by decide)), trivial⟩
              · skip
                refine j_aload hx 5 dX10_choose_132 rfl ?_
                refine j_aload hx 4 dX10_choose_134 rfl ?_
                refine j_callV hx hG (c_X0_become hst r5 r1) lk_RX10_26 q6.1 (by decide) rfl rfl rfl rfl [.ref r1] ⟨rfl, hG, hS_s17, q6.1, q2.1⟩ rfl rfl ⟨by decide, by decide⟩ ⟨by decide, by decide⟩ (k2 := 0) (n2 := 0) rfl rfl (Nat.le_of_ble_eq_true rfl) dX10_choose_136 (kVM (fun s18 hS_s18 hF_s18 q36 => ?_))
                refine j_aload hx 5 dX10_choose_139 rfl ?_
                refine j_aload_n hx 0 dX10_choose_141 rfl ?_
                refine g11_2 hx hG ha kf_RX10_41 (v := (s17 a 2)) (by rw [(zFr_g hF_s18 ha (by decide))]) dX10_choose_142 ?_
                refine j_iload hx 6 dX10_choose_145 rfl ?_
                refine j_aload_n hx 0 dX10_choose_147 rfl ?_
                have f37 := zf hS_s17 ha (k := 3) rfl
                refine g11_3 hx hG ha kf_RX10_45 (v := (s17 a 3)) (by rw [(zFr_g hF_s18 ha (by decide))]) dX10_choose_148 ?_
                refine j_callV hx hG (c_X0_win hst r5 ((s17 a 2)) v20 ((s17 a 3))) lk_RX10_69 q6.1 (by decide) rfl rfl rfl rfl [.int (zI ((s17 a 2))), .int (zI v20), .int (zI ((s17 a 3)))] ⟨rfl, hG, hS_s18, q6.1, (by omega), (by omega), (by omega)⟩ rfl rfl ⟨by decide, by decide⟩ ⟨by decide, by decide⟩ (k2 := 0) (n2 := 0) rfl rfl (Nat.le_of_ble_eq_true rfl) dX10_choose_151 (kIM (fun v38 s19 hS_s19 hF_s19 q39 => ?_))
                refine j_pop hx dX10_choose_154 rfl ?_
                refine j_aload_n hx 0 dX10_choose_155 rfl ?_
                refine j_iload_n hx 1 dX10_choose_156 rfl ?_
                refine j_iconst hx dX10_choose_157 ?_
                refine j_iadd hx (r := 2) dX10_choose_158 (by omega) ?_
                refine j_iload_n hx 2 dX10_choose_159 rfl ?_
                refine j_iconst hx dX10_choose_160 ?_
                refine j_iload_n hx 1 dX10_choose_161 rfl ?_
                refine j_ishl hx dX10_choose_162 (fun v40 f41 f42 => ?_)
                refine j_ior hx dX10_choose_163 (fun v43 f44 f45 => ?_)
                refine j_iload_n hx 3 dX10_choose_164 rfl ?_
                refine j_iconst hx dX10_choose_165 ?_
                refine j_isub hx (r := x3 - 1) dX10_choose_166 rfl ?_
                refine j_callV hx hG (c_X10_choose_2 hst a 2 v43 (x3 - 1)) lk_RX10_54 ha (by decide) rfl rfl rfl rfl [.int (zI 2), .int (zI v43), .int (zI (x3 - 1))] ⟨rfl, hG, hS_s19, ha, (by omega), (by omega), (by omega)⟩ rfl rfl ⟨by decide, by decide⟩ ⟨by decide, by decide⟩ (k2 := 0) (n2 := 0) rfl rfl (Nat.le_of_ble_eq_true rfl) dX10_choose_167 (kVM (fun s20 hS_s20 hF_s20 q47 => ?_))
                exact j_vret hx hq rfl (by decide) (by decide) dX10_choose_170 ⟨rfl, rfl, hS_s20, (zFr_t (zFr_t (zFr_t (zFr_t (zFr_t (zFr_t (zFr_t zFr_rf hF_s11 (by decide)) hF_s12 (by decide)) hF_s14 (by decide)) hF_s17 (by decide)) hF_s18 (by decide)) hF_s19 (by decide)) hF_s20 (by decide)), trivial⟩
        refine j_icmp_eq hx 101 dX10_choose_78 rfl (by omega) ⟨by decide, by decide⟩ (fun h48 => ?_) (fun h48 => ?_)
        · skip
          exact j_sub [4, 5, 6, 7, 3, 2, 1] [(0, .ref a), (1, .int (zI 1)), (2, .int (zI x2)), (3, .int (zI x3)), (4, .ref r1), (5, .ref r5), (6, .int (zI v20))] rfl (c101_13 s12 hS_s12 zFr_rf)
        · skip
          refine j_iload hx 0 dX10_choose_81 rfl ?_
          refine j_iconst hx dX10_choose_83 ?_
          refine j_icmp_eq hx 101 dX10_choose_84 rfl (by omega) ⟨by decide, by decide⟩ (fun h49 => ?_) (fun h49 => ?_)
          · skip
            exact j_sub [4, 5, 6, 7, 3, 2, 1] [(0, .ref a), (1, .int (zI 1)), (2, .int (zI x2)), (3, .int (zI x3)), (4, .ref r1), (5, .ref r5), (6, .int (zI v20))] rfl (c101_13 s12 hS_s12 zFr_rf)
          · skip
            refine j_aload hx 2 dX10_choose_87 rfl ?_
            refine j_iload hx 0 dX10_choose_89 rfl ?_
            refine j_iload hx 1 dX10_choose_91 rfl ?_
            refine j_aload_n hx 4 dX10_choose_93 rfl ?_
            have f50 := zf hS0 ha (k := 3) rfl
            refine g11_3 hx hG ha kf_RX10_45 (v := (s0 a 3)) (by rw [(zFr_g hF_s12 ha (by decide)), (zFr_g hF_s11 ha (by decide))]) dX10_choose_94 ?_
            refine j_callV hx hG (c_X0_win hst r5 v23 v20 ((s0 a 3))) lk_RX10_69 q6.1 (by decide) rfl rfl rfl rfl [.int (zI v23), .int (zI v20), .int (zI ((s0 a 3)))] ⟨rfl, hG, hS_s12, q6.1, (by omega), (by omega), (by omega)⟩ rfl rfl ⟨by decide, by decide⟩ ⟨by decide, by decide⟩ (k2 := 0) (n2 := 0) rfl rfl (Nat.le_of_ble_eq_true rfl) dX10_choose_97 (kIM (fun v51 s21 hS_s21 hF_s21 q52 => ?_))
            refine j_pop hx dX10_choose_100 rfl ?_
            exact j_sub [4, 5, 6, 7, 3, 2, 1] [(0, .ref a), (1, .int (zI 1)), (2, .int (zI x2)), (3, .int (zI x3)), (4, .ref r1), (5, .ref r5), (6, .int (zI v20))] rfl (c101_13 s21 hS_s21 (zFr_t zFr_rf hF_s21 (by decide)))
      · skip
        exact j_sub [2, 4, 1] [(0, .ref a), (2, .int (zI x2)), (4, .ref r1)] rfl (c35_6 s11 hS_s11 (zFr_t zFr_rf hF_s11 (by decide)))

set_option maxHeartbeats 4000000 in
set_option maxRecDepth 20000 in
theorem c_X10_choose_0 {E : zE} {l : Launch} (hst : l.stackTraces = false) (a : Nat) (x1 : Int) (x2 : Int) (x3 : Int) : Con E l yX10_choose cX10_choose 8 none { frames := 15, cells := 0, slots := 0, locals := 383 } (fun G s vs => vs = [.ref a, .int (zI x1), .int (zI x2), .int (zI x3)] ∧ zGK G ∧ zSK G s ∧ (gT G a = 11) ∧ (0 ≤ x1 ∧ x1 ≤ 0) ∧ ((-2147483648) ≤ x2 ∧ x2 ≤ 2147483647) ∧ (0 ≤ x3 ∧ x3 ≤ 4)) (fun G s _ => pV (fun G2 s2 => G2 = G ∧ zSK G s2 ∧ zFr [1, 7, 11, 41] G s s2 ∧ True)) := by
  refine Con.mk hst (by decide) (fun G s vs h => by rw [h.1]; exact Nat.le_of_ble_eq_true rfl) ?_
  rintro X G s0 vs ⟨rfl, hG, hS0, ha, hx1, hx2, hx3⟩ rfl hx hq
  obtain rfl : x1 = 0 := by omega
  show JJ X E 8 G s0 0 0 [(0, .ref a), (1, .int (zI 0)), (2, .int (zI x2)), (3, .int (zI x3))] 0 []
  refine j_aload_n hx 0 dX10_choose_0 rfl ?_
  refine j_iload_n hx 1 dX10_choose_1 rfl ?_
  refine j_callV hx hG (c_X10_boardAt hst a 0) lk_RX10_22 ha (by decide) rfl rfl rfl rfl [.int (zI 0)] ⟨rfl, hG, hS0, ha, (by omega)⟩ rfl rfl ⟨by decide, by decide⟩ ⟨by decide, by decide⟩ (k2 := 0) (n2 := 0) rfl rfl (Nat.le_of_ble_eq_true rfl) dX10_choose_2 (kNP (fun _ => ?_) (fun r1 q2 => ?_))
  · skip
    refine j_astoreN hx [(4, .null), (0, .ref a), (1, .int (zI 0)), (2, .int (zI x2)), (3, .int (zI x3))] dX10_choose_5 (by decide) rfl ?_
    refine j_aload_n hx 1 dX10_choose_7 rfl ?_
    refine j_iload_n hx 2 dX10_choose_8 rfl ?_
    refine j_iconst hx dX10_choose_9 ?_
    refine j_iadd hx (r := 1) dX10_choose_10 (by omega) ?_
    refine j_callV hx hG (c_X10_boardAt hst a 1) lk_RX10_22 ha (by decide) rfl rfl rfl rfl [.int (zI 1)] ⟨rfl, hG, hS0, ha, (by omega)⟩ rfl rfl ⟨by decide, by decide⟩ ⟨by decide, by decide⟩ (k2 := 0) (n2 := 0) rfl rfl (Nat.le_of_ble_eq_true rfl) dX10_choose_11 (kNP (fun _ => ?_) (fun r3 q4 => ?_))
    · skip
      refine j_astoreN hx [(5, .null), (4, .null), (0, .ref a), (1, .int (zI 0)), (2, .int (zI x2)), (3, .int (zI x3))] dX10_choose_14 (by decide) rfl ?_
      refine j_aloadN hx 1 dX10_choose_16 rfl ?_
      refine j_ifnonnullN hx dX10_choose_18 ?_
      exact j_vret hx hq rfl (by decide) (by decide) dX10_choose_21 ⟨rfl, rfl, hS0, zFr_rf, trivial⟩
    · skip
      refine j_astore hx [(5, .ref r3), (4, .null), (0, .ref a), (1, .int (zI 0)), (2, .int (zI x2)), (3, .int (zI x3))] dX10_choose_14 (by decide) rfl ?_
      refine j_aloadN hx 1 dX10_choose_16 rfl ?_
      refine j_ifnonnullN hx dX10_choose_18 ?_
      exact j_vret hx hq rfl (by decide) (by decide) dX10_choose_21 ⟨rfl, rfl, hS0, zFr_rf, trivial⟩
  · skip
    refine j_astore hx [(4, .ref r1), (0, .ref a), (1, .int (zI 0)), (2, .int (zI x2)), (3, .int (zI x3))] dX10_choose_5 (by decide) rfl ?_
    refine j_aload_n hx 1 dX10_choose_7 rfl ?_
    refine j_iload_n hx 2 dX10_choose_8 rfl ?_
    refine j_iconst hx dX10_choose_9 ?_
    refine j_iadd hx (r := 1) dX10_choose_10 (by omega) ?_
    refine j_callV hx hG (c_X10_boardAt hst a 1) lk_RX10_22 ha (by decide) rfl rfl rfl rfl [.int (zI 1)] ⟨rfl, hG, hS0, ha, (by omega)⟩ rfl rfl ⟨by decide, by decide⟩ ⟨by decide, by decide⟩ (k2 := 0) (n2 := 0) rfl rfl (Nat.le_of_ble_eq_true rfl) dX10_choose_11 (kNP (fun _ => ?_) (fun r5 q6 => ?_))
    · skip
      refine j_astoreN hx [(5, .null), (4, .ref r1), (0, .ref a), (1, .int (zI 0)), (2, .int (zI x2)), (3, .int (zI x3))] dX10_choose_14 (by decide) rfl ?_
      refine j_aload hx 1 dX10_choose_16 rfl ?_
      refine j_ifnonnull hx 22 dX10_choose_18 rfl ?_
      refine j_aloadN hx 0 dX10_choose_22 rfl ?_
      have c35_1 : ∀ (s2 : zS), (zSK G s2) → (zFr [1, 7, 41] G s0 s2) → JJ X E 8 G s2 0 0 [(0, .ref a), (2, .int (zI x2)), (4, .ref r1)] 35 [] := by
        intro s2 hS_s2 hF_s2
        refine j_aload_n hx 0 dX10_choose_35 rfl ?_
        refine j_aload hx 2 dX10_choose_36 rfl ?_
        refine j_aload_n hx 0 dX10_choose_38 rfl ?_
        have f7 := zf hS0 ha (k := 2) rfl
        refine g11_2 hx hG ha kf_RX10_41 (v := (s0 a 2)) (by rw [(zFr_g hF_s2 ha (by decide))]) dX10_choose_39 ?_
        refine j_callV hx hG (c_X0_cardsOf hst r1 ((s0 a 2))) lk_RX10_58 q2.1 (by decide) rfl rfl rfl rfl [.int (zI ((s0 a 2)))] ⟨rfl, hG, hS_s2, q2.1, (by omega)⟩ rfl rfl ⟨by decide, by decide⟩ ⟨by decide, by decide⟩ (k2 := 0) (n2 := 0) rfl rfl (Nat.le_of_ble_eq_true rfl) dX10_choose_42 (kIP (fun v8 q9 => ?_))
        refine j_iload_n hx 1 dX10_choose_45 rfl ?_
        refine j_callV hx hG (c_X10_keepBetter hst a v8 x2) lk_RX10_62 ha (by decide) rfl rfl rfl rfl [.int (zI v8), .int (zI x2)] ⟨rfl, hG, hS_s2, ha, (by omega), (by omega)⟩ rfl rfl ⟨by decide, by decide⟩ ⟨by decide, by decide⟩ (k2 := 0) (n2 := 0) rfl rfl (Nat.le_of_ble_eq_true rfl) dX10_choose_46 (kVM (fun s5 hS_s5 hF_s5 q11 => ?_))
        exact j_vret hx hq rfl (by decide) (by decide) dX10_choose_49 ⟨rfl, rfl, hS_s5, (zFr_t (zFr_t zFr_rf hF_s2 (by decide)) hF_s5 (by decide)), trivial⟩
      refine j_ifnullN hx 35 dX10_choose_24 rfl ?_
      exact j_sub [2, 4, 1] [(0, .ref a), (2, .int (zI x2)), (4, .ref r1)] rfl (c35_1 s0 hS0 zFr_rf)
    · skip
      refine j_astore hx [(5, .ref r5), (4, .ref r1), (0, .ref a), (1, .int (zI 0)), (2, .int (zI x2)), (3, .int (zI x3))] dX10_choose_14 (by decide) rfl ?_
      refine j_aload hx 1 dX10_choose_16 rfl ?_
      refine j_ifnonnull hx 22 dX10_choose_18 rfl ?_
      refine j_aload hx 0 dX10_choose_22 rfl ?_
      have c35_6 : ∀ (s7 : zS), (zSK G s7) → (zFr [1, 7, 41] G s0 s7) → JJ X E 8 G s7 0 0 [(0, .ref a), (2, .int (zI x2)), (4, .ref r1)] 35 [] := by
        intro s7 hS_s7 hF_s7
        refine j_aload_n hx 0 dX10_choose_35 rfl ?_
        refine j_aload hx 2 dX10_choose_36 rfl ?_
        refine j_aload_n hx 0 dX10_choose_38 rfl ?_
        have f12 := zf hS0 ha (k := 2) rfl
        refine g11_2 hx hG ha kf_RX10_41 (v := (s0 a 2)) (by rw [(zFr_g hF_s7 ha (by decide))]) dX10_choose_39 ?_
        refine j_callV hx hG (c_X0_cardsOf hst r1 ((s0 a 2))) lk_RX10_58 q2.1 (by decide) rfl rfl rfl rfl [.int (zI ((s0 a 2)))] ⟨rfl, hG, hS_s7, q2.1, (by omega)⟩ rfl rfl ⟨by decide, by decide⟩ ⟨by decide, by decide⟩ (k2 := 0) (n2 := 0) rfl rfl (Nat.le_of_ble_eq_true rfl) dX10_choose_42 (kIP (fun v13 q14 => ?_))
        refine j_iload_n hx 1 dX10_choose_45 rfl ?_
        refine j_callV hx hG (c_X10_keepBetter hst a v13 x2) lk_RX10_62 ha (by decide) rfl rfl rfl rfl [.int (zI v13), .int (zI x2)] ⟨rfl, hG, hS_s7, ha, (by omega), (by omega)⟩ rfl rfl ⟨by decide, by decide⟩ ⟨by decide, by decide⟩ (k2 := 0) (n2 := 0) rfl rfl (Nat.le_of_ble_eq_true rfl) dX10_choose_46 (kVM (fun s10 hS_s10 hF_s10 q16 => ?_))
        exact j_vret hx hq rfl (by decide) (by decide) dX10_choose_49 ⟨rfl, rfl, hS_s10, (zFr_t (zFr_t zFr_rf hF_s7 (by decide)) hF_s10 (by decide)), trivial⟩
      refine j_ifnull hx dX10_choose_24 ?_
      refine j_aload hx 1 dX10_choose_27 rfl ?_
      refine j_callV hx hG (c_X0_step hst r1) lk_RX10_33 q2.1 (by decide) rfl rfl rfl rfl [] ⟨rfl, hG, hS0, q2.1⟩ rfl rfl ⟨by decide, by decide⟩ ⟨by decide, by decide⟩ (k2 := 0) (n2 := 0) rfl rfl (Nat.le_of_ble_eq_true rfl) dX10_choose_29 (kIM (fun v17 s11 hS_s11 hF_s11 q18 => ?_))
      refine j_if_ne hx 50 dX10_choose_32 rfl (by omega) (fun h19 => ?_) (fun h19 => ?_)
      · skip
        refine j_aload hx 1 dX10_choose_50 rfl ?_
        refine j_callV hx hG (c_X0_likeTops hst r1) lk_RX10_37 q2.1 (by decide) rfl rfl rfl rfl [] ⟨rfl, hG, hS_s11, q2.1⟩ rfl rfl ⟨by decide, by decide⟩ ⟨by decide, by decide⟩ (k2 := 0) (n2 := 0) rfl rfl (Nat.le_of_ble_eq_true rfl) dX10_choose_52 (kIP (fun v20 q21 => ?_))
        refine j_istore hx [(6, .int (zI v20)), (5, .ref r5), (4, .ref r1), (0, .ref a), (1, .int (zI 0)), (2, .int (zI x2)), (3, .int (zI x3))] dX10_choose_55 (by decide) rfl ?_
        refine j_aload hx 2 dX10_choose_57 rfl ?_
        refine j_aload_n hx 3 dX10_choose_59 rfl ?_
        have f22 := zf hS0 ha (k := 2) rfl
        refine g11_2 hx hG ha kf_RX10_41 (v := (s0 a 2)) (by rw [(zFr_g hF_s11 ha (by decide))]) dX10_choose_60 ?_
        refine j_callV hx hG (c_X0_following hst r1 ((s0 a 2))) lk_RX10_66 q2.1 (by decide) rfl rfl rfl rfl [.int (zI ((s0 a 2)))] ⟨rfl, hG, hS_s11, q2.1, (by omega)⟩ rfl rfl ⟨by decide, by decide⟩ ⟨by decide, by decide⟩ (k2 := 0) (n2 := 0) rfl rfl (Nat.le_of_ble_eq_true rfl) dX10_choose_63 (kIP (fun v23 q24 => ?_))
        refine j_istore hx [(7, .int (zI v23)), (6, .int (zI v20)), (5, .ref r5), (4, .ref r1), (0, .ref a), (1, .int (zI 0)), (2, .int (zI x2)), (3, .int (zI x3))] dX10_choose_66 (by decide) rfl ?_
        refine j_aload hx 2 dX10_choose_68 rfl ?_
        refine j_aload hx 3 dX10_choose_70 rfl ?_
        refine j_callV hx hG (c_X0_become hst r5 r1) lk_RX10_26 q6.1 (by decide) rfl rfl rfl rfl [.ref r1] ⟨rfl, hG, hS_s11, q6.1, q2.1⟩ rfl rfl ⟨by decide, by decide⟩ ⟨by decide, by decide⟩ (k2 := 0) (n2 := 0) rfl rfl (Nat.le_of_ble_eq_true rfl) dX10_choose_72 (kVM (fun s12 hS_s12 hF_s12 q26 => ?_))
        refine j_iload hx 1 dX10_choose_75 rfl ?_
        refine j_iconst hx dX10_choose_77 ?_
        have c101_13 : ∀ (s14 : zS), (zSK G s14) → (zFr [7, 41] G s12 s14) → JJ X E 8 G s14 0 0 [(0, .ref a), (1, .int (zI 0)), (2, .int (zI x2)), (3, .int (zI x3)), (4, .ref r1), (5, .ref r5), (6, .int (zI v20))] 101 [] := by
          intro s14 hS_s14 hF_s14
          refine j_aload_n hx 0 dX10_choose_101 rfl ?_
          refine j_iload_n hx 1 dX10_choose_102 rfl ?_
          refine j_iconst hx dX10_choose_103 ?_
          refine j_iadd hx (r := 1) dX10_choose_104 (by omega) ?_
          refine j_iload_n hx 2 dX10_choose_105 rfl ?_
          refine j_iload_n hx 3 dX10_choose_106 rfl ?_
          refine j_callV hx hG (c_X10_choose_1 hst a 1 x2 x3) lk_RX10_54 ha (by decide) rfl rfl rfl rfl [.int (zI 1), .int (zI x2), .int (zI x3)] ⟨rfl, hG, hS_s14, ha, (by omega), (by omega), (by omega)⟩ rfl rfl ⟨by decide, by decide⟩ ⟨by decide, by decide⟩ (k2 := 0) (n2 := 0) rfl rfl (Nat.le_of_ble_eq_true rfl) dX10_choose_107 (kVM (fun s17 hS_s17 hF_s17 q28 => ?_))
          refine j_iload hx 6 dX10_choose_110 rfl ?_
          refine j_iconst hx dX10_choose_112 ?_
          refine j_icmp_eq hx 170 dX10_choose_113 rfl (by omega) ⟨by decide, by decide⟩ (fun h29 => ?_) (fun h29 => ?_)
          · skip
            exact j_vret hx hq rfl (by decide) (by decide) dX10_choose_170 ⟨rfl, rfl, hS_s17, (zFr_t (zFr_t (zFr_t (zFr_t zFr_rf hF_s11 (by decide)) hF_s12 (by decide)) hF_s14 (by decide)) hF_s17 (by decide)), trivial⟩
          · skip
            refine j_iload_n hx 3 dX10_choose_116 rfl ?_
            refine j_if_le hx 170 dX10_choose_117 rfl (by omega) (fun h30 => ?_) (fun h30 => ?_)
            · skip
              exact j_vret hx hq rfl (by decide) (by decide) dX10_choose_170 ⟨rfl, rfl, hS_s17, (zFr_t (zFr_t (zFr_t (zFr_t zFr_rf hF_s11 (by decide)) hF_s12 (by decide)) hF_s14 (by decide)) hF_s17 (by decide)), trivial⟩
            · skip
              refine j_aload hx 4 dX10_choose_120 rfl ?_
              refine j_aload_n hx 0 dX10_choose_122 rfl ?_
              have f31 := zf hS_s17 ha (k := 2) rfl
              refine g11_2 hx hG ha kf_RX10_41 rfl dX10_choose_123 ?_
              refine j_callV hx hG (c_X0_isOut hst r1 ((s17 a 2))) lk_RX10_73 q2.1 (by decide) rfl rfl rfl rfl [.int (zI ((s17 a 2)))] ⟨rfl, hG, hS_s17, q2.1, (by omega)⟩ rfl rfl ⟨by decide, by decide⟩ ⟨by decide, by decide⟩ (k2 := 0) (n2 := 0) rfl rfl (Nat.le_of_ble_eq_true rfl) dX10_choose_126 (kIP (fun v32 q33 => ?_))
              refine j_if_ne hx 170 dX10_choose_129 rfl (by omega) (fun h34 => ?_) (fun h34 => ?_)
              · skip
                exact j_vret hx hq rfl (by decide) (by decide) dX10_choose_170 ⟨rfl, rfl, hS_s17, (zFr_t (zFr_t (zFr_t (zFr_t zFr_rf hF_s11 (by decide)) hF_s12 (by decide)) hF_s14 (by decide)) hF_s17 (by decide)), trivial⟩
              · skip
                refine j_aload hx 5 dX10_choose_132 rfl ?_
                refine j_aload hx 4 dX10_choose_134 rfl ?_
                refine j_callV hx hG (c_X0_become hst r5 r1) lk_RX10_26 q6.1 (by decide) rfl rfl rfl rfl [.ref r1] ⟨rfl, hG, hS_s17, q6.1, q2.1⟩ rfl rfl ⟨by decide, by decide⟩ ⟨by decide, by decide⟩ (k2 := 0) (n2 := 0) rfl rfl (Nat.le_of_ble_eq_true rfl) dX10_choose_136 (kVM (fun s18 hS_s18 hF_s18 q36 => ?_))
                refine j_aload hx 5 dX10_choose_139 rfl ?_
                refine j_aload_n hx 0 dX10_choose_141 rfl ?_
                refine g11_2 hx hG ha kf_RX10_41 (v := (s17 a 2)) (by rw [(zFr_g hF_s18 ha (by decide))]) dX10_choose_142 ?_
                refine j_iload hx 6 dX10_choose_145 rfl ?_
                refine j_aload_n hx 0 dX10_choose_147 rfl ?_
                have f37 := zf hS_s17 ha (k := 3) rfl
                refine g11_3 hx hG ha kf_RX10_45 (v := (s17 a 3)) (by rw [(zFr_g hF_s18 ha (by decide))]) dX10_choose_148 ?_
                refine j_callV hx hG (c_X0_win hst r5 ((s17 a 2)) v20 ((s17 a 3))) lk_RX10_69 q6.1 (by decide) rfl rfl rfl rfl [.int (zI ((s17 a 2))), .int (zI v20), .int (zI ((s17 a 3)))] ⟨rfl, hG, hS_s18, q6.1, (by omega), (by omega), (by omega)⟩ rfl rfl ⟨by decide, by decide⟩ ⟨by decide, by decide⟩ (k2 := 0) (n2 := 0) rfl rfl (Nat.le_of_ble_eq_true rfl) dX10_choose_151 (kIM (fun v38 s19 hS_s19 hF_s19 q39 => ?_))
                refine j_pop hx dX10_choose_154 rfl ?_
                refine j_aload_n hx 0 dX10_choose_155 rfl ?_
                refine j_iload_n hx 1 dX10_choose_156 rfl ?_
                refine j_iconst hx dX10_choose_157 ?_
                refine j_iadd hx (r := 1) dX10_choose_158 (by omega) ?_
                refine j_iload_n hx 2 dX10_choose_159 rfl ?_
                refine j_iconst hx dX10_choose_160 ?_
                refine j_iload_n hx 1 dX10_choose_161 rfl ?_
                refine j_ishl hx dX10_choose_162 (fun v40 f41 f42 => ?_)
                refine j_ior hx dX10_choose_163 (fun v43 f44 f45 => ?_)
                refine j_iload_n hx 3 dX10_choose_164 rfl ?_
                refine j_iconst hx dX10_choose_165 ?_
                refine j_isub hx (r := x3 - 1) dX10_choose_166 rfl ?_
                refine j_callV hx hG (c_X10_choose_1 hst a 1 v43 (x3 - 1)) lk_RX10_54 ha (by decide) rfl rfl rfl rfl [.int (zI 1), .int (zI v43), .int (zI (x3 - 1))] ⟨rfl, hG, hS_s19, ha, (by omega), (by omega), (by omega)⟩ rfl rfl ⟨by decide, by decide⟩ ⟨by decide, by decide⟩ (k2 := 0) (n2 := 0) rfl rfl (Nat.le_of_ble_eq_true rfl) dX10_choose_167 (kVM (fun s20 hS_s20 hF_s20 q47 => ?_))
                exact j_vret hx hq rfl (by decide) (by decide) dX10_choose_170 ⟨rfl, rfl, hS_s20, (zFr_t (zFr_t (zFr_t (zFr_t (zFr_t (zFr_t (zFr_t zFr_rf hF_s11 (by decide)) hF_s12 (by decide)) hF_s14 (by decide)) hF_s17 (by decide)) hF_s18 (by decide)) hF_s19 (by decide)) hF_s20 (by decide)), trivial⟩
        refine j_icmp_eq hx 101 dX10_choose_78 rfl (by omega) ⟨by decide, by decide⟩ (fun h48 => ?_) (fun h48 => ?_)
        · skip
          exact j_sub [4, 5, 6, 7, 3, 2, 1] [(0, .ref a), (1, .int (zI 0)), (2, .int (zI x2)), (3, .int (zI x3)), (4, .ref r1), (5, .ref r5), (6, .int (zI v20))] rfl (c101_13 s12 hS_s12 zFr_rf)
        · skip
          refine j_iload hx 0 dX10_choose_81 rfl ?_
          refine j_iconst hx dX10_choose_83 ?_
          refine j_icmp_eq hx 101 dX10_choose_84 rfl (by omega) ⟨by decide, by decide⟩ (fun h49 => ?_) (fun h49 => ?_)
          · skip
            exact j_sub [4, 5, 6, 7, 3, 2, 1] [(0, .ref a), (1, .int (zI 0)), (2, .int (zI x2)), (3, .int (zI x3)), (4, .ref r1), (5, .ref r5), (6, .int (zI v20))] rfl (c101_13 s12 hS_s12 zFr_rf)
          · skip
            refine j_aload hx 2 dX10_choose_87 rfl ?_
            refine j_iload hx 0 dX10_choose_89 rfl ?_
            refine j_iload hx 1 dX10_choose_91 rfl ?_
            refine j_aload_n hx 4 dX10_choose_93 rfl ?_
            have f50 := zf hS0 ha (k := 3) rfl
            refine g11_3 hx hG ha kf_RX10_45 (v := (s0 a 3)) (by rw [(zFr_g hF_s12 ha (by decide)), (zFr_g hF_s11 ha (by decide))]) dX10_choose_94 ?_
            refine j_callV hx hG (c_X0_win hst r5 v23 v20 ((s0 a 3))) lk_RX10_69 q6.1 (by decide) rfl rfl rfl rfl [.int (zI v23), .int (zI v20), .int (zI ((s0 a 3)))] ⟨rfl, hG, hS_s12, q6.1, (by omega), (by omega), (by omega)⟩ rfl rfl ⟨by decide, by decide⟩ ⟨by decide, by decide⟩ (k2 := 0) (n2 := 0) rfl rfl (Nat.le_of_ble_eq_true rfl) dX10_choose_97 (kIM (fun v51 s21 hS_s21 hF_s21 q52 => ?_))
            refine j_pop hx dX10_choose_100 rfl ?_
            exact j_sub [4, 5, 6, 7, 3, 2, 1] [(0, .ref a), (1, .int (zI 0)), (2, .int (zI x2)), (3, .int (zI x3)), (4, .ref r1), (5, .ref r5), (6, .int (zI v20))] rfl (c101_13 s21 hS_s21 (zFr_t zFr_rf hF_s21 (by decide)))
      · skip
        exact j_sub [2, 4, 1] [(0, .ref a), (2, .int (zI x2)), (4, .ref r1)] rfl (c35_6 s11 hS_s11 (zFr_t zFr_rf hF_s11 (by decide)))

set_option maxHeartbeats 4000000 in
set_option maxRecDepth 20000 in
theorem c_X10_remembering {E : zE} {l : Launch} (hst : l.stackTraces = false) (a : Nat) (b1 : Nat) (x2 : Int) (x3 : Int) (x4 : Int) : Con E l yX10_remembering cX10_remembering 5 none { frames := 16, cells := 0, slots := 0, locals := 410 } (fun G s vs => vs = [.ref a, .ref b1, .int (zI x2), .int (zI x3), .int (zI x4)] ∧ zGK G ∧ zSK G s ∧ (gT G a = 11) ∧ (gT G b1 = 1) ∧ ((-2147483648) ≤ x2 ∧ x2 ≤ 2147483647) ∧ (0 ≤ x3 ∧ x3 ≤ 4) ∧ ((-2147483648) ≤ x4 ∧ x4 ≤ 2147483647)) (fun G s _ => pV (fun G2 s2 => G2 = G ∧ zSK G s2 ∧ zFr [1, 7, 11, 41] G s s2 ∧ True)) := by
  refine Con.mk hst (by decide) (fun G s vs h => by rw [h.1]; exact Nat.le_of_ble_eq_true rfl) ?_
  rintro X G s0 vs ⟨rfl, hG, hS0, ha, hb1, hx2, hx3, hx4⟩ rfl hx hq
  show JJ X E 5 G s0 0 0 [(0, .ref a), (1, .ref b1), (2, .int (zI x2)), (3, .int (zI x3)), (4, .int (zI x4))] 0 []
  refine j_aload_n hx 0 dX10_remembering_0 rfl ?_
  refine j_aload_n hx 1 dX10_remembering_1 rfl ?_
  refine j_callV hx hG (c_X10_start hst a b1) lk_RX10_30 ha (by decide) rfl rfl rfl rfl [.ref b1] ⟨rfl, hG, hS0, ha, hb1⟩ rfl rfl ⟨by decide, by decide⟩ ⟨by decide, by decide⟩ (k2 := 0) (n2 := 0) rfl rfl (Nat.le_of_ble_eq_true rfl) dX10_remembering_2 (kVM (fun s1 hS_s1 hF_s1 q2 => ?_))
  refine j_aload_n hx 0 dX10_remembering_5 rfl ?_
  refine j_iload_n hx 2 dX10_remembering_6 rfl ?_
  refine p11_2 hx hG ha kf_RX10_41 dX10_remembering_7 ?_
  obtain ⟨s2, e_s2⟩ : ∃ z, z = zU s1 a 2 x2 := ⟨_, rfl⟩
  rw [← e_s2]
  have hS_s2 : zSK G s2 := by rw [e_s2]; exact zSK_F hS_s1 ha rfl rfl rfl (by omega)
  refine j_aload_n hx 0 dX10_remembering_10 rfl ?_
  refine j_iload hx 4 dX10_remembering_11 rfl ?_
  refine p11_3 hx hG ha kf_RX10_45 dX10_remembering_13 ?_
  obtain ⟨s3, e_s3⟩ : ∃ z, z = zU s2 a 3 x4 := ⟨_, rfl⟩
  rw [← e_s3]
  have hS_s3 : zSK G s3 := by rw [e_s3]; exact zSK_F hS_s2 ha rfl rfl rfl (by omega)
  refine j_aload_n hx 0 dX10_remembering_16 rfl ?_
  refine j_iconst hx dX10_remembering_17 ?_
  refine p11_5 hx hG ha kf_RX10_48 dX10_remembering_18 ?_
  obtain ⟨s4, e_s4⟩ : ∃ z, z = zU s3 a 5 (-1) := ⟨_, rfl⟩
  rw [← e_s4]
  have hS_s4 : zSK G s4 := by rw [e_s4]; exact zSK_F hS_s3 ha rfl rfl rfl (by omega)
  refine j_aload_n hx 0 dX10_remembering_21 rfl ?_
  refine j_iconst hx dX10_remembering_22 ?_
  refine p11_6 hx hG ha kf_RX10_51 dX10_remembering_23 ?_
  obtain ⟨s5, e_s5⟩ : ∃ z, z = zU s4 a 6 0 := ⟨_, rfl⟩
  rw [← e_s5]
  have hS_s5 : zSK G s5 := by rw [e_s5]; exact zSK_F hS_s4 ha rfl rfl rfl (by omega)
  refine j_aload_n hx 0 dX10_remembering_26 rfl ?_
  refine j_iconst hx dX10_remembering_27 ?_
  refine j_iconst hx dX10_remembering_28 ?_
  refine j_iload_n hx 3 dX10_remembering_29 rfl ?_
  refine j_callV hx hG (c_X10_choose_0 hst a 0 0 x3) lk_RX10_54 ha (by decide) rfl rfl rfl rfl [.int (zI 0), .int (zI 0), .int (zI x3)] ⟨rfl, hG, hS_s5, ha, (by omega), (by omega), (by omega)⟩ rfl rfl ⟨by decide, by decide⟩ ⟨by decide, by decide⟩ (k2 := 0) (n2 := 0) rfl rfl (Nat.le_of_ble_eq_true rfl) dX10_remembering_30 (kVM (fun s6 hS_s6 hF_s6 q4 => ?_))
  exact j_vret hx hq rfl (by decide) (by decide) dX10_remembering_33 ⟨rfl, rfl, hS_s6, (zFr_t (zFr_u (zFr_u (zFr_u (zFr_u (zFr_t zFr_rf hF_s1 (by decide)) e_s2 ha (by decide)) e_s3 ha (by decide)) e_s4 ha (by decide)) e_s5 ha (by decide)) hF_s6 (by decide)), trivial⟩

theorem lk_RX11_284 : LkV RX11 284 RX10 yX10_remembering cX10_remembering 5 none 4 := ⟨km_RX11_284, ki_yX10_remembering, ks_RX10_yX10_remembering, kn_RX10, kc_yX10_remembering, rfl, by decide +kernel, by decide +kernel, by decide +kernel⟩
set_option maxHeartbeats 4000000 in
set_option maxRecDepth 20000 in
theorem c_X11_remember {E : zE} {l : Launch} (hst : l.stackTraces = false) (a : Nat) (x1 : Int) (x2 : Int) (x3 : Int) : ConX E l yX11_remember cX11_remember 4 (some .int) { frames := 17, cells := 3, slots := 18, locals := 434 } (fun G s vs => vs = [.ref a, .int (zI x1), .int (zI x2), .int (zI x3)] ∧ zGK G ∧ zSK G s ∧ (gT G a = 12) ∧ ((-2147483648) ≤ x1 ∧ x1 ≤ 2147483647) ∧ ((-2147483648) ≤ x2 ∧ x2 ≤ 2147483647) ∧ ((-2147483648) ≤ x3 ∧ x3 ≤ 2147483647)) (fun G s _ => pI (fun r G2 s2 => G2 = G ∧ zSK G s2 ∧ zFr [1, 7, 11, 41] G s s2 ∧ ((-2147483648) ≤ r ∧ r ≤ 2147483647))) (fun G s _ Ex G2 s2 => G2 = G ∧ zSK G s2 ∧ zFr [1, 7, 11, 12, 41] G s s2 ∧ ((Ex = "java/lang/IllegalArgumentException" ∧ (True)) ∨ (Ex = "java/util/NoSuchElementException" ∧ (True)))) := by
  refine ConX.mk hst (by decide) (fun G s vs h => by rw [h.1]; exact Nat.le_of_ble_eq_true rfl) ?_
  rintro X G s0 vs ⟨rfl, hG, hS0, ha, hx1, hx2, hx3⟩ rfl hx hq
  show JJ X E 4 G s0 0 0 [(0, .ref a), (1, .int (zI x1)), (2, .int (zI x2)), (3, .int (zI x3))] 0 []
  refine j_aload_n hx 0 dX11_remember_0 rfl ?_
  refine j_iload_n hx 1 dX11_remember_1 rfl ?_
  refine j_callVX hx hq hG (c_X11_needPlayer hst a x1) lk_RX11_134 ha (by decide) rfl rfl rfl rfl [.int (zI x1)] ⟨rfl, hG, hS0, ha, (by omega)⟩ rfl rfl ⟨by decide, by decide⟩ ⟨by decide, by decide⟩ (k2 := 1) (n2 := 6) rfl rfl (Nat.le_of_ble_eq_true rfl) ⟨by decide, by decide⟩ dX11_remember_2 (by rintro Ex9 G9 s9 ⟨rfl, hS9, hF9, e9, c9⟩; exact ⟨rfl, hS9, (zFr_t zFr_rf hF9 (by decide)), Or.inr ⟨e9, by first | trivial | omega⟩⟩) (kVP (fun q2 => ?_))
  refine j_aload_n hx 0 dX11_remember_5 rfl ?_
  refine j_iload_n hx 2 dX11_remember_6 rfl ?_
  refine j_iconst hx dX11_remember_7 ?_
  refine j_iconst hx dX11_remember_8 ?_
  refine j_callVX hx hq hG (c_X11_needRange hst a x2 0 4) lk_RX11_98 ha (by decide) rfl rfl rfl rfl [.int (zI x2), .int (zI 0), .int (zI 4)] ⟨rfl, hG, hS0, ha, (by omega), (by omega), (by omega)⟩ rfl rfl ⟨by decide, by decide⟩ ⟨by decide, by decide⟩ (k2 := 2) (n2 := 12) rfl rfl (Nat.le_of_ble_eq_true rfl) ⟨by decide, by decide⟩ dX11_remember_9 (by rintro Ex9 G9 s9 ⟨rfl, hS9, hF9, e9, c9⟩; exact ⟨rfl, hS9, (zFr_t zFr_rf hF9 (by decide)), Or.inl ⟨e9, by first | trivial | omega⟩⟩) (kVP (fun q4 => ?_))
  refine j_aload_n hx 0 dX11_remember_12 rfl ?_
  refine j_iload_n hx 3 dX11_remember_13 rfl ?_
  refine j_iconst hx dX11_remember_14 ?_
  refine j_iconst hx dX11_remember_15 ?_
  refine j_callVX hx hq hG (c_X11_needRange hst a x3 0 1) lk_RX11_98 ha (by decide) rfl rfl rfl rfl [.int (zI x3), .int (zI 0), .int (zI 1)] ⟨rfl, hG, hS0, ha, (by omega), (by omega), (by omega)⟩ rfl rfl ⟨by decide, by decide⟩ ⟨by decide, by decide⟩ (k2 := 3) (n2 := 18) rfl rfl (Nat.le_of_ble_eq_true rfl) ⟨by decide, by decide⟩ dX11_remember_16 (by rintro Ex9 G9 s9 ⟨rfl, hS9, hF9, e9, c9⟩; exact ⟨rfl, hS9, (zFr_t zFr_rf hF9 (by decide)), Or.inl ⟨e9, by first | trivial | omega⟩⟩) (kVP (fun q6 => ?_))
  refine j_aload_n hx 0 dX11_remember_19 rfl ?_
  refine g12_8 hx hG ha kf_RX11_62 dX11_remember_20 ?_
  refine j_aload_n hx 0 dX11_remember_23 rfl ?_
  refine g12_6 hx hG ha kf_RX11_48 dX11_remember_24 ?_
  refine gN4_1 hx hG (zr (k := 6) (t2 := 4) hG ha rfl) kf_RX11_155 dX11_remember_27 ?_
  refine j_iload_n hx 1 dX11_remember_30 rfl ?_
  refine j_iload_n hx 2 dX11_remember_31 rfl ?_
  refine j_aload_n hx 0 dX11_remember_32 rfl ?_
  refine g12_6 hx hG ha kf_RX11_48 dX11_remember_33 ?_
  refine j_iconst hx dX11_remember_36 ?_
  refine j_callV hx hG (c_X3_lawOf hst (gP G a 6) 2) lk_RX11_178 (zr (k := 6) (t2 := 4) hG ha rfl) (by decide) rfl rfl rfl rfl [.int (zI 2)] ⟨rfl, hG, hS0, (zr (k := 6) (t2 := 4) hG ha rfl), (by omega)⟩ rfl rfl ⟨by decide, by decide⟩ ⟨by decide, by decide⟩ (k2 := 3) (n2 := 18) rfl rfl (Nat.le_of_ble_eq_true rfl) dX11_remember_37 (kIP (fun v7 q8 => ?_))
  refine j_callV hx hG (c_X10_remembering hst (gP G a 8) (gP G (gP G a 6) 1) x1 x2 v7) lk_RX11_284 (zr (k := 8) (t2 := 11) hG ha rfl) (by decide) rfl rfl rfl rfl [.ref (gP G (gP G a 6) 1), .int (zI x1), .int (zI x2), .int (zI v7)] ⟨rfl, hG, hS0, (zr (k := 8) (t2 := 11) hG ha rfl), (zr (k := 1) (t2 := 1) hG (zr (k := 6) (t2 := 4) hG ha rfl) rfl), (by omega), (by omega), (by omega)⟩ rfl rfl ⟨by decide, by decide⟩ ⟨by decide, by decide⟩ (k2 := 3) (n2 := 18) rfl rfl (Nat.le_of_ble_eq_true rfl) dX11_remember_40 (kVM (fun s1 hS_s1 hF_s1 q10 => ?_))
  refine j_iload_n hx 3 dX11_remember_43 rfl ?_
  refine j_if_ne hx 57 dX11_remember_44 rfl (by omega) (fun h11 => ?_) (fun h11 => ?_)
  · skip
    refine j_aload_n hx 0 dX11_remember_57 rfl ?_
    refine g12_8 hx hG ha kf_RX11_62 dX11_remember_58 ?_
    have f12 := zf hS_s1 (zr (k := 8) (t2 := 11) hG ha rfl) (k := 6) rfl
    refine gN11_6 hx hG (zr (k := 8) (t2 := 11) hG ha rfl) kf_RX11_291 rfl dX11_remember_61 ?_
    exact j_iret hx hq.r rfl (by decide) (by decide) dX11_remember_64 ⟨(s1 (gP G a 8) 6), rfl, rfl, hS_s1, (zFr_t zFr_rf hF_s1 (by decide)), (by omega)⟩
  · skip
    refine j_aload_n hx 0 dX11_remember_47 rfl ?_
    refine g12_8 hx hG ha kf_RX11_62 dX11_remember_48 ?_
    have f13 := zf hS_s1 (zr (k := 8) (t2 := 11) hG ha rfl) (k := 5) rfl
    refine gN11_5 hx hG (zr (k := 8) (t2 := 11) hG ha rfl) kf_RX11_288 rfl dX11_remember_51 ?_
    refine j_goto hx 64 dX11_remember_54 rfl ?_
    exact j_iret hx hq.r rfl (by decide) (by decide) dX11_remember_64 ⟨(s1 (gP G a 8) 5), rfl, rfl, hS_s1, (zFr_t zFr_rf hF_s1 (by decide)), (by omega)⟩

theorem lk_RX8_32 : LkV RX8 32 RX8 yX8_trait cX8_trait 4 (some .int) 2 := ⟨km_RX8_32, ki_yX8_trait, ks_RX8_yX8_trait, kn_RX8, kc_yX8_trait, rfl, by decide +kernel, by decide +kernel, by decide +kernel⟩
set_option maxHeartbeats 4000000 in
set_option maxRecDepth 20000 in
theorem c_X8_allQuickness {E : zE} {l : Launch} (hst : l.stackTraces = false) (a : Nat) : Con E l yX8_allQuickness cX8_allQuickness 3 (some .int) { frames := 1, cells := 0, slots := 0, locals := 23 } (fun G s vs => vs = [.ref a] ∧ zGK G ∧ zSK G s ∧ (gT G a = 9)) (fun G s _ => pI (fun r G2 s2 => G2 = G ∧ s2 = s ∧ ((-2147483648) ≤ r ∧ r ≤ 2147483647))) := by
  refine Con.mk hst (by decide) (fun G s vs h => by rw [h.1]; exact Nat.le_of_ble_eq_true rfl) ?_
  rintro X G s0 vs ⟨rfl, hG, hS0, ha⟩ rfl hx hq
  show JJ X E 3 G s0 0 0 [(0, .ref a)] 0 []
  refine j_iconst hx dX8_allQuickness_0 ?_
  refine j_istore_n hx [(1, .int (zI 0)), (0, .ref a)] dX8_allQuickness_1 (by decide) rfl ?_
  refine j_iconst hx dX8_allQuickness_2 ?_
  refine j_istore_n hx [(2, .int (zI 0)), (1, .int (zI 0)), (0, .ref a)] dX8_allQuickness_3 (by decide) rfl ?_
  have c4_1 : ∀ (m_c4_1 : Nat) (v1 : Int) (v2 : Int), 2147483648 - v2 < m_c4_1 → ((-2147483648) ≤ v1 ∧ v1 ≤ 2147483647) → (0 ≤ v2 ∧ v2 ≤ 3) → JJ X E 3 G s0 0 0 [(0, .ref a), (1, .int (zI v1)), (2, .int (zI v2))] 4 [] := by
    intro m_c4_1
    induction m_c4_1 with
    | zero => intro v1 v2 hm_c4_1 fA2 fA3; exfalso; omega
    | succ m_c4_1 ih_c4_1 => 
      intro v1 v2 hm_c4_1 fA2 fA3
      refine j_iload_n hx 2 dX8_allQuickness_4 rfl ?_
      refine j_aload_n hx 0 dX8_allQuickness_5 rfl ?_
      have f3 := zf hS0 ha (k := 4) rfl
      refine g9_4 hx hG ha kf_RX8_28 rfl dX8_allQuickness_6 ?_
      refine j_icmp_ge hx 27 dX8_allQuickness_9 rfl (by omega) (by omega) (fun h4 => ?_) (fun h4 => ?_)
      · skip
        refine j_iload_n hx 1 dX8_allQuickness_27 rfl ?_
        exact j_iret hx hq rfl (by decide) (by decide) dX8_allQuickness_28 ⟨v1, rfl, rfl, rfl, (by omega)⟩
      · skip
        refine j_iload_n hx 1 dX8_allQuickness_12 rfl ?_
        refine j_aload_n hx 0 dX8_allQuickness_13 rfl ?_
        refine j_iload_n hx 2 dX8_allQuickness_14 rfl ?_
        refine j_iconst hx dX8_allQuickness_15 ?_
        refine j_callV hx hG (c_X8_trait hst a v2 0) lk_RX8_32 ha (by decide) rfl rfl rfl rfl [.int (zI v2), .int (zI 0)] ⟨rfl, hG, hS0, ha, (by omega), (by omega)⟩ rfl rfl ⟨by decide, by decide⟩ ⟨by decide, by decide⟩ (k2 := 0) (n2 := 0) rfl rfl (Nat.le_of_ble_eq_true rfl) dX8_allQuickness_16 (kIP (fun v5 q6 => ?_))
        refine j_iadd hx (r := v1 + v5) dX8_allQuickness_19 rfl ?_
        refine j_norm (fun v7 f8 f9 f10 => ?_)
        refine j_istore_n hx [(1, .int (zI v7)), (0, .ref a), (2, .int (zI v2))] dX8_allQuickness_20 (by decide) rfl ?_
        refine j_iinc hx 2 [(2, .int (zI (v2 + 1))), (1, .int (zI v7)), (0, .ref a)] dX8_allQuickness_21 rfl (by omega) (by decide) rfl ?_
        refine j_goto hx 4 dX8_allQuickness_24 rfl ?_
        exact j_sub [2, 1, 0] [(0, .ref a), (1, .int (zI v7)), (2, .int (zI (v2 + 1)))] rfl (ih_c4_1 v7 (v2 + 1) (by omega) (by omega) (by omega))
  exact j_sub [2, 1, 0] [(0, .ref a), (1, .int (zI 0)), (2, .int (zI 0))] rfl (c4_1 (2147483648 * 4) 0 0 (by omega) (by omega) (by omega))

set_option maxHeartbeats 4000000 in
set_option maxRecDepth 20000 in
theorem c_X10_leads {E : zE} {l : Launch} (hst : l.stackTraces = false) (a : Nat) (b1 : Nat) : Con E l yX10_leads cX10_leads 3 (some .boolean) { frames := 2, cells := 0, slots := 0, locals := 42 } (fun G s vs => vs = [.ref a, .ref b1] ∧ zGK G ∧ zSK G s ∧ (gT G a = 11) ∧ (gT G b1 = 1)) (fun G s _ => pI (fun r G2 s2 => G2 = G ∧ s2 = s ∧ (0 ≤ r ∧ r ≤ 1))) := by
  refine Con.mk hst (by decide) (fun G s vs h => by rw [h.1]; exact Nat.le_of_ble_eq_true rfl) ?_
  rintro X G s0 vs ⟨rfl, hG, hS0, ha, hb1⟩ rfl hx hq
  show JJ X E 3 G s0 0 0 [(0, .ref a), (1, .ref b1)] 0 []
  refine j_iconst hx dX10_leads_0 ?_
  refine j_istore_n hx [(2, .int (zI 0)), (0, .ref a), (1, .ref b1)] dX10_leads_1 (by decide) rfl ?_
  have c2_1 : ∀ (m_c2_1 : Nat) (v1 : Int), 2147483648 - v1 < m_c2_1 → (0 ≤ v1 ∧ v1 ≤ 3) → JJ X E 3 G s0 0 0 [(0, .ref a), (1, .ref b1), (2, .int (zI v1))] 2 [] := by
    intro m_c2_1
    induction m_c2_1 with
    | zero => intro v1 hm_c2_1 fA2; exfalso; omega
    | succ m_c2_1 ih_c2_1 => 
      intro v1 hm_c2_1 fA2
      refine j_iload_n hx 2 dX10_leads_2 rfl ?_
      refine j_aload_n hx 0 dX10_leads_3 rfl ?_
      refine g11_0 hx hG ha kf_RX10_17 dX10_leads_4 ?_
      have f2 := zf hS0 (zr (k := 0) (t2 := 9) hG ha rfl) (k := 4) rfl
      refine gN9_4 hx hG (zr (k := 0) (t2 := 9) hG ha rfl) kf_RX10_104 rfl dX10_leads_7 ?_
      refine j_icmp_ge hx 45 dX10_leads_10 rfl (by omega) (by omega) (fun h3 => ?_) (fun h3 => ?_)
      · skip
        refine j_iconst hx dX10_leads_45 ?_
        exact j_zret hx hq rfl (by decide) (by decide) dX10_leads_46 (by omega) ⟨1, rfl, rfl, rfl, (by omega)⟩
      · skip
        refine j_iload_n hx 2 dX10_leads_13 rfl ?_
        refine j_aload_n hx 0 dX10_leads_14 rfl ?_
        have f4 := zf hS0 ha (k := 2) rfl
        refine g11_2 hx hG ha kf_RX10_41 rfl dX10_leads_15 ?_
        have c39_3 : JJ X E 3 G s0 0 0 [(0, .ref a), (1, .ref b1), (2, .int (zI v1))] 39 [] := by
          refine j_iinc hx 2 [(2, .int (zI (v1 + 1))), (0, .ref a), (1, .ref b1)] dX10_leads_39 rfl (by omega) (by decide) rfl ?_
          refine j_goto hx 2 dX10_leads_42 rfl ?_
          exact j_sub [1, 2, 0] [(0, .ref a), (1, .ref b1), (2, .int (zI (v1 + 1)))] rfl (ih_c2_1 (v1 + 1) (by omega) (by omega))
        refine j_icmp_eq hx 39 dX10_leads_18 rfl (by omega) (by omega) (fun h5 => ?_) (fun h5 => ?_)
        · skip
          exact j_sub [0, 1, 2] [(0, .ref a), (1, .ref b1), (2, .int (zI v1))] rfl (c39_3  )
        · skip
          refine j_aload_n hx 1 dX10_leads_21 rfl ?_
          refine j_iload_n hx 2 dX10_leads_22 rfl ?_
          refine j_callV hx hG (c_X0_cardsOf hst b1 v1) lk_RX10_58 hb1 (by decide) rfl rfl rfl rfl [.int (zI v1)] ⟨rfl, hG, hS0, hb1, (by omega)⟩ rfl rfl ⟨by decide, by decide⟩ ⟨by decide, by decide⟩ (k2 := 0) (n2 := 0) rfl rfl (Nat.le_of_ble_eq_true rfl) dX10_leads_23 (kIP (fun v6 q7 => ?_))
          refine j_aload_n hx 1 dX10_leads_26 rfl ?_
          refine j_aload_n hx 0 dX10_leads_27 rfl ?_
          refine g11_2 hx hG ha kf_RX10_41 rfl dX10_leads_28 ?_
          refine j_callV hx hG (c_X0_cardsOf hst b1 ((s0 a 2))) lk_RX10_58 hb1 (by decide) rfl rfl rfl rfl [.int (zI ((s0 a 2)))] ⟨rfl, hG, hS0, hb1, (by omega)⟩ rfl rfl ⟨by decide, by decide⟩ ⟨by decide, by decide⟩ (k2 := 0) (n2 := 0) rfl rfl (Nat.le_of_ble_eq_true rfl) dX10_leads_31 (kIP (fun v8 q9 => ?_))
          refine j_icmp_lt hx 39 dX10_leads_34 rfl (by omega) (by omega) (fun h10 => ?_) (fun h10 => ?_)
          · skip
            exact j_sub [0, 1, 2] [(0, .ref a), (1, .ref b1), (2, .int (zI v1))] rfl (c39_3  )
          · skip
            refine j_iconst hx dX10_leads_37 ?_
            exact j_zret hx hq rfl (by decide) (by decide) dX10_leads_38 (by omega) ⟨0, rfl, rfl, rfl, (by omega)⟩
  exact j_sub [1, 2, 0] [(0, .ref a), (1, .ref b1), (2, .int (zI 0))] rfl (c2_1 (2147483648 * 4) 0 (by omega) (by omega))

theorem lk_RX10_87 : LkV RX10 87 RX8 yX8_allQuickness cX8_allQuickness 3 (some .int) 0 := ⟨km_RX10_87, ki_yX8_allQuickness, ks_RX8_yX8_allQuickness, kn_RX8, kc_yX8_allQuickness, rfl, by decide +kernel, by decide +kernel, by decide +kernel⟩
set_option maxHeartbeats 4000000 in
set_option maxRecDepth 20000 in
theorem c_X10_allWays {E : zE} {l : Launch} (hst : l.stackTraces = false) (a : Nat) (x1 : Int) (y2 : Int) : Con E l yX10_allWays cX10_allWays 7 (some .long) { frames := 2, cells := 0, slots := 0, locals := 45 } (fun G s vs => vs = [.ref a, .int (zI x1), .long (zL y2)] ∧ zGK G ∧ zSK G s ∧ (gT G a = 11) ∧ ((-2147483648) ≤ x1 ∧ x1 ≤ 2147483647) ∧ ((-9223372036854775808) ≤ y2 ∧ y2 ≤ 9223372036854775807)) (fun G s _ => pL (fun r G2 s2 => G2 = G ∧ s2 = s ∧ ((-9223372036854775808) ≤ r ∧ r ≤ 9223372036854775807))) := by
  refine Con.mk hst (by decide) (fun G s vs h => by rw [h.1]; exact Nat.le_of_ble_eq_true rfl) ?_
  rintro X G s0 vs ⟨rfl, hG, hS0, ha, hx1, hy2⟩ rfl hx hq
  show JJ X E 7 G s0 0 0 [(0, .ref a), (1, .int (zI x1)), (2, .long (zL y2))] 0 []
  refine j_lload_n hx 2 dX10_allWays_0 rfl ?_
  refine j_lstore hx [(4, .long (zL y2)), (0, .ref a), (1, .int (zI x1)), (2, .long (zL y2))] dX10_allWays_1 (by decide) rfl ?_
  refine j_iload_n hx 2 dX10_allWays_3 rfl ?_
  refine j_istore hx [(6, .int (zI x1)), (4, .long (zL y2)), (0, .ref a), (1, .int (zI x1)), (2, .long (zL y2))] dX10_allWays_4 (by decide) rfl ?_
  have c6_1 : ∀ (m_c6_1 : Nat) (w1 : Int) (v2 : Int), 2147483648 - v2 < m_c6_1 → ((-9223372036854775808) ≤ w1 ∧ w1 ≤ 9223372036854775807) → ((-2147483648) ≤ v2 ∧ v2 ≤ 2147483647) → JJ X E 7 G s0 0 0 [(0, .ref a), (4, .long (zL w1)), (6, .int (zI v2))] 6 [] := by
    intro m_c6_1
    induction m_c6_1 with
    | zero => intro w1 v2 hm_c6_1 fA2 fA3; exfalso; omega
    | succ m_c6_1 ih_c6_1 => 
      intro w1 v2 hm_c6_1 fA2 fA3
      refine j_iload hx 2 dX10_allWays_6 rfl ?_
      refine j_aload_n hx 0 dX10_allWays_8 rfl ?_
      have f3 := zf hS0 ha (k := 4) rfl
      refine g11_4 hx hG ha kf_RX10_77 rfl dX10_allWays_9 ?_
      refine j_icmp_ge hx 34 dX10_allWays_12 rfl (by omega) (by omega) (fun h4 => ?_) (fun h4 => ?_)
      · skip
        refine j_lload hx 1 dX10_allWays_34 rfl ?_
        exact j_lret hx hq rfl (by decide) (by decide) dX10_allWays_36 ⟨w1, rfl, rfl, rfl, (by omega)⟩
      · skip
        refine j_lload hx 1 dX10_allWays_15 rfl ?_
        refine j_aload_n hx 0 dX10_allWays_17 rfl ?_
        refine g11_0 hx hG ha kf_RX10_17 dX10_allWays_18 ?_
        refine j_callV hx hG (c_X8_allQuickness hst (gP G a 0)) lk_RX10_87 (zr (k := 0) (t2 := 9) hG ha rfl) (by decide) rfl rfl rfl rfl [] ⟨rfl, hG, hS0, (zr (k := 0) (t2 := 9) hG ha rfl)⟩ rfl rfl ⟨by decide, by decide⟩ ⟨by decide, by decide⟩ (k2 := 0) (n2 := 0) rfl rfl (Nat.le_of_ble_eq_true rfl) dX10_allWays_21 (kIP (fun v5 q6 => ?_))
        refine j_i2l hx dX10_allWays_24 (by omega) ?_
        refine j_lmul hx dX10_allWays_25 (fun w7 f8 f9 => ?_)
        refine j_lstore hx [(4, .long (zL w7)), (0, .ref a), (6, .int (zI v2))] dX10_allWays_26 (by decide) rfl ?_
        refine j_iinc hx 2 [(6, .int (zI (v2 + 1))), (4, .long (zL w7)), (0, .ref a)] dX10_allWays_28 rfl (by omega) (by decide) rfl ?_
        refine j_goto hx 6 dX10_allWays_31 rfl ?_
        exact j_sub [2, 1, 0] [(0, .ref a), (4, .long (zL w7)), (6, .int (zI (v2 + 1)))] rfl (ih_c6_1 w7 (v2 + 1) (by omega) (by omega) (by omega))
  exact j_sub [2, 1, 0] [(0, .ref a), (4, .long (zL y2)), (6, .int (zI x1))] rfl (c6_1 (2147483648 * 4) y2 x1 (by omega) (by omega) (by omega))

theorem lk_RX10_96 : LkV RX10 96 RX10 yX10_leads cX10_leads 3 (some .boolean) 1 := ⟨km_RX10_96, ki_yX10_leads, ks_RX10_yX10_leads, kn_RX10, kc_yX10_leads, rfl, by decide +kernel, by decide +kernel, by decide +kernel⟩
theorem lk_RX10_100 : LkV RX10 100 RX10 yX10_allWays cX10_allWays 7 (some .long) 2 := ⟨km_RX10_100, ki_yX10_allWays, ks_RX10_yX10_allWays, kn_RX10, kc_yX10_allWays, rfl, by decide +kernel, by decide +kernel, by decide +kernel⟩
set_option maxHeartbeats 4000000 in
set_option maxRecDepth 20000 in
theorem c_X10_weigh_12 {E : zE} {l : Launch} (hst : l.stackTraces = false) (a : Nat) (x1 : Int) (y2 : Int) : Con E l yX10_weigh cX10_weigh 9 none { frames := 3, cells := 0, slots := 0, locals := 71 } (fun G s vs => vs = [.ref a, .int (zI x1), .long (zL y2)] ∧ zGK G ∧ zSK G s ∧ (gT G a = 11) ∧ (12 ≤ x1 ∧ x1 ≤ 12) ∧ ((-9223372036854775808) ≤ y2 ∧ y2 ≤ 9223372036854775807)) (fun G s _ => pV (fun G2 s2 => G2 = G ∧ zSK G s2 ∧ zFr [11] G s s2 ∧ True)) := by
  refine Con.mk hst (by decide) (fun G s vs h => by rw [h.1]; exact Nat.le_of_ble_eq_true rfl) ?_
  rintro X G s0 vs ⟨rfl, hG, hS0, ha, hx1, hy2⟩ rfl hx hq
  obtain rfl : x1 = 12 := by omega
  show JJ X E 9 G s0 0 0 [(0, .ref a), (1, .int (zI 12)), (2, .long (zL y2))] 0 []
  refine j_aload_n hx 0 dX10_weigh_0 rfl ?_
  refine j_iload_n hx 1 dX10_weigh_1 rfl ?_
  refine j_callV hx hG (c_X10_boardAt hst a 12) lk_RX10_22 ha (by decide) rfl rfl rfl rfl [.int (zI 12)] ⟨rfl, hG, hS0, ha, (by omega)⟩ rfl rfl ⟨by decide, by decide⟩ ⟨by decide, by decide⟩ (k2 := 0) (n2 := 0) rfl rfl (Nat.le_of_ble_eq_true rfl) dX10_weigh_2 (kNP (fun _ => ?_) (fun r1 q2 => ?_))
  · skip
    refine j_astoreN hx [(4, .null), (0, .ref a), (1, .int (zI 12)), (2, .long (zL y2))] dX10_weigh_5 (by decide) rfl ?_
    refine j_aload_n hx 1 dX10_weigh_7 rfl ?_
    refine j_iload_n hx 2 dX10_weigh_8 rfl ?_
    refine j_iconst hx dX10_weigh_9 ?_
    refine j_iadd hx (r := 13) dX10_weigh_10 (by omega) ?_
    refine j_callV hx hG (c_X10_boardAt hst a 13) lk_RX10_22 ha (by decide) rfl rfl rfl rfl [.int (zI 13)] ⟨rfl, hG, hS0, ha, (by omega)⟩ rfl rfl ⟨by decide, by decide⟩ ⟨by decide, by decide⟩ (k2 := 0) (n2 := 0) rfl rfl (Nat.le_of_ble_eq_true rfl) dX10_weigh_11 (kNP (fun _ => ?_) (fun r3 q4 => ?_))
    · skip
      refine j_astoreN hx [(5, .null), (4, .null), (0, .ref a), (1, .int (zI 12)), (2, .long (zL y2))] dX10_weigh_14 (by decide) rfl ?_
      refine j_aloadN hx 1 dX10_weigh_16 rfl ?_
      refine j_ifnonnullN hx dX10_weigh_18 ?_
      exact j_vret hx hq rfl (by decide) (by decide) dX10_weigh_21 ⟨rfl, rfl, hS0, zFr_rf, trivial⟩
    · exact absurd (show (13 : Int) ≤ 12 from q4.2) (by decide)
  · skip
    refine j_astore hx [(4, .ref r1), (0, .ref a), (1, .int (zI 12)), (2, .long (zL y2))] dX10_weigh_5 (by decide) rfl ?_
    refine j_aload_n hx 1 dX10_weigh_7 rfl ?_
    refine j_iload_n hx 2 dX10_weigh_8 rfl ?_
    refine j_iconst hx dX10_weigh_9 ?_
    refine j_iadd hx (r := 13) dX10_weigh_10 (by omega) ?_
    refine j_callV hx hG (c_X10_boardAt hst a 13) lk_RX10_22 ha (by decide) rfl rfl rfl rfl [.int (zI 13)] ⟨rfl, hG, hS0, ha, (by omega)⟩ rfl rfl ⟨by decide, by decide⟩ ⟨by decide, by decide⟩ (k2 := 0) (n2 := 0) rfl rfl (Nat.le_of_ble_eq_true rfl) dX10_weigh_11 (kNP (fun _ => ?_) (fun r5 q6 => ?_))
    · skip
      refine j_astoreN hx [(5, .null), (4, .ref r1), (0, .ref a), (1, .int (zI 12)), (2, .long (zL y2))] dX10_weigh_14 (by decide) rfl ?_
      refine j_aload hx 1 dX10_weigh_16 rfl ?_
      refine j_ifnonnull hx 22 dX10_weigh_18 rfl ?_
      refine j_iload_n hx 3 dX10_weigh_22 rfl ?_
      refine j_aload_n hx 2 dX10_weigh_23 rfl ?_
      have f7 := zf hS0 ha (k := 4) rfl
      refine g11_4 hx hG ha kf_RX10_77 rfl dX10_weigh_24 ?_
      have c43_1 : JJ X E 9 G s0 0 0 [(0, .ref a), (1, .int (zI 12)), (2, .long (zL y2)), (4, .ref r1)] 43 [] := by
        refine j_aload_n hx 0 dX10_weigh_43 rfl ?_
        refine j_dup hx dX10_weigh_44 rfl ?_
        have f8 := zf hS0 ha (k := 7) rfl
        refine g11_7 hx hG ha kf_RX10_80 rfl dX10_weigh_45 ?_
        refine j_aload_n hx 0 dX10_weigh_48 rfl ?_
        refine j_aload hx 3 dX10_weigh_49 rfl ?_
        refine j_callV hx hG (c_X10_leads hst a r1) lk_RX10_96 ha (by decide) rfl rfl rfl rfl [.ref r1] ⟨rfl, hG, hS0, ha, q2.1⟩ rfl rfl ⟨by decide, by decide⟩ ⟨by decide, by decide⟩ (k2 := 0) (n2 := 0) rfl rfl (Nat.le_of_ble_eq_true rfl) dX10_weigh_51 (kIP (fun v9 q10 => ?_))
        refine j_if_eq hx 66 dX10_weigh_54 rfl (by omega) (fun h11 => ?_) (fun h11 => ?_)
        · skip
          refine j_lconst hx dX10_weigh_66 ?_
          show JJ X E 9 G s0 0 0 [(0, .ref a), (1, .int (zI 12)), (2, .long (zL y2)), (4, .ref r1)] 67 [.long (zL 0), .long (zL ((s0 a 7))), .ref a]
          refine j_ladd hx dX10_weigh_67 (fun w12 f13 f14 => ?_)
          refine p11_7 hx hG ha kf_RX10_80 dX10_weigh_68 ?_
          obtain ⟨s2, e_s2⟩ : ∃ z, z = zU s0 a 7 w12 := ⟨_, rfl⟩
          rw [← e_s2]
          have hS_s2 : zSK G s2 := by rw [e_s2]; exact zSK_F hS0 ha rfl rfl rfl (by omega)
          exact j_vret hx hq rfl (by decide) (by decide) dX10_weigh_71 ⟨rfl, rfl, hS_s2, (zFr_u zFr_rf e_s2 ha (by decide)), trivial⟩
        · skip
          refine j_aload_n hx 0 dX10_weigh_57 rfl ?_
          refine j_iload_n hx 1 dX10_weigh_58 rfl ?_
          refine j_lload_n hx 2 dX10_weigh_59 rfl ?_
          refine j_callV hx hG (c_X10_allWays hst a 12 y2) lk_RX10_100 ha (by decide) rfl rfl rfl rfl [.int (zI 12), .long (zL y2)] ⟨rfl, hG, hS0, ha, (by omega), (by omega)⟩ rfl rfl ⟨by decide, by decide⟩ ⟨by decide, by decide⟩ (k2 := 0) (n2 := 0) rfl rfl (Nat.le_of_ble_eq_true rfl) dX10_weigh_60 (kLP (fun v15 q16 => ?_))
          refine j_goto hx 67 dX10_weigh_63 rfl ?_
          refine j_ladd hx dX10_weigh_67 (fun w17 f18 f19 => ?_)
          refine p11_7 hx hG ha kf_RX10_80 dX10_weigh_68 ?_
          obtain ⟨s3, e_s3⟩ : ∃ z, z = zU s0 a 7 w17 := ⟨_, rfl⟩
          rw [← e_s3]
          have hS_s3 : zSK G s3 := by rw [e_s3]; exact zSK_F hS0 ha rfl rfl rfl (by omega)
          exact j_vret hx hq rfl (by decide) (by decide) dX10_weigh_71 ⟨rfl, rfl, hS_s3, (zFr_u zFr_rf e_s3 ha (by decide)), trivial⟩
      refine j_icmp_ge hx 43 dX10_weigh_27 rfl ⟨by decide, by decide⟩ (by omega) (fun h20 => ?_) (fun h20 => ?_)
      · skip
        exact j_sub [2, 3, 4, 1] [(0, .ref a), (1, .int (zI 12)), (2, .long (zL y2)), (4, .ref r1)] rfl (c43_1  )
      · skip
        refine j_aloadN hx 0 dX10_weigh_30 rfl ?_
        refine j_ifnullN hx 43 dX10_weigh_32 rfl ?_
        exact j_sub [2, 3, 4, 1] [(0, .ref a), (1, .int (zI 12)), (2, .long (zL y2)), (4, .ref r1)] rfl (c43_1  )
    · exact absurd (show (13 : Int) ≤ 12 from q6.2) (by decide)

theorem lk_RX10_92 : LkV RX10 92 RX10 yX10_weigh cX10_weigh 9 none 2 := ⟨km_RX10_92, ki_yX10_weigh, ks_RX10_yX10_weigh, kn_RX10, kc_yX10_weigh, rfl, by decide +kernel, by decide +kernel, by decide +kernel⟩
theorem lk_RX10_107 : LkV RX10 107 RX8 yX8_trait cX8_trait 4 (some .int) 2 := ⟨km_RX10_107, ki_yX8_trait, ks_RX8_yX8_trait, kn_RX8, kc_yX8_trait, rfl, by decide +kernel, by decide +kernel, by decide +kernel⟩
set_option maxHeartbeats 4000000 in
set_option maxRecDepth 20000 in
theorem c_X10_weigh_11 {E : zE} {l : Launch} (hst : l.stackTraces = false) (a : Nat) (x1 : Int) (y2 : Int) : Con E l yX10_weigh cX10_weigh 9 none { frames := 4, cells := 0, slots := 0, locals := 99 } (fun G s vs => vs = [.ref a, .int (zI x1), .long (zL y2)] ∧ zGK G ∧ zSK G s ∧ (gT G a = 11) ∧ (11 ≤ x1 ∧ x1 ≤ 11) ∧ ((-9223372036854775808) ≤ y2 ∧ y2 ≤ 9223372036854775807)) (fun G s _ => pV (fun G2 s2 => G2 = G ∧ zSK G s2 ∧ zFr [1, 7, 11, 41] G s s2 ∧ True)) := by
  refine Con.mk hst (by decide) (fun G s vs h => by rw [h.1]; exact Nat.le_of_ble_eq_true rfl) ?_
  rintro X G s0 vs ⟨rfl, hG, hS0, ha, hx1, hy2⟩ rfl hx hq
  obtain rfl : x1 = 11 := by omega
  show JJ X E 9 G s0 0 0 [(0, .ref a), (1, .int (zI 11)), (2, .long (zL y2))] 0 []
  refine j_aload_n hx 0 dX10_weigh_0 rfl ?_
  refine j_iload_n hx 1 dX10_weigh_1 rfl ?_
  refine j_callV hx hG (c_X10_boardAt hst a 11) lk_RX10_22 ha (by decide) rfl rfl rfl rfl [.int (zI 11)] ⟨rfl, hG, hS0, ha, (by omega)⟩ rfl rfl ⟨by decide, by decide⟩ ⟨by decide, by decide⟩ (k2 := 0) (n2 := 0) rfl rfl (Nat.le_of_ble_eq_true rfl) dX10_weigh_2 (kNP (fun _ => ?_) (fun r1 q2 => ?_))
  · skip
    refine j_astoreN hx [(4, .null), (0, .ref a), (1, .int (zI 11)), (2, .long (zL y2))] dX10_weigh_5 (by decide) rfl ?_
    refine j_aload_n hx 1 dX10_weigh_7 rfl ?_
    refine j_iload_n hx 2 dX10_weigh_8 rfl ?_
    refine j_iconst hx dX10_weigh_9 ?_
    refine j_iadd hx (r := 12) dX10_weigh_10 (by omega) ?_
    refine j_callV hx hG (c_X10_boardAt hst a 12) lk_RX10_22 ha (by decide) rfl rfl rfl rfl [.int (zI 12)] ⟨rfl, hG, hS0, ha, (by omega)⟩ rfl rfl ⟨by decide, by decide⟩ ⟨by decide, by decide⟩ (k2 := 0) (n2 := 0) rfl rfl (Nat.le_of_ble_eq_true rfl) dX10_weigh_11 (kNP (fun _ => ?_) (fun r3 q4 => ?_))
    · skip
      refine j_astoreN hx [(5, .null), (4, .null), (0, .ref a), (1, .int (zI 11)), (2, .long (zL y2))] dX10_weigh_14 (by decide) rfl ?_
      refine j_aloadN hx 1 dX10_weigh_16 rfl ?_
      refine j_ifnonnullN hx dX10_weigh_18 ?_
      exact j_vret hx hq rfl (by decide) (by decide) dX10_weigh_21 ⟨rfl, rfl, hS0, zFr_rf, trivial⟩
    · skip
      refine j_astore hx [(5, .ref r3), (4, .null), (0, .ref a), (1, .int (zI 11)), (2, .long (zL y2))] dX10_weigh_14 (by decide) rfl ?_
      refine j_aloadN hx 1 dX10_weigh_16 rfl ?_
      refine j_ifnonnullN hx dX10_weigh_18 ?_
      exact j_vret hx hq rfl (by decide) (by decide) dX10_weigh_21 ⟨rfl, rfl, hS0, zFr_rf, trivial⟩
  · skip
    refine j_astore hx [(4, .ref r1), (0, .ref a), (1, .int (zI 11)), (2, .long (zL y2))] dX10_weigh_5 (by decide) rfl ?_
    refine j_aload_n hx 1 dX10_weigh_7 rfl ?_
    refine j_iload_n hx 2 dX10_weigh_8 rfl ?_
    refine j_iconst hx dX10_weigh_9 ?_
    refine j_iadd hx (r := 12) dX10_weigh_10 (by omega) ?_
    refine j_callV hx hG (c_X10_boardAt hst a 12) lk_RX10_22 ha (by decide) rfl rfl rfl rfl [.int (zI 12)] ⟨rfl, hG, hS0, ha, (by omega)⟩ rfl rfl ⟨by decide, by decide⟩ ⟨by decide, by decide⟩ (k2 := 0) (n2 := 0) rfl rfl (Nat.le_of_ble_eq_true rfl) dX10_weigh_11 (kNP (fun _ => ?_) (fun r5 q6 => ?_))
    · skip
      refine j_astoreN hx [(5, .null), (4, .ref r1), (0, .ref a), (1, .int (zI 11)), (2, .long (zL y2))] dX10_weigh_14 (by decide) rfl ?_
      refine j_aload hx 1 dX10_weigh_16 rfl ?_
      refine j_ifnonnull hx 22 dX10_weigh_18 rfl ?_
      refine j_iload_n hx 3 dX10_weigh_22 rfl ?_
      refine j_aload_n hx 2 dX10_weigh_23 rfl ?_
      have f7 := zf hS0 ha (k := 4) rfl
      refine g11_4 hx hG ha kf_RX10_77 rfl dX10_weigh_24 ?_
      have c43_1 : ∀ (s2 : zS), (zSK G s2) → (zFr [1, 7, 41] G s0 s2) → JJ X E 9 G s2 0 0 [(0, .ref a), (1, .int (zI 11)), (2, .long (zL y2)), (4, .ref r1)] 43 [] := by
        intro s2 hS_s2 hF_s2
        refine j_aload_n hx 0 dX10_weigh_43 rfl ?_
        refine j_dup hx dX10_weigh_44 rfl ?_
        have f8 := zf hS0 ha (k := 7) rfl
        refine g11_7 hx hG ha kf_RX10_80 (v := (s0 a 7)) (by rw [(zFr_g hF_s2 ha (by decide))]) dX10_weigh_45 ?_
        refine j_aload_n hx 0 dX10_weigh_48 rfl ?_
        refine j_aload hx 3 dX10_weigh_49 rfl ?_
        refine j_callV hx hG (c_X10_leads hst a r1) lk_RX10_96 ha (by decide) rfl rfl rfl rfl [.ref r1] ⟨rfl, hG, hS_s2, ha, q2.1⟩ rfl rfl ⟨by decide, by decide⟩ ⟨by decide, by decide⟩ (k2 := 0) (n2 := 0) rfl rfl (Nat.le_of_ble_eq_true rfl) dX10_weigh_51 (kIP (fun v9 q10 => ?_))
        refine j_if_eq hx 66 dX10_weigh_54 rfl (by omega) (fun h11 => ?_) (fun h11 => ?_)
        · skip
          refine j_lconst hx dX10_weigh_66 ?_
          show JJ X E 9 G s2 0 0 [(0, .ref a), (1, .int (zI 11)), (2, .long (zL y2)), (4, .ref r1)] 67 [.long (zL 0), .long (zL ((s0 a 7))), .ref a]
          refine j_ladd hx dX10_weigh_67 (fun w12 f13 f14 => ?_)
          refine p11_7 hx hG ha kf_RX10_80 dX10_weigh_68 ?_
          obtain ⟨s5, e_s5⟩ : ∃ z, z = zU s2 a 7 w12 := ⟨_, rfl⟩
          rw [← e_s5]
          have hS_s5 : zSK G s5 := by rw [e_s5]; exact zSK_F hS_s2 ha rfl rfl rfl (by omega)
          exact j_vret hx hq rfl (by decide) (by decide) dX10_weigh_71 ⟨rfl, rfl, hS_s5, (zFr_u (zFr_t zFr_rf hF_s2 (by decide)) e_s5 ha (by decide)), trivial⟩
        · skip
          refine j_aload_n hx 0 dX10_weigh_57 rfl ?_
          refine j_iload_n hx 1 dX10_weigh_58 rfl ?_
          refine j_lload_n hx 2 dX10_weigh_59 rfl ?_
          refine j_callV hx hG (c_X10_allWays hst a 11 y2) lk_RX10_100 ha (by decide) rfl rfl rfl rfl [.int (zI 11), .long (zL y2)] ⟨rfl, hG, hS_s2, ha, (by omega), (by omega)⟩ rfl rfl ⟨by decide, by decide⟩ ⟨by decide, by decide⟩ (k2 := 0) (n2 := 0) rfl rfl (Nat.le_of_ble_eq_true rfl) dX10_weigh_60 (kLP (fun v15 q16 => ?_))
          refine j_goto hx 67 dX10_weigh_63 rfl ?_
          refine j_ladd hx dX10_weigh_67 (fun w17 f18 f19 => ?_)
          refine p11_7 hx hG ha kf_RX10_80 dX10_weigh_68 ?_
          obtain ⟨s6, e_s6⟩ : ∃ z, z = zU s2 a 7 w17 := ⟨_, rfl⟩
          rw [← e_s6]
          have hS_s6 : zSK G s6 := by rw [e_s6]; exact zSK_F hS_s2 ha rfl rfl rfl (by omega)
          exact j_vret hx hq rfl (by decide) (by decide) dX10_weigh_71 ⟨rfl, rfl, hS_s6, (zFr_u (zFr_t zFr_rf hF_s2 (by decide)) e_s6 ha (by decide)), trivial⟩
      refine j_icmp_ge hx 43 dX10_weigh_27 rfl ⟨by decide, by decide⟩ (by omega) (fun h20 => ?_) (fun h20 => ?_)
      · skip
        exact j_sub [2, 3, 4, 1] [(0, .ref a), (1, .int (zI 11)), (2, .long (zL y2)), (4, .ref r1)] rfl (c43_1 s0 hS0 zFr_rf)
      · skip
        refine j_aloadN hx 0 dX10_weigh_30 rfl ?_
        refine j_ifnullN hx 43 dX10_weigh_32 rfl ?_
        exact j_sub [2, 3, 4, 1] [(0, .ref a), (1, .int (zI 11)), (2, .long (zL y2)), (4, .ref r1)] rfl (c43_1 s0 hS0 zFr_rf)
    · skip
      refine j_astore hx [(5, .ref r5), (4, .ref r1), (0, .ref a), (1, .int (zI 11)), (2, .long (zL y2))] dX10_weigh_14 (by decide) rfl ?_
      refine j_aload hx 1 dX10_weigh_16 rfl ?_
      refine j_ifnonnull hx 22 dX10_weigh_18 rfl ?_
      refine j_iload_n hx 3 dX10_weigh_22 rfl ?_
      refine j_aload_n hx 2 dX10_weigh_23 rfl ?_
      have f21 := zf hS0 ha (k := 4) rfl
      refine g11_4 hx hG ha kf_RX10_77 rfl dX10_weigh_24 ?_
      have c43_7 : ∀ (s8 : zS), (zSK G s8) → (zFr [1, 7, 41] G s0 s8) → JJ X E 9 G s8 0 0 [(0, .ref a), (1, .int (zI 11)), (2, .long (zL y2)), (4, .ref r1)] 43 [] := by
        intro s8 hS_s8 hF_s8
        refine j_aload_n hx 0 dX10_weigh_43 rfl ?_
        refine j_dup hx dX10_weigh_44 rfl ?_
        have f22 := zf hS0 ha (k := 7) rfl
        refine g11_7 hx hG ha kf_RX10_80 (v := (s0 a 7)) (by rw [(zFr_g hF_s8 ha (by decide))]) dX10_weigh_45 ?_
        refine j_aload_n hx 0 dX10_weigh_48 rfl ?_
        refine j_aload hx 3 dX10_weigh_49 rfl ?_
        refine j_callV hx hG (c_X10_leads hst a r1) lk_RX10_96 ha (by decide) rfl rfl rfl rfl [.ref r1] ⟨rfl, hG, hS_s8, ha, q2.1⟩ rfl rfl ⟨by decide, by decide⟩ ⟨by decide, by decide⟩ (k2 := 0) (n2 := 0) rfl rfl (Nat.le_of_ble_eq_true rfl) dX10_weigh_51 (kIP (fun v23 q24 => ?_))
        refine j_if_eq hx 66 dX10_weigh_54 rfl (by omega) (fun h25 => ?_) (fun h25 => ?_)
        · skip
          refine j_lconst hx dX10_weigh_66 ?_
          show JJ X E 9 G s8 0 0 [(0, .ref a), (1, .int (zI 11)), (2, .long (zL y2)), (4, .ref r1)] 67 [.long (zL 0), .long (zL ((s0 a 7))), .ref a]
          refine j_ladd hx dX10_weigh_67 (fun w26 f27 f28 => ?_)
          refine p11_7 hx hG ha kf_RX10_80 dX10_weigh_68 ?_
          obtain ⟨s11, e_s11⟩ : ∃ z, z = zU s8 a 7 w26 := ⟨_, rfl⟩
          rw [← e_s11]
          have hS_s11 : zSK G s11 := by rw [e_s11]; exact zSK_F hS_s8 ha rfl rfl rfl (by omega)
          exact j_vret hx hq rfl (by decide) (by decide) dX10_weigh_71 ⟨rfl, rfl, hS_s11, (zFr_u (zFr_t zFr_rf hF_s8 (by decide)) e_s11 ha (by decide)), trivial⟩
        · skip
          refine j_aload_n hx 0 dX10_weigh_57 rfl ?_
          refine j_iload_n hx 1 dX10_weigh_58 rfl ?_
          refine j_lload_n hx 2 dX10_weigh_59 rfl ?_
          refine j_callV hx hG (c_X10_allWays hst a 11 y2) lk_RX10_100 ha (by decide) rfl rfl rfl rfl [.int (zI 11), .long (zL y2)] ⟨rfl, hG, hS_s8, ha, (by omega), (by omega)⟩ rfl rfl ⟨by decide, by decide⟩ ⟨by decide, by decide⟩ (k2 := 0) (n2 := 0) rfl rfl (Nat.le_of_ble_eq_true rfl) dX10_weigh_60 (kLP (fun v29 q30 => ?_))
          refine j_goto hx 67 dX10_weigh_63 rfl ?_
          refine j_ladd hx dX10_weigh_67 (fun w31 f32 f33 => ?_)
          refine p11_7 hx hG ha kf_RX10_80 dX10_weigh_68 ?_
          obtain ⟨s12, e_s12⟩ : ∃ z, z = zU s8 a 7 w31 := ⟨_, rfl⟩
          rw [← e_s12]
          have hS_s12 : zSK G s12 := by rw [e_s12]; exact zSK_F hS_s8 ha rfl rfl rfl (by omega)
          exact j_vret hx hq rfl (by decide) (by decide) dX10_weigh_71 ⟨rfl, rfl, hS_s12, (zFr_u (zFr_t zFr_rf hF_s8 (by decide)) e_s12 ha (by decide)), trivial⟩
      refine j_icmp_ge hx 43 dX10_weigh_27 rfl ⟨by decide, by decide⟩ (by omega) (fun h34 => ?_) (fun h34 => ?_)
      · skip
        exact j_sub [2, 3, 4, 1] [(0, .ref a), (1, .int (zI 11)), (2, .long (zL y2)), (4, .ref r1)] rfl (c43_7 s0 hS0 zFr_rf)
      · skip
        refine j_aload hx 0 dX10_weigh_30 rfl ?_
        refine j_ifnull hx dX10_weigh_32 ?_
        refine j_aload hx 1 dX10_weigh_35 rfl ?_
        refine j_callV hx hG (c_X0_step hst r1) lk_RX10_33 q2.1 (by decide) rfl rfl rfl rfl [] ⟨rfl, hG, hS0, q2.1⟩ rfl rfl ⟨by decide, by decide⟩ ⟨by decide, by decide⟩ (k2 := 0) (n2 := 0) rfl rfl (Nat.le_of_ble_eq_true rfl) dX10_weigh_37 (kIM (fun v35 s13 hS_s13 hF_s13 q36 => ?_))
        refine j_if_ne hx 72 dX10_weigh_40 rfl (by omega) (fun h37 => ?_) (fun h37 => ?_)
        · skip
          refine j_aload hx 1 dX10_weigh_72 rfl ?_
          refine j_callV hx hG (c_X0_likeTops hst r1) lk_RX10_37 q2.1 (by decide) rfl rfl rfl rfl [] ⟨rfl, hG, hS_s13, q2.1⟩ rfl rfl ⟨by decide, by decide⟩ ⟨by decide, by decide⟩ (k2 := 0) (n2 := 0) rfl rfl (Nat.le_of_ble_eq_true rfl) dX10_weigh_74 (kIP (fun v38 q39 => ?_))
          refine j_istore hx [(6, .int (zI v38)), (5, .ref r5), (4, .ref r1), (0, .ref a), (1, .int (zI 11)), (2, .long (zL y2))] dX10_weigh_77 (by decide) rfl ?_
          refine j_iconst hx dX10_weigh_79 ?_
          refine j_istore hx [(7, .int (zI 0)), (6, .int (zI v38)), (5, .ref r5), (4, .ref r1), (0, .ref a), (1, .int (zI 11)), (2, .long (zL y2))] dX10_weigh_80 (by decide) rfl ?_
          refine j_iconst hx dX10_weigh_82 ?_
          refine j_istore hx [(8, .int (zI 0)), (7, .int (zI 0)), (6, .int (zI v38)), (5, .ref r5), (4, .ref r1), (0, .ref a), (1, .int (zI 11)), (2, .long (zL y2))] dX10_weigh_83 (by decide) rfl ?_
          have c85_14 : ∀ (m_c85_14 : Nat) (v40 : Int) (v41 : Int) (s15 : zS), 2147483648 - v41 < m_c85_14 → ((-2147483648) ≤ v40 ∧ v40 ≤ 2147483647) → (0 ≤ v41 ∧ v41 ≤ 3) → (zSK G s15) → (zFr [1, 7, 11, 41] G s13 s15) → JJ X E 9 G s15 0 0 [(0, .ref a), (1, .int (zI 11)), (2, .long (zL y2)), (4, .ref r1), (5, .ref r5), (6, .int (zI v38)), (7, .int (zI v40)), (8, .int (zI v41))] 85 [] := by
            intro m_c85_14
            induction m_c85_14 with
            | zero => intro v40 v41 s15 hm_c85_14 fA16 fA17 hS_s15 hF_s15; exfalso; omega
            | succ m_c85_14 ih_c85_14 => 
              intro v40 v41 s15 hm_c85_14 fA16 fA17 hS_s15 hF_s15
              refine j_iload hx 7 dX10_weigh_85 rfl ?_
              refine j_aload_n hx 0 dX10_weigh_87 rfl ?_
              refine g11_0 hx hG ha kf_RX10_17 dX10_weigh_88 ?_
              have f42 := zf hS0 (zr (k := 0) (t2 := 9) hG ha rfl) (k := 4) rfl
              refine gN9_4 hx hG (zr (k := 0) (t2 := 9) hG ha rfl) kf_RX10_104 (v := (s0 (gP G a 0) 4)) (by rw [(zFr_g hF_s15 (zr (k := 0) (t2 := 9) hG ha rfl) (by decide)), (zFr_g hF_s13 (zr (k := 0) (t2 := 9) hG ha rfl) (by decide))]) dX10_weigh_91 ?_
              refine j_icmp_ge hx 178 dX10_weigh_94 rfl (by omega) (by omega) (fun h43 => ?_) (fun h43 => ?_)
              · skip
                refine j_iload hx 6 dX10_weigh_178 rfl ?_
                refine j_if_le hx 202 dX10_weigh_180 rfl (by omega) (fun h44 => ?_) (fun h44 => ?_)
                · skip
                  exact j_vret hx hq rfl (by decide) (by decide) dX10_weigh_202 ⟨rfl, rfl, hS_s15, (zFr_t (zFr_t zFr_rf hF_s13 (by decide)) hF_s15 (by decide)), trivial⟩
                · skip
                  refine j_aload hx 4 dX10_weigh_183 rfl ?_
                  refine j_aload hx 3 dX10_weigh_185 rfl ?_
                  refine j_callV hx hG (c_X0_become hst r5 r1) lk_RX10_26 q6.1 (by decide) rfl rfl rfl rfl [.ref r1] ⟨rfl, hG, hS_s15, q6.1, q2.1⟩ rfl rfl ⟨by decide, by decide⟩ ⟨by decide, by decide⟩ (k2 := 0) (n2 := 0) rfl rfl (Nat.le_of_ble_eq_true rfl) dX10_weigh_187 (kVM (fun s20 hS_s20 hF_s20 q46 => ?_))
                  refine j_aload_n hx 0 dX10_weigh_190 rfl ?_
                  refine j_iload_n hx 1 dX10_weigh_191 rfl ?_
                  refine j_iconst hx dX10_weigh_192 ?_
                  refine j_iadd hx (r := 12) dX10_weigh_193 (by omega) ?_
                  refine j_lload_n hx 2 dX10_weigh_194 rfl ?_
                  refine j_iload hx 6 dX10_weigh_195 rfl ?_
                  refine j_i2l hx dX10_weigh_197 (by omega) ?_
                  refine j_lmul hx dX10_weigh_198 (fun w47 f48 f49 => ?_)
                  refine j_callV hx hG (c_X10_weigh_12 hst a 12 w47) lk_RX10_92 ha (by decide) rfl rfl rfl rfl [.int (zI 12), .long (zL w47)] ⟨rfl, hG, hS_s20, ha, (by omega), (by omega)⟩ rfl rfl ⟨by decide, by decide⟩ ⟨by decide, by decide⟩ (k2 := 0) (n2 := 0) rfl rfl (Nat.le_of_ble_eq_true rfl) dX10_weigh_199 (kVM (fun s21 hS_s21 hF_s21 q51 => ?_))
                  exact j_vret hx hq rfl (by decide) (by decide) dX10_weigh_202 ⟨rfl, rfl, hS_s21, (zFr_t (zFr_t (zFr_t (zFr_t zFr_rf hF_s13 (by decide)) hF_s15 (by decide)) hF_s20 (by decide)) hF_s21 (by decide)), trivial⟩
              · skip
                refine j_iload hx 5 dX10_weigh_97 rfl ?_
                refine j_iconst hx dX10_weigh_99 ?_
                have c172_22 : ∀ (v52 : Int) (s23 : zS), ((-2147483648) ≤ v52 ∧ v52 ≤ 2147483647) → (zSK G s23) → (zFr [1, 7, 11, 41] G s15 s23) → JJ X E 9 G s23 0 0 [(0, .ref a), (1, .int (zI 11)), (2, .long (zL y2)), (4, .ref r1), (5, .ref r5), (6, .int (zI v38)), (7, .int (zI v52)), (8, .int (zI v41))] 172 [] := by
                  intro v52 s23 fA24 hS_s23 hF_s23
                  refine j_iinc hx 7 [(8, .int (zI (v41 + 1))), (0, .ref a), (1, .int (zI 11)), (2, .long (zL y2)), (4, .ref r1), (5, .ref r5), (6, .int (zI v38)), (7, .int (zI v52))] dX10_weigh_172 rfl (by omega) (by decide) rfl ?_
                  refine j_goto hx 85 dX10_weigh_175 rfl ?_
                  exact j_sub [1, 2, 3, 4, 5, 6, 7, 0] [(0, .ref a), (1, .int (zI 11)), (2, .long (zL y2)), (4, .ref r1), (5, .ref r5), (6, .int (zI v38)), (7, .int (zI v52)), (8, .int (zI (v41 + 1)))] rfl (ih_c85_14 v52 (v41 + 1) s23 (by omega) (by omega) (by omega) hS_s23 (zFr_t (zFr_t zFr_rf hF_s15 (by decide)) hF_s23 (by decide)))
                have c113_27 : JJ X E 9 G s15 0 0 [(0, .ref a), (1, .int (zI 11)), (2, .long (zL y2)), (4, .ref r1), (5, .ref r5), (6, .int (zI v38)), (7, .int (zI v40)), (8, .int (zI v41))] 113 [] := by
                  refine j_iload hx 6 dX10_weigh_113 rfl ?_
                  refine j_aload_n hx 0 dX10_weigh_115 rfl ?_
                  refine g11_0 hx hG ha kf_RX10_17 dX10_weigh_116 ?_
                  refine j_iload hx 7 dX10_weigh_119 rfl ?_
                  refine j_iconst hx dX10_weigh_121 ?_
                  refine j_callV hx hG (c_X8_trait hst (gP G a 0) v41 0) lk_RX10_107 (zr (k := 0) (t2 := 9) hG ha rfl) (by decide) rfl rfl rfl rfl [.int (zI v41), .int (zI 0)] ⟨rfl, hG, hS_s15, (zr (k := 0) (t2 := 9) hG ha rfl), (by omega), (by omega)⟩ rfl rfl ⟨by decide, by decide⟩ ⟨by decide, by decide⟩ (k2 := 0) (n2 := 0) rfl rfl (Nat.le_of_ble_eq_true rfl) dX10_weigh_122 (kIP (fun v53 q54 => ?_))
                  refine j_iadd hx (r := v40 + v53) dX10_weigh_125 rfl ?_
                  refine j_norm (fun v55 f56 f57 f58 => ?_)
                  refine j_istore hx [(7, .int (zI v55)), (0, .ref a), (1, .int (zI 11)), (2, .long (zL y2)), (4, .ref r1), (5, .ref r5), (6, .int (zI v38)), (8, .int (zI v41))] dX10_weigh_126 (by decide) rfl ?_
                  refine j_goto hx 172 dX10_weigh_128 rfl ?_
                  exact j_sub [1, 2, 3, 4, 5, 6, 0, 7] [(0, .ref a), (1, .int (zI 11)), (2, .long (zL y2)), (4, .ref r1), (5, .ref r5), (6, .int (zI v38)), (7, .int (zI v55)), (8, .int (zI v41))] rfl (c172_22 v55 s15 (by omega) hS_s15 zFr_rf)
                refine j_icmp_eq hx 113 dX10_weigh_100 rfl (by omega) ⟨by decide, by decide⟩ (fun h59 => ?_) (fun h59 => ?_)
                · skip
                  exact j_sub [0, 1, 2, 3, 4, 5, 6, 7] [(0, .ref a), (1, .int (zI 11)), (2, .long (zL y2)), (4, .ref r1), (5, .ref r5), (6, .int (zI v38)), (7, .int (zI v40)), (8, .int (zI v41))] rfl (c113_27  )
                · skip
                  refine j_aload hx 3 dX10_weigh_103 rfl ?_
                  refine j_iload hx 7 dX10_weigh_105 rfl ?_
                  refine j_callV hx hG (c_X0_isOut hst r1 v41) lk_RX10_73 q2.1 (by decide) rfl rfl rfl rfl [.int (zI v41)] ⟨rfl, hG, hS_s15, q2.1, (by omega)⟩ rfl rfl ⟨by decide, by decide⟩ ⟨by decide, by decide⟩ (k2 := 0) (n2 := 0) rfl rfl (Nat.le_of_ble_eq_true rfl) dX10_weigh_107 (kIP (fun v60 q61 => ?_))
                  refine j_if_eq hx 131 dX10_weigh_110 rfl (by omega) (fun h62 => ?_) (fun h62 => ?_)
                  · skip
                    refine j_aload hx 4 dX10_weigh_131 rfl ?_
                    refine j_aload hx 3 dX10_weigh_133 rfl ?_
                    refine j_callV hx hG (c_X0_become hst r5 r1) lk_RX10_26 q6.1 (by decide) rfl rfl rfl rfl [.ref r1] ⟨rfl, hG, hS_s15, q6.1, q2.1⟩ rfl rfl ⟨by decide, by decide⟩ ⟨by decide, by decide⟩ (k2 := 0) (n2 := 0) rfl rfl (Nat.le_of_ble_eq_true rfl) dX10_weigh_135 (kVM (fun s28 hS_s28 hF_s28 q64 => ?_))
                    refine j_aload hx 4 dX10_weigh_138 rfl ?_
                    refine j_iload hx 7 dX10_weigh_140 rfl ?_
                    refine j_iload hx 5 dX10_weigh_142 rfl ?_
                    refine j_aload_n hx 0 dX10_weigh_144 rfl ?_
                    have f65 := zf hS_s15 ha (k := 3) rfl
                    refine g11_3 hx hG ha kf_RX10_45 (v := (s15 a 3)) (by rw [(zFr_g hF_s28 ha (by decide))]) dX10_weigh_145 ?_
                    refine j_callV hx hG (c_X0_win hst r5 v41 v38 ((s15 a 3))) lk_RX10_69 q6.1 (by decide) rfl rfl rfl rfl [.int (zI v41), .int (zI v38), .int (zI ((s15 a 3)))] ⟨rfl, hG, hS_s28, q6.1, (by omega), (by omega), (by omega)⟩ rfl rfl ⟨by decide, by decide⟩ ⟨by decide, by decide⟩ (k2 := 0) (n2 := 0) rfl rfl (Nat.le_of_ble_eq_true rfl) dX10_weigh_148 (kIM (fun v66 s29 hS_s29 hF_s29 q67 => ?_))
                    refine j_pop hx dX10_weigh_151 rfl ?_
                    refine j_aload_n hx 0 dX10_weigh_152 rfl ?_
                    refine j_iload_n hx 1 dX10_weigh_153 rfl ?_
                    refine j_iconst hx dX10_weigh_154 ?_
                    refine j_iadd hx (r := 12) dX10_weigh_155 (by omega) ?_
                    refine j_lload_n hx 2 dX10_weigh_156 rfl ?_
                    refine j_aload_n hx 0 dX10_weigh_157 rfl ?_
                    refine g11_0 hx hG ha kf_RX10_17 dX10_weigh_158 ?_
                    refine j_iload hx 7 dX10_weigh_161 rfl ?_
                    refine j_iconst hx dX10_weigh_163 ?_
                    refine j_callV hx hG (c_X8_trait hst (gP G a 0) v41 0) lk_RX10_107 (zr (k := 0) (t2 := 9) hG ha rfl) (by decide) rfl rfl rfl rfl [.int (zI v41), .int (zI 0)] ⟨rfl, hG, hS_s29, (zr (k := 0) (t2 := 9) hG ha rfl), (by omega), (by omega)⟩ rfl rfl ⟨by decide, by decide⟩ ⟨by decide, by decide⟩ (k2 := 0) (n2 := 0) rfl rfl (Nat.le_of_ble_eq_true rfl) dX10_weigh_164 (kIP (fun v68 q69 => ?_))
                    refine j_i2l hx dX10_weigh_167 (by omega) ?_
                    refine j_lmul hx dX10_weigh_168 (fun w70 f71 f72 => ?_)
                    refine j_callV hx hG (c_X10_weigh_12 hst a 12 w70) lk_RX10_92 ha (by decide) rfl rfl rfl rfl [.int (zI 12), .long (zL w70)] ⟨rfl, hG, hS_s29, ha, (by omega), (by omega)⟩ rfl rfl ⟨by decide, by decide⟩ ⟨by decide, by decide⟩ (k2 := 0) (n2 := 0) rfl rfl (Nat.le_of_ble_eq_true rfl) dX10_weigh_169 (kVM (fun s30 hS_s30 hF_s30 q74 => ?_))
                    exact j_sub [0, 1, 2, 3, 4, 5, 6, 7] [(0, .ref a), (1, .int (zI 11)), (2, .long (zL y2)), (4, .ref r1), (5, .ref r5), (6, .int (zI v38)), (7, .int (zI v40)), (8, .int (zI v41))] rfl (c172_22 v40 s30 (by omega) hS_s30 (zFr_t (zFr_t (zFr_t zFr_rf hF_s28 (by decide)) hF_s29 (by decide)) hF_s30 (by decide)))
                  · skip
                    exact j_sub [0, 1, 2, 3, 4, 5, 6, 7] [(0, .ref a), (1, .int (zI 11)), (2, .long (zL y2)), (4, .ref r1), (5, .ref r5), (6, .int (zI v38)), (7, .int (zI v40)), (8, .int (zI v41))] rfl (c113_27  )
          exact j_sub [5, 6, 7, 4, 3, 2, 1, 0] [(0, .ref a), (1, .int (zI 11)), (2, .long (zL y2)), (4, .ref r1), (5, .ref r5), (6, .int (zI v38)), (7, .int (zI 0)), (8, .int (zI 0))] rfl (c85_14 (2147483648 * 4) 0 0 s13 (by omega) (by omega) (by omega) hS_s13 zFr_rf)
        · skip
          exact j_sub [2, 3, 4, 1] [(0, .ref a), (1, .int (zI 11)), (2, .long (zL y2)), (4, .ref r1)] rfl (c43_7 s13 hS_s13 (zFr_t zFr_rf hF_s13 (by decide)))
