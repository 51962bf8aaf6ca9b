set_option maxHeartbeats 4000000 in
set_option maxRecDepth 20000 in
theorem c_X10_choose_1 {E : zE} {l : Launch} (hst : l.stackTraces = false) (a : Nat) (x1 : Int) (x2 : Int) (x3 : Int) : Con E l yX10_choose cX10_choose 8 none { frames := 14, cells := 0, slots := 0, locals := 356 } (fun G s vs => vs = [.ref a, .int (zI x1), .int (zI x2), .int (zI x3)] ∧ zGK G ∧ zSK G s ∧ (gT G a = 11) ∧ (1 ≤ x1 ∧ x1 ≤ 1) ∧ ((-2147483648) ≤ x2 ∧ x2 ≤ 2147483647) ∧ (0 ≤ x3 ∧ x3 ≤ 4)) (fun G s _ => pV (fun G2 s2 => G2 = G ∧ zSK G s2 ∧ zFr [1, 7, 11, 41] G s s2 ∧ True)) := by
  refine Con.mk hst (by decide) (fun G s vs h => by rw [h.1]; exact Nat.le_of_ble_eq_true rfl) ?_
  rintro X G s0 vs ⟨rfl, hG, hS0, ha, hx1, hx2, hx3⟩ rfl hx hq
  obtain rfl : x1 = 1 := by omega
  show JJ X E 8 G s0 0 0 [(0, .ref a), (1, .int (zI 1)), (2, .int (zI x2)), (3, .int (zI x3))] 0 []
  refine j_aload_n hx 0 dX10_choose_0 rfl ?_
  refine j_iload_n hx 1 dX10_choose_1 rfl ?_
  refine j_callV hx hG (c_X10_boardAt hst a 1) lk_RX10_22 ha (by decide) rfl rfl rfl rfl [.int (zI 1)] ⟨rfl, hG, hS0, ha, (by omega)⟩ rfl rfl ⟨by decide, by decide⟩ ⟨by decide, by decide⟩ (k2 := 0) (n2 := 0) rfl rfl (Nat.le_of_ble_eq_true rfl) dX10_choose_2 (kNP (fun _ => ?_) (fun r1 q2 => ?_))
  · skip
    refine j_astoreN hx [(4, .null), (0, .ref a), (1, .int (zI 1)), (2, .int (zI x2)), (3, .int (zI x3))] dX10_choose_5 (by decide) rfl ?_
    refine j_aload_n hx 1 dX10_choose_7 rfl ?_
    refine j_iload_n hx 2 dX10_choose_8 rfl ?_
    refine j_iconst hx dX10_choose_9 ?_
    refine j_iadd hx (r := 2) dX10_choose_10 (by omega) ?_
    refine j_callV hx hG (c_X10_boardAt hst a 2) lk_RX10_22 ha (by decide) rfl rfl rfl rfl [.int (zI 2)] ⟨rfl, hG, hS0, ha, (by omega)⟩ rfl rfl ⟨by decide, by decide⟩ ⟨by decide, by decide⟩ (k2 := 0) (n2 := 0) rfl rfl (Nat.le_of_ble_eq_true rfl) dX10_choose_11 (kNP (fun _ => ?_) (fun r3 q4 => ?_))
    · skip
      refine j_astoreN hx [(5, .null), (4, .null), (0, .ref a), (1, .int (zI 1)), (2, .int (zI x2)), (3, .int (zI x3))] dX10_choose_14 (by decide) rfl ?_
      refine j_aloadN hx 1 dX10_choose_16 rfl ?_
      refine j_ifnonnullN hx dX10_choose_18 ?_
      exact j_vret hx hq rfl (by decide) (by decide) dX10_choose_21 ⟨rfl, rfl, hS0, zFr_rf, trivial⟩
    · skip
      refine j_astore hx [(5, .ref r3), (4, .null), (0, .ref a), (1, .int (zI 1)), (2, .int (zI x2)), (3, .int (zI x3))] dX10_choose_14 (by decide) rfl ?_
      refine j_aloadN hx 1 dX10_choose_16 rfl ?_
      refine j_ifnonnullN hx dX10_choose_18 ?_
      exact j_vret hx hq rfl (by decide) (by decide) dX10_choose_21 ⟨rfl, rfl, hS0, zFr_rf, trivial⟩
  · skip
    refine j_astore hx [(4, .ref r1), (0, .ref a), (1, .int (zI 1)), (2, .int (zI x2)), (3, .int (zI x3))] dX10_choose_5 (by decide) rfl ?_
    refine j_aload_n hx 1 dX10_choose_7 rfl ?_
    refine j_iload_n hx 2 dX10_choose_8 rfl ?_
    refine j_iconst hx dX10_choose_9 ?_
    refine j_iadd hx (r := 2) dX10_choose_10 (by omega) ?_
    refine j_callV hx hG (c_X10_boardAt hst a 2) lk_RX10_22 ha (by decide) rfl rfl rfl rfl [.int (zI 2)] ⟨rfl, hG, hS0, ha, (by omega)⟩ rfl rfl ⟨by decide, by decide⟩ ⟨by decide, by decide⟩ (k2 := 0) (n2 := 0) rfl rfl (Nat.le_of_ble_eq_true rfl) dX10_choose_11 (kNP (fun _ => ?_) (fun r5 q6 => ?_))
    · skip
      refine j_astoreN hx [(5, .null), (4, .ref r1), (0, .ref a), (1, .int (zI 1)), (2, .int (zI x2)), (3, .int (zI x3))] dX10_choose_14 (by decide) rfl ?_
      refine j_aload hx 1 dX10_choose_16 rfl ?_
      refine j_ifnonnull hx 22 dX10_choose_18 rfl ?_
      refine j_aloadN hx 0 dX10_choose_22 rfl ?_
      have c35_1 : ∀ (s2 : zS), (zSK G s2) → (zFr [1, 7, 41] G s0 s2) → JJ X E 8 G s2 0 0 [(0, .ref a), (2, .int (zI x2)), (4, .ref r1)] 35 [] := by
        intro s2 hS_s2 hF_s2
        refine j_aload_n hx 0 dX10_choose_35 rfl ?_
        refine j_aload hx 2 dX10_choose_36 rfl ?_
        refine j_aload_n hx 0 dX10_choose_38 rfl ?_
        have f7 := zf hS0 ha (k := 2) rfl
        refine g11_2 hx hG ha kf_RX10_41 (v := (s0 a 2)) (by rw [(zFr_g hF_s2 ha (by decide))]) dX10_choose_39 ?_
        refine j_callV hx hG (c_X0_cardsOf hst r1 ((s0 a 2))) lk_RX10_58 q2.1 (by decide) rfl rfl rfl rfl [.int (zI ((s0 a 2)))] ⟨rfl, hG, hS_s2, q2.1, (by omega)⟩ rfl rfl ⟨by decide, by decide⟩ ⟨by decide, by decide⟩ (k2 := 0) (n2 := 0) rfl rfl (Nat.le_of_ble_eq_true rfl) dX10_choose_42 (kIP (fun v8 q9 => ?_))
        refine j_iload_n hx 1 dX10_choose_45 rfl ?_
        refine j_callV hx hG (c_X10_keepBetter hst a v8 x2) lk_RX10_62 ha (by decide) rfl rfl rfl rfl [.int (zI v8), .int (zI x2)] ⟨rfl, hG, hS_s2, ha, (by omega), (by omega)⟩ rfl rfl ⟨by decide, by decide⟩ ⟨by decide, by decide⟩ (k2 := 0) (n2 := 0) rfl rfl (Nat.le_of_ble_eq_true rfl) dX10_choose_46 (kVM (fun s5 hS_s5 hF_s5 q11 => ?_))
        exact j_vret hx hq rfl (by decide) (by decide) dX10_choose_49 ⟨rfl, rfl, hS_s5, (zFr_t (zFr_t zFr_rf hF_s2 (by decide)) hF_s5 (by decide)), trivial⟩
      refine j_ifnullN hx 35 dX10_choose_24 rfl ?_
      exact j_sub [2, 4, 1] [(0, .ref a), (2, .int (zI x2)), (4, .ref r1)] rfl (c35_1 s0 hS0 zFr_rf)
    · skip
      refine j_astore hx [(5, .ref r5), (4, .ref r1), (0, .ref a), (1, .int (zI 1)), (2, .int (zI x2)), (3, .int (zI x3))] dX10_choose_14 (by decide) rfl ?_
      refine j_aload hx 1 dX10_choose_16 rfl ?_
      refine j_ifnonnull hx 22 dX10_choose_18 rfl ?_
      refine j_aload hx 0 dX10_choose_22 rfl ?_
      have c35_6 : ∀ (s7 : zS), (zSK G s7) → (zFr [1, 7, 41] G s0 s7) → JJ X E 8 G s7 0 0 [(0, .ref a), (2, .int (zI x2)), (4, .ref r1)] 35 [] := by
        intro s7 hS_s7 hF_s7
        refine j_aload_n hx 0 dX10_choose_35 rfl ?_
        refine j_aload hx 2 dX10_choose_36 rfl ?_
        refine j_aload_n hx 0 dX10_choose_38 rfl ?_
        have f12 := zf hS0 ha (k := 2) rfl
        refine g11_2 hx hG ha kf_RX10_41 (v := (s0 a 2)) (by rw [(zFr_g hF_s7 ha (by decide))]) dX10_choose_39 ?_
        refine j_callV hx hG (c_X0_cardsOf hst r1 ((s0 a 2))) lk_RX10_58 q2.1 (by decide) rfl rfl rfl rfl [.int (zI ((s0 a 2)))] ⟨rfl, hG, hS_s7, q2.1, (by omega)⟩ rfl rfl ⟨by decide, by decide⟩ ⟨by decide, by decide⟩ (k2 := 0) (n2 := 0) rfl rfl (Nat.le_of_ble_eq_true rfl) dX10_choose_42 (kIP (fun v13 q14 => ?_))
        refine j_iload_n hx 1 dX10_choose_45 rfl ?_
        refine j_callV hx hG (c_X10_keepBetter hst a v13 x2) lk_RX10_62 ha (by decide) rfl rfl rfl rfl [.int (zI v13), .int (zI x2)] ⟨rfl, hG, hS_s7, ha, (by omega), (by omega)⟩ rfl rfl ⟨by decide, by decide⟩ ⟨by decide, by decide⟩ (k2 := 0) (n2 := 0) rfl rfl (Nat.le_of_ble_eq_true rfl) dX10_choose_46 (kVM (fun s10 hS_s10 hF_s10 q16 => ?_))
        exact j_vret hx hq rfl (by decide) (by decide) dX10_choose_49 ⟨rfl, rfl, hS_s10, (zFr_t (zFr_t zFr_rf hF_s7 (by decide)) hF_s10 (by decide)), trivial⟩
      refine j_ifnull hx dX10_choose_24 ?_
      refine j_aload hx 1 dX10_choose_27 rfl ?_
      refine j_callV hx hG (c_X0_step hst r1) lk_RX10_33 q2.1 (by decide) rfl rfl rfl rfl [] ⟨rfl, hG, hS0, q2.1⟩ rfl rfl ⟨by decide, by decide⟩ ⟨by decide, by decide⟩ (k2 := 0) (n2 := 0) rfl rfl (Nat.le_of_ble_eq_true rfl) dX10_choose_29 (kIM (fun v17 s11 hS_s11 hF_s11 q18 => ?_))
      refine j_if_ne hx 50 dX10_choose_32 rfl (by omega) (fun h19 => ?_) (fun h19 => ?_)
      · skip
        refine j_aload hx 1 dX10_choose_50 rfl ?_
        refine j_callV hx hG (c_X0_likeTops hst r1) lk_RX10_37 q2.1 (by decide) rfl rfl rfl rfl [] ⟨rfl, hG, hS_s11, q2.1⟩ rfl rfl ⟨by decide, by decide⟩ ⟨by decide, by decide⟩ (k2 := 0) (n2 := 0) rfl rfl (Nat.le_of_ble_eq_true rfl) dX10_choose_52 (kIP (fun v20 q21 => ?_))
        refine j_istore hx [(6, .int (zI v20)), (5, .ref r5), (4, .ref r1), (0, .ref a), (1, .int (zI 1)), (2, .int (zI x2)), (3, .int (zI x3))] dX10_choose_55 (by decide) rfl ?_
        refine j_aload hx 2 dX10_choose_57 rfl ?_
        refine j_aload_n hx 3 dX10_choose_59 rfl ?_
        have f22 := zf hS0 ha (k := 2) rfl
        refine g11_2 hx hG ha kf_RX10_41 (v := (s0 a 2)) (by rw [(zFr_g hF_s11 ha (by decide))]) dX10_choose_60 ?_
        refine j_callV hx hG (c_X0_following hst r1 ((s0 a 2))) lk_RX10_66 q2.1 (by decide) rfl rfl rfl rfl [.int (zI ((s0 a 2)))] ⟨rfl, hG, hS_s11, q2.1, (by omega)⟩ rfl rfl ⟨by decide, by decide⟩ ⟨by decide, by decide⟩ (k2 := 0) (n2 := 0) rfl rfl (Nat.le_of_ble_eq_true rfl) dX10_choose_63 (kIP (fun v23 q24 => ?_))
        refine j_istore hx [(7, .int (zI v23)), (6, .int (zI v20)), (5, .ref r5), (4, .ref r1), (0, .ref a), (1, .int (zI 1)), (2, .int (zI x2)), (3, .int (zI x3))] dX10_choose_66 (by decide) rfl ?_
        refine j_aload hx 2 dX10_choose_68 rfl ?_
        refine j_aload hx 3 dX10_choose_70 rfl ?_
        refine j_callV hx hG (c_X0_become hst r5 r1) lk_RX10_26 q6.1 (by decide) rfl rfl rfl rfl [.ref r1] ⟨rfl, hG, hS_s11, q6.1, q2.1⟩ rfl rfl ⟨by decide, by decide⟩ ⟨by decide, by decide⟩ (k2 := 0) (n2 := 0) rfl rfl (Nat.le_of_ble_eq_true rfl) dX10_choose_72 (kVM (fun s12 hS_s12 hF_s12 q26 => ?_))
        refine j_iload hx 1 dX10_choose_75 rfl ?_
        refine j_iconst hx dX10_choose_77 ?_
        have c101_13 : ∀ (s14 : zS), (zSK G s14) → (zFr [7, 41] G s12 s14) → JJ X E 8 G s14 0 0 [(0, .ref a), (1, .int (zI 1)), (2, .int (zI x2)), (3, .int (zI x3)), (4, .ref r1), (5, .ref r5), (6, .int (zI v20))] 101 [] := by
          intro s14 hS_s14 hF_s14
          refine j_aload_n hx 0 dX10_choose_101 rfl ?_
          refine j_iload_n hx 1 dX10_choose_102 rfl ?_
          refine j_iconst hx dX10_choose_103 ?_
          refine j_iadd hx (r := 2) dX10_choose_104 (by omega) ?_
          refine j_iload_n hx 2 dX10_choose_105 rfl ?_
          refine j_iload_n hx 3 dX10_choose_106 rfl ?_
          refine j_callV hx hG (c_X10_choose_2 hst a 2 x2 x3) lk_RX10_54 ha (by decide) rfl rfl rfl rfl [.int (zI 2), .int (zI x2), .int (zI x3)] ⟨rfl, hG, hS_s14, ha, (by omega), (by omega), (by omega)⟩ rfl rfl ⟨by decide, by decide⟩ ⟨by decide, by decide⟩ (k2 := 0) (n2 := 0) rfl rfl (Nat.le_of_ble_eq_true rfl) dX10_choose_107 (kVM (fun s17 hS_s17 hF_s17 q28 => ?_))
          refine j_iload hx 6 dX10_choose_110 rfl ?_
          refine j_iconst hx dX10_choose_112 ?_
          refine j_icmp_eq hx 170 dX10_choose_113 rfl (by omega) ⟨by decide, by decide⟩ (fun h29 => ?_) (fun h29 => ?_)
          · skip
            exact j_vret hx hq rfl (by decide) (by decide) dX10_choose_170 ⟨rfl, rfl, hS_s17, (zFr_t (zFr_t (zFr_t (zFr_t zFr_rf hF_s11 (by decide)) hF_s12 (by decide)) hF_s14 (by decide)) hF_s17 (by decide)), trivial⟩
          · skip
            refine j_iload_n hx 3 dX10_choose_116 rfl ?_
            refine j_if_le hx 170 dX10_choose_117 rfl (by omega) (fun h30 => ?_) (fun h30 => ?_)
            · skip
              exact j_vret hx hq rfl (by decide) (by decide) dX10_choose_170 ⟨rfl, rfl, hS_s17, (zFr_t (zFr_t (zFr_t (zFr_t zFr_rf hF_s11 (by decide)) hF_s12 (by decide)) hF_s14 (by decide)) hF_s17 (by decide)), trivial⟩
            · skip
              refine j_aload hx 4 dX10_choose_120 rfl ?_
              refine j_aload_n hx 0 dX10_choose_122 rfl ?_
              have f31 := zf hS_s17 ha (k := 2) rfl
              refine g11_2 hx hG ha kf_RX10_41 rfl dX10_choose_123 ?_
              refine j_callV hx hG (c_X0_isOut hst r1 ((s17 a 2))) lk_RX10_73 q2.1 (by decide) rfl rfl rfl rfl [.int (zI ((s17 a 2)))] ⟨rfl, hG, hS_s17, q2.1, (by omega)⟩ rfl rfl ⟨by decide, by decide⟩ ⟨by decide, by decide⟩ (k2 := 0) (n2 := 0) rfl rfl (Nat.le_of_ble_eq_true rfl) dX10_choose_126 (kIP (fun v32 q33 => ?_))
              refine j_if_ne hx 170 dX10_choose_129 rfl (by omega) (fun h34 => ?_) (fun h34 => ?_)
              · skip
                exact j_vret hx hq rfl (by decide) (by decide) dX10_choose_170 ⟨rfl, rfl, hS_s17, (zFr_t (zFr_t (zFr_t (zFr_t zFr_rf hF_s11 (by decide)) hF_s12 (by decide)) hF_s14 (by decide)) hF_s17 (by decide)), trivial⟩
              · skip
                refine j_aload hx 5 dX10_choose_132 rfl ?_
                refine j_aload hx 4 dX10_choose_134 rfl ?_
                refine j_callV hx hG (c_X0_become hst r5 r1) lk_RX10_26 q6.1 (by decide) rfl rfl rfl rfl [.ref r1] ⟨rfl, hG, hS_s17, q6.1, q2.1⟩ rfl rfl ⟨by decide, by decide⟩ ⟨by decide, by decide⟩ (k2 := 0) (n2 := 0) rfl rfl (Nat.le_of_ble_eq_true rfl) dX10_choose_136 (kVM (fun s18 hS_s18 hF_s18 q36 => ?_))
                refine j_aload hx 5 dX10_choose_139 rfl ?_
                refine j_aload_n hx 0 dX10_choose_141 rfl ?_
                refine g11_2 hx hG ha kf_RX10_41 (v := (s17 a 2)) (by rw [(zFr_g hF_s18 ha (by decide))]) dX10_choose_142 ?_
                refine j_iload hx 6 dX10_choose_145 rfl ?_
                refine j_aload_n hx 0 dX10_choose_147 rfl ?_
                have f37 := zf hS_s17 ha (k := 3) rfl
                refine g11_3 hx hG ha kf_RX10_45 (v := (s17 a 3)) (by rw [(zFr_g hF_s18 ha (by decide))]) dX10_choose_148 ?_
                refine j_callV hx hG (c_X0_win hst r5 ((s17 a 2)) v20 ((s17 a 3))) lk_RX10_69 q6.1 (by decide) rfl rfl rfl rfl [.int (zI ((s17 a 2))), .int (zI v20), .int (zI ((s17 a 3)))] ⟨rfl, hG, hS_s18, q6.1, (by omega), (by omega), (by omega)⟩ rfl rfl ⟨by decide, by decide⟩ ⟨by decide, by decide⟩ (k2 := 0) (n2 := 0) rfl rfl (Nat.le_of_ble_eq_true rfl) dX10_choose_151 (kIM (fun v38 s19 hS_s19 hF_s19 q39 => ?_))
                refine j_pop hx dX10_choose_154 rfl ?_
                refine j_aload_n hx 0 dX10_choose_155 rfl ?_
                refine j_iload_n hx 1 dX10_choose_156 rfl ?_
                refine j_iconst hx dX10_choose_157 ?_
                refine j_iadd hx (r := 2) dX10_choose_158 (by omega) ?_
                refine j_iload_n hx 2 dX10_choose_159 rfl ?_
                refine j_iconst hx dX10_choose_160 ?_
                refine j_iload_n hx 1 dX10_choose_161 rfl ?_
                refine j_ishl hx dX10_choose_162 (fun v40 f41 f42 => ?_)
                refine j_ior hx dX10_choose_163 (fun v43 f44 f45 => ?_)
                refine j_iload_n hx 3 dX10_choose_164 rfl ?_
                refine j_iconst hx dX10_choose_165 ?_
                refine j_isub hx (r := x3 - 1) dX10_choose_166 rfl ?_
                refine j_callV hx hG (c_X10_choose_2 hst a 2 v43 (x3 - 1)) lk_RX10_54 ha (by decide) rfl rfl rfl rfl [.int (zI 2), .int (zI v43), .int (zI (x3 - 1))] ⟨rfl, hG, hS_s19, ha, (by omega), (by omega), (by omega)⟩ rfl rfl ⟨by decide, by decide⟩ ⟨by decide, by decide⟩ (k2 := 0) (n2 := 0) rfl rfl (Nat.le_of_ble_eq_true rfl) dX10_choose_167 (kVM (fun s20 hS_s20 hF_s20 q47 => ?_))
                exact j_vret hx hq rfl (by decide) (by decide) dX10_choose_170 ⟨rfl, rfl, hS_s20, (zFr_t (zFr_t (zFr_t (zFr_t (zFr_t (zFr_t (zFr_t zFr_rf hF_s11 (by decide)) hF_s12 (by decide)) hF_s14 (by decide)) hF_s17 (by decide)) hF_s18 (by decide)) hF_s19 (by decide)) hF_s20 (by decide)), trivial⟩
        refine j_icmp_eq hx 101 dX10_choose_78 rfl (by omega) ⟨by decide, by decide⟩ (fun h48 => ?_) (fun h48 => ?_)
        · skip
          exact j_sub [4, 5, 6, 7, 3, 2, 1] [(0, .ref a), (1, .int (zI 1)), (2, .int (zI x2)), (3, .int (zI x3)), (4, .ref r1), (5, .ref r5), (6, .int (zI v20))] rfl (c101_13 s12 hS_s12 zFr_rf)
        · skip
          refine j_iload hx 0 dX10_choose_81 rfl ?_
          refine j_iconst hx dX10_choose_83 ?_
          refine j_icmp_eq hx 101 dX10_choose_84 rfl (by omega) ⟨by decide, by decide⟩ (fun h49 => ?_) (fun h49 => ?_)
          · skip
            exact j_sub [4, 5, 6, 7, 3, 2, 1] [(0, .ref a), (1, .int (zI 1)), (2, .int (zI x2)), (3, .int (zI x3)), (4, .ref r1), (5, .ref r5), (6, .int (zI v20))] rfl (c101_13 s12 hS_s12 zFr_rf)
          · skip
            refine j_aload hx 2 dX10_choose_87 rfl ?_
            refine j_iload hx 0 dX10_choose_89 rfl ?_
            refine j_iload hx 1 dX10_choose_91 rfl ?_
            refine j_aload_n hx 4 dX10_choose_93 rfl ?_
            have f50 := zf hS0 ha (k := 3) rfl
            refine g11_3 hx hG ha kf_RX10_45 (v := (s0 a 3)) (by rw [(zFr_g hF_s12 ha (by decide)), (zFr_g hF_s11 ha (by decide))]) dX10_choose_94 ?_
            refine j_callV hx hG (c_X0_win hst r5 v23 v20 ((s0 a 3))) lk_RX10_69 q6.1 (by decide) rfl rfl rfl rfl [.int (zI v23), .int (zI v20), .int (zI ((s0 a 3)))] ⟨rfl, hG, hS_s12, q6.1, (by omega), (by omega), (by omega)⟩ rfl rfl ⟨by decide, by decide⟩ ⟨by decide, by decide⟩ (k2 := 0) (n2 := 0) rfl rfl (Nat.le_of_ble_eq_true rfl) dX10_choose_97 (kIM (fun v51 s21 hS_s21 hF_s21 q52 => ?_))
            refine j_pop hx dX10_choose_100 rfl ?_
            exact j_sub [4, 5, 6, 7, 3, 2, 1] [(0, .ref a), (1, .int (zI 1)), (2, .int (zI x2)), (3, .int (zI x3)), (4, .ref r1), (5, .ref r5), (6, .int (zI v20))] rfl (c101_13 s21 hS_s21 (zFr_t zFr_rf hF_s21 (by decide)))
      · skip
        exact j_sub [2, 4, 1] [(0, .ref a), (2, .int (zI x2)), (4, .ref r1)] rfl (c35_6 s11 hS_s11 (zFr_t zFr_rf hF_s11 (by decide)))

set_option maxHeartbeats 4000000 in
set_option maxRecDepth 20000 in
theorem c_X10_choose_0 {E : zE} {l : Launch} (hst : l.stackTraces = false) (a : Nat) (x1 : Int) (x2 : Int) (x3 : Int) : Con E l yX10_choose cX10_choose 8 none { frames := 15, cells := 0, slots := 0, locals := 383 } (fun G s vs => vs = [.ref a, .int (zI x1), .int (zI x2), .int (zI x3)] ∧ zGK G ∧ zSK G s ∧ (gT G a = 11) ∧ (0 ≤ x1 ∧ x1 ≤ 0) ∧ ((-2147483648) ≤ x2 ∧ x2 ≤ 2147483647) ∧ (0 ≤ x3 ∧ x3 ≤ 4)) (fun G s _ => pV (fun G2 s2 => G2 = G ∧ zSK G s2 ∧ zFr [1, 7, 11, 41] G s s2 ∧ True)) := by
  refine Con.mk hst (by decide) (fun G s vs h => by rw [h.1]; exact Nat.le_of_ble_eq_true rfl) ?_
  rintro X G s0 vs ⟨rfl, hG, hS0, ha, hx1, hx2, hx3⟩ rfl hx hq
  obtain rfl : x1 = 0 := by omega
  show JJ X E 8 G s0 0 0 [(0, .ref a), (1, .int (zI 0)), (2, .int (zI x2)), (3, .int (zI x3))] 0 []
  refine j_aload_n hx 0 dX10_choose_0 rfl ?_
  refine j_iload_n hx 1 dX10_choose_1 rfl ?_
  refine j_callV hx hG (c_X10_boardAt hst a 0) lk_RX10_22 ha (by decide) rfl rfl rfl rfl [.int (zI 0)] ⟨rfl, hG, hS0, ha, (by omega)⟩ rfl rfl ⟨by decide, by decide⟩ ⟨by decide, by decide⟩ (k2 := 0) (n2 := 0) rfl rfl (Nat.le_of_ble_eq_true rfl) dX10_choose_2 (kNP (fun _ => ?_) (fun r1 q2 => ?_))
  · skip
    refine j_astoreN hx [(4, .null), (0, .ref a), (1, .int (zI 0)), (2, .int (zI x2)), (3, .int (zI x3))] dX10_choose_5 (by decide) rfl ?_
    refine j_aload_n hx 1 dX10_choose_7 rfl ?_
    refine j_iload_n hx 2 dX10_choose_8 rfl ?_
    refine j_iconst hx dX10_choose_9 ?_
    refine j_iadd hx (r := 1) dX10_choose_10 (by omega) ?_
    refine j_callV hx hG (c_X10_boardAt hst a 1) lk_RX10_22 ha (by decide) rfl rfl rfl rfl [.int (zI 1)] ⟨rfl, hG, hS0, ha, (by omega)⟩ rfl rfl ⟨by decide, by decide⟩ ⟨by decide, by decide⟩ (k2 := 0) (n2 := 0) rfl rfl (Nat.le_of_ble_eq_true rfl) dX10_choose_11 (kNP (fun _ => ?_) (fun r3 q4 => ?_))
    · skip
      refine j_astoreN hx [(5, .null), (4, .null), (0, .ref a), (1, .int (zI 0)), (2, .int (zI x2)), (3, .int (zI x3))] dX10_choose_14 (by decide) rfl ?_
      refine j_aloadN hx 1 dX10_choose_16 rfl ?_
      refine j_ifnonnullN hx dX10_choose_18 ?_
      exact j_vret hx hq rfl (by decide) (by decide) dX10_choose_21 ⟨rfl, rfl, hS0, zFr_rf, trivial⟩
    · skip
      refine j_astore hx [(5, .ref r3), (4, .null), (0, .ref a), (1, .int (zI 0)), (2, .int (zI x2)), (3, .int (zI x3))] dX10_choose_14 (by decide) rfl ?_
      refine j_aloadN hx 1 dX10_choose_16 rfl ?_
      refine j_ifnonnullN hx dX10_choose_18 ?_
      exact j_vret hx hq rfl (by decide) (by decide) dX10_choose_21 ⟨rfl, rfl, hS0, zFr_rf, trivial⟩
  · skip
    refine j_astore hx [(4, .ref r1), (0, .ref a), (1, .int (zI 0)), (2, .int (zI x2)), (3, .int (zI x3))] dX10_choose_5 (by decide) rfl ?_
    refine j_aload_n hx 1 dX10_choose_7 rfl ?_
    refine j_iload_n hx 2 dX10_choose_8 rfl ?_
    refine j_iconst hx dX10_choose_9 ?_
    refine j_iadd hx (r := 1) dX10_choose_10 (by omega) ?_
    refine j_callV hx hG (c_X10_boardAt hst a 1) lk_RX10_22 ha (by decide) rfl rfl rfl rfl [.int (zI 1)] ⟨rfl, hG, hS0, ha, (by omega)⟩ rfl rfl ⟨by decide, by decide⟩ ⟨by decide, by decide⟩ (k2 := 0) (n2 := 0) rfl rfl (Nat.le_of_ble_eq_true rfl) dX10_choose_11 (kNP (fun _ => ?_) (fun r5 q6 => ?_))
    · skip
      refine j_astoreN hx [(5, .null), (4, .ref r1), (0, .ref a), (1, .int (zI 0)), (2, .int (zI x2)), (3, .int (zI x3))] dX10_choose_14 (by decide) rfl ?_
      refine j_aload hx 1 dX10_choose_16 rfl ?_
      refine j_ifnonnull hx 22 dX10_choose_18 rfl ?_
      refine j_aloadN hx 0 dX10_choose_22 rfl ?_
      have c35_1 : ∀ (s2 : zS), (zSK G s2) → (zFr [1, 7, 41] G s0 s2) → JJ X E 8 G s2 0 0 [(0, .ref a), (2, .int (zI x2)), (4, .ref r1)] 35 [] := by
        intro s2 hS_s2 hF_s2
        refine j_aload_n hx 0 dX10_choose_35 rfl ?_
        refine j_aload hx 2 dX10_choose_36 rfl ?_
        refine j_aload_n hx 0 dX10_choose_38 rfl ?_
        have f7 := zf hS0 ha (k := 2) rfl
        refine g11_2 hx hG ha kf_RX10_41 (v := (s0 a 2)) (by rw [(zFr_g hF_s2 ha (by decide))]) dX10_choose_39 ?_
        refine j_callV hx hG (c_X0_cardsOf hst r1 ((s0 a 2))) lk_RX10_58 q2.1 (by decide) rfl rfl rfl rfl [.int (zI ((s0 a 2)))] ⟨rfl, hG, hS_s2, q2.1, (by omega)⟩ rfl rfl ⟨by decide, by decide⟩ ⟨by decide, by decide⟩ (k2 := 0) (n2 := 0) rfl rfl (Nat.le_of_ble_eq_true rfl) dX10_choose_42 (kIP (fun v8 q9 => ?_))
        refine j_iload_n hx 1 dX10_choose_45 rfl ?_
        refine j_callV hx hG (c_X10_keepBetter hst a v8 x2) lk_RX10_62 ha (by decide) rfl rfl rfl rfl [.int (zI v8), .int (zI x2)] ⟨rfl, hG, hS_s2, ha, (by omega), (by omega)⟩ rfl rfl ⟨by decide, by decide⟩ ⟨by decide, by decide⟩ (k2 := 0) (n2 := 0) rfl rfl (Nat.le_of_ble_eq_true rfl) dX10_choose_46 (kVM (fun s5 hS_s5 hF_s5 q11 => ?_))
        exact j_vret hx hq rfl (by decide) (by decide) dX10_choose_49 ⟨rfl, rfl, hS_s5, (zFr_t (zFr_t zFr_rf hF_s2 (by decide)) hF_s5 (by decide)), trivial⟩
      refine j_ifnullN hx 35 dX10_choose_24 rfl ?_
      exact j_sub [2, 4, 1] [(0, .ref a), (2, .int (zI x2)), (4, .ref r1)] rfl (c35_1 s0 hS0 zFr_rf)
    · skip
      refine j_astore hx [(5, .ref r5), (4, .ref r1), (0, .ref a), (1, .int (zI 0)), (2, .int (zI x2)), (3, .int (zI x3))] dX10_choose_14 (by decide) rfl ?_
      refine j_aload hx 1 dX10_choose_16 rfl ?_
      refine j_ifnonnull hx 22 dX10_choose_18 rfl ?_
      refine j_aload hx 0 dX10_choose_22 rfl ?_
      have c35_6 : ∀ (s7 : zS), (zSK G s7) → (zFr [1, 7, 41] G s0 s7) → JJ X E 8 G s7 0 0 [(0, .ref a), (2, .int (zI x2)), (4, .ref r1)] 35 [] := by
        intro s7 hS_s7 hF_s7
        refine j_aload_n hx 0 dX10_choose_35 rfl ?_
        refine j_aload hx 2 dX10_choose_36 rfl ?_
        refine j_aload_n hx 0 dX10_choose_38 rfl ?_
        have f12 := zf hS0 ha (k := 2) rfl
        refine g11_2 hx hG ha kf_RX10_41 (v := (s0 a 2)) (by rw [(zFr_g hF_s7 ha (by decide))]) dX10_choose_39 ?_
        refine j_callV hx hG (c_X0_cardsOf hst r1 ((s0 a 2))) lk_RX10_58 q2.1 (by decide) rfl rfl rfl rfl [.int (zI ((s0 a 2)))] ⟨rfl, hG, hS_s7, q2.1, (by omega)⟩ rfl rfl ⟨by decide, by decide⟩ ⟨by decide, by decide⟩ (k2 := 0) (n2 := 0) rfl rfl (Nat.le_of_ble_eq_true rfl) dX10_choose_42 (kIP (fun v13 q14 => ?_))
        refine j_iload_n hx 1 dX10_choose_45 rfl ?_
        refine j_callV hx hG (c_X10_keepBetter hst a v13 x2) lk_RX10_62 ha (by decide) rfl rfl rfl rfl [.int (zI v13), .int (zI x2)] ⟨rfl, hG, hS_s7, ha, (by omega), (by omega)⟩ rfl rfl ⟨by decide, by decide⟩ ⟨by decide, by decide⟩ (k2 := 0) (n2 := 0) rfl rfl (Nat.le_of_ble_eq_true rfl) dX10_choose_46 (kVM (fun s10 hS_s10 hF_s10 q16 => ?_))
        exact j_vret hx hq rfl (by decide) (by decide) dX10_choose_49 ⟨rfl, rfl, hS_s10, (zFr_t (zFr_t zFr_rf hF_s7 (by decide)) hF_s10 (by decide)), trivial⟩
      refine j_ifnull hx dX10_choose_24 ?_
      refine j_aload hx 1 dX10_choose_27 rfl ?_
      refine j_callV hx hG (c_X0_step hst r1) lk_RX10_33 q2.1 (by decide) rfl rfl rfl rfl [] ⟨rfl, hG, hS0, q2.1⟩ rfl rfl ⟨by decide, by decide⟩ ⟨by decide, by decide⟩ (k2 := 0) (n2 := 0) rfl rfl (Nat.le_of_ble_eq_true rfl) dX10_choose_29 (kIM (fun v17 s11 hS_s11 hF_s11 q18 => ?_))
      refine j_if_ne hx 50 dX10_choose_32 rfl (by omega) (fun h19 => ?_) (fun h19 => ?_)
      · skip
        refine j_aload hx 1 dX10_choose_50 rfl ?_
        refine j_callV hx hG (c_X0_likeTops hst r1) lk_RX10_37 q2.1 (by decide) rfl rfl rfl rfl [] ⟨rfl, hG, hS_s11, q2.1⟩ rfl rfl ⟨by decide, by decide⟩ ⟨by decide, by decide⟩ (k2 := 0) (n2 := 0) rfl rfl (Nat.le_of_ble_eq_true rfl) dX10_choose_52 (kIP (fun v20 q21 => ?_))
        refine j_istore hx [(6, .int (zI v20)), (5, .ref r5), (4, .ref r1), (0, .ref a), (1, .int (zI 0)), (2, .int (zI x2)), (3, .int (zI x3))] dX10_choose_55 (by decide) rfl ?_
        refine j_aload hx 2 dX10_choose_57 rfl ?_
        refine j_aload_n hx 3 dX10_choose_59 rfl ?_
        have f22 := zf hS0 ha (k := 2) rfl
        refine g11_2 hx hG ha kf_RX10_41 (v := (s0 a 2)) (by rw [(zFr_g hF_s11 ha (by decide))]) dX10_choose_60 ?_
        refine j_callV hx hG (c_X0_following hst r1 ((s0 a 2))) lk_RX10_66 q2.1 (by decide) rfl rfl rfl rfl [.int (zI ((s0 a 2)))] ⟨rfl, hG, hS_s11, q2.1, (by omega)⟩ rfl rfl ⟨by decide, by decide⟩ ⟨by decide, by decide⟩ (k2 := 0) (n2 := 0) rfl rfl (Nat.le_of_ble_eq_true rfl) dX10_choose_63 (kIP (fun v23 q24 => ?_))
        refine j_istore hx [(7, .int (zI v23)), (6, .int (zI v20)), (5, .ref r5), (4, .ref r1), (0, .ref a), (1, .int (zI 0)), (2, .int (zI x2)), (3, .int (zI x3))] dX10_choose_66 (by decide) rfl ?_
        refine j_aload hx 2 dX10_choose_68 rfl ?_
        refine j_aload hx 3 dX10_choose_70 rfl ?_
        refine j_callV hx hG (c_X0_become hst r5 r1) lk_RX10_26 q6.1 (by decide) rfl rfl rfl rfl [.ref r1] ⟨rfl, hG, hS_s11, q6.1, q2.1⟩ rfl rfl ⟨by decide, by decide⟩ ⟨by decide, by decide⟩ (k2 := 0) (n2 := 0) rfl rfl (Nat.le_of_ble_eq_true rfl) dX10_choose_72 (kVM (fun s12 hS_s12 hF_s12 q26 => ?_))
        refine j_iload hx 1 dX10_choose_75 rfl ?_
        refine j_iconst hx dX10_choose_77 ?_
        have c101_13 : ∀ (s14 : zS), (zSK G s14) → (zFr [7, 41] G s12 s14) → JJ X E 8 G s14 0 0 [(0, .ref a), (1, .int (zI 0)), (2, .int (zI x2)), (3, .int (zI x3)), (4, .ref r1), (5, .ref r5), (6, .int (zI v20))] 101 [] := by
          intro s14 hS_s14 hF_s14
          refine j_aload_n hx 0 dX10_choose_101 rfl ?_
          refine j_iload_n hx 1 dX10_choose_102 rfl ?_
          refine j_iconst hx dX10_choose_103 ?_
          refine j_iadd hx (r := 1) dX10_choose_104 (by omega) ?_
          refine j_iload_n hx 2 dX10_choose_105 rfl ?_
          refine j_iload_n hx 3 dX10_choose_106 rfl ?_
          refine j_callV hx hG (c_X10_choose_1 hst a 1 x2 x3) lk_RX10_54 ha (by decide) rfl rfl rfl rfl [.int (zI 1), .int (zI x2), .int (zI x3)] ⟨rfl, hG, hS_s14, ha, (by omega), (by omega), (by omega)⟩ rfl rfl ⟨by decide, by decide⟩ ⟨by decide, by decide⟩ (k2 := 0) (n2 := 0) rfl rfl (Nat.le_of_ble_eq_true rfl) dX10_choose_107 (kVM (fun s17 hS_s17 hF_s17 q28 => ?_))
          refine j_iload hx 6 dX10_choose_110 rfl ?_
          refine j_iconst hx dX10_choose_112 ?_
          refine j_icmp_eq hx 170 dX10_choose_113 rfl (by omega) ⟨by decide, by decide⟩ (fun h29 => ?_) (fun h29 => ?_)
          · skip
            exact j_vret hx hq rfl (by decide) (by decide) dX10_choose_170 ⟨rfl, rfl, hS_s17, (zFr_t (zFr_t (zFr_t (zFr_t zFr_rf hF_s11 (by decide)) hF_s12 (by decide)) hF_s14 (by decide)) hF_s17 (by decide)), trivial⟩
          · skip
            refine j_iload_n hx 3 dX10_choose_116 rfl ?_
            refine j_if_le hx 170 dX10_choose_117 rfl (by omega) (fun h30 => ?_) (fun h30 => ?_)
            · skip
              exact j_vret hx hq rfl (by decide) (by decide) dX10_choose_170 ⟨rfl, rfl, hS_s17, (zFr_t (zFr_t (zFr_t (zFr_t zFr_rf hF_s11 (by decide)) hF_s12 (by decide)) hF_s14 (by decide)) hF_s17 (by decide)), trivial⟩
            · skip
              refine j_aload hx 4 dX10_choose_120 rfl ?_
              refine j_aload_n hx 0 dX10_choose_122 rfl ?_
              have f31 := zf hS_s17 ha (k := 2) rfl
              refine g11_2 hx hG ha kf_RX10_41 rfl dX10_choose_123 ?_
              refine j_callV hx hG (c_X0_isOut hst r1 ((s17 a 2))) lk_RX10_73 q2.1 (by decide) rfl rfl rfl rfl [.int (zI ((s17 a 2)))] ⟨rfl, hG, hS_s17, q2.1, (by omega)⟩ rfl rfl ⟨by decide, by decide⟩ ⟨by decide, by decide⟩ (k2 := 0) (n2 := 0) rfl rfl (Nat.le_of_ble_eq_true rfl) dX10_choose_126 (kIP (fun v32 q33 => ?_))
              refine j_if_ne hx 170 dX10_choose_129 rfl (by omega) (fun h34 => ?_) (fun h34 => ?_)
              · skip
                exact j_vret hx hq rfl (by decide) (by decide) dX10_choose_170 ⟨rfl, rfl, hS_s17, (zFr_t (zFr_t (zFr_t (zFr_t zFr_rf hF_s11 (by decide)) hF_s12 (by decide)) hF_s14 (by decide)) hF_s17 (by decide)), trivial⟩
              · skip
                refine j_aload hx 5 dX10_choose_132 rfl ?_
                refine j_aload hx 4 dX10_choose_134 rfl ?_
                refine j_callV hx hG (c_X0_become hst r5 r1) lk_RX10_26 q6.1 (by decide) rfl rfl rfl rfl [.ref r1] ⟨rfl, hG, hS_s17, q6.1, q2.1⟩ rfl rfl ⟨by decide, by decide⟩ ⟨by decide, by decide⟩ (k2 := 0) (n2 := 0) rfl rfl (Nat.le_of_ble_eq_true rfl) dX10_choose_136 (kVM (fun s18 hS_s18 hF_s18 q36 => ?_))
                refine j_aload hx 5 dX10_choose_139 rfl ?_
                refine j_aload_n hx 0 dX10_choose_141 rfl ?_
                refine g11_2 hx hG ha kf_RX10_41 (v := (s17 a 2)) (by rw [(zFr_g hF_s18 ha (by decide))]) dX10_choose_142 ?_
                refine j_iload hx 6 dX10_choose_145 rfl ?_
                refine j_aload_n hx 0 dX10_choose_147 rfl ?_
                have f37 := zf hS_s17 ha (k := 3) rfl
                refine g11_3 hx hG ha kf_RX10_45 (v := (s17 a 3)) (by rw [(zFr_g hF_s18 ha (by decide))]) dX10_choose_148 ?_
                refine j_callV hx hG (c_X0_win hst r5 ((s17 a 2)) v20 ((s17 a 3))) lk_RX10_69 q6.1 (by decide) rfl rfl rfl rfl [.int (zI ((s17 a 2))), .int (zI v20), .int (zI ((s17 a 3)))] ⟨rfl, hG, hS_s18, q6.1, (by omega), (by omega), (by omega)⟩ rfl rfl ⟨by decide, by decide⟩ ⟨by decide, by decide⟩ (k2 := 0) (n2 := 0) rfl rfl (Nat.le_of_ble_eq_true rfl) dX10_choose_151 (kIM (fun v38 s19 hS_s19 hF_s19 q39 => ?_))
                refine j_pop hx dX10_choose_154 rfl ?_
                refine j_aload_n hx 0 dX10_choose_155 rfl ?_
                refine j_iload_n hx 1 dX10_choose_156 rfl ?_
                refine j_iconst hx dX10_choose_157 ?_
                refine j_iadd hx (r := 1) dX10_choose_158 (by omega) ?_
                refine j_iload_n hx 2 dX10_choose_159 rfl ?_
                refine j_iconst hx dX10_choose_160 ?_
                refine j_iload_n hx 1 dX10_choose_161 rfl ?_
                refine j_ishl hx dX10_choose_162 (fun v40 f41 f42 => ?_)
                refine j_ior hx dX10_choose_163 (fun v43 f44 f45 => ?_)
                refine j_iload_n hx 3 dX10_choose_164 rfl ?_
                refine j_iconst hx dX10_choose_165 ?_
                refine j_isub hx (r := x3 - 1) dX10_choose_166 rfl ?_
                refine j_callV hx hG (c_X10_choose_1 hst a 1 v43 (x3 - 1)) lk_RX10_54 ha (by decide) rfl rfl rfl rfl [.int (zI 1), .int (zI v43), .int (zI (x3 - 1))] ⟨rfl, hG, hS_s19, ha, (by omega), (by omega), (by omega)⟩ rfl rfl ⟨by decide, by decide⟩ ⟨by decide, by decide⟩ (k2 := 0) (n2 := 0) rfl rfl (Nat.le_of_ble_eq_true rfl) dX10_choose_167 (kVM (fun s20 hS_s20 hF_s20 q47 => ?_))
                exact j_vret hx hq rfl (by decide) (by decide) dX10_choose_170 ⟨rfl, rfl, hS_s20, (zFr_t (zFr_t (zFr_t (zFr_t (zFr_t (zFr_t (zFr_t zFr_rf hF_s11 (by decide)) hF_s12 (by decide)) hF_s14 (by decide)) hF_s17 (by decide)) hF_s18 (by decide)) hF_s19 (by decide)) hF_s20 (by decide)), trivial⟩
        refine j_icmp_eq hx 101 dX10_choose_78 rfl (by omega) ⟨by decide, by decide⟩ (fun h48 => ?_) (fun h48 => ?_)
        · skip
          exact j_sub [4, 5, 6, 7, 3, 2, 1] [(0, .ref a), (1, .int (zI 0)), (2, .int (zI x2)), (3, .int (zI x3)), (4, .ref r1), (5, .ref r5), (6, .int (zI v20))] rfl (c101_13 s12 hS_s12 zFr_rf)
        · skip
          refine j_iload hx 0 dX10_choose_81 rfl ?_
          refine j_iconst hx dX10_choose_83 ?_
          refine j_icmp_eq hx 101 dX10_choose_84 rfl (by omega) ⟨by decide, by decide⟩ (fun h49 => ?_) (fun h49 => ?_)
          · skip
            exact j_sub [4, 5, 6, 7, 3, 2, 1] [(0, .ref a), (1, .int (zI 0)), (2, .int (zI x2)), (3, .int (zI x3)), (4, .ref r1), (5, .ref r5), (6, .int (zI v20))] rfl (c101_13 s12 hS_s12 zFr_rf)
          · skip
            refine j_aload hx 2 dX10_choose_87 rfl ?_
            refine j_iload hx 0 dX10_choose_89 rfl ?_
            refine j_iload hx 1 dX10_choose_91 rfl ?_
            refine j_aload_n hx 4 dX10_choose_93 rfl ?_
            have f50 := zf hS0 ha (k := 3) rfl
            refine g11_3 hx hG ha kf_RX10_45 (v := (s0 a 3)) (by rw [(zFr_g hF_s12 ha (by decide)), (zFr_g hF_s11 ha (by decide))]) dX10_choose_94 ?_
            refine j_callV hx hG (c_X0_win hst r5 v23 v20 ((s0 a 3))) lk_RX10_69 q6.1 (by decide) rfl rfl rfl rfl [.int (zI v23), .int (zI v20), .int (zI ((s0 a 3)))] ⟨rfl, hG, hS_s12, q6.1, (by omega), (by omega), (by omega)⟩ rfl rfl ⟨by decide, by decide⟩ ⟨by decide, by decide⟩ (k2 := 0) (n2 := 0) rfl rfl (Nat.le_of_ble_eq_true rfl) dX10_choose_97 (kIM (fun v51 s21 hS_s21 hF_s21 q52 => ?_))
            refine j_pop hx dX10_choose_100 rfl ?_
            exact j_sub [4, 5, 6, 7, 3, 2, 1] [(0, .ref a), (1, .int (zI 0)), (2, .int (zI x2)), (3, .int (zI x3)), (4, .ref r1), (5, .ref r5), (6, .int (zI v20))] rfl (c101_13 s21 hS_s21 (zFr_t zFr_rf hF_s21 (by decide)))
      · skip
        exact j_sub [2, 4, 1] [(0, .ref a), (2, .int (zI x2)), (4, .ref r1)] rfl (c35_6 s11 hS_s11 (zFr_t zFr_rf hF_s11 (by decide)))

set_option maxHeartbeats 4000000 in
set_option maxRecDepth 20000 in
theorem c_X10_remembering {E : zE} {l : Launch} (hst : l.stackTraces = false) (a : Nat) (b1 : Nat) (x2 : Int) (x3 : Int) (x4 : Int) : Con E l yX10_remembering cX10_remembering 5 none { frames := 16, cells := 0, slots := 0, locals := 410 } (fun G s vs => vs = [.ref a, .ref b1, .int (zI x2), .int (zI x3), .int (zI x4)] ∧ zGK G ∧ zSK G s ∧ (gT G a = 11) ∧ (gT G b1 = 1) ∧ ((-2147483648) ≤ x2 ∧ x2 ≤ 2147483647) ∧ (0 ≤ x3 ∧ x3 ≤ 4) ∧ ((-2147483648) ≤ x4 ∧ x4 ≤ 2147483647)) (fun G s _ => pV (fun G2 s2 => G2 = G ∧ zSK G s2 ∧ zFr [1, 7, 11, 41] G s s2 ∧ True)) := by
  refine Con.mk hst (by decide) (fun G s vs h => by rw [h.1]; exact Nat.le_of_ble_eq_true rfl) ?_
  rintro X G s0 vs ⟨rfl, hG, hS0, ha, hb1, hx2, hx3, hx4⟩ rfl hx hq
  show JJ X E 5 G s0 0 0 [(0, .ref a), (1, .ref b1), (2, .int (zI x2)), (3, .int (zI x3)), (4, .int (zI x4))] 0 []
  refine j_aload_n hx 0 dX10_remembering_0 rfl ?_
  refine j_aload_n hx 1 dX10_remembering_1 rfl ?_
  refine j_callV hx hG (c_X10_start hst a b1) lk_RX10_30 ha (by decide) rfl rfl rfl rfl [.ref b1] ⟨rfl, hG, hS0, ha, hb1⟩ rfl rfl ⟨by decide, by decide⟩ ⟨by decide, by decide⟩ (k2 := 0) (n2 := 0) rfl rfl (Nat.le_of_ble_eq_true rfl) dX10_remembering_2 (kVM (fun s1 hS_s1 hF_s1 q2 => ?_))
  refine j_aload_n hx 0 dX10_remembering_5 rfl ?_
  refine j_iload_n hx 2 dX10_remembering_6 rfl ?_
  refine p11_2 hx hG ha kf_RX10_41 dX10_remembering_7 ?_
  obtain ⟨s2, e_s2⟩ : ∃ z, z = zU s1 a 2 x2 := ⟨_, rfl⟩
  rw [← e_s2]
  have hS_s2 : zSK G s2 := by rw [e_s2]; exact zSK_F hS_s1 ha rfl rfl rfl (by omega)
  refine j_aload_n hx 0 dX10_remembering_10 rfl ?_
  refine j_iload hx 4 dX10_remembering_11 rfl ?_
  refine p11_3 hx hG ha kf_RX10_45 dX10_remembering_13 ?_
  obtain ⟨s3, e_s3⟩ : ∃ z, z = zU s2 a 3 x4 := ⟨_, rfl⟩
  rw [← e_s3]
  have hS_s3 : zSK G s3 := by rw [e_s3]; exact zSK_F hS_s2 ha rfl rfl rfl (by omega)
  refine j_aload_n hx 0 dX10_remembering_16 rfl ?_
  refine j_iconst hx dX10_remembering_17 ?_
  refine p11_5 hx hG ha kf_RX10_48 dX10_remembering_18 ?_
  obtain ⟨s4, e_s4⟩ : ∃ z, z = zU s3 a 5 (-1) := ⟨_, rfl⟩
  rw [← e_s4]
  have hS_s4 : zSK G s4 := by rw [e_s4]; exact zSK_F hS_s3 ha rfl rfl rfl (by omega)
  refine j_aload_n hx 0 dX10_remembering_21 rfl ?_
  refine j_iconst hx dX10_remembering_22 ?_
  refine p11_6 hx hG ha kf_RX10_51 dX10_remembering_23 ?_
  obtain ⟨s5, e_s5⟩ : ∃ z, z = zU s4 a 6 0 := ⟨_, rfl⟩
  rw [← e_s5]
  have hS_s5 : zSK G s5 := by rw [e_s5]; exact zSK_F hS_s4 ha rfl rfl rfl (by omega)
  refine j_aload_n hx 0 dX10_remembering_26 rfl ?_
  refine j_iconst hx dX10_remembering_27 ?_
  refine j_iconst hx dX10_remembering_28 ?_
  refine j_iload_n hx 3 dX10_remembering_29 rfl ?_
  refine j_callV hx hG (c_X10_choose_0 hst a 0 0 x3) lk_RX10_54 ha (by decide) rfl rfl rfl rfl [.int (zI 0), .int (zI 0), .int (zI x3)] ⟨rfl, hG, hS_s5, ha, (by omega), (by omega), (by omega)⟩ rfl rfl ⟨by decide, by decide⟩ ⟨by decide, by decide⟩ (k2 := 0) (n2 := 0) rfl rfl (Nat.le_of_ble_eq_true rfl) dX10_remembering_30 (kVM (fun s6 hS_s6 hF_s6 q4 => ?_))
  exact j_vret hx hq rfl (by decide) (by decide) dX10_remembering_33 ⟨rfl, rfl, hS_s6, (zFr_t (zFr_u (zFr_u (zFr_u (zFr_u (zFr_t zFr_rf hF_s1 (by decide)) e_s2 ha (by decide)) e_s3 ha (by decide)) e_s4 ha (by decide)) e_s5 ha (by decide)) hF_s6 (by decide)), trivial⟩

theorem lk_RX11_284 : LkV RX11 284 RX10 yX10_remembering cX10_remembering 5 none 4 := ⟨km_RX11_284, ki_yX10_remembering, ks_RX10_yX10_remembering, kn_RX10, kc_yX10_remembering, rfl, by decide +kernel, by decide +kernel, by decide +kernel⟩
set_option maxHeartbeats 4000000 in
set_option maxRecDepth 20000 in
theorem c_X11_remember {E : zE} {l : Launch} (hst : l.stackTraces = false) (a : Nat) (x1 : Int) (x2 : Int) (x3 : Int) : ConX E l yX11_remember cX11_remember 4 (some .int) { frames := 17, cells := 3, slots := 18, locals := 434 } (fun G s vs => vs = [.ref a, .int (zI x1), .int (zI x2), .int (zI x3)] ∧ zGK G ∧ zSK G s ∧ (gT G a = 12) ∧ ((-2147483648) ≤ x1 ∧ x1 ≤ 2147483647) ∧ ((-2147483648) ≤ x2 ∧ x2 ≤ 2147483647) ∧ ((-2147483648) ≤ x3 ∧ x3 ≤ 2147483647)) (fun G s _ => pI (fun r G2 s2 => G2 = G ∧ zSK G s2 ∧ zFr [1, 7, 11, 41] G s s2 ∧ ((-2147483648) ≤ r ∧ r ≤ 2147483647))) (fun G s _ Ex G2 s2 => G2 = G ∧ zSK G s2 ∧ zFr [1, 7, 11, 12, 41] G s s2 ∧ ((Ex = "java/lang/IllegalArgumentException" ∧ (True)) ∨ (Ex = "java/util/NoSuchElementException" ∧ (True)))) := by
  refine ConX.mk hst (by decide) (fun G s vs h => by rw [h.1]; exact Nat.le_of_ble_eq_true rfl) ?_
  rintro X G s0 vs ⟨rfl, hG, hS0, ha, hx1, hx2, hx3⟩ rfl hx hq
  show JJ X E 4 G s0 0 0 [(0, .ref a), (1, .int (zI x1)), (2, .int (zI x2)), (3, .int (zI x3))] 0 []
  refine j_aload_n hx 0 dX11_remember_0 rfl ?_
  refine j_iload_n hx 1 dX11_remember_1 rfl ?_
  refine j_callVX hx hq hG (c_X11_needPlayer hst a x1) lk_RX11_134 ha (by decide) rfl rfl rfl rfl [.int (zI x1)] ⟨rfl, hG, hS0, ha, (by omega)⟩ rfl rfl ⟨by decide, by decide⟩ ⟨by decide, by decide⟩ (k2 := 1) (n2 := 6) rfl rfl (Nat.le_of_ble_eq_true rfl) ⟨by decide, by decide⟩ dX11_remember_2 (by rintro Ex9 G9 s9 ⟨rfl, hS9, hF9, e9, c9⟩; exact ⟨rfl, hS9, (zFr_t zFr_rf hF9 (by decide)), Or.inr ⟨e9, by first | trivial | omega⟩⟩) (kVP (fun q2 => ?_))
  refine j_aload_n hx 0 dX11_remember_5 rfl ?_
  refine j_iload_n hx 2 dX11_remember_6 rfl ?_
  refine j_iconst hx dX11_remember_7 ?_
  refine j_iconst hx dX11_remember_8 ?_
  refine j_callVX hx hq hG (c_X11_needRange hst a x2 0 4) lk_RX11_98 ha (by decide) rfl rfl rfl rfl [.int (zI x2), .int (zI 0), .int (zI 4)] ⟨rfl, hG, hS0, ha, (by omega), (by omega), (by omega)⟩ rfl rfl ⟨by decide, by decide⟩ ⟨by decide, by decide⟩ (k2 := 2) (n2 := 12) rfl rfl (Nat.le_of_ble_eq_true rfl) ⟨by decide, by decide⟩ dX11_remember_9 (by rintro Ex9 G9 s9 ⟨rfl, hS9, hF9, e9, c9⟩; exact ⟨rfl, hS9, (zFr_t zFr_rf hF9 (by decide)), Or.inl ⟨e9, by first | trivial | omega⟩⟩) (kVP (fun q4 => ?_))
  refine j_aload_n hx 0 dX11_remember_12 rfl ?_
  refine j_iload_n hx 3 dX11_remember_13 rfl ?_
  refine j_iconst hx dX11_remember_14 ?_
  refine j_iconst hx dX11_remember_15 ?_
  refine j_callVX hx hq hG (c_X11_needRange hst a x3 0 1) lk_RX11_98 ha (by decide) rfl rfl rfl rfl [.int (zI x3), .int (zI 0), .int (zI 1)] ⟨rfl, hG, hS0, ha, (by omega), (by omega), (by omega)⟩ rfl rfl ⟨by decide, by decide⟩ ⟨by decide, by decide⟩ (k2 := 3) (n2 := 18) rfl rfl (Nat.le_of_ble_eq_true rfl) ⟨by decide, by decide⟩ dX11_remember_16 (by rintro Ex9 G9 s9 ⟨rfl, hS9, hF9, e9, c9⟩; exact ⟨rfl, hS9, (zFr_t zFr_rf hF9 (by decide)), Or.inl ⟨e9, by first | trivial | omega⟩⟩) (kVP (fun q6 => ?_))
  refine j_aload_n hx 0 dX11_remember_19 rfl ?_
  refine g12_8 hx hG ha kf_RX11_62 dX11_remember_20 ?_
  refine j_aload_n hx 0 dX11_remember_23 rfl ?_
  refine g12_6 hx hG ha kf_RX11_48 dX11_remember_24 ?_
  refine gN4_1 hx hG (zr (k := 6) (t2 := 4) hG ha rfl) kf_RX11_155 dX11_remember_27 ?_
  refine j_iload_n hx 1 dX11_remember_30 rfl ?_
  refine j_iload_n hx 2 dX11_remember_31 rfl ?_
  refine j_aload_n hx 0 dX11_remember_32 rfl ?_
  refine g12_6 hx hG ha kf_RX11_48 dX11_remember_33 ?_
  refine j_iconst hx dX11_remember_36 ?_
  refine j_callV hx hG (c_X3_lawOf hst (gP G a 6) 2) lk_RX11_178 (zr (k := 6) (t2 := 4) hG ha rfl) (by decide) rfl rfl rfl rfl [.int (zI 2)] ⟨rfl, hG, hS0, (zr (k := 6) (t2 := 4) hG ha rfl), (by omega)⟩ rfl rfl ⟨by decide, by decide⟩ ⟨by decide, by decide⟩ (k2 := 3) (n2 := 18) rfl rfl (Nat.le_of_ble_eq_true rfl) dX11_remember_37 (kIP (fun v7 q8 => ?_))
  refine j_callV hx hG (c_X10_remembering hst (gP G a 8) (gP G (gP G a 6) 1) x1 x2 v7) lk_RX11_284 (zr (k := 8) (t2 := 11) hG ha rfl) (by decide) rfl rfl rfl rfl [.ref (gP G (gP G a 6) 1), .int (zI x1), .int (zI x2), .int (zI v7)] ⟨rfl, hG, hS0, (zr (k := 8) (t2 := 11) hG ha rfl), (zr (k := 1) (t2 := 1) hG (zr (k := 6) (t2 := 4) hG ha rfl) rfl), (by omega), (by omega), (by omega)⟩ rfl rfl ⟨by decide, by decide⟩ ⟨by decide, by decide⟩ (k2 := 3) (n2 := 18) rfl rfl (Nat.le_of_ble_eq_true rfl) dX11_remember_40 (kVM (fun s1 hS_s1 hF_s1 q10 => ?_))
  refine j_iload_n hx 3 dX11_remember_43 rfl ?_
  refine j_if_ne hx 57 dX11_remember_44 rfl (by omega) (fun h11 => ?_) (fun h11 => ?_)
  · skip
    refine j_aload_n hx 0 dX11_remember_57 rfl ?_
    refine g12_8 hx hG ha kf_RX11_62 dX11_remember_58 ?_
    have f12 := zf hS_s1 (zr (k := 8) (t2 := 11) hG ha rfl) (k := 6) rfl
    refine gN11_6 hx hG (zr (k := 8) (t2 := 11) hG ha rfl) kf_RX11_291 rfl dX11_remember_61 ?_
    exact j_iret hx hq.r rfl (by decide) (by decide) dX11_remember_64 ⟨(s1 (gP G a 8) 6), rfl, rfl, hS_s1, (zFr_t zFr_rf hF_s1 (by decide)), (by omega)⟩
  · skip
    refine j_aload_n hx 0 dX11_remember_47 rfl ?_
    refine g12_8 hx hG ha kf_RX11_62 dX11_remember_48 ?_
    have f13 := zf hS_s1 (zr (k := 8) (t2 := 11) hG ha rfl) (k := 5) rfl
    refine gN11_5 hx hG (zr (k := 8) (t2 := 11) hG ha rfl) kf_RX11_288 rfl dX11_remember_51 ?_
    refine j_goto hx 64 dX11_remember_54 rfl ?_
    exact j_iret hx hq.r rfl (by decide) (by decide) dX11_remember_64 ⟨(s1 (gP G a 8) 5), rfl, rfl, hS_s1, (zFr_t zFr_rf hF_s1 (by decide)), (by omega)⟩

theorem lk_RX8_32 : LkV RX8 32 RX8 yX8_trait cX8_trait 4 (some .int) 2 := ⟨km_RX8_32, ki_yX8_trait, ks_RX8_yX8_trait, kn_RX8, kc_yX8_trait, rfl, by decide +kernel, by decide +kernel, by decide +kernel⟩
set_option maxHeartbeats 4000000 in
set_option maxRecDepth 20000 in
theorem c_X8_allQuickness {E : zE} {l : Launch} (hst : l.stackTraces = false) (a : Nat) : Con E l yX8_allQuickness cX8_allQuickness 3 (some .int) { frames := 1, cells := 0, slots := 0, locals := 23 } (fun G s vs => vs = [.ref a] ∧ zGK G ∧ zSK G s ∧ (gT G a = 9)) (fun G s _ => pI (fun r G2 s2 => G2 = G ∧ s2 = s ∧ ((-2147483648) ≤ r ∧ r ≤ 2147483647))) := by
  refine Con.mk hst (by decide) (fun G s vs h => by rw [h.1]; exact Nat.le_of_ble_eq_true rfl) ?_
  rintro X G s0 vs ⟨rfl, hG, hS0, ha⟩ rfl hx hq
  show JJ X E 3 G s0 0 0 [(0, .ref a)] 0 []
  refine j_iconst hx dX8_allQuickness_0 ?_
  refine j_istore_n hx [(1, .int (zI 0)), (0, .ref a)] dX8_allQuickness_1 (by decide) rfl ?_
  refine j_iconst hx dX8_allQuickness_2 ?_
  refine j_istore_n hx [(2, .int (zI 0)), (1, .int (zI 0)), (0, .ref a)] dX8_allQuickness_3 (by decide) rfl ?_
  have c4_1 : ∀ (m_c4_1 : Nat) (v1 : Int) (v2 : Int), 2147483648 - v2 < m_c4_1 → ((-2147483648) ≤ v1 ∧ v1 ≤ 2147483647) → (0 ≤ v2 ∧ v2 ≤ 3) → JJ X E 3 G s0 0 0 [(0, .ref a), (1, .int (zI v1)), (2, .int (zI v2))] 4 [] := by
    intro m_c4_1
    induction m_c4_1 with
    | zero => intro v1 v2 hm_c4_1 fA2 fA3; exfalso; omega
    | succ m_c4_1 ih_c4_1 => 
      intro v1 v2 hm_c4_1 fA2 fA3
      refine j_iload_n hx 2 dX8_allQuickness_4 rfl ?_
      refine j_aload_n hx 0 dX8_allQuickness_5 rfl ?_
      have f3 := zf hS0 ha (k := 4) rfl
      refine g9_4 hx hG ha kf_RX8_28 rfl dX8_allQuickness_6 ?_
      refine j_icmp_ge hx 27 dX8_allQuickness_9 rfl (by omega) (by omega) (fun h4 => ?_) (fun h4 => ?_)
      · skip
        refine j_iload_n hx 1 dX8_allQuickness_27 rfl ?_
        exact j_iret hx hq rfl (by decide) (by decide) dX8_allQuickness_28 ⟨v1, rfl, rfl, rfl, (by omega)⟩
      · skip
        refine j_iload_n hx 1 dX8_allQuickness_12 rfl ?_
        refine j_aload_n hx 0 dX8_allQuickness_13 rfl ?_
        refine j_iload_n hx 2 dX8_allQuickness_14 rfl ?_
        refine j_iconst hx dX8_allQuickness_15 ?_
        refine j_callV hx hG (c_X8_trait hst a v2 0) lk_RX8_32 ha (by decide) rfl rfl rfl rfl [.int (zI v2), .int (zI 0)] ⟨rfl, hG, hS0, ha, (by omega), (by omega)⟩ rfl rfl ⟨by decide, by decide⟩ ⟨by decide, by decide⟩ (k2 := 0) (n2 := 0) rfl rfl (Nat.le_of_ble_eq_true rfl) dX8_allQuickness_16 (kIP (fun v5 q6 => ?_))
        refine j_iadd hx (r := v1 + v5) dX8_allQuickness_19 rfl ?_
        refine j_norm (fun v7 f8 f9 f10 => ?_)
        refine j_istore_n hx [(1, .int (zI v7)), (0, .ref a), (2, .int (zI v2))] dX8_allQuickness_20 (by decide) rfl ?_
        refine j_iinc hx 2 [(2, .int (zI (v2 + 1))), (1, .int (zI v7)), (0, .ref a)] dX8_allQuickness_21 rfl (by omega) (by decide) rfl ?_
        refine j_goto hx 4 dX8_allQuickness_24 rfl ?_
        exact j_sub [2, 1, 0] [(0, .ref a), (1, .int (zI v7)), (2, .int (zI (v2 + 1)))] rfl (ih_c4_1 v7 (v2 + 1) (by omega) (by omega) (by omega))
  exact j_sub [2, 1, 0] [(0, .ref a), (1, .int (zI 0)), (2, .int (zI 0))] rfl (c4_1 (2147483648 * 4) 0 0 (by omega) (by omega) (by omega))

set_option maxHeartbeats 4000000 in
set_option maxRecDepth 20000 in
theorem c_X10_leads {E : zE} {l : Launch} (hst : l.stackTraces = false) (a : Nat) (b1 : Nat) : Con E l yX10_leads cX10_leads 3 (some .boolean) { frames := 2, cells := 0, slots := 0, locals := 42 } (fun G s vs => vs = [.ref a, .ref b1] ∧ zGK G ∧ zSK G s ∧ (gT G a = 11) ∧ (gT G b1 = 1)) (fun G s _ => pI (fun r G2 s2 => G2 = G ∧ s2 = s ∧ (0 ≤ r ∧ r ≤ 1))) := by
  refine Con.mk hst (by decide) (fun G s vs h => by rw [h.1]; exact Nat.le_of_ble_eq_true rfl) ?_
  rintro X G s0 vs ⟨rfl, hG, hS0, ha, hb1⟩ rfl hx hq
  show JJ X E 3 G s0 0 0 [(0, .ref a), (1, .ref b1)] 0 []
  refine j_iconst hx dX10_leads_0 ?_
  refine j_istore_n hx [(2, .int (zI 0)), (0, .ref a), (1, .ref b1)] dX10_leads_1 (by decide) rfl ?_
  have c2_1 : ∀ (m_c2_1 : Nat) (v1 : Int), 2147483648 - v1 < m_c2_1 → (0 ≤ v1 ∧ v1 ≤ 3) → JJ X E 3 G s0 0 0 [(0, .ref a), (1, .ref b1), (2, .int (zI v1))] 2 [] := by
    intro m_c2_1
    induction m_c2_1 with
    | zero => intro v1 hm_c2_1 fA2; exfalso; omega
    | succ m_c2_1 ih_c2_1 => 
      intro v1 hm_c2_1 fA2
      refine j_iload_n hx 2 dX10_leads_2 rfl ?_
      refine j_aload_n hx 0 dX10_leads_3 rfl ?_
      refine g11_0 hx hG ha kf_RX10_17 dX10_leads_4 ?_
      have f2 := zf hS0 (zr (k := 0) (t2 := 9) hG ha rfl) (k := 4) rfl
      refine gN9_4 hx hG (zr (k := 0) (t2 := 9) hG ha rfl) kf_RX10_104 rfl dX10_leads_7 ?_
      refine j_icmp_ge hx 45 dX10_leads_10 rfl (by omega) (by omega) (fun h3 => ?_) (fun h3 => ?_)
      · skip
        refine j_iconst hx dX10_leads_45 ?_
        exact j_zret hx hq rfl (by decide) (by decide) dX10_leads_46 (by omega) ⟨1, rfl, rfl, rfl, (by omega)⟩
      · skip
        refine j_iload_n hx 2 dX10_leads_13 rfl ?_
        refine j_aload_n hx 0 dX10_leads_14 rfl ?_
        have f4 := zf hS0 ha (k := 2) rfl
        refine g11_2 hx hG ha kf_RX10_41 rfl dX10_leads_15 ?_
        have c39_3 : JJ X E 3 G s0 0 0 [(0, .ref a), (1, .ref b1), (2, .int (zI v1))] 39 [] := by
          refine j_iinc hx 2 [(2, .int (zI (v1 + 1))), (0, .ref a), (1, .ref b1)] dX10_leads_39 rfl (by omega) (by decide) rfl ?_
          refine j_goto hx 2 dX10_leads_42 rfl ?_
          exact j_sub [1, 2, 0] [(0, .ref a), (1, .ref b1), (2, .int (zI (v1 + 1)))] rfl (ih_c2_1 (v1 + 1) (by omega) (by omega))
        refine j_icmp_eq hx 39 dX10_leads_18 rfl (by omega) (by omega) (fun h5 => ?_) (fun h5 => ?_)
        · skip
          exact j_sub [0, 1, 2] [(0, .ref a), (1, .ref b1), (2, .int (zI v1))] rfl (c39_3  )
        · skip
          refine j_aload_n hx 1 dX10_leads_21 rfl ?_
          refine j_iload_n hx 2 dX10_leads_22 rfl ?_
          refine j_callV hx hG (c_X0_cardsOf hst b1 v1) lk_RX10_58 hb1 (by decide) rfl rfl rfl rfl [.int (zI v1)] ⟨rfl, hG, hS0, hb1, (by omega)⟩ rfl rfl ⟨by decide, by decide⟩ ⟨by decide, by decide⟩ (k2 := 0) (n2 := 0) rfl rfl (Nat.le_of_ble_eq_true rfl) dX10_leads_23 (kIP (fun v6 q7 => ?_))
          refine j_aload_n hx 1 dX10_leads_26 rfl ?_
          refine j_aload_n hx 0 dX10_leads_27 rfl ?_
          refine g11_2 hx hG ha kf_RX10_41 rfl dX10_leads_28 ?_
          refine j_callV hx hG (c_X0_cardsOf hst b1 ((s0 a 2))) lk_RX10_58 hb1 (by decide) rfl rfl rfl rfl [.int (zI ((s0 a 2)))] ⟨rfl, hG, hS0, hb1, (by omega)⟩ rfl rfl ⟨by decide, by decide⟩ ⟨by decide, by decide⟩ (k2 := 0) (n2 := 0) rfl rfl (Nat.le_of_ble_eq_true rfl) dX10_leads_31 (kIP (fun v8 q9 => ?_))
          refine j_icmp_lt hx 39 dX10_leads_34 rfl (by omega) (by omega) (fun h10 => ?_) (fun h10 => ?_)
          · skip
            exact j_sub [0, 1, 2] [(0, .ref a), (1, .ref b1), (2, .int (zI v1))] rfl (c39_3  )
          · skip
            refine j_iconst hx dX10_leads_37 ?_
            exact j_zret hx hq rfl (by decide) (by decide) dX10_leads_38 (by omega) ⟨0, rfl, rfl, rfl, (by omega)⟩
  exact j_sub [1, 2, 0] [(0, .ref a), (1, .ref b1), (2, .int (zI 0))] rfl (c2_1 (2147483648 * 4) 0 (by omega) (by omega))

theorem lk_RX10_87 : LkV RX10 87 RX8 yX8_allQuickness cX8_allQuickness 3 (some .int) 0 := ⟨km_RX10_87, ki_yX8_allQuickness, ks_RX8_yX8_allQuickness, kn_RX8, kc_yX8_allQuickness, rfl, by decide +kernel, by decide +kernel, by decide +kernel⟩
set_option maxHeartbeats 4000000 in
set_option maxRecDepth 20000 in
theorem c_X10_allWays {E : zE} {l : Launch} (hst : l.stackTraces = false) (a : Nat) (x1 : Int) (y2 : Int) : Con E l yX10_allWays cX10_allWays 7 (some .long) { frames := 2, cells := 0, slots := 0, locals := 45 } (fun G s vs => vs = [.ref a, .int (zI x1), .long (zL y2)] ∧ zGK G ∧ zSK G s ∧ (gT G a = 11) ∧ ((-2147483648) ≤ x1 ∧ x1 ≤ 2147483647) ∧ ((-9223372036854775808) ≤ y2 ∧ y2 ≤ 9223372036854775807)) (fun G s _ => pL (fun r G2 s2 => G2 = G ∧ s2 = s ∧ ((-9223372036854775808) ≤ r ∧ r ≤ 9223372036854775807))) := by
  refine Con.mk hst (by decide) (fun G s vs h => by rw [h.1]; exact Nat.le_of_ble_eq_true rfl) ?_
  rintro X G s0 vs ⟨rfl, hG, hS0, ha, hx1, hy2⟩ rfl hx hq
  show JJ X E 7 G s0 0 0 [(0, .ref a), (1, .int (zI x1)), (2, .long (zL y2))] 0 []
  refine j_lload_n hx 2 dX10_allWays_0 rfl ?_
  refine j_lstore hx [(4, .long (zL y2)), (0, .ref a), (1, .int (zI x1)), (2, .long (zL y2))] dX10_allWays_1 (by decide) rfl ?_
  refine j_iload_n hx 2 dX10_allWays_3 rfl ?_
  refine j_istore hx [(6, .int (zI x1)), (4, .long (zL y2)), (0, .ref a), (1, .int (zI x1)), (2, .long (zL y2))] dX10_allWays_4 (by decide) rfl ?_
  have c6_1 : ∀ (m_c6_1 : Nat) (w1 : Int) (v2 : Int), 2147483648 - v2 < m_c6_1 → ((-9223372036854775808) ≤ w1 ∧ w1 ≤ 9223372036854775807) → ((-2147483648) ≤ v2 ∧ v2 ≤ 2147483647) → JJ X E 7 G s0 0 0 [(0, .ref a), (4, .long (zL w1)), (6, .int (zI v2))] 6 [] := by
    intro m_c6_1
    induction m_c6_1 with
    | zero => intro w1 v2 hm_c6_1 fA2 fA3; exfalso; omega
    | succ m_c6_1 ih_c6_1 => 
      intro w1 v2 hm_c6_1 fA2 fA3
      refine j_iload hx 2 dX10_allWays_6 rfl ?_
      refine j_aload_n hx 0 dX10_allWays_8 rfl ?_
      have f3 := zf hS0 ha (k := 4) rfl
      refine g11_4 hx hG ha kf_RX10_77 rfl dX10_allWays_9 ?_
      refine j_icmp_ge hx 34 dX10_allWays_12 rfl (by omega) (by omega) (fun h4 => ?_) (fun h4 => ?_)
      · skip
        refine j_lload hx 1 dX10_allWays_34 rfl ?_
        exact j_lret hx hq rfl (by decide) (by decide) dX10_allWays_36 ⟨w1, rfl, rfl, rfl, (by omega)⟩
      · skip
        refine j_lload hx 1 dX10_allWays_15 rfl ?_
        refine j_aload_n hx 0 dX10_allWays_17 rfl ?_
        refine g11_0 hx hG ha kf_RX10_17 dX10_allWays_18 ?_
        refine j_callV hx hG (c_X8_allQuickness hst (gP G a 0)) lk_RX10_87 (zr (k := 0) (t2 := 9) hG ha rfl) (by decide) rfl rfl rfl rfl [] ⟨rfl, hG, hS0, (zr (k := 0) (t2 := 9) hG ha rfl)⟩ rfl rfl ⟨by decide, by decide⟩ ⟨by decide, by decide⟩ (k2 := 0) (n2 := 0) rfl rfl (Nat.le_of_ble_eq_true rfl) dX10_allWays_21 (kIP (fun v5 q6 => ?_))
        refine j_i2l hx dX10_allWays_24 (by omega) ?_
        refine j_lmul hx dX10_allWays_25 (fun w7 f8 f9 => ?_)
        refine j_lstore hx [(4, .long (zL w7)), (0, .ref a), (6, .int (zI v2))] dX10_allWays_26 (by decide) rfl ?_
        refine j_iinc hx 2 [(6, .int (zI (v2 + 1))), (4, .long (zL w7)), (0, .ref a)] dX10_allWays_28 rfl (by omega) (by decide) rfl ?_
        refine j_goto hx 6 dX10_allWays_31 rfl ?_
        exact j_sub [2, 1, 0] [(0, .ref a), (4, .long (zL w7)), (6, .int (zI (v2 + 1)))] rfl (ih_c6_1 w7 (v2 + 1) (by omega) (by omega) (by omega))
  exact j_sub [2, 1, 0] [(0, .ref a), (4, .long (zL y2)), (6, .int (zI x1))] rfl (c6_1 (2147483648 * 4) y2 x1 (by omega) (by omega) (by omega))

theorem lk_RX10_96 : LkV RX10 96 RX10 yX10_leads cX10_leads 3 (some .boolean) 1 := ⟨km_RX10_96, ki_yX10_leads, ks_RX10_yX10_leads, kn_RX10, kc_yX10_leads, rfl, by decide +kernel, by decide +kernel, by decide +kernel⟩
theorem lk_RX10_100 : LkV RX10 100 RX10 yX10_allWays cX10_allWays 7 (some .long) 2 := ⟨km_RX10_100, ki_yX10_allWays, ks_RX10_yX10_allWays, kn_RX10, kc_yX10_allWays, rfl, by decide +kernel, by decide +kernel, by decide +kernel⟩
set_option maxHeartbeats 4000000 in
set_option maxRecDepth 20000 in
theorem c_X10_weigh_12 {E : zE} {l : Launch} (hst : l.stackTraces = false) (a : Nat) (x1 : Int) (y2 : Int) : Con E l yX10_weigh cX10_weigh 9 none { frames := 3, cells := 0, slots := 0, locals := 71 } (fun G s vs => vs = [.ref a, .int (zI x1), .long (zL y2)] ∧ zGK G ∧ zSK G s ∧ (gT G a = 11) ∧ (12 ≤ x1 ∧ x1 ≤ 12) ∧ ((-9223372036854775808) ≤ y2 ∧ y2 ≤ 9223372036854775807)) (fun G s _ => pV (fun G2 s2 => G2 = G ∧ zSK G s2 ∧ zFr [11] G s s2 ∧ True)) := by
  refine Con.mk hst (by decide) (fun G s vs h => by rw [h.1]; exact Nat.le_of_ble_eq_true rfl) ?_
  rintro X G s0 vs ⟨rfl, hG, hS0, ha, hx1, hy2⟩ rfl hx hq
  obtain rfl : x1 = 12 := by omega
  show JJ X E 9 G s0 0 0 [(0, .ref a), (1, .int (zI 12)), (2, .long (zL y2))] 0 []
  refine j_aload_n hx 0 dX10_weigh_0 rfl ?_
  refine j_iload_n hx 1 dX10_weigh_1 rfl ?_
  refine j_callV hx hG (c_X10_boardAt hst a 12) lk_RX10_22 ha (by decide) rfl rfl rfl rfl [.int (zI 12)] ⟨rfl, hG, hS0, ha, (by omega)⟩ rfl rfl ⟨by decide, by decide⟩ ⟨by decide, by decide⟩ (k2 := 0) (n2 := 0) rfl rfl (Nat.le_of_ble_eq_true rfl) dX10_weigh_2 (kNP (fun _ => ?_) (fun r1 q2 => ?_))
  · skip
    refine j_astoreN hx [(4, .null), (0, .ref a), (1, .int (zI 12)), (2, .long (zL y2))] dX10_weigh_5 (by decide) rfl ?_
    refine j_aload_n hx 1 dX10_weigh_7 rfl ?_
    refine j_iload_n hx 2 dX10_weigh_8 rfl ?_
    refine j_iconst hx dX10_weigh_9 ?_
    refine j_iadd hx (r := 13) dX10_weigh_10 (by omega) ?_
    refine j_callV hx hG (c_X10_boardAt hst a 13) lk_RX10_22 ha (by decide) rfl rfl rfl rfl [.int (zI 13)] ⟨rfl, hG, hS0, ha, (by omega)⟩ rfl rfl ⟨by decide, by decide⟩ ⟨by decide, by decide⟩ (k2 := 0) (n2 := 0) rfl rfl (Nat.le_of_ble_eq_true rfl) dX10_weigh_11 (kNP (fun _ => ?_) (fun r3 q4 => ?_))
    · skip
      refine j_astoreN hx [(5, .null), (4, .null), (0, .ref a), (1, .int (zI 12)), (2, .long (zL y2))] dX10_weigh_14 (by decide) rfl ?_
      refine j_aloadN hx 1 dX10_weigh_16 rfl ?_
      refine j_ifnonnullN hx dX10_weigh_18 ?_
      exact j_vret hx hq rfl (by decide) (by decide) dX10_weigh_21 ⟨rfl, rfl, hS0, zFr_rf, trivial⟩
    · exact absurd (show 13 ≤ 12 from q4.2) (by decide)
  · skip
    refine j_astore hx [(4, .ref r1), (0, .ref a), (1, .int (zI 12)), (2, .long (zL y2))] dX10_weigh_5 (by decide) rfl ?_
    refine j_aload_n hx 1 dX10_weigh_7 rfl ?_
    refine j_iload_n hx 2 dX10_weigh_8 rfl ?_
    refine j_iconst hx dX10_weigh_9 ?_
    refine j_iadd hx (r := 13) dX10_weigh_10 (by omega) ?_
    refine j_callV hx hG (c_X10_boardAt hst a 13) lk_RX10_22 ha (by decide) rfl rfl rfl rfl [.int (zI 13)] ⟨rfl, hG, hS0, ha, (by omega)⟩ rfl rfl ⟨by decide, by decide⟩ ⟨by decide, by decide⟩ (k2 := 0) (n2 := 0) rfl rfl (Nat.le_of_ble_eq_true rfl) dX10_weigh_11 (kNP (fun _ => ?_) (fun r5 q6 => ?_))
    · skip
      refine j_astoreN hx [(5, .null), (4, .ref r1), (0, .ref a), (1, .int (zI 12)), (2, .long (zL y2))] dX10_weigh_14 (by decide) rfl ?_
      refine j_aload hx 1 dX10_weigh_16 rfl ?_
      refine j_ifnonnull hx 22 dX10_weigh_18 rfl ?_
      refine j_iload_n hx 3 dX10_weigh_22 rfl ?_
      refine j_aload_n hx 2 dX10_weigh_23 rfl ?_
      have f7 := zf hS0 ha (k := 4) rfl
      refine g11_4 hx hG ha kf_RX10_77 rfl dX10_weigh_24 ?_
      have c43_1 : JJ X E 9 G s0 0 0 [(0, .ref a), (1, .int (zI 12)), (2, .long (zL y2)), (4, .ref r1)] 43 [] := by
        refine j_aload_n hx 0 dX10_weigh_43 rfl ?_
        refine j_dup hx dX10_weigh_44 rfl ?_
        have f8 := zf hS0 ha (k := 7) rfl
        refine g11_7 hx hG ha kf_RX10_80 rfl dX10_weigh_45 ?_
        refine j_aload_n hx 0 dX10_weigh_48 rfl ?_
        refine j_aload hx 3 dX10_weigh_49 rfl ?_
        refine j_callV hx hG (c_X10_leads hst a r1) lk_RX10_96 ha (by decide) rfl rfl rfl rfl [.ref r1] ⟨rfl, hG, hS0, ha, q2.1⟩ rfl rfl ⟨by decide, by decide⟩ ⟨by decide, by decide⟩ (k2 := 0) (n2 := 0) rfl rfl (Nat.le_of_ble_eq_true rfl) dX10_weigh_51 (kIP (fun v9 q10 => ?_))
        refine j_if_eq hx 66 dX10_weigh_54 rfl (by omega) (fun h11 => ?_) (fun h11 => ?_)
        · skip
          refine j_lconst hx dX10_weigh_66 ?_
          show JJ X E 9 G s0 0 0 [(0, .ref a), (1, .int (zI 12)), (2, .long (zL y2)), (4, .ref r1)] 67 [.long (zL 0), .long (zL ((s0 a 7))), .ref a]
          refine j_ladd hx dX10_weigh_67 (fun w12 f13 f14 => ?_)
          refine p11_7 hx hG ha kf_RX10_80 dX10_weigh_68 ?_
          obtain ⟨s2, e_s2⟩ : ∃ z, z = zU s0 a 7 w12 := ⟨_, rfl⟩
          rw [← e_s2]
          have hS_s2 : zSK G s2 := by rw [e_s2]; exact zSK_F hS0 ha rfl rfl rfl (by omega)
          exact j_vret hx hq rfl (by decide) (by decide) dX10_weigh_71 ⟨rfl, rfl, hS_s2, (zFr_u zFr_rf e_s2 ha (by decide)), trivial⟩
        · skip
          refine j_aload_n hx 0 dX10_weigh_57 rfl ?_
          refine j_iload_n hx 1 dX10_weigh_58 rfl ?_
          refine j_lload_n hx 2 dX10_weigh_59 rfl ?_
          refine j_callV hx hG (c_X10_allWays hst a 12 y2) lk_RX10_100 ha (by decide) rfl rfl rfl rfl [.int (zI 12), .long (zL y2)] ⟨rfl, hG, hS0, ha, (by omega), (by omega)⟩ rfl rfl ⟨by decide, by decide⟩ ⟨by decide, by decide⟩ (k2 := 0) (n2 := 0) rfl rfl (Nat.le_of_ble_eq_true rfl) dX10_weigh_60 (kLP (fun v15 q16 => ?_))
          refine j_goto hx 67 dX10_weigh_63 rfl ?_
          refine j_ladd hx dX10_weigh_67 (fun w17 f18 f19 => ?_)
          refine p11_7 hx hG ha kf_RX10_80 dX10_weigh_68 ?_
          obtain ⟨s3, e_s3⟩ : ∃ z, z = zU s0 a 7 w17 := ⟨_, rfl⟩
          rw [← e_s3]
          have hS_s3 : zSK G s3 := by rw [e_s3]; exact zSK_F hS0 ha rfl rfl rfl (by omega)
          exact j_vret hx hq rfl (by decide) (by decide) dX10_weigh_71 ⟨rfl, rfl, hS_s3, (zFr_u zFr_rf e_s3 ha (by decide)), trivial⟩
      refine j_icmp_ge hx 43 dX10_weigh_27 rfl ⟨by decide, by decide⟩ (by omega) (fun h20 => ?_) (fun h20 => ?_)
      · skip
        exact j_sub [2, 3, 4, 1] [(0, .ref a), (1, .int (zI 12)), (2, .long (zL y2)), (4, .ref r1)] rfl (c43_1  )
      · skip
        refine j_aloadN hx 0 dX10_weigh_30 rfl ?_
        refine j_ifnullN hx 43 dX10_weigh_32 rfl ?_
        exact j_sub [2, 3, 4, 1] [(0, .ref a), (1, .int (zI 12)), (2, .long (zL y2)), (4, .ref r1)] rfl (c43_1  )
    · exact absurd (show 13 ≤ 12 from q6.2) (by decide)

theorem lk_RX10_92 : LkV RX10 92 RX10 yX10_weigh cX10_weigh 9 none 2 := ⟨km_RX10_92, ki_yX10_weigh, ks_RX10_yX10_weigh, kn_RX10, kc_yX10_weigh, rfl, by decide +kernel, by decide +kernel, by decide +kernel⟩
theorem lk_RX10_107 : LkV RX10 107 RX8 yX8_trait cX8_trait 4 (some .int) 2 := ⟨km_RX10_107, ki_yX8_trait, ks_RX8_yX8_trait, kn_RX8, kc_yX8_trait, rfl, by decide +kernel, by decide +kernel, by decide +kernel⟩
set_option maxHeartbeats 4000000 in
set_option maxRecDepth 20000 in
theorem c_X10_weigh_11 {E : zE} {l : Launch} (hst : l.stackTraces = false) (a : Nat) (x1 : Int) (y2 : Int) : Con E l yX10_weigh cX10_weigh 9 none { frames := 4, cells := 0, slots := 0, locals := 99 } (fun G s vs => vs = [.ref a, .int (zI x1), .long (zL y2)] ∧ zGK G ∧ zSK G s ∧ (gT G a = 11) ∧ (11 ≤ x1 ∧ x1 ≤ 11) ∧ ((-9223372036854775808) ≤ y2 ∧ y2 ≤ 9223372036854775807)) (fun G s _ => pV (fun G2 s2 => G2 = G ∧ zSK G s2 ∧ zFr [1, 7, 11, 41] G s s2 ∧ True)) := by
  refine Con.mk hst (by decide) (fun G s vs h => by rw [h.1]; exact Nat.le_of_ble_eq_true rfl) ?_
  rintro X G s0 vs ⟨rfl, hG, hS0, ha, hx1, hy2⟩ rfl hx hq
  obtain rfl : x1 = 11 := by omega
  show JJ X E 9 G s0 0 0 [(0, .ref a), (1, .int (zI 11)), (2, .long (zL y2))] 0 []
  refine j_aload_n hx 0 dX10_weigh_0 rfl ?_
  refine j_iload_n hx 1 dX10_weigh_1 rfl ?_
  refine j_callV hx hG (c_X10_boardAt hst a 11) lk_RX10_22 ha (by decide) rfl rfl rfl rfl [.int (zI 11)] ⟨rfl, hG, hS0, ha, (by omega)⟩ rfl rfl ⟨by decide, by decide⟩ ⟨by decide, by decide⟩ (k2 := 0) (n2 := 0) rfl rfl (Nat.le_of_ble_eq_true rfl) dX10_weigh_2 (kNP (fun _ => ?_) (fun r1 q2 => ?_))
  · skip
    refine j_astoreN hx [(4, .null), (0, .ref a), (1, .int (zI 11)), (2, .long (zL y2))] dX10_weigh_5 (by decide) rfl ?_
    refine j_aload_n hx 1 dX10_weigh_7 rfl ?_
    refine j_iload_n hx 2 dX10_weigh_8 rfl ?_
    refine j_iconst hx dX10_weigh_9 ?_
    refine j_iadd hx (r := 12) dX10_weigh_10 (by omega) ?_
    refine j_callV hx hG (c_X10_boardAt hst a 12) lk_RX10_22 ha (by decide) rfl rfl rfl rfl [.int (zI 12)] ⟨rfl, hG, hS0, ha, (by omega)⟩ rfl rfl ⟨by decide, by decide⟩ ⟨by decide, by decide⟩ (k2 := 0) (n2 := 0) rfl rfl (Nat.le_of_ble_eq_true rfl) dX10_weigh_11 (kNP (fun _ => ?_) (fun r3 q4 => ?_))
    · skip
      refine j_astoreN hx [(5, .null), (4, .null), (0, .ref a), (1, .int (zI 11)), (2, .long (zL y2))] dX10_weigh_14 (by decide) rfl ?_
      refine j_aloadN hx 1 dX10_weigh_16 rfl ?_
      refine j_ifnonnullN hx dX10_weigh_18 ?_
      exact j_vret hx hq rfl (by decide) (by decide) dX10_weigh_21 ⟨rfl, rfl, hS0, zFr_rf, trivial⟩
    · skip
      refine j_astore hx [(5, .ref r3), (4, .null), (0, .ref a), (1, .int (zI 11)), (2, .long (zL y2))] dX10_weigh_14 (by decide) rfl ?_
      refine j_aloadN hx 1 dX10_weigh_16 rfl ?_
      refine j_ifnonnullN hx dX10_weigh_18 ?_
      exact j_vret hx hq rfl (by decide) (by decide) dX10_weigh_21 ⟨rfl, rfl, hS0, zFr_rf, trivial⟩
  · skip
    refine j_astore hx [(4, .ref r1), (0, .ref a), (1, .int (zI 11)), (2, .long (zL y2))] dX10_weigh_5 (by decide) rfl ?_
    refine j_aload_n hx 1 dX10_weigh_7 rfl ?_
    refine j_iload_n hx 2 dX10_weigh_8 rfl ?_
    refine j_iconst hx dX10_weigh_9 ?_
    refine j_iadd hx (r := 12) dX10_weigh_10 (by omega) ?_
    refine j_callV hx hG (c_X10_boardAt hst a 12) lk_RX10_22 ha (by decide) rfl rfl rfl rfl [.int (zI 12)] ⟨rfl, hG, hS0, ha, (by omega)⟩ rfl rfl ⟨by decide, by decide⟩ ⟨by decide, by decide⟩ (k2 := 0) (n2 := 0) rfl rfl (Nat.le_of_ble_eq_true rfl) dX10_weigh_11 (kNP (fun _ => ?_) (fun r5 q6 => ?_))
    · skip
      refine j_astoreN hx [(5, .null), (4, .ref r1), (0, .ref a), (1, .int (zI 11)), (2, .long (zL y2))] dX10_weigh_14 (by decide) rfl ?_
      refine j_aload hx 1 dX10_weigh_16 rfl ?_
      refine j_ifnonnull hx 22 dX10_weigh_18 rfl ?_
      refine j_iload_n hx 3 dX10_weigh_22 rfl ?_
      refine j_aload_n hx 2 dX10_weigh_23 rfl ?_
      have f7 := zf hS0 ha (k := 4) rfl
      refine g11_4 hx hG ha kf_RX10_77 rfl dX10_weigh_24 ?_
      have c43_1 : ∀ (s2 : zS), (zSK G s2) → (zFr [1, 7, 41] G s0 s2) → JJ X E 9 G s2 0 0 [(0, .ref a), (1, .int (zI 11)), (2, .long (zL y2)), (4, .ref r1)] 43 [] := by
        intro s2 hS_s2 hF_s2
        refine j_aload_n hx 0 dX10_weigh_43 rfl ?_
        refine j_dup hx dX10_weigh_44 rfl ?_
        have f8 := zf hS0 ha (k := 7) rfl
        refine g11_7 hx hG ha kf_RX10_80 (v := (s0 a 7)) (by rw [(zFr_g hF_s2 ha (by decide))]) dX10_weigh_45 ?_
        refine j_aload_n hx 0 dX10_weigh_48 rfl ?_
        refine j_aload hx 3 dX10_weigh_49 rfl ?_
        refine j_callV hx hG (c_X10_leads hst a r1) lk_RX10_96 ha (by decide) rfl rfl rfl rfl [.ref r1] ⟨rfl, hG, hS_s2, ha, q2.1⟩ rfl rfl ⟨by decide, by decide⟩ ⟨by decide, by decide⟩ (k2 := 0) (n2 := 0) rfl rfl (Nat.le_of_ble_eq_true rfl) dX10_weigh_51 (kIP (fun v9 q10 => ?_))
        refine j_if_eq hx 66 dX10_weigh_54 rfl (by omega) (fun h11 => ?_) (fun h11 => ?_)
        · skip
          refine j_lconst hx dX10_weigh_66 ?_
          show JJ X E 9 G s2 0 0 [(0, .ref a), (1, .int (zI 11)), (2, .long (zL y2)), (4, .ref r1)] 67 [.long (zL 0), .long (zL ((s0 a 7))), .ref a]
          refine j_ladd hx dX10_weigh_67 (fun w12 f13 f14 => ?_)
          refine p11_7 hx hG ha kf_RX10_80 dX10_weigh_68 ?_
          obtain ⟨s5, e_s5⟩ : ∃ z, z = zU s2 a 7 w12 := ⟨_, rfl⟩
          rw [← e_s5]
          have hS_s5 : zSK G s5 := by rw [e_s5]; exact zSK_F hS_s2 ha rfl rfl rfl (by omega)
          exact j_vret hx hq rfl (by decide) (by decide) dX10_weigh_71 ⟨rfl, rfl, hS_s5, (zFr_u (zFr_t zFr_rf hF_s2 (by decide)) e_s5 ha (by decide)), trivial⟩
        · skip
          refine j_aload_n hx 0 dX10_weigh_57 rfl ?_
          refine j_iload_n hx 1 dX10_weigh_58 rfl ?_
          refine j_lload_n hx 2 dX10_weigh_59 rfl ?_
          refine j_callV hx hG (c_X10_allWays hst a 11 y2) lk_RX10_100 ha (by decide) rfl rfl rfl rfl [.int (zI 11), .long (zL y2)] ⟨rfl, hG, hS_s2, ha, (by omega), (by omega)⟩ rfl rfl ⟨by decide, by decide⟩ ⟨by decide, by decide⟩ (k2 := 0) (n2 := 0) rfl rfl (Nat.le_of_ble_eq_true rfl) dX10_weigh_60 (kLP (fun v15 q16 => ?_))
          refine j_goto hx 67 dX10_weigh_63 rfl ?_
          refine j_ladd hx dX10_weigh_67 (fun w17 f18 f19 => ?_)
          refine p11_7 hx hG ha kf_RX10_80 dX10_weigh_68 ?_
          obtain ⟨s6, e_s6⟩ : ∃ z, z = zU s2 a 7 w17 := ⟨_, rfl⟩
          rw [← e_s6]
          have hS_s6 : zSK G s6 := by rw [e_s6]; exact zSK_F hS_s2 ha rfl rfl rfl (by omega)
          exact j_vret hx hq rfl (by decide) (by decide) dX10_weigh_71 ⟨rfl, rfl, hS_s6, (zFr_u (zFr_t zFr_rf hF_s2 (by decide)) e_s6 ha (by decide)), trivial⟩
      refine j_icmp_ge hx 43 dX10_weigh_27 rfl ⟨by decide, by decide⟩ (by omega) (fun h20 => ?_) (fun h20 => ?_)
      · skip
        exact j_sub [2, 3, 4, 1] [(0, .ref a), (1, .int (zI 11)), (2, .long (zL y2)), (4, .ref r1)] rfl (c43_1 s0 hS0 zFr_rf)
      · skip
        refine j_aloadN hx 0 dX10_weigh_30 rfl ?_
        refine j_ifnullN hx 43 dX10_weigh_32 rfl ?_
        exact j_sub [2, 3, 4, 1] [(0, .ref a), (1, .int (zI 11)), (2, .long (zL y2)), (4, .ref r1)] rfl (c43_1 s0 hS0 zFr_rf)
    · skip
      refine j_astore hx [(5, .ref r5), (4, .ref r1), (0, .ref a), (1, .int (zI 11)), (2, .long (zL y2))] dX10_weigh_14 (by decide) rfl ?_
      refine j_aload hx 1 dX10_weigh_16 rfl ?_
      refine j_ifnonnull hx 22 dX10_weigh_18 rfl ?_
      refine j_iload_n hx 3 dX10_weigh_22 rfl ?_
      refine j_aload_n hx 2 dX10_weigh_23 rfl ?_
      have f21 := zf hS0 ha (k := 4) rfl
      refine g11_4 hx hG ha kf_RX10_77 rfl dX10_weigh_24 ?_
      have c43_7 : ∀ (s8 : zS), (zSK G s8) → (zFr [1, 7, 41] G s0 s8) → JJ X E 9 G s8 0 0 [(0, .ref a), (1, .int (zI 11)), (2, .long (zL y2)), (4, .ref r1)] 43 [] := by
        intro s8 hS_s8 hF_s8
        refine j_aload_n hx 0 dX10_weigh_43 rfl ?_
        refine j_dup hx dX10_weigh_44 rfl ?_
        have f22 := zf hS0 ha (k := 7) rfl
        refine g11_7 hx hG ha kf_RX10_80 (v := (s0 a 7)) (by rw [(zFr_g hF_s8 ha (by decide))]) dX10_weigh_45 ?_
        refine j_aload_n hx 0 dX10_weigh_48 rfl ?_
        refine j_aload hx 3 dX10_weigh_49 rfl ?_
        refine j_callV hx hG (c_X10_leads hst a r1) lk_RX10_96 ha (by decide) rfl rfl rfl rfl [.ref r1] ⟨rfl, hG, hS_s8, ha, q2.1⟩ rfl rfl ⟨by decide, by decide⟩ ⟨by decide, by decide⟩ (k2 := 0) (n2 := 0) rfl rfl (Nat.le_of_ble_eq_true rfl) dX10_weigh_51 (kIP (fun v23 q24 => ?_))
        refine j_if_eq hx 66 dX10_weigh_54 rfl (by omega) (fun h25 => ?_) (fun h25 => ?_)
        · skip
          refine j_lconst hx dX10_weigh_66 ?_
          show JJ X E 9 G s8 0 0 [(0, .ref a), (1, .int (zI 11)), (2, .long (zL y2)), (4, .ref r1)] 67 [.long (zL 0), .long (zL ((s0 a 7))), .ref a]
          refine j_ladd hx dX10_weigh_67 (fun w26 f27 f28 => ?_)
          refine p11_7 hx hG ha kf_RX10_80 dX10_weigh_68 ?_
          obtain ⟨s11, e_s11⟩ : ∃ z, z = zU s8 a 7 w26 := ⟨_, rfl⟩
          rw [← e_s11]
          have hS_s11 : zSK G s11 := by rw [e_s11]; exact zSK_F hS_s8 ha rfl rfl rfl (by omega)
          exact j_vret hx hq rfl (by decide) (by decide) dX10_weigh_71 ⟨rfl, rfl, hS_s11, (zFr_u (zFr_t zFr_rf hF_s8 (by decide)) e_s11 ha (by decide)), trivial⟩
        · skip
          refine j_aload_n hx 0 dX10_weigh_57 rfl ?_
          refine j_iload_n hx 1 dX10_weigh_58 rfl ?_
          refine j_lload_n hx 2 dX10_weigh_59 rfl ?_
          refine j_callV hx hG (c_X10_allWays hst a 11 y2) lk_RX10_100 ha (by decide) rfl rfl rfl rfl [.int (zI 11), .long (zL y2)] ⟨rfl, hG, hS_s8, ha, (by omega), (by omega)⟩ rfl rfl ⟨by decide, by decide⟩ ⟨by decide, by decide⟩ (k2 := 0) (n2 := 0) rfl rfl (Nat.le_of_ble_eq_true rfl) dX10_weigh_60 (kLP (fun v29 q30 => ?_))
          refine j_goto hx 67 dX10_weigh_63 rfl ?_
          refine j_ladd hx dX10_weigh_67 (fun w31 f32 f33 => ?_)
          refine p11_7 hx hG ha kf_RX10_80 dX10_weigh_68 ?_
          obtain ⟨s12, e_s12⟩ : ∃ z, z = zU s8 a 7 w31 := ⟨_, rfl⟩
          rw [← e_s12]
          have hS_s12 : zSK G s12 := by rw [e_s12]; exact zSK_F hS_s8 ha rfl rfl rfl (by omega)
          exact j_vret hx hq rfl (by decide) (by decide) dX10_weigh_71 ⟨rfl, rfl, hS_s12, (zFr_u (zFr_t zFr_rf hF_s8 (by decide)) e_s12 ha (by decide)), trivial⟩
      refine j_icmp_ge hx 43 dX10_weigh_27 rfl ⟨by decide, by decide⟩ (by omega) (fun h34 => ?_) (fun h34 => ?_)
      · skip
        exact j_sub [2, 3, 4, 1] [(0, .ref a), (1, .int (zI 11)), (2, .long (zL y2)), (4, .ref r1)] rfl (c43_7 s0 hS0 zFr_rf)
      · skip
        refine j_aload hx 0 dX10_weigh_30 rfl ?_
        refine j_ifnull hx dX10_weigh_32 ?_
        refine j_aload hx 1 dX10_weigh_35 rfl ?_
        refine j_callV hx hG (c_X0_step hst r1) lk_RX10_33 q2.1 (by decide) rfl rfl rfl rfl [] ⟨rfl, hG, hS0, q2.1⟩ rfl rfl ⟨by decide, by decide⟩ ⟨by decide, by decide⟩ (k2 := 0) (n2 := 0) rfl rfl (Nat.le_of_ble_eq_true rfl) dX10_weigh_37 (kIM (fun v35 s13 hS_s13 hF_s13 q36 => ?_))
        refine j_if_ne hx 72 dX10_weigh_40 rfl (by omega) (fun h37 => ?_) (fun h37 => ?_)
        · skip
          refine j_aload hx 1 dX10_weigh_72 rfl ?_
          refine j_callV hx hG (c_X0_likeTops hst r1) lk_RX10_37 q2.1 (by decide) rfl rfl rfl rfl [] ⟨rfl, hG, hS_s13, q2.1⟩ rfl rfl ⟨by decide, by decide⟩ ⟨by decide, by decide⟩ (k2 := 0) (n2 := 0) rfl rfl (Nat.le_of_ble_eq_true rfl) dX10_weigh_74 (kIP (fun v38 q39 => ?_))
          refine j_istore hx [(6, .int (zI v38)), (5, .ref r5), (4, .ref r1), (0, .ref a), (1, .int (zI 11)), (2, .long (zL y2))] dX10_weigh_77 (by decide) rfl ?_
          refine j_iconst hx dX10_weigh_79 ?_
          refine j_istore hx [(7, .int (zI 0)), (6, .int (zI v38)), (5, .ref r5), (4, .ref r1), (0, .ref a), (1, .int (zI 11)), (2, .long (zL y2))] dX10_weigh_80 (by decide) rfl ?_
          refine j_iconst hx dX10_weigh_82 ?_
          refine j_istore hx [(8, .int (zI 0)), (7, .int (zI 0)), (6, .int (zI v38)), (5, .ref r5), (4, .ref r1), (0, .ref a), (1, .int (zI 11)), (2, .long (zL y2))] dX10_weigh_83 (by decide) rfl ?_
          have c85_14 : ∀ (m_c85_14 : Nat) (v40 : Int) (v41 : Int) (s15 : zS), 2147483648 - v41 < m_c85_14 → ((-2147483648) ≤ v40 ∧ v40 ≤ 2147483647) → (0 ≤ v41 ∧ v41 ≤ 3) → (zSK G s15) → (zFr [1, 7, 11, 41] G s13 s15) → JJ X E 9 G s15 0 0 [(0, .ref a), (1, .int (zI 11)), (2, .long (zL y2)), (4, .ref r1), (5, .ref r5), (6, .int (zI v38)), (7, .int (zI v40)), (8, .int (zI v41))] 85 [] := by
            intro m_c85_14
            induction m_c85_14 with
            | zero => intro v40 v41 s15 hm_c85_14 fA16 fA17 hS_s15 hF_s15; exfalso; omega
            | succ m_c85_14 ih_c85_14 => 
              intro v40 v41 s15 hm_c85_14 fA16 fA17 hS_s15 hF_s15
              refine j_iload hx 7 dX10_weigh_85 rfl ?_
              refine j_aload_n hx 0 dX10_weigh_87 rfl ?_
              refine g11_0 hx hG ha kf_RX10_17 dX10_weigh_88 ?_
              have f42 := zf hS0 (zr (k := 0) (t2 := 9) hG ha rfl) (k := 4) rfl
              refine gN9_4 hx hG (zr (k := 0) (t2 := 9) hG ha rfl) kf_RX10_104 (v := (s0 (gP G a 0) 4)) (by rw [(zFr_g hF_s15 (zr (k := 0) (t2 := 9) hG ha rfl) (by decide)), (zFr_g hF_s13 (zr (k := 0) (t2 := 9) hG ha rfl) (by decide))]) dX10_weigh_91 ?_
              refine j_icmp_ge hx 178 dX10_weigh_94 rfl (by omega) (by omega) (fun h43 => ?_) (fun h43 => ?_)
              · skip
                refine j_iload hx 6 dX10_weigh_178 rfl ?_
                refine j_if_le hx 202 dX10_weigh_180 rfl (by omega) (fun h44 => ?_) (fun h44 => ?_)
                · skip
                  exact j_vret hx hq rfl (by decide) (by decide) dX10_weigh_202 ⟨rfl, rfl, hS_s15, (zFr_t (zFr_t zFr_rf hF_s13 (by decide)) hF_s15 (by decide)), trivial⟩
                · skip
                  refine j_aload hx 4 dX10_weigh_183 rfl ?_
                  refine j_aload hx 3 dX10_weigh_185 rfl ?_
                  refine j_callV hx hG (c_X0_become hst r5 r1) lk_RX10_26 q6.1 (by decide) rfl rfl rfl rfl [.ref r1] ⟨rfl, hG, hS_s15, q6.1, q2.1⟩ rfl rfl ⟨by decide, by decide⟩ ⟨by decide, by decide⟩ (k2 := 0) (n2 := 0) rfl rfl (Nat.le_of_ble_eq_true rfl) dX10_weigh_187 (kVM (fun s20 hS_s20 hF_s20 q46 => ?_))
                  refine j_aload_n hx 0 dX10_weigh_190 rfl ?_
                  refine j_iload_n hx 1 dX10_weigh_191 rfl ?_
                  refine j_iconst hx dX10_weigh_192 ?_
                  refine j_iadd hx (r := 12) dX10_weigh_193 (by omega) ?_
                  refine j_lload_n hx 2 dX10_weigh_194 rfl ?_
                  refine j_iload hx 6 dX10_weigh_195 rfl ?_
                  refine j_i2l hx dX10_weigh_197 (by omega) ?_
                  refine j_lmul hx dX10_weigh_198 (fun w47 f48 f49 => ?_)
                  refine j_callV hx hG (c_X10_weigh_12 hst a 12 w47) lk_RX10_92 ha (by decide) rfl rfl rfl rfl [.int (zI 12), .long (zL w47)] ⟨rfl, hG, hS_s20, ha, (by omega), (by omega)⟩ rfl rfl ⟨by decide, by decide⟩ ⟨by decide, by decide⟩ (k2 := 0) (n2 := 0) rfl rfl (Nat.le_of_ble_eq_true rfl) dX10_weigh_199 (kVM (fun s21 hS_s21 hF_s21 q51 => ?_))
                  exact j_vret hx hq rfl (by decide) (by decide) dX10_weigh_202 ⟨rfl, rfl, hS_s21, (zFr_t (zFr_t (zFr_t (zFr_t zFr_rf hF_s13 (by decide)) hF_s15 (by decide)) hF_s20 (by decide)) hF_s21 (by decide)), trivial⟩
              · skip
                refine j_iload hx 5 dX10_weigh_97 rfl ?_
                refine j_iconst hx dX10_weigh_99 ?_
                have c172_22 : ∀ (v52 : Int) (s23 : zS), ((-2147483648) ≤ v52 ∧ v52 ≤ 2147483647) → (zSK G s23) → (zFr [1, 7, 11, 41] G s15 s23) → JJ X E 9 G s23 0 0 [(0, .ref a), (1, .int (zI 11)), (2, .long (zL y2)), (4, .ref r1), (5, .ref r5), (6, .int (zI v38)), (7, .int (zI v52)), (8, .int (zI v41))] 172 [] := by
                  intro v52 s23 fA24 hS_s23 hF_s23
                  refine j_iinc hx 7 [(8, .int (zI (v41 + 1))), (0, .ref a), (1, .int (zI 11)), (2, .long (zL y2)), (4, .ref r1), (5, .ref r5), (6, .int (zI v38)), (7, .int (zI v52))] dX10_weigh_172 rfl (by omega) (by decide) rfl ?_
                  refine j_goto hx 85 dX10_weigh_175 rfl ?_
                  exact j_sub [1, 2, 3, 4, 5, 6, 7, 0] [(0, .ref a), (1, .int (zI 11)), (2, .long (zL y2)), (4, .ref r1), (5, .ref r5), (6, .int (zI v38)), (7, .int (zI v52)), (8, .int (zI (v41 + 1)))] rfl (ih_c85_14 v52 (v41 + 1) s23 (by omega) (by omega) (by omega) hS_s23 (zFr_t (zFr_t zFr_rf hF_s15 (by decide)) hF_s23 (by decide)))
                have c113_27 : JJ X E 9 G s15 0 0 [(0, .ref a), (1, .int (zI 11)), (2, .long (zL y2)), (4, .ref r1), (5, .ref r5), (6, .int (zI v38)), (7, .int (zI v40)), (8, .int (zI v41))] 113 [] := by
                  refine j_iload hx 6 dX10_weigh_113 rfl ?_
                  refine j_aload_n hx 0 dX10_weigh_115 rfl ?_
                  refine g11_0 hx hG ha kf_RX10_17 dX10_weigh_116 ?_
                  refine j_iload hx 7 dX10_weigh_119 rfl ?_
                  refine j_iconst hx dX10_weigh_121 ?_
                  refine j_callV hx hG (c_X8_trait hst (gP G a 0) v41 0) lk_RX10_107 (zr (k := 0) (t2 := 9) hG ha rfl) (by decide) rfl rfl rfl rfl [.int (zI v41), .int (zI 0)] ⟨rfl, hG, hS_s15, (zr (k := 0) (t2 := 9) hG ha rfl), (by omega), (by omega)⟩ rfl rfl ⟨by decide, by decide⟩ ⟨by decide, by decide⟩ (k2 := 0) (n2 := 0) rfl rfl (Nat.le_of_ble_eq_true rfl) dX10_weigh_122 (kIP (fun v53 q54 => ?_))
                  refine j_iadd hx (r := v40 + v53) dX10_weigh_125 rfl ?_
                  refine j_norm (fun v55 f56 f57 f58 => ?_)
                  refine j_istore hx [(7, .int (zI v55)), (0, .ref a), (1, .int (zI 11)), (2, .long (zL y2)), (4, .ref r1), (5, .ref r5), (6, .int (zI v38)), (8, .int (zI v41))] dX10_weigh_126 (by decide) rfl ?_
                  refine j_goto hx 172 dX10_weigh_128 rfl ?_
                  exact j_sub [1, 2, 3, 4, 5, 6, 0, 7] [(0, .ref a), (1, .int (zI 11)), (2, .long (zL y2)), (4, .ref r1), (5, .ref r5), (6, .int (zI v38)), (7, .int (zI v55)), (8, .int (zI v41))] rfl (c172_22 v55 s15 (by omega) hS_s15 zFr_rf)
                refine j_icmp_eq hx 113 dX10_weigh_100 rfl (by omega) ⟨by decide, by decide⟩ (fun h59 => ?_) (fun h59 => ?_)
                · skip
                  exact j_sub [0, 1, 2, 3, 4, 5, 6, 7] [(0, .ref a), (1, .int (zI 11)), (2, .long (zL y2)), (4, .ref r1), (5, .ref r5), (6, .int (zI v38)), (7, .int (zI v40)), (8, .int (zI v41))] rfl (c113_27  )
                · skip
                  refine j_aload hx 3 dX10_weigh_103 rfl ?_
                  refine j_iload hx 7 dX10_weigh_105 rfl ?_
                  refine j_callV hx hG (c_X0_isOut hst r1 v41) lk_RX10_73 q2.1 (by decide) rfl rfl rfl rfl [.int (zI v41)] ⟨rfl, hG, hS_s15, q2.1, (by omega)⟩ rfl rfl ⟨by decide, by decide⟩ ⟨by decide, by decide⟩ (k2 := 0) (n2 := 0) rfl rfl (Nat.le_of_ble_eq_true rfl) dX10_weigh_107 (kIP (fun v60 q61 => ?_))
                  refine j_if_eq hx 131 dX10_weigh_110 rfl (by omega) (fun h62 => ?_) (fun h62 => ?_)
                  · skip
                    refine j_aload hx 4 dX10_weigh_131 rfl ?_
                    refine j_aload hx 3 dX10_weigh_133 rfl ?_
                    refine j_callV hx hG (c_X0_become hst r5 r1) lk_RX10_26 q6.1 (by decide) rfl rfl rfl rfl [.ref r1] ⟨rfl, hG, hS_s15, q6.1, q2.1⟩ rfl rfl ⟨by decide, by decide⟩ ⟨by decide, by decide⟩ (k2 := 0) (n2 := 0) rfl rfl (Nat.le_of_ble_eq_true rfl) dX10_weigh_135 (kVM (fun s28 hS_s28 hF_s28 q64 => ?_))
                    refine j_aload hx 4 dX10_weigh_138 rfl ?_
                    refine j_iload hx 7 dX10_weigh_140 rfl ?_
                    refine j_iload hx 5 dX10_weigh_142 rfl ?_
                    refine j_aload_n hx 0 dX10_weigh_144 rfl ?_
                    have f65 := zf hS_s15 ha (k := 3) rfl
                    refine g11_3 hx hG ha kf_RX10_45 (v := (s15 a 3)) (by rw [(zFr_g hF_s28 ha (by decide))]) dX10_weigh_145 ?_
                    refine j_callV hx hG (c_X0_win hst r5 v41 v38 ((s15 a 3))) lk_RX10_69 q6.1 (by decide) rfl rfl rfl rfl [.int (zI v41), .int (zI v38), .int (zI ((s15 a 3)))] ⟨rfl, hG, hS_s28, q6.1, (by omega), (by omega), (by omega)⟩ rfl rfl ⟨by decide, by decide⟩ ⟨by decide, by decide⟩ (k2 := 0) (n2 := 0) rfl rfl (Nat.le_of_ble_eq_true rfl) dX10_weigh_148 (kIM (fun v66 s29 hS_s29 hF_s29 q67 => ?_))
                    refine j_pop hx dX10_weigh_151 rfl ?_
                    refine j_aload_n hx 0 dX10_weigh_152 rfl ?_
                    refine j_iload_n hx 1 dX10_weigh_153 rfl ?_
                    refine j_iconst hx dX10_weigh_154 ?_
                    refine j_iadd hx (r := 12) dX10_weigh_155 (by omega) ?_
                    refine j_lload_n hx 2 dX10_weigh_156 rfl ?_
                    refine j_aload_n hx 0 dX10_weigh_157 rfl ?_
                    refine g11_0 hx hG ha kf_RX10_17 dX10_weigh_158 ?_
                    refine j_iload hx 7 dX10_weigh_161 rfl ?_
                    refine j_iconst hx dX10_weigh_163 ?_
                    refine j_callV hx hG (c_X8_trait hst (gP G a 0) v41 0) lk_RX10_107 (zr (k := 0) (t2 := 9) hG ha rfl) (by decide) rfl rfl rfl rfl [.int (zI v41), .int (zI 0)] ⟨rfl, hG, hS_s29, (zr (k := 0) (t2 := 9) hG ha rfl), (by omega), (by omega)⟩ rfl rfl ⟨by decide, by decide⟩ ⟨by decide, by decide⟩ (k2 := 0) (n2 := 0) rfl rfl (Nat.le_of_ble_eq_true rfl) dX10_weigh_164 (kIP (fun v68 q69 => ?_))
                    refine j_i2l hx dX10_weigh_167 (by omega) ?_
                    refine j_lmul hx dX10_weigh_168 (fun w70 f71 f72 => ?_)
                    refine j_callV hx hG (c_X10_weigh_12 hst a 12 w70) lk_RX10_92 ha (by decide) rfl rfl rfl rfl [.int (zI 12), .long (zL w70)] ⟨rfl, hG, hS_s29, ha, (by omega), (by omega)⟩ rfl rfl ⟨by decide, by decide⟩ ⟨by decide, by decide⟩ (k2 := 0) (n2 := 0) rfl rfl (Nat.le_of_ble_eq_true rfl) dX10_weigh_169 (kVM (fun s30 hS_s30 hF_s30 q74 => ?_))
                    exact j_sub [0, 1, 2, 3, 4, 5, 6, 7] [(0, .ref a), (1, .int (zI 11)), (2, .long (zL y2)), (4, .ref r1), (5, .ref r5), (6, .int (zI v38)), (7, .int (zI v40)), (8, .int (zI v41))] rfl (c172_22 v40 s30 (by omega) hS_s30 (zFr_t (zFr_t (zFr_t zFr_rf hF_s28 (by decide)) hF_s29 (by decide)) hF_s30 (by decide)))
                  · skip
                    exact j_sub [0, 1, 2, 3, 4, 5, 6, 7] [(0, .ref a), (1, .int (zI 11)), (2, .long (zL y2)), (4, .ref r1), (5, .ref r5), (6, .int (zI v38)), (7, .int (zI v40)), (8, .int (zI v41))] rfl (c113_27  )
          exact j_sub [5, 6, 7, 4, 3, 2, 1, 0] [(0, .ref a), (1, .int (zI 11)), (2, .long (zL y2)), (4, .ref r1), (5, .ref r5), (6, .int (zI v38)), (7, .int (zI 0)), (8, .int (zI 0))] rfl (c85_14 (2147483648 * 4) 0 0 s13 (by omega) (by omega) (by omega) hS_s13 zFr_rf)
        · skip
          exact j_sub [2, 3, 4, 1] [(0, .ref a), (1, .int (zI 11)), (2, .long (zL y2)), (4, .ref r1)] rfl (c43_7 s13 hS_s13 (zFr_t zFr_rf hF_s13 (by decide)))

set_option maxHeartbeats 4000000 in
set_option maxRecDepth 20000 in
theorem c_X10_weigh_10 {E : zE} {l : Launch} (hst : l.stackTraces = false) (a : Nat) (x1 : Int) (y2 : Int) : Con E l yX10_weigh cX10_weigh 9 none { frames := 5, cells := 0, slots := 0, locals := 127 } (fun G s vs => vs = [.ref a, .int (zI x1), .long (zL y2)] ∧ zGK G ∧ zSK G s ∧ (gT G a = 11) ∧ (10 ≤ x1 ∧ x1 ≤ 10) ∧ ((-9223372036854775808) ≤ y2 ∧ y2 ≤ 9223372036854775807)) (fun G s _ => pV (fun G2 s2 => G2 = G ∧ zSK G s2 ∧ zFr [1, 7, 11, 41] G s s2 ∧ True)) := by
  refine Con.mk hst (by decide) (fun G s vs h => by rw [h.1]; exact Nat.le_of_ble_eq_true rfl) ?_
  rintro X G s0 vs ⟨rfl, hG, hS0, ha, hx1, hy2⟩ rfl hx hq
  obtain rfl : x1 = 10 := by omega
  show JJ X E 9 G s0 0 0 [(0, .ref a), (1, .int (zI 10)), (2, .long (zL y2))] 0 []
  refine j_aload_n hx 0 dX10_weigh_0 rfl ?_
  refine j_iload_n hx 1 dX10_weigh_1 rfl ?_
  refine j_callV hx hG (c_X10_boardAt hst a 10) lk_RX10_22 ha (by decide) rfl rfl rfl rfl [.int (zI 10)] ⟨rfl, hG, hS0, ha, (by omega)⟩ rfl rfl ⟨by decide, by decide⟩ ⟨by decide, by decide⟩ (k2 := 0) (n2 := 0) rfl rfl (Nat.le_of_ble_eq_true rfl) dX10_weigh_2 (kNP (fun _ => ?_) (fun r1 q2 => ?_))
  · skip
    refine j_astoreN hx [(4, .null), (0, .ref a), (1, .int (zI 10)), (2, .long (zL y2))] dX10_weigh_5 (by decide) rfl ?_
    refine j_aload_n hx 1 dX10_weigh_7 rfl ?_
    refine j_iload_n hx 2 dX10_weigh_8 rfl ?_
    refine j_iconst hx dX10_weigh_9 ?_
    refine j_iadd hx (r := 11) dX10_weigh_10 (by omega) ?_
    refine j_callV hx hG (c_X10_boardAt hst a 11) lk_RX10_22 ha (by decide) rfl rfl rfl rfl [.int (zI 11)] ⟨rfl, hG, hS0, ha, (by omega)⟩ rfl rfl ⟨by decide, by decide⟩ ⟨by decide, by decide⟩ (k2 := 0) (n2 := 0) rfl rfl (Nat.le_of_ble_eq_true rfl) dX10_weigh_11 (kNP (fun _ => ?_) (fun r3 q4 => ?_))
    · skip
      refine j_astoreN hx [(5, .null), (4, .null), (0, .ref a), (1, .int (zI 10)), (2, .long (zL y2))] dX10_weigh_14 (by decide) rfl ?_
      refine j_aloadN hx 1 dX10_weigh_16 rfl ?_
      refine j_ifnonnullN hx dX10_weigh_18 ?_
      exact j_vret hx hq rfl (by decide) (by decide) dX10_weigh_21 ⟨rfl, rfl, hS0, zFr_rf, trivial⟩
    · skip
      refine j_astore hx [(5, .ref r3), (4, .null), (0, .ref a), (1, .int (zI 10)), (2, .long (zL y2))] dX10_weigh_14 (by decide) rfl ?_
      refine j_aloadN hx 1 dX10_weigh_16 rfl ?_
      refine j_ifnonnullN hx dX10_weigh_18 ?_
      exact j_vret hx hq rfl (by decide) (by decide) dX10_weigh_21 ⟨rfl, rfl, hS0, zFr_rf, trivial⟩
  · skip
    refine j_astore hx [(4, .ref r1), (0, .ref a), (1, .int (zI 10)), (2, .long (zL y2))] dX10_weigh_5 (by decide) rfl ?_
    refine j_aload_n hx 1 dX10_weigh_7 rfl ?_
    refine j_iload_n hx 2 dX10_weigh_8 rfl ?_
    refine j_iconst hx dX10_weigh_9 ?_
    refine j_iadd hx (r := 11) dX10_weigh_10 (by omega) ?_
    refine j_callV hx hG (c_X10_boardAt hst a 11) lk_RX10_22 ha (by decide) rfl rfl rfl rfl [.int (zI 11)] ⟨rfl, hG, hS0, ha, (by omega)⟩ rfl rfl ⟨by decide, by decide⟩ ⟨by decide, by decide⟩ (k2 := 0) (n2 := 0) rfl rfl (Nat.le_of_ble_eq_true rfl) dX10_weigh_11 (kNP (fun _ => ?_) (fun r5 q6 => ?_))
    · skip
      refine j_astoreN hx [(5, .null), (4, .ref r1), (0, .ref a), (1, .int (zI 10)), (2, .long (zL y2))] dX10_weigh_14 (by decide) rfl ?_
      refine j_aload hx 1 dX10_weigh_16 rfl ?_
      refine j_ifnonnull hx 22 dX10_weigh_18 rfl ?_
      refine j_iload_n hx 3 dX10_weigh_22 rfl ?_
      refine j_aload_n hx 2 dX10_weigh_23 rfl ?_
      have f7 := zf hS0 ha (k := 4) rfl
      refine g11_4 hx hG ha kf_RX10_77 rfl dX10_weigh_24 ?_
      have c43_1 : ∀ (s2 : zS), (zSK G s2) → (zFr [1, 7, 41] G s0 s2) → JJ X E 9 G s2 0 0 [(0, .ref a), (1, .int (zI 10)), (2, .long (zL y2)), (4, .ref r1)] 43 [] := by
        intro s2 hS_s2 hF_s2
        refine j_aload_n hx 0 dX10_weigh_43 rfl ?_
        refine j_dup hx dX10_weigh_44 rfl ?_
        have f8 := zf hS0 ha (k := 7) rfl
        refine g11_7 hx hG ha kf_RX10_80 (v := (s0 a 7)) (by rw [(zFr_g hF_s2 ha (by decide))]) dX10_weigh_45 ?_
        refine j_aload_n hx 0 dX10_weigh_48 rfl ?_
        refine j_aload hx 3 dX10_weigh_49 rfl ?_
        refine j_callV hx hG (c_X10_leads hst a r1) lk_RX10_96 ha (by decide) rfl rfl rfl rfl [.ref r1] ⟨rfl, hG, hS_s2, ha, q2.1⟩ rfl rfl ⟨by decide, by decide⟩ ⟨by decide, by decide⟩ (k2 := 0) (n2 := 0) rfl rfl (Nat.le_of_ble_eq_true rfl) dX10_weigh_51 (kIP (fun v9 q10 => ?_))
        refine j_if_eq hx 66 dX10_weigh_54 rfl (by omega) (fun h11 => ?_) (fun h11 => ?_)
        · skip
          refine j_lconst hx dX10_weigh_66 ?_
          show JJ X E 9 G s2 0 0 [(0, .ref a), (1, .int (zI 10)), (2, .long (zL y2)), (4, .ref r1)] 67 [.long (zL 0), .long (zL ((s0 a 7))), .ref a]
          refine j_ladd hx dX10_weigh_67 (fun w12 f13 f14 => ?_)
          refine p11_7 hx hG ha kf_RX10_80 dX10_weigh_68 ?_
          obtain ⟨s5, e_s5⟩ : ∃ z, z = zU s2 a 7 w12 := ⟨_, rfl⟩
          rw [← e_s5]
          have hS_s5 : zSK G s5 := by rw [e_s5]; exact zSK_F hS_s2 ha rfl rfl rfl (by omega)
          exact j_vret hx hq rfl (by decide) (by decide) dX10_weigh_71 ⟨rfl, rfl, hS_s5, (zFr_u (zFr_t zFr_rf hF_s2 (by decide)) e_s5 ha (by decide)), trivial⟩
        · skip
          refine j_aload_n hx 0 dX10_weigh_57 rfl ?_
          refine j_iload_n hx 1 dX10_weigh_58 rfl ?_
          refine j_lload_n hx 2 dX10_weigh_59 rfl ?_
          refine j_callV hx hG (c_X10_allWays hst a 10 y2) lk_RX10_100 ha (by decide) rfl rfl rfl rfl [.int (zI 10), .long (zL y2)] ⟨rfl, hG, hS_s2, ha, (by omega), (by omega)⟩ rfl rfl ⟨by decide, by decide⟩ ⟨by decide, by decide⟩ (k2 := 0) (n2 := 0) rfl rfl (Nat.le_of_ble_eq_true rfl) dX10_weigh_60 (kLP (fun v15 q16 => ?_))
          refine j_goto hx 67 dX10_weigh_63 rfl ?_
          refine j_ladd hx dX10_weigh_67 (fun w17 f18 f19 => ?_)
          refine p11_7 hx hG ha kf_RX10_80 dX10_weigh_68 ?_
          obtain ⟨s6, e_s6⟩ : ∃ z, z = zU s2 a 7 w17 := ⟨_, rfl⟩
          rw [← e_s6]
          have hS_s6 : zSK G s6 := by rw [e_s6]; exact zSK_F hS_s2 ha rfl rfl rfl (by omega)
          exact j_vret hx hq rfl (by decide) (by decide) dX10_weigh_71 ⟨rfl, rfl, hS_s6, (zFr_u (zFr_t zFr_rf hF_s2 (by decide)) e_s6 ha (by decide)), trivial⟩
      refine j_icmp_ge hx 43 dX10_weigh_27 rfl ⟨by decide, by decide⟩ (by omega) (fun h20 => ?_) (fun h20 => ?_)
      · skip
        exact j_sub [2, 3, 4, 1] [(0, .ref a), (1, .int (zI 10)), (2, .long (zL y2)), (4, .ref r1)] rfl (c43_1 s0 hS0 zFr_rf)
      · skip
        refine j_aloadN hx 0 dX10_weigh_30 rfl ?_
        refine j_ifnullN hx 43 dX10_weigh_32 rfl ?_
        exact j_sub [2, 3, 4, 1] [(0, .ref a), (1, .int (zI 10)), (2, .long (zL y2)), (4, .ref r1)] rfl (c43_1 s0 hS0 zFr_rf)
    · skip
      refine j_astore hx [(5, .ref r5), (4, .ref r1), (0, .ref a), (1, .int (zI 10)), (2, .long (zL y2))] dX10_weigh_14 (by decide) rfl ?_
      refine j_aload hx 1 dX10_weigh_16 rfl ?_
      refine j_ifnonnull hx 22 dX10_weigh_18 rfl ?_
      refine j_iload_n hx 3 dX10_weigh_22 rfl ?_
      refine j_aload_n hx 2 dX10_weigh_23 rfl ?_
      have f21 := zf hS0 ha (k := 4) rfl
      refine g11_4 hx hG ha kf_RX10_77 rfl dX10_weigh_24 ?_
      have c43_7 : ∀ (s8 : zS), (zSK G s8) → (zFr [1, 7, 41] G s0 s8) → JJ X E 9 G s8 0 0 [(0, .ref a), (1, .int (zI 10)), (2, .long (zL y2)), (4, .ref r1)] 43 [] := by
        intro s8 hS_s8 hF_s8
        refine j_aload_n hx 0 dX10_weigh_43 rfl ?_
        refine j_dup hx dX10_weigh_44 rfl ?_
        have f22 := zf hS0 ha (k := 7) rfl
        refine g11_7 hx hG ha kf_RX10_80 (v := (s0 a 7)) (by rw [(zFr_g hF_s8 ha (by decide))]) dX10_weigh_45 ?_
        refine j_aload_n hx 0 dX10_weigh_48 rfl ?_
        refine j_aload hx 3 dX10_weigh_49 rfl ?_
        refine j_callV hx hG (c_X10_leads hst a r1) lk_RX10_96 ha (by decide) rfl rfl rfl rfl [.ref r1] ⟨rfl, hG, hS_s8, ha, q2.1⟩ rfl rfl ⟨by decide, by decide⟩ ⟨by decide, by decide⟩ (k2 := 0) (n2 := 0) rfl rfl (Nat.le_of_ble_eq_true rfl) dX10_weigh_51 (kIP (fun v23 q24 => ?_))
        refine j_if_eq hx 66 dX10_weigh_54 rfl (by omega) (fun h25 => ?_) (fun h25 => ?_)
        · skip
          refine j_lconst hx dX10_weigh_66 ?_
          show JJ X E 9 G s8 0 0 [(0, .ref a), (1, .int (zI 10)), (2, .long (zL y2)), (4, .ref r1)] 67 [.long (zL 0), .long (zL ((s0 a 7))), .ref a]
          refine j_ladd hx dX10_weigh_67 (fun w26 f27 f28 => ?_)
          refine p11_7 hx hG ha kf_RX10_80 dX10_weigh_68 ?_
          obtain ⟨s11, e_s11⟩ : ∃ z, z = zU s8 a 7 w26 := ⟨_, rfl⟩
          rw [← e_s11]
          have hS_s11 : zSK G s11 := by rw [e_s11]; exact zSK_F hS_s8 ha rfl rfl rfl (by omega)
          exact j_vret hx hq rfl (by decide) (by decide) dX10_weigh_71 ⟨rfl, rfl, hS_s11, (zFr_u (zFr_t zFr_rf hF_s8 (by decide)) e_s11 ha (by decide)), trivial⟩
        · skip
          refine j_aload_n hx 0 dX10_weigh_57 rfl ?_
          refine j_iload_n hx 1 dX10_weigh_58 rfl ?_
          refine j_lload_n hx 2 dX10_weigh_59 rfl ?_
          refine j_callV hx hG (c_X10_allWays hst a 10 y2) lk_RX10_100 ha (by decide) rfl rfl rfl rfl [.int (zI 10), .long (zL y2)] ⟨rfl, hG, hS_s8, ha, (by omega), (by omega)⟩ rfl rfl ⟨by decide, by decide⟩ ⟨by decide, by decide⟩ (k2 := 0) (n2 := 0) rfl rfl (Nat.le_of_ble_eq_true rfl) dX10_weigh_60 (kLP (fun v29 q30 => ?_))
          refine j_goto hx 67 dX10_weigh_63 rfl ?_
          refine j_ladd hx dX10_weigh_67 (fun w31 f32 f33 => ?_)
          refine p11_7 hx hG ha kf_RX10_80 dX10_weigh_68 ?_
          obtain ⟨s12, e_s12⟩ : ∃ z, z = zU s8 a 7 w31 := ⟨_, rfl⟩
          rw [← e_s12]
          have hS_s12 : zSK G s12 := by rw [e_s12]; exact zSK_F hS_s8 ha rfl rfl rfl (by omega)
          exact j_vret hx hq rfl (by decide) (by decide) dX10_weigh_71 ⟨rfl, rfl, hS_s12, (zFr_u (zFr_t zFr_rf hF_s8 (by decide)) e_s12 ha (by decide)), trivial⟩
      refine j_icmp_ge hx 43 dX10_weigh_27 rfl ⟨by decide, by decide⟩ (by omega) (fun h34 => ?_) (fun h34 => ?_)
      · skip
        exact j_sub [2, 3, 4, 1] [(0, .ref a), (1, .int (zI 10)), (2, .long (zL y2)), (4, .ref r1)] rfl (c43_7 s0 hS0 zFr_rf)
      · skip
        refine j_aload hx 0 dX10_weigh_30 rfl ?_
        refine j_ifnull hx dX10_weigh_32 ?_
        refine j_aload hx 1 dX10_weigh_35 rfl ?_
        refine j_callV hx hG (c_X0_step hst r1) lk_RX10_33 q2.1 (by decide) rfl rfl rfl rfl [] ⟨rfl, hG, hS0, q2.1⟩ rfl rfl ⟨by decide, by decide⟩ ⟨by decide, by decide⟩ (k2 := 0) (n2 := 0) rfl rfl (Nat.le_of_ble_eq_true rfl) dX10_weigh_37 (kIM (fun v35 s13 hS_s13 hF_s13 q36 => ?_))
        refine j_if_ne hx 72 dX10_weigh_40 rfl (by omega) (fun h37 => ?_) (fun h37 => ?_)
        · skip
          refine j_aload hx 1 dX10_weigh_72 rfl ?_
          refine j_callV hx hG (c_X0_likeTops hst r1) lk_RX10_37 q2.1 (by decide) rfl rfl rfl rfl [] ⟨rfl, hG, hS_s13, q2.1⟩ rfl rfl ⟨by decide, by decide⟩ ⟨by decide, by decide⟩ (k2 := 0) (n2 := 0) rfl rfl (Nat.le_of_ble_eq_true rfl) dX10_weigh_74 (kIP (fun v38 q39 => ?_))
          refine j_istore hx [(6, .int (zI v38)), (5, .ref r5), (4, .ref r1), (0, .ref a), (1, .int (zI 10)), (2, .long (zL y2))] dX10_weigh_77 (by decide) rfl ?_
          refine j_iconst hx dX10_weigh_79 ?_
          refine j_istore hx [(7, .int (zI 0)), (6, .int (zI v38)), (5, .ref r5), (4, .ref r1), (0, .ref a), (1, .int (zI 10)), (2, .long (zL y2))] dX10_weigh_80 (by decide) rfl ?_
          refine j_iconst hx dX10_weigh_82 ?_
          refine j_istore hx [(8, .int (zI 0)), (7, .int (zI 0)), (6, .int (zI v38)), (5, .ref r5), (4, .ref r1), (0, .ref a), (1, .int (zI 10)), (2, .long (zL y2))] dX10_weigh_83 (by decide) rfl ?_
          have c85_14 : ∀ (m_c85_14 : Nat) (v40 : Int) (v41 : Int) (s15 : zS), 2147483648 - v41 < m_c85_14 → ((-2147483648) ≤ v40 ∧ v40 ≤ 2147483647) → (0 ≤ v41 ∧ v41 ≤ 3) → (zSK G s15) → (zFr [1, 7, 11, 41] G s13 s15) → JJ X E 9 G s15 0 0 [(0, .ref a), (1, .int (zI 10)), (2, .long (zL y2)), (4, .ref r1), (5, .ref r5), (6, .int (zI v38)), (7, .int (zI v40)), (8, .int (zI v41))] 85 [] := by
            intro m_c85_14
            induction m_c85_14 with
            | zero => intro v40 v41 s15 hm_c85_14 fA16 fA17 hS_s15 hF_s15; exfalso; omega
            | succ m_c85_14 ih_c85_14 => 
              intro v40 v41 s15 hm_c85_14 fA16 fA17 hS_s15 hF_s15
              refine j_iload hx 7 dX10_weigh_85 rfl ?_
              refine j_aload_n hx 0 dX10_weigh_87 rfl ?_
              refine g11_0 hx hG ha kf_RX10_17 dX10_weigh_88 ?_
              have f42 := zf hS0 (zr (k := 0) (t2 := 9) hG ha rfl) (k := 4) rfl
              refine gN9_4 hx hG (zr (k := 0) (t2 := 9) hG ha rfl) kf_RX10_104 (v := (s0 (gP G a 0) 4)) (by rw [(zFr_g hF_s15 (zr (k := 0) (t2 := 9) hG ha rfl) (by decide)), (zFr_g hF_s13 (zr (k := 0) (t2 := 9) hG ha rfl) (by decide))]) dX10_weigh_91 ?_
              refine j_icmp_ge hx 178 dX10_weigh_94 rfl (by omega) (by omega) (fun h43 => ?_) (fun h43 => ?_)
              · skip
                refine j_iload hx 6 dX10_weigh_178 rfl ?_
                refine j_if_le hx 202 dX10_weigh_180 rfl (by omega) (fun h44 => ?_) (fun h44 => ?_)
                · skip
                  exact j_vret hx hq rfl (by decide) (by decide) dX10_weigh_202 ⟨rfl, rfl, hS_s15, (zFr_t (zFr_t zFr_rf hF_s13 (by decide)) hF_s15 (by decide)), trivial⟩
                · skip
                  refine j_aload hx 4 dX10_weigh_183 rfl ?_
                  refine j_aload hx 3 dX10_weigh_185 rfl ?_
                  refine j_callV hx hG (c_X0_become hst r5 r1) lk_RX10_26 q6.1 (by decide) rfl rfl rfl rfl [.ref r1] ⟨rfl, hG, hS_s15, q6.1, q2.1⟩ rfl rfl ⟨by decide, by decide⟩ ⟨by decide, by decide⟩ (k2 := 0) (n2 := 0) rfl rfl (Nat.le_of_ble_eq_true rfl) dX10_weigh_187 (kVM (fun s20 hS_s20 hF_s20 q46 => ?_))
                  refine j_aload_n hx 0 dX10_weigh_190 rfl ?_
                  refine j_iload_n hx 1 dX10_weigh_191 rfl ?_
                  refine j_iconst hx dX10_weigh_192 ?_
                  refine j_iadd hx (r := 11) dX10_weigh_193 (by omega) ?_
                  refine j_lload_n hx 2 dX10_weigh_194 rfl ?_
                  refine j_iload hx 6 dX10_weigh_195 rfl ?_
                  refine j_i2l hx dX10_weigh_197 (by omega) ?_
                  refine j_lmul hx dX10_weigh_198 (fun w47 f48 f49 => ?_)
                  refine j_callV hx hG (c_X10_weigh_11 hst a 11 w47) lk_RX10_92 ha (by decide) rfl rfl rfl rfl [.int (zI 11), .long (zL w47)] ⟨rfl, hG, hS_s20, ha, (by omega), (by omega)⟩ rfl rfl ⟨by decide, by decide⟩ ⟨by decide, by decide⟩ (k2 := 0) (n2 := 0) rfl rfl (Nat.le_of_ble_eq_true rfl) dX10_weigh_199 (kVM (fun s21 hS_s21 hF_s21 q51 => ?_))
                  exact j_vret hx hq rfl (by decide) (by decide) dX10_weigh_202 ⟨rfl, rfl, hS_s21, (zFr_t (zFr_t (zFr_t (zFr_t zFr_rf hF_s13 (by decide)) hF_s15 (by decide)) hF_s20 (by decide)) hF_s21 (by decide)), trivial⟩
              · skip
                refine j_iload hx 5 dX10_weigh_97 rfl ?_
                refine j_iconst hx dX10_weigh_99 ?_
                have c172_22 : ∀ (v52 : Int) (s23 : zS), ((-2147483648) ≤ v52 ∧ v52 ≤ 2147483647) → (zSK G s23) → (zFr [1, 7, 11, 41] G s15 s23) → JJ X E 9 G s23 0 0 [(0, .ref a), (1, .int (zI 10)), (2, .long (zL y2)), (4, .ref r1), (5, .ref r5), (6, .int (zI v38)), (7, .int (zI v52)), (8, .int (zI v41))] 172 [] := by
                  intro v52 s23 fA24 hS_s23 hF_s23
                  refine j_iinc hx 7 [(8, .int (zI (v41 + 1))), (0, .ref a), (1, .int (zI 10)), (2, .long (zL y2)), (4, .ref r1), (5, .ref r5), (6, .int (zI v38)), (7, .int (zI v52))] dX10_weigh_172 rfl (by omega) (by decide) rfl ?_
                  refine j_goto hx 85 dX10_weigh_175 rfl ?_
                  exact j_sub [1, 2, 3, 4, 5, 6, 7, 0] [(0, .ref a), (1, .int (zI 10)), (2, .long (zL y2)), (4, .ref r1), (5, .ref r5), (6, .int (zI v38)), (7, .int (zI v52)), (8, .int (zI (v41 + 1)))] rfl (ih_c85_14 v52 (v41 + 1) s23 (by omega) (by omega) (by omega) hS_s23 (zFr_t (zFr_t zFr_rf hF_s15 (by decide)) hF_s23 (by decide)))
                have c113_27 : JJ X E 9 G s15 0 0 [(0, .ref a), (1, .int (zI 10)), (2, .long (zL y2)), (4, .ref r1), (5, .ref r5), (6, .int (zI v38)), (7, .int (zI v40)), (8, .int (zI v41))] 113 [] := by
                  refine j_iload hx 6 dX10_weigh_113 rfl ?_
                  refine j_aload_n hx 0 dX10_weigh_115 rfl ?_
                  refine g11_0 hx hG ha kf_RX10_17 dX10_weigh_116 ?_
                  refine j_iload hx 7 dX10_weigh_119 rfl ?_
                  refine j_iconst hx dX10_weigh_121 ?_
                  refine j_callV hx hG (c_X8_trait hst (gP G a 0) v41 0) lk_RX10_107 (zr (k := 0) (t2 := 9) hG ha rfl) (by decide) rfl rfl rfl rfl [.int (zI v41), .int (zI 0)] ⟨rfl, hG, hS_s15, (zr (k := 0) (t2 := 9) hG ha rfl), (by omega), (by omega)⟩ rfl rfl ⟨by decide, by decide⟩ ⟨by decide, by decide⟩ (k2 := 0) (n2 := 0) rfl rfl (Nat.le_of_ble_eq_true rfl) dX10_weigh_122 (kIP (fun v53 q54 => ?_))
                  refine j_iadd hx (r := v40 + v53) dX10_weigh_125 rfl ?_
                  refine j_norm (fun v55 f56 f57 f58 => ?_)
                  refine j_istore hx [(7, .int (zI v55)), (0, .ref a), (1, .int (zI 10)), (2, .long (zL y2)), (4, .ref r1), (5, .ref r5), (6, .int (zI v38)), (8, .int (zI v41))] dX10_weigh_126 (by decide) rfl ?_
                  refine j_goto hx 172 dX10_weigh_128 rfl ?_
                  exact j_sub [1, 2, 3, 4, 5, 6, 0, 7] [(0, .ref a), (1, .int (zI 10)), (2, .long (zL y2)), (4, .ref r1), (5, .ref r5), (6, .int (zI v38)), (7, .int (zI v55)), (8, .int (zI v41))] rfl (c172_22 v55 s15 (by omega) hS_s15 zFr_rf)
                refine j_icmp_eq hx 113 dX10_weigh_100 rfl (by omega) ⟨by decide, by decide⟩ (fun h59 => ?_) (fun h59 => ?_)
                · skip
                  exact j_sub [0, 1, 2, 3, 4, 5, 6, 7] [(0, .ref a), (1, .int (zI 10)), (2, .long (zL y2)), (4, .ref r1), (5, .ref r5), (6, .int (zI v38)), (7, .int (zI v40)), (8, .int (zI v41))] rfl (c113_27  )
                · skip
                  refine j_aload hx 3 dX10_weigh_103 rfl ?_
                  refine j_iload hx 7 dX10_weigh_105 rfl ?_
                  refine j_callV hx hG (c_X0_isOut hst r1 v41) lk_RX10_73 q2.1 (by decide) rfl rfl rfl rfl [.int (zI v41)] ⟨rfl, hG, hS_s15, q2.1, (by omega)⟩ rfl rfl ⟨by decide, by decide⟩ ⟨by decide, by decide⟩ (k2 := 0) (n2 := 0) rfl rfl (Nat.le_of_ble_eq_true rfl) dX10_weigh_107 (kIP (fun v60 q61 => ?_))
                  refine j_if_eq hx 131 dX10_weigh_110 rfl (by omega) (fun h62 => ?_) (fun h62 => ?_)
                  · skip
                    refine j_aload hx 4 dX10_weigh_131 rfl ?_
                    refine j_aload hx 3 dX10_weigh_133 rfl ?_
                    refine j_callV hx hG (c_X0_become hst r5 r1) lk_RX10_26 q6.1 (by decide) rfl rfl rfl rfl [.ref r1] ⟨rfl, hG, hS_s15, q6.1, q2.1⟩ rfl rfl ⟨by decide, by decide⟩ ⟨by decide, by decide⟩ (k2 := 0) (n2 := 0) rfl rfl (Nat.le_of_ble_eq_true rfl) dX10_weigh_135 (kVM (fun s28 hS_s28 hF_s28 q64 => ?_))
                    refine j_aload hx 4 dX10_weigh_138 rfl ?_
                    refine j_iload hx 7 dX10_weigh_140 rfl ?_
                    refine j_iload hx 5 dX10_weigh_142 rfl ?_
                    refine j_aload_n hx 0 dX10_weigh_144 rfl ?_
                    have f65 := zf hS_s15 ha (k := 3) rfl
                    refine g11_3 hx hG ha kf_RX10_45 (v := (s15 a 3)) (by rw [(zFr_g hF_s28 ha (by decide))]) dX10_weigh_145 ?_
                    refine j_callV hx hG (c_X0_win hst r5 v41 v38 ((s15 a 3))) lk_RX10_69 q6.1 (by decide) rfl rfl rfl rfl [.int (zI v41), .int (zI v38), .int (zI ((s15 a 3)))] ⟨rfl, hG, hS_s28, q6.1, (by omega), (by omega), (by omega)⟩ rfl rfl ⟨by decide, by decide⟩ ⟨by decide, by decide⟩ (k2 := 0) (n2 := 0) rfl rfl (Nat.le_of_ble_eq_true rfl) dX10_weigh_148 (kIM (fun v66 s29 hS_s29 hF_s29 q67 => ?_))
                    refine j_pop hx dX10_weigh_151 rfl ?_
                    refine j_aload_n hx 0 dX10_weigh_152 rfl ?_
                    refine j_iload_n hx 1 dX10_weigh_153 rfl ?_
                    refine j_iconst hx dX10_weigh_154 ?_
                    refine j_iadd hx (r := 11) dX10_weigh_155 (by omega) ?_
                    refine j_lload_n hx 2 dX10_weigh_156 rfl ?_
                    refine j_aload_n hx 0 dX10_weigh_157 rfl ?_
                    refine g11_0 hx hG ha kf_RX10_17 dX10_weigh_158 ?_
                    refine j_iload hx 7 dX10_weigh_161 rfl ?_
                    refine j_iconst hx dX10_weigh_163 ?_
                    refine j_callV hx hG (c_X8_trait hst (gP G a 0) v41 0) lk_RX10_107 (zr (k := 0) (t2 := 9) hG ha rfl) (by decide) rfl rfl rfl rfl [.int (zI v41), .int (zI 0)] ⟨rfl, hG, hS_s29, (zr (k := 0) (t2 := 9) hG ha rfl), (by omega), (by omega)⟩ rfl rfl ⟨by decide, by decide⟩ ⟨by decide, by decide⟩ (k2 := 0) (n2 := 0) rfl rfl (Nat.le_of_ble_eq_true rfl) dX10_weigh_164 (kIP (fun v68 q69 => ?_))
                    refine j_i2l hx dX10_weigh_167 (by omega) ?_
                    refine j_lmul hx dX10_weigh_168 (fun w70 f71 f72 => ?_)
                    refine j_callV hx hG (c_X10_weigh_11 hst a 11 w70) lk_RX10_92 ha (by decide) rfl rfl rfl rfl [.int (zI 11), .long (zL w70)] ⟨rfl, hG, hS_s29, ha, (by omega), (by omega)⟩ rfl rfl ⟨by decide, by decide⟩ ⟨by decide, by decide⟩ (k2 := 0) (n2 := 0) rfl rfl (Nat.le_of_ble_eq_true rfl) dX10_weigh_169 (kVM (fun s30 hS_s30 hF_s30 q74 => ?_))
                    exact j_sub [0, 1, 2, 3, 4, 5, 6, 7] [(0, .ref a), (1, .int (zI 10)), (2, .long (zL y2)), (4, .ref r1), (5, .ref r5), (6, .int (zI v38)), (7, .int (zI v40)), (8, .int (zI v41))] rfl (c172_22 v40 s30 (by omega) hS_s30 (zFr_t (zFr_t (zFr_t zFr_rf hF_s28 (by decide)) hF_s29 (by decide)) hF_s30 (by decide)))
                  · skip
                    exact j_sub [0, 1, 2, 3, 4, 5, 6, 7] [(0, .ref a), (1, .int (zI 10)), (2, .long (zL y2)), (4, .ref r1), (5, .ref r5), (6, .int (zI v38)), (7, .int (zI v40)), (8, .int (zI v41))] rfl (c113_27  )
          exact j_sub [5, 6, 7, 4, 3, 2, 1, 0] [(0, .ref a), (1, .int (zI 10)), (2, .long (zL y2)), (4, .ref r1), (5, .ref r5), (6, .int (zI v38)), (7, .int (zI 0)), (8, .int (zI 0))] rfl (c85_14 (2147483648 * 4) 0 0 s13 (by omega) (by omega) (by omega) hS_s13 zFr_rf)
        · skip
          exact j_sub [2, 3, 4, 1] [(0, .ref a), (1, .int (zI 10)), (2, .long (zL y2)), (4, .ref r1)] rfl (c43_7 s13 hS_s13 (zFr_t zFr_rf hF_s13 (by decide)))

set_option maxHeartbeats 4000000 in
set_option maxRecDepth 20000 in
theorem c_X10_weigh_9 {E : zE} {l : Launch} (hst : l.stackTraces = false) (a : Nat) (x1 : Int) (y2 : Int) : Con E l yX10_weigh cX10_weigh 9 none { frames := 6, cells := 0, slots := 0, locals := 155 } (fun G s vs => vs = [.ref a, .int (zI x1), .long (zL y2)] ∧ zGK G ∧ zSK G s ∧ (gT G a = 11) ∧ (9 ≤ x1 ∧ x1 ≤ 9) ∧ ((-9223372036854775808) ≤ y2 ∧ y2 ≤ 9223372036854775807)) (fun G s _ => pV (fun G2 s2 => G2 = G ∧ zSK G s2 ∧ zFr [1, 7, 11, 41] G s s2 ∧ True)) := by
  refine Con.mk hst (by decide) (fun G s vs h => by rw [h.1]; exact Nat.le_of_ble_eq_true rfl) ?_
  rintro X G s0 vs ⟨rfl, hG, hS0, ha, hx1, hy2⟩ rfl hx hq
  obtain rfl : x1 = 9 := by omega
  show JJ X E 9 G s0 0 0 [(0, .ref a), (1, .int (zI 9)), (2, .long (zL y2))] 0 []
  refine j_aload_n hx 0 dX10_weigh_0 rfl ?_
  refine j_iload_n hx 1 dX10_weigh_1 rfl ?_
  refine j_callV hx hG (c_X10_boardAt hst a 9) lk_RX10_22 ha (by decide) rfl rfl rfl rfl [.int (zI 9)] ⟨rfl, hG, hS0, ha, (by omega)⟩ rfl rfl ⟨by decide, by decide⟩ ⟨by decide, by decide⟩ (k2 := 0) (n2 := 0) rfl rfl (Nat.le_of_ble_eq_true rfl) dX10_weigh_2 (kNP (fun _ => ?_) (fun r1 q2 => ?_))
  · skip
    refine j_astoreN hx [(4, .null), (0, .ref a), (1, .int (zI 9)), (2, .long (zL y2))] dX10_weigh_5 (by decide) rfl ?_
    refine j_aload_n hx 1 dX10_weigh_7 rfl ?_
    refine j_iload_n hx 2 dX10_weigh_8 rfl ?_
    refine j_iconst hx dX10_weigh_9 ?_
    refine j_iadd hx (r := 10) dX10_weigh_10 (by omega) ?_
    refine j_callV hx hG (c_X10_boardAt hst a 10) lk_RX10_22 ha (by decide) rfl rfl rfl rfl [.int (zI 10)] ⟨rfl, hG, hS0, ha, (by omega)⟩ rfl rfl ⟨by decide, by decide⟩ ⟨by decide, by decide⟩ (k2 := 0) (n2 := 0) rfl rfl (Nat.le_of_ble_eq_true rfl) dX10_weigh_11 (kNP (fun _ => ?_) (fun r3 q4 => ?_))
    · skip
      refine j_astoreN hx [(5, .null), (4, .null), (0, .ref a), (1, .int (zI 9)), (2, .long (zL y2))] dX10_weigh_14 (by decide) rfl ?_
      refine j_aloadN hx 1 dX10_weigh_16 rfl ?_
      refine j_ifnonnullN hx dX10_weigh_18 ?_
      exact j_vret hx hq rfl (by decide) (by decide) dX10_weigh_21 ⟨rfl, rfl, hS0, zFr_rf, trivial⟩
    · skip
      refine j_astore hx [(5, .ref r3), (4, .null), (0, .ref a), (1, .int (zI 9)), (2, .long (zL y2))] dX10_weigh_14 (by decide) rfl ?_
      refine j_aloadN hx 1 dX10_weigh_16 rfl ?_
      refine j_ifnonnullN hx dX10_weigh_18 ?_
      exact j_vret hx hq rfl (by decide) (by decide) dX10_weigh_21 ⟨rfl, rfl, hS0, zFr_rf, trivial⟩
  · skip
    refine j_astore hx [(4, .ref r1), (0, .ref a), (1, .int (zI 9)), (2, .long (zL y2))] dX10_weigh_5 (by decide) rfl ?_
    refine j_aload_n hx 1 dX10_weigh_7 rfl ?_
    refine j_iload_n hx 2 dX10_weigh_8 rfl ?_
    refine j_iconst hx dX10_weigh_9 ?_
    refine j_iadd hx (r := 10) dX10_weigh_10 (by omega) ?_
    refine j_callV hx hG (c_X10_boardAt hst a 10) lk_RX10_22 ha (by decide) rfl rfl rfl rfl [.int (zI 10)] ⟨rfl, hG, hS0, ha, (by omega)⟩ rfl rfl ⟨by decide, by decide⟩ ⟨by decide, by decide⟩ (k2 := 0) (n2 := 0) rfl rfl (Nat.le_of_ble_eq_true rfl) dX10_weigh_11 (kNP (fun _ => ?_) (fun r5 q6 => ?_))
    · skip
      refine j_astoreN hx [(5, .null), (4, .ref r1), (0, .ref a), (1, .int (zI 9)), (2, .long (zL y2))] dX10_weigh_14 (by decide) rfl ?_
      refine j_aload hx 1 dX10_weigh_16 rfl ?_
      refine j_ifnonnull hx 22 dX10_weigh_18 rfl ?_
      refine j_iload_n hx 3 dX10_weigh_22 rfl ?_
      refine j_aload_n hx 2 dX10_weigh_23 rfl ?_
      have f7 := zf hS0 ha (k := 4) rfl
      refine g11_4 hx hG ha kf_RX10_77 rfl dX10_weigh_24 ?_
      have c43_1 : ∀ (s2 : zS), (zSK G s2) → (zFr [1, 7, 41] G s0 s2) → JJ X E 9 G s2 0 0 [(0, .ref a), (1, .int (zI 9)), (2, .long (zL y2)), (4, .ref r1)] 43 [] := by
        intro s2 hS_s2 hF_s2
        refine j_aload_n hx 0 dX10_weigh_43 rfl ?_
        refine j_dup hx dX10_weigh_44 rfl ?_
        have f8 := zf hS0 ha (k := 7) rfl
        refine g11_7 hx hG ha kf_RX10_80 (v := (s0 a 7)) (by rw [(zFr_g hF_s2 ha (by decide))]) dX10_weigh_45 ?_
        refine j_aload_n hx 0 dX10_weigh_48 rfl ?_
        refine j_aload hx 3 dX10_weigh_49 rfl ?_
        refine j_callV hx hG (c_X10_leads hst a r1) lk_RX10_96 ha (by decide) rfl rfl rfl rfl [.ref r1] ⟨rfl, hG, hS_s2, ha, q2.1⟩ rfl rfl ⟨by decide, by decide⟩ ⟨by decide, by decide⟩ (k2 := 0) (n2 := 0) rfl rfl (Nat.le_of_ble_eq_true rfl) dX10_weigh_51 (kIP (fun v9 q10 => ?_))
        refine j_if_eq hx 66 dX10_weigh_54 rfl (by omega) (fun h11 => ?_) (fun h11 => ?_)
        · skip
          refine j_lconst hx dX10_weigh_66 ?_
          show JJ X E 9 G s2 0 0 [(0, .ref a), (1, .int (zI 9)), (2, .long (zL y2)), (4, .ref r1)] 67 [.long (zL 0), .long (zL ((s0 a 7))), .ref a]
          refine j_ladd hx dX10_weigh_67 (fun w12 f13 f14 => ?_)
          refine p11_7 hx hG ha kf_RX10_80 dX10_weigh_68 ?_
          obtain ⟨s5, e_s5⟩ : ∃ z, z = zU s2 a 7 w12 := ⟨_, rfl⟩
          rw [← e_s5]
          have hS_s5 : zSK G s5 := by rw [e_s5]; exact zSK_F hS_s2 ha rfl rfl rfl (by omega)
          exact j_vret hx hq rfl (by decide) (by decide) dX10_weigh_71 ⟨rfl, rfl, hS_s5, (zFr_u (zFr_t zFr_rf hF_s2 (by decide)) e_s5 ha (by decide)), trivial⟩
        · skip
          refine j_aload_n hx 0 dX10_weigh_57 rfl ?_
          refine j_iload_n hx 1 dX10_weigh_58 rfl ?_
          refine j_lload_n hx 2 dX10_weigh_59 rfl ?_
          refine j_callV hx hG (c_X10_allWays hst a 9 y2) lk_RX10_100 ha (by decide) rfl rfl rfl rfl [.int (zI 9), .long (zL y2)] ⟨rfl, hG, hS_s2, ha, (by omega), (by omega)⟩ rfl rfl ⟨by decide, by decide⟩ ⟨by decide, by decide⟩ (k2 := 0) (n2 := 0) rfl rfl (Nat.le_of_ble_eq_true rfl) dX10_weigh_60 (kLP (fun v15 q16 => ?_))
          refine j_goto hx 67 dX10_weigh_63 rfl ?_
          refine j_ladd hx dX10_weigh_67 (fun w17 f18 f19 => ?_)
          refine p11_7 hx hG ha kf_RX10_80 dX10_weigh_68 ?_
          obtain ⟨s6, e_s6⟩ : ∃ z, z = zU s2 a 7 w17 := ⟨_, rfl⟩
          rw [← e_s6]
          have hS_s6 : zSK G s6 := by rw [e_s6]; exact zSK_F hS_s2 ha rfl rfl rfl (by omega)
          exact j_vret hx hq rfl (by decide) (by decide) dX10_weigh_71 ⟨rfl, rfl, hS_s6, (zFr_u (zFr_t zFr_rf hF_s2 (by decide)) e_s6 ha (by decide)), trivial⟩
      refine j_icmp_ge hx 43 dX10_weigh_27 rfl ⟨by decide, by decide⟩ (by omega) (fun h20 => ?_) (fun h20 => ?_)
      · skip
        exact j_sub [2, 3, 4, 1] [(0, .ref a), (1, .int (zI 9)), (2, .long (zL y2)), (4, .ref r1)] rfl (c43_1 s0 hS0 zFr_rf)
      · skip
        refine j_aloadN hx 0 dX10_weigh_30 rfl ?_
        refine j_ifnullN hx 43 dX10_weigh_32 rfl ?_
        exact j_sub [2, 3, 4, 1] [(0, .ref a), (1, .int (zI 9)), (2, .long (zL y2)), (4, .ref r1)] rfl (c43_1 s0 hS0 zFr_rf)
    · skip
      refine j_astore hx [(5, .ref r5), (4, .ref r1), (0, .ref a), (1, .int (zI 9)), (2, .long (zL y2))] dX10_weigh_14 (by decide) rfl ?_
      refine j_aload hx 1 dX10_weigh_16 rfl ?_
      refine j_ifnonnull hx 22 dX10_weigh_18 rfl ?_
      refine j_iload_n hx 3 dX10_weigh_22 rfl ?_
      refine j_aload_n hx 2 dX10_weigh_23 rfl ?_
      have f21 := zf hS0 ha (k := 4) rfl
      refine g11_4 hx hG ha kf_RX10_77 rfl dX10_weigh_24 ?_
      have c43_7 : ∀ (s8 : zS), (zSK G s8) → (zFr [1, 7, 41] G s0 s8) → JJ X E 9 G s8 0 0 [(0, .ref a), (1, .int (zI 9)), (2, .long (zL y2)), (4, .ref r1)] 43 [] := by
        intro s8 hS_s8 hF_s8
        refine j_aload_n hx 0 dX10_weigh_43 rfl ?_
        refine j_dup hx dX10_weigh_44 rfl ?_
        have f22 := zf hS0 ha (k := 7) rfl
        refine g11_7 hx hG ha kf_RX10_80 (v := (s0 a 7)) (by rw [(zFr_g hF_s8 ha (by decide))]) dX10_weigh_45 ?_
        refine j_aload_n hx 0 dX10_weigh_48 rfl ?_
        refine j_aload hx 3 dX10_weigh_49 rfl ?_
        refine j_callV hx hG (c_X10_leads hst a r1) lk_RX10_96 ha (by decide) rfl rfl rfl rfl [.ref r1] ⟨rfl, hG, hS_s8, ha, q2.1⟩ rfl rfl ⟨by decide, by decide⟩ ⟨by decide, by decide⟩ (k2 := 0) (n2 := 0) rfl rfl (Nat.le_of_ble_eq_true rfl) dX10_weigh_51 (kIP (fun v23 q24 => ?_))
        refine j_if_eq hx 66 dX10_weigh_54 rfl (by omega) (fun h25 => ?_) (fun h25 => ?_)
        · skip
          refine j_lconst hx dX10_weigh_66 ?_
          show JJ X E 9 G s8 0 0 [(0, .ref a), (1, .int (zI 9)), (2, .long (zL y2)), (4, .ref r1)] 67 [.long (zL 0), .long (zL ((s0 a 7))), .ref a]
          refine j_ladd hx dX10_weigh_67 (fun w26 f27 f28 => ?_)
          refine p11_7 hx hG ha kf_RX10_80 dX10_weigh_68 ?_
          obtain ⟨s11, e_s11⟩ : ∃ z, z = zU s8 a 7 w26 := ⟨_, rfl⟩
          rw [← e_s11]
          have hS_s11 : zSK G s11 := by rw [e_s11]; exact zSK_F hS_s8 ha rfl rfl rfl (by omega)
          exact j_vret hx hq rfl (by decide) (by decide) dX10_weigh_71 ⟨rfl, rfl, hS_s11, (zFr_u (zFr_t zFr_rf hF_s8 (by decide)) e_s11 ha (by decide)), trivial⟩
        · skip
          refine j_aload_n hx 0 dX10_weigh_57 rfl ?_
          refine j_iload_n hx 1 dX10_weigh_58 rfl ?_
          refine j_lload_n hx 2 dX10_weigh_59 rfl ?_
          refine j_callV hx hG (c_X10_allWays hst a 9 y2) lk_RX10_100 ha (by decide) rfl rfl rfl rfl [.int (zI 9), .long (zL y2)] ⟨rfl, hG, hS_s8, ha, (by omega), (by omega)⟩ rfl rfl ⟨by decide, by decide⟩ ⟨by decide, by decide⟩ (k2 := 0) (n2 := 0) rfl rfl (Nat.le_of_ble_eq_true rfl) dX10_weigh_60 (kLP (fun v29 q30 => ?_))
          refine j_goto hx 67 dX10_weigh_63 rfl ?_
          refine j_ladd hx dX10_weigh_67 (fun w31 f32 f33 => ?_)
          refine p11_7 hx hG ha kf_RX10_80 dX10_weigh_68 ?_
          obtain ⟨s12, e_s12⟩ : ∃ z, z = zU s8 a 7 w31 := ⟨_, rfl⟩
          rw [← e_s12]
          have hS_s12 : zSK G s12 := by rw [e_s12]; exact zSK_F hS_s8 ha rfl rfl rfl (by omega)
          exact j_vret hx hq rfl (by decide) (by decide) dX10_weigh_71 ⟨rfl, rfl, hS_s12, (zFr_u (zFr_t zFr_rf hF_s8 (by decide)) e_s12 ha (by decide)), trivial⟩
      refine j_icmp_ge hx 43 dX10_weigh_27 rfl ⟨by decide, by decide⟩ (by omega) (fun h34 => ?_) (fun h34 => ?_)
      · skip
        exact j_sub [2, 3, 4, 1] [(0, .ref a), (1, .int (zI 9)), (2, .long (zL y2)), (4, .ref r1)] rfl (c43_7 s0 hS0 zFr_rf)
      · skip
        refine j_aload hx 0 dX10_weigh_30 rfl ?_
        refine j_ifnull hx dX10_weigh_32 ?_
        refine j_aload hx 1 dX10_weigh_35 rfl ?_
        refine j_callV hx hG (c_X0_step hst r1) lk_RX10_33 q2.1 (by decide) rfl rfl rfl rfl [] ⟨rfl, hG, hS0, q2.1⟩ rfl rfl ⟨by decide, by decide⟩ ⟨by decide, by decide⟩ (k2 := 0) (n2 := 0) rfl rfl (Nat.le_of_ble_eq_true rfl) dX10_weigh_37 (kIM (fun v35 s13 hS_s13 hF_s13 q36 => ?_))
        refine j_if_ne hx 72 dX10_weigh_40 rfl (by omega) (fun h37 => ?_) (fun h37 => ?_)
        · skip
          refine j_aload hx 1 dX10_weigh_72 rfl ?_
          refine j_callV hx hG (c_X0_likeTops hst r1) lk_RX10_37 q2.1 (by decide) rfl rfl rfl rfl [] ⟨rfl, hG, hS_s13, q2.1⟩ rfl rfl ⟨by decide, by decide⟩ ⟨by decide, by decide⟩ (k2 := 0) (n2 := 0) rfl rfl (Nat.le_of_ble_eq_true rfl) dX10_weigh_74 (kIP (fun v38 q39 => ?_))
          refine j_istore hx [(6, .int (zI v38)), (5, .ref r5), (4, .ref r1), (0, .ref a), (1, .int (zI 9)), (2, .long (zL y2))] dX10_weigh_77 (by decide) rfl ?_
          refine j_iconst hx dX10_weigh_79 ?_
          refine j_istore hx [(7, .int (zI 0)), (6, .int (zI v38)), (5, .ref r5), (4, .ref r1), (0, .ref a), (1, .int (zI 9)), (2, .long (zL y2))] dX10_weigh_80 (by decide) rfl ?_
          refine j_iconst hx dX10_weigh_82 ?_
          refine j_istore hx [(8, .int (zI 0)), (7, .int (zI 0)), (6, .int (zI v38)), (5, .ref r5), (4, .ref r1), (0, .ref a), (1, .int (zI 9)), (2, .long (zL y2))] dX10_weigh_83 (by decide) rfl ?_
          have c85_14 : ∀ (m_c85_14 : Nat) (v40 : Int) (v41 : Int) (s15 : zS), 2147483648 - v41 < m_c85_14 → ((-2147483648) ≤ v40 ∧ v40 ≤ 2147483647) → (0 ≤ v41 ∧ v41 ≤ 3) → (zSK G s15) → (zFr [1, 7, 11, 41] G s13 s15) → JJ X E 9 G s15 0 0 [(0, .ref a), (1, .int (zI 9)), (2, .long (zL y2)), (4, .ref r1), (5, .ref r5), (6, .int (zI v38)), (7, .int (zI v40)), (8, .int (zI v41))] 85 [] := by
            intro m_c85_14
            induction m_c85_14 with
            | zero => intro v40 v41 s15 hm_c85_14 fA16 fA17 hS_s15 hF_s15; exfalso; omega
            | succ m_c85_14 ih_c85_14 => 
              intro v40 v41 s15 hm_c85_14 fA16 fA17 hS_s15 hF_s15
              refine j_iload hx 7 dX10_weigh_85 rfl ?_
              refine j_aload_n hx 0 dX10_weigh_87 rfl ?_
              refine g11_0 hx hG ha kf_RX10_17 dX10_weigh_88 ?_
              have f42 := zf hS0 (zr (k := 0) (t2 := 9) hG ha rfl) (k := 4) rfl
              refine gN9_4 hx hG (zr (k := 0) (t2 := 9) hG ha rfl) kf_RX10_104 (v := (s0 (gP G a 0) 4)) (by rw [(zFr_g hF_s15 (zr (k := 0) (t2 := 9) hG ha rfl) (by decide)), (zFr_g hF_s13 (zr (k := 0) (t2 := 9) hG ha rfl) (by decide))]) dX10_weigh_91 ?_
              refine j_icmp_ge hx 178 dX10_weigh_94 rfl (by omega) (by omega) (fun h43 => ?_) (fun h43 => ?_)
              · skip
                refine j_iload hx 6 dX10_weigh_178 rfl ?_
                refine j_if_le hx 202 dX10_weigh_180 rfl (by omega) (fun h44 => ?_) (fun h44 => ?_)
                · skip
                  exact j_vret hx hq rfl (by decide) (by decide) dX10_weigh_202 ⟨rfl, rfl, hS_s15, (zFr_t (zFr_t zFr_rf hF_s13 (by decide)) hF_s15 (by decide)), trivial⟩
                · skip
                  refine j_aload hx 4 dX10_weigh_183 rfl ?_
                  refine j_aload hx 3 dX10_weigh_185 rfl ?_
                  refine j_callV hx hG (c_X0_become hst r5 r1) lk_RX10_26 q6.1 (by decide) rfl rfl rfl rfl [.ref r1] ⟨rfl, hG, hS_s15, q6.1, q2.1⟩ rfl rfl ⟨by decide, by decide⟩ ⟨by decide, by decide⟩ (k2 := 0) (n2 := 0) rfl rfl (Nat.le_of_ble_eq_true rfl) dX10_weigh_187 (kVM (fun s20 hS_s20 hF_s20 q46 => ?_))
                  refine j_aload_n hx 0 dX10_weigh_190 rfl ?_
                  refine j_iload_n hx 1 dX10_weigh_191 rfl ?_
                  refine j_iconst hx dX10_weigh_192 ?_
                  refine j_iadd hx (r := 10) dX10_weigh_193 (by omega) ?_
                  refine j_lload_n hx 2 dX10_weigh_194 rfl ?_
                  refine j_iload hx 6 dX10_weigh_195 rfl ?_
                  refine j_i2l hx dX10_weigh_197 (by omega) ?_
                  refine j_lmul hx dX10_weigh_198 (fun w47 f48 f49 => ?_)
                  refine j_callV hx hG (c_X10_weigh_10 hst a 10 w47) lk_RX10_92 ha (by decide) rfl rfl rfl rfl [.int (zI 10), .long (zL w47)] ⟨rfl, hG, hS_s20, ha, (by omega), (by omega)⟩ rfl rfl ⟨by decide, by decide⟩ ⟨by decide, by decide⟩ (k2 := 0) (n2 := 0) rfl rfl (Nat.le_of_ble_eq_true rfl) dX10_weigh_199 (kVM (fun s21 hS_s21 hF_s21 q51 => ?_))
                  exact j_vret hx hq rfl (by decide) (by decide) dX10_weigh_202 ⟨rfl, rfl, hS_s21, (zFr_t (zFr_t (zFr_t (zFr_t zFr_rf hF_s13 (by decide)) hF_s15 (by decide)) hF_s20 (by decide)) hF_s21 (by decide)), trivial⟩
              · skip
                refine j_iload hx 5 dX10_weigh_97 rfl ?_
                refine j_iconst hx dX10_weigh_99 ?_
                have c172_22 : ∀ (v52 : Int) (s23 : zS), ((-2147483648) ≤ v52 ∧ v52 ≤ 2147483647) → (zSK G s23) → (zFr [1, 7, 11, 41] G s15 s23) → JJ X E 9 G s23 0 0 [(0, .ref a), (1, .int (zI 9)), (2, .long (zL y2)), (4, .ref r1), (5, .ref r5), (6, .int (zI v38)), (7, .int (zI v52)), (8, .int (zI v41))] 172 [] := by
                  intro v52 s23 fA24 hS_s23 hF_s23
                  refine j_iinc hx 7 [(8, .int (zI (v41 + 1))), (0, .ref a), (1, .int (zI 9)), (2, .long (zL y2)), (4, .ref r1), (5, .ref r5), (6, .int (zI v38)), (7, .int (zI v52))] dX10_weigh_172 rfl (by omega) (by decide) rfl ?_
                  refine j_goto hx 85 dX10_weigh_175 rfl ?_
                  exact j_sub [1, 2, 3, 4, 5, 6, 7, 0] [(0, .ref a), (1, .int (zI 9)), (2, .long (zL y2)), (4, .ref r1), (5, .ref r5), (6, .int (zI v38)), (7, .int (zI v52)), (8, .int (zI (v41 + 1)))] rfl (ih_c85_14 v52 (v41 + 1) s23 (by omega) (by omega) (by omega) hS_s23 (zFr_t (zFr_t zFr_rf hF_s15 (by decide)) hF_s23 (by decide)))
                have c113_27 : JJ X E 9 G s15 0 0 [(0, .ref a), (1, .int (zI 9)), (2, .long (zL y2)), (4, .ref r1), (5, .ref r5), (6, .int (zI v38)), (7, .int (zI v40)), (8, .int (zI v41))] 113 [] := by
                  refine j_iload hx 6 dX10_weigh_113 rfl ?_
                  refine j_aload_n hx 0 dX10_weigh_115 rfl ?_
                  refine g11_0 hx hG ha kf_RX10_17 dX10_weigh_116 ?_
                  refine j_iload hx 7 dX10_weigh_119 rfl ?_
                  refine j_iconst hx dX10_weigh_121 ?_
                  refine j_callV hx hG (c_X8_trait hst (gP G a 0) v41 0) lk_RX10_107 (zr (k := 0) (t2 := 9) hG ha rfl) (by decide) rfl rfl rfl rfl [.int (zI v41), .int (zI 0)] ⟨rfl, hG, hS_s15, (zr (k := 0) (t2 := 9) hG ha rfl), (by omega), (by omega)⟩ rfl rfl ⟨by decide, by decide⟩ ⟨by decide, by decide⟩ (k2 := 0) (n2 := 0) rfl rfl (Nat.le_of_ble_eq_true rfl) dX10_weigh_122 (kIP (fun v53 q54 => ?_))
                  refine j_iadd hx (r := v40 + v53) dX10_weigh_125 rfl ?_
                  refine j_norm (fun v55 f56 f57 f58 => ?_)
                  refine j_istore hx [(7, .int (zI v55)), (0, .ref a), (1, .int (zI 9)), (2, .long (zL y2)), (4, .ref r1), (5, .ref r5), (6, .int (zI v38)), (8, .int (zI v41))] dX10_weigh_126 (by decide) rfl ?_
                  refine j_goto hx 172 dX10_weigh_128 rfl ?_
                  exact j_sub [1, 2, 3, 4, 5, 6, 0, 7] [(0, .ref a), (1, .int (zI 9)), (2, .long (zL y2)), (4, .ref r1), (5, .ref r5), (6, .int (zI v38)), (7, .int (zI v55)), (8, .int (zI v41))] rfl (c172_22 v55 s15 (by omega) hS_s15 zFr_rf)
                refine j_icmp_eq hx 113 dX10_weigh_100 rfl (by omega) ⟨by decide, by decide⟩ (fun h59 => ?_) (fun h59 => ?_)
                · skip
                  exact j_sub [0, 1, 2, 3, 4, 5, 6, 7] [(0, .ref a), (1, .int (zI 9)), (2, .long (zL y2)), (4, .ref r1), (5, .ref r5), (6, .int (zI v38)), (7, .int (zI v40)), (8, .int (zI v41))] rfl (c113_27  )
                · skip
                  refine j_aload hx 3 dX10_weigh_103 rfl ?_
                  refine j_iload hx 7 dX10_weigh_105 rfl ?_
                  refine j_callV hx hG (c_X0_isOut hst r1 v41) lk_RX10_73 q2.1 (by decide) rfl rfl rfl rfl [.int (zI v41)] ⟨rfl, hG, hS_s15, q2.1, (by omega)⟩ rfl rfl ⟨by decide, by decide⟩ ⟨by decide, by decide⟩ (k2 := 0) (n2 := 0) rfl rfl (Nat.le_of_ble_eq_true rfl) dX10_weigh_107 (kIP (fun v60 q61 => ?_))
                  refine j_if_eq hx 131 dX10_weigh_110 rfl (by omega) (fun h62 => ?_) (fun h62 => ?_)
                  · skip
                    refine j_aload hx 4 dX10_weigh_131 rfl ?_
                    refine j_aload hx 3 dX10_weigh_133 rfl ?_
                    refine j_callV hx hG (c_X0_become hst r5 r1) lk_RX10_26 q6.1 (by decide) rfl rfl rfl rfl [.ref r1] ⟨rfl, hG, hS_s15, q6.1, q2.1⟩ rfl rfl ⟨by decide, by decide⟩ ⟨by decide, by decide⟩ (k2 := 0) (n2 := 0) rfl rfl (Nat.le_of_ble_eq_true rfl) dX10_weigh_135 (kVM (fun s28 hS_s28 hF_s28 q64 => ?_))
                    refine j_aload hx 4 dX10_weigh_138 rfl ?_
                    refine j_iload hx 7 dX10_weigh_140 rfl ?_
                    refine j_iload hx 5 dX10_weigh_142 rfl ?_
                    refine j_aload_n hx 0 dX10_weigh_144 rfl ?_
                    have f65 := zf hS_s15 ha (k := 3) rfl
                    refine g11_3 hx hG ha kf_RX10_45 (v := (s15 a 3)) (by rw [(zFr_g hF_s28 ha (by decide))]) dX10_weigh_145 ?_
                    refine j_callV hx hG (c_X0_win hst r5 v41 v38 ((s15 a 3))) lk_RX10_69 q6.1 (by decide) rfl rfl rfl rfl [.int (zI v41), .int (zI v38), .int (zI ((s15 a 3)))] ⟨rfl, hG, hS_s28, q6.1, (by omega), (by omega), (by omega)⟩ rfl rfl ⟨by decide, by decide⟩ ⟨by decide, by decide⟩ (k2 := 0) (n2 := 0) rfl rfl (Nat.le_of_ble_eq_true rfl) dX10_weigh_148 (kIM (fun v66 s29 hS_s29 hF_s29 q67 => ?_))
                    refine j_pop hx dX10_weigh_151 rfl ?_
                    refine j_aload_n hx 0 dX10_weigh_152 rfl ?_
                    refine j_iload_n hx 1 dX10_weigh_153 rfl ?_
                    refine j_iconst hx dX10_weigh_154 ?_
                    refine j_iadd hx (r := 10) dX10_weigh_155 (by omega) ?_
                    refine j_lload_n hx 2 dX10_weigh_156 rfl ?_
                    refine j_aload_n hx 0 dX10_weigh_157 rfl ?_
                    refine g11_0 hx hG ha kf_RX10_17 dX10_weigh_158 ?_
                    refine j_iload hx 7 dX10_weigh_161 rfl ?_
                    refine j_iconst hx dX10_weigh_163 ?_
                    refine j_callV hx hG (c_X8_trait hst (gP G a 0) v41 0) lk_RX10_107 (zr (k := 0) (t2 := 9) hG ha rfl) (by decide) rfl rfl rfl rfl [.int (zI v41), .int (zI 0)] ⟨rfl, hG, hS_s29, (zr (k := 0) (t2 := 9) hG ha rfl), (by omega), (by omega)⟩ rfl rfl ⟨by decide, by decide⟩ ⟨by decide, by decide⟩ (k2 := 0) (n2 := 0) rfl rfl (Nat.le_of_ble_eq_true rfl) dX10_weigh_164 (kIP (fun v68 q69 => ?_))
                    refine j_i2l hx dX10_weigh_167 (by omega) ?_
                    refine j_lmul hx dX10_weigh_168 (fun w70 f71 f72 => ?_)
                    refine j_callV hx hG (c_X10_weigh_10 hst a 10 w70) lk_RX10_92 ha (by decide) rfl rfl rfl rfl [.int (zI 10), .long (zL w70)] ⟨rfl, hG, hS_s29, ha, (by omega), (by omega)⟩ rfl rfl ⟨by decide, by decide⟩ ⟨by decide, by decide⟩ (k2 := 0) (n2 := 0) rfl rfl (Nat.le_of_ble_eq_true rfl) dX10_weigh_169 (kVM (fun s30 hS_s30 hF_s30 q74 => ?_))
                    exact j_sub [0, 1, 2, 3, 4, 5, 6, 7] [(0, .ref a), (1, .int (zI 9)), (2, .long (zL y2)), (4, .ref r1), (5, .ref r5), (6, .int (zI v38)), (7, .int (zI v40)), (8, .int (zI v41))] rfl (c172_22 v40 s30 (by omega) hS_s30 (zFr_t (zFr_t (zFr_t zFr_rf hF_s28 (by decide)) hF_s29 (by decide)) hF_s30 (by decide)))
                  · skip
                    exact j_sub [0, 1, 2, 3, 4, 5, 6, 7] [(0, .ref a), (1, .int (zI 9)), (2, .long (zL y2)), (4, .ref r1), (5, .ref r5), (6, .int (zI v38)), (7, .int (zI v40)), (8, .int (zI v41))] rfl (c113_27  )
          exact j_sub [5, 6, 7, 4, 3, 2, 1, 0] [(0, .ref a), (1, .int (zI 9)), (2, .long (zL y2)), (4, .ref r1), (5, .ref r5), (6, .int (zI v38)), (7, .int (zI 0)), (8, .int (zI 0))] rfl (c85_14 (2147483648 * 4) 0 0 s13 (by omega) (by omega) (by omega) hS_s13 zFr_rf)
        · skip
          exact j_sub [2, 3, 4, 1] [(0, .ref a), (1, .int (zI 9)), (2, .long (zL y2)), (4, .ref r1)] rfl (c43_7 s13 hS_s13 (zFr_t zFr_rf hF_s13 (by decide)))

set_option maxHeartbeats 4000000 in
set_option maxRecDepth 20000 in
theorem c_X10_weigh_8 {E : zE} {l : Launch} (hst : l.stackTraces = false) (a : Nat) (x1 : Int) (y2 : Int) : Con E l yX10_weigh cX10_weigh 9 none { frames := 7, cells := 0, slots := 0, locals := 183 } (fun G s vs => vs = [.ref a, .int (zI x1), .long (zL y2)] ∧ zGK G ∧ zSK G s ∧ (gT G a = 11) ∧ (8 ≤ x1 ∧ x1 ≤ 8) ∧ ((-9223372036854775808) ≤ y2 ∧ y2 ≤ 9223372036854775807)) (fun G s _ => pV (fun G2 s2 => G2 = G ∧ zSK G s2 ∧ zFr [1, 7, 11, 41] G s s2 ∧ True)) := by
  refine Con.mk hst (by decide) (fun G s vs h => by rw [h.1]; exact Nat.le_of_ble_eq_true rfl) ?_
  rintro X G s0 vs ⟨rfl, hG, hS0, ha, hx1, hy2⟩ rfl hx hq
  obtain rfl : x1 = 8 := by omega
  show JJ X E 9 G s0 0 0 [(0, .ref a), (1, .int (zI 8)), (2, .long (zL y2))] 0 []
  refine j_aload_n hx 0 dX10_weigh_0 rfl ?_
  refine j_iload_n hx 1 dX10_weigh_1 rfl ?_
  refine j_callV hx hG (c_X10_boardAt hst a 8) lk_RX10_22 ha (by decide) rfl rfl rfl rfl [.int (zI 8)] ⟨rfl, hG, hS0, ha, (by omega)⟩ rfl rfl ⟨by decide, by decide⟩ ⟨by decide, by decide⟩ (k2 := 0) (n2 := 0) rfl rfl (Nat.le_of_ble_eq_true rfl) dX10_weigh_2 (kNP (fun _ => ?_) (fun r1 q2 => ?_))
  · skip
    refine j_astoreN hx [(4, .null), (0, .ref a), (1, .int (zI 8)), (2, .long (zL y2))] dX10_weigh_5 (by decide) rfl ?_
    refine j_aload_n hx 1 dX10_weigh_7 rfl ?_
    refine j_iload_n hx 2 dX10_weigh_8 rfl ?_
    refine j_iconst hx dX10_weigh_9 ?_
    refine j_iadd hx (r := 9) dX10_weigh_10 (by omega) ?_
    refine j_callV hx hG (c_X10_boardAt hst a 9) lk_RX10_22 ha (by decide) rfl rfl rfl rfl [.int (zI 9)] ⟨rfl, hG, hS0, ha, (by omega)⟩ rfl rfl ⟨by decide, by decide⟩ ⟨by decide, by decide⟩ (k2 := 0) (n2 := 0) rfl rfl (Nat.le_of_ble_eq_true rfl) dX10_weigh_11 (kNP (fun _ => ?_) (fun r3 q4 => ?_))
    · skip
      refine j_astoreN hx [(5, .null), (4, .null), (0, .ref a), (1, .int (zI 8)), (2, .long (zL y2))] dX10_weigh_14 (by decide) rfl ?_
      refine j_aloadN hx 1 dX10_weigh_16 rfl ?_
      refine j_ifnonnullN hx dX10_weigh_18 ?_
      exact j_vret hx hq rfl (by decide) (by decide) dX10_weigh_21 ⟨rfl, rfl, hS0, zFr_rf, trivial⟩
    · skip
      refine j_astore hx [(5, .ref r3), (4, .null), (0, .ref a), (1, .int (zI 8)), (2, .long (zL y2))] dX10_weigh_14 (by decide) rfl ?_
      refine j_aloadN hx 1 dX10_weigh_16 rfl ?_
      refine j_ifnonnullN hx dX10_weigh_18 ?_
      exact j_vret hx hq rfl (by decide) (by decide) dX10_weigh_21 ⟨rfl, rfl, hS0, zFr_rf, trivial⟩
  · skip
    refine j_astore hx [(4, .ref r1), (0, .ref a), (1, .int (zI 8)), (2, .long (zL y2))] dX10_weigh_5 (by decide) rfl ?_
    refine j_aload_n hx 1 dX10_weigh_7 rfl ?_
    refine j_iload_n hx 2 dX10_weigh_8 rfl ?_
    refine j_iconst hx dX10_weigh_9 ?_
    refine j_iadd hx (r := 9) dX10_weigh_10 (by omega) ?_
    refine j_callV hx hG (c_X10_boardAt hst a 9) lk_RX10_22 ha (by decide) rfl rfl rfl rfl [.int (zI 9)] ⟨rfl, hG, hS0, ha, (by omega)⟩ rfl rfl ⟨by decide, by decide⟩ ⟨by decide, by decide⟩ (k2 := 0) (n2 := 0) rfl rfl (Nat.le_of_ble_eq_true rfl) dX10_weigh_11 (kNP (fun _ => ?_) (fun r5 q6 => ?_))
    · skip
      refine j_astoreN hx [(5, .null), (4, .ref r1), (0, .ref a), (1, .int (zI 8)), (2, .long (zL y2))] dX10_weigh_14 (by decide) rfl ?_
      refine j_aload hx 1 dX10_weigh_16 rfl ?_
      refine j_ifnonnull hx 22 dX10_weigh_18 rfl ?_
      refine j_iload_n hx 3 dX10_weigh_22 rfl ?_
      refine j_aload_n hx 2 dX10_weigh_23 rfl ?_
      have f7 := zf hS0 ha (k := 4) rfl
      refine g11_4 hx hG ha kf_RX10_77 rfl dX10_weigh_24 ?_
      have c43_1 : ∀ (s2 : zS), (zSK G s2) → (zFr [1, 7, 41] G s0 s2) → JJ X E 9 G s2 0 0 [(0, .ref a), (1, .int (zI 8)), (2, .long (zL y2)), (4, .ref r1)] 43 [] := by
        intro s2 hS_s2 hF_s2
        refine j_aload_n hx 0 dX10_weigh_43 rfl ?_
        refine j_dup hx dX10_weigh_44 rfl ?_
        have f8 := zf hS0 ha (k := 7) rfl
        refine g11_7 hx hG ha kf_RX10_80 (v := (s0 a 7)) (by rw [(zFr_g hF_s2 ha (by decide))]) dX10_weigh_45 ?_
        refine j_aload_n hx 0 dX10_weigh_48 rfl ?_
        refine j_aload hx 3 dX10_weigh_49 rfl ?_
        refine j_callV hx hG (c_X10_leads hst a r1) lk_RX10_96 ha (by decide) rfl rfl rfl rfl [.ref r1] ⟨rfl, hG, hS_s2, ha, q2.1⟩ rfl rfl ⟨by decide, by decide⟩ ⟨by decide, by decide⟩ (k2 := 0) (n2 := 0) rfl rfl (Nat.le_of_ble_eq_true rfl) dX10_weigh_51 (kIP (fun v9 q10 => ?_))
        refine j_if_eq hx 66 dX10_weigh_54 rfl (by omega) (fun h11 => ?_) (fun h11 => ?_)
        · skip
          refine j_lconst hx dX10_weigh_66 ?_
          show JJ X E 9 G s2 0 0 [(0, .ref a), (1, .int (zI 8)), (2, .long (zL y2)), (4, .ref r1)] 67 [.long (zL 0), .long (zL ((s0 a 7))), .ref a]
          refine j_ladd hx dX10_weigh_67 (fun w12 f13 f14 => ?_)
          refine p11_7 hx hG ha kf_RX10_80 dX10_weigh_68 ?_
          obtain ⟨s5, e_s5⟩ : ∃ z, z = zU s2 a 7 w12 := ⟨_, rfl⟩
          rw [← e_s5]
          have hS_s5 : zSK G s5 := by rw [e_s5]; exact zSK_F hS_s2 ha rfl rfl rfl (by omega)
          exact j_vret hx hq rfl (by decide) (by decide) dX10_weigh_71 ⟨rfl, rfl, hS_s5, (zFr_u (zFr_t zFr_rf hF_s2 (by decide)) e_s5 ha (by decide)), trivial⟩
        · skip
          refine j_aload_n hx 0 dX10_weigh_57 rfl ?_
          refine j_iload_n hx 1 dX10_weigh_58 rfl ?_
          refine j_lload_n hx 2 dX10_weigh_59 rfl ?_
          refine j_callV hx hG (c_X10_allWays hst a 8 y2) lk_RX10_100 ha (by decide) rfl rfl rfl rfl [.int (zI 8), .long (zL y2)] ⟨rfl, hG, hS_s2, ha, (by omega), (by omega)⟩ rfl rfl ⟨by decide, by decide⟩ ⟨by decide, by decide⟩ (k2 := 0) (n2 := 0) rfl rfl (Nat.le_of_ble_eq_true rfl) dX10_weigh_60 (kLP (fun v15 q16 => ?_))
          refine j_goto hx 67 dX10_weigh_63 rfl ?_
          refine j_ladd hx dX10_weigh_67 (fun w17 f18 f19 => ?_)
          refine p11_7 hx hG ha kf_RX10_80 dX10_weigh_68 ?_
          obtain ⟨s6, e_s6⟩ : ∃ z, z = zU s2 a 7 w17 := ⟨_, rfl⟩
          rw [← e_s6]
          have hS_s6 : zSK G s6 := by rw [e_s6]; exact zSK_F hS_s2 ha rfl rfl rfl (by omega)
          exact j_vret hx hq rfl (by decide) (by decide) dX10_weigh_71 ⟨rfl, rfl, hS_s6, (zFr_u (zFr_t zFr_rf hF_s2 (by decide)) e_s6 ha (by decide)), trivial⟩
      refine j_icmp_ge hx 43 dX10_weigh_27 rfl ⟨by decide, by decide⟩ (by omega) (fun h20 => ?_) (fun h20 => ?_)
      · skip
        exact j_sub [2, 3, 4, 1] [(0, .ref a), (1, .int (zI 8)), (2, .long (zL y2)), (4, .ref r1)] rfl (c43_1 s0 hS0 zFr_rf)
      · skip
        refine j_aloadN hx 0 dX10_weigh_30 rfl ?_
        refine j_ifnullN hx 43 dX10_weigh_32 rfl ?_
        exact j_sub [2, 3, 4, 1] [(0, .ref a), (1, .int (zI 8)), (2, .long (zL y2)), (4, .ref r1)] rfl (c43_1 s0 hS0 zFr_rf)
    · skip
      refine j_astore hx [(5, .ref r5), (4, .ref r1), (0, .ref a), (1, .int (zI 8)), (2, .long (zL y2))] dX10_weigh_14 (by decide) rfl ?_
      refine j_aload hx 1 dX10_weigh_16 rfl ?_
      refine j_ifnonnull hx 22 dX10_weigh_18 rfl ?_
      refine j_iload_n hx 3 dX10_weigh_22 rfl ?_
      refine j_aload_n hx 2 dX10_weigh_23 rfl ?_
      have f21 := zf hS0 ha (k := 4) rfl
      refine g11_4 hx hG ha kf_RX10_77 rfl dX10_weigh_24 ?_
      have c43_7 : ∀ (s8 : zS), (zSK G s8) → (zFr [1, 7, 41] G s0 s8) → JJ X E 9 G s8 0 0 [(0, .ref a), (1, .int (zI 8)), (2, .long (zL y2)), (4, .ref r1)] 43 [] := by
        intro s8 hS_s8 hF_s8
        refine j_aload_n hx 0 dX10_weigh_43 rfl ?_
        refine j_dup hx dX10_weigh_44 rfl ?_
        have f22 := zf hS0 ha (k := 7) rfl
        refine g11_7 hx hG ha kf_RX10_80 (v := (s0 a 7)) (by rw [(zFr_g hF_s8 ha (by decide))]) dX10_weigh_45 ?_
        refine j_aload_n hx 0 dX10_weigh_48 rfl ?_
        refine j_aload hx 3 dX10_weigh_49 rfl ?_
        refine j_callV hx hG (c_X10_leads hst a r1) lk_RX10_96 ha (by decide) rfl rfl rfl rfl [.ref r1] ⟨rfl, hG, hS_s8, ha, q2.1⟩ rfl rfl ⟨by decide, by decide⟩ ⟨by decide, by decide⟩ (k2 := 0) (n2 := 0) rfl rfl (Nat.le_of_ble_eq_true rfl) dX10_weigh_51 (kIP (fun v23 q24 => ?_))
        refine j_if_eq hx 66 dX10_weigh_54 rfl (by omega) (fun h25 => ?_) (fun h25 => ?_)
        · skip
          refine j_lconst hx dX10_weigh_66 ?_
          show JJ X E 9 G s8 0 0 [(0, .ref a), (1, .int (zI 8)), (2, .long (zL y2)), (4, .ref r1)] 67 [.long (zL 0), .long (zL ((s0 a 7))), .ref a]
          refine j_ladd hx dX10_weigh_67 (fun w26 f27 f28 => ?_)
          refine p11_7 hx hG ha kf_RX10_80 dX10_weigh_68 ?_
          obtain ⟨s11, e_s11⟩ : ∃ z, z = zU s8 a 7 w26 := ⟨_, rfl⟩
          rw [← e_s11]
          have hS_s11 : zSK G s11 := by rw [e_s11]; exact zSK_F hS_s8 ha rfl rfl rfl (by omega)
          exact j_vret hx hq rfl (by decide) (by decide) dX10_weigh_71 ⟨rfl, rfl, hS_s11, (zFr_u (zFr_t zFr_rf hF_s8 (by decide)) e_s11 ha (by decide)), trivial⟩
        · skip
          refine j_aload_n hx 0 dX10_weigh_57 rfl ?_
          refine j_iload_n hx 1 dX10_weigh_58 rfl ?_
          refine j_lload_n hx 2 dX10_weigh_59 rfl ?_
          refine j_callV hx hG (c_X10_allWays hst a 8 y2) lk_RX10_100 ha (by decide) rfl rfl rfl rfl [.int (zI 8), .long (zL y2)] ⟨rfl, hG, hS_s8, ha, (by omega), (by omega)⟩ rfl rfl ⟨by decide, by decide⟩ ⟨by decide, by decide⟩ (k2 := 0) (n2 := 0) rfl rfl (Nat.le_of_ble_eq_true rfl) dX10_weigh_60 (kLP (fun v29 q30 => ?_))
          refine j_goto hx 67 dX10_weigh_63 rfl ?_
          refine j_ladd hx dX10_weigh_67 (fun w31 f32 f33 => ?_)
          refine p11_7 hx hG ha kf_RX10_80 dX10_weigh_68 ?_
          obtain ⟨s12, e_s12⟩ : ∃ z, z = zU s8 a 7 w31 := ⟨_, rfl⟩
          rw [← e_s12]
          have hS_s12 : zSK G s12 := by rw [e_s12]; exact zSK_F hS_s8 ha rfl rfl rfl (by omega)
          exact j_vret hx hq rfl (by decide) (by decide) dX10_weigh_71 ⟨rfl, rfl, hS_s12, (zFr_u (zFr_t zFr_rf hF_s8 (by decide)) e_s12 ha (by decide)), trivial⟩
      refine j_icmp_ge hx 43 dX10_weigh_27 rfl ⟨by decide, by decide⟩ (by omega) (fun h34 => ?_) (fun h34 => ?_)
      · skip
        exact j_sub [2, 3, 4, 1] [(0, .ref a), (1, .int (zI 8)), (2, .long (zL y2)), (4, .ref r1)] rfl (c43_7 s0 hS0 zFr_rf)
      · skip
        refine j_aload hx 0 dX10_weigh_30 rfl ?_
        refine j_ifnull hx dX10_weigh_32 ?_
        refine j_aload hx 1 dX10_weigh_35 rfl ?_
        refine j_callV hx hG (c_X0_step hst r1) lk_RX10_33 q2.1 (by decide) rfl rfl rfl rfl [] ⟨rfl, hG, hS0, q2.1⟩ rfl rfl ⟨by decide, by decide⟩ ⟨by decide, by decide⟩ (k2 := 0) (n2 := 0) rfl rfl (Nat.le_of_ble_eq_true rfl) dX10_weigh_37 (kIM (fun v35 s13 hS_s13 hF_s13 q36 => ?_))
        refine j_if_ne hx 72 dX10_weigh_40 rfl (by omega) (fun h37 => ?_) (fun h37 => ?_)
        · skip
          refine j_aload hx 1 dX10_weigh_72 rfl ?_
          refine j_callV hx hG (c_X0_likeTops hst r1) lk_RX10_37 q2.1 (by decide) rfl rfl rfl rfl [] ⟨rfl, hG, hS_s13, q2.1⟩ rfl rfl ⟨by decide, by decide⟩ ⟨by decide, by decide⟩ (k2 := 0) (n2 := 0) rfl rfl (Nat.le_of_ble_eq_true rfl) dX10_weigh_74 (kIP (fun v38 q39 => ?_))
          refine j_istore hx [(6, .int (zI v38)), (5, .ref r5), (4, .ref r1), (0, .ref a), (1, .int (zI 8)), (2, .long (zL y2))] dX10_weigh_77 (by decide) rfl ?_
          refine j_iconst hx dX10_weigh_79 ?_
          refine j_istore hx [(7, .int (zI 0)), (6, .int (zI v38)), (5, .ref r5), (4, .ref r1), (0, .ref a), (1, .int (zI 8)), (2, .long (zL y2))] dX10_weigh_80 (by decide) rfl ?_
          refine j_iconst hx dX10_weigh_82 ?_
          refine j_istore hx [(8, .int (zI 0)), (7, .int (zI 0)), (6, .int (zI v38)), (5, .ref r5), (4, .ref r1), (0, .ref a), (1, .int (zI 8)), (2, .long (zL y2))] dX10_weigh_83 (by decide) rfl ?_
          have c85_14 : ∀ (m_c85_14 : Nat) (v40 : Int) (v41 : Int) (s15 : zS), 2147483648 - v41 < m_c85_14 → ((-2147483648) ≤ v40 ∧ v40 ≤ 2147483647) → (0 ≤ v41 ∧ v41 ≤ 3) → (zSK G s15) → (zFr [1, 7, 11, 41] G s13 s15) → JJ X E 9 G s15 0 0 [(0, .ref a), (1, .int (zI 8)), (2, .long (zL y2)), (4, .ref r1), (5, .ref r5), (6, .int (zI v38)), (7, .int (zI v40)), (8, .int (zI v41))] 85 [] := by
            intro m_c85_14
            induction m_c85_14 with
            | zero => intro v40 v41 s15 hm_c85_14 fA16 fA17 hS_s15 hF_s15; exfalso; omega
            | succ m_c85_14 ih_c85_14 => 
              intro v40 v41 s15 hm_c85_14 fA16 fA17 hS_s15 hF_s15
              refine j_iload hx 7 dX10_weigh_85 rfl ?_
              refine j_aload_n hx 0 dX10_weigh_87 rfl ?_
              refine g11_0 hx hG ha kf_RX10_17 dX10_weigh_88 ?_
              have f42 := zf hS0 (zr (k := 0) (t2 := 9) hG ha rfl) (k := 4) rfl
              refine gN9_4 hx hG (zr (k := 0) (t2 := 9) hG ha rfl) kf_RX10_104 (v := (s0 (gP G a 0) 4)) (by rw [(zFr_g hF_s15 (zr (k := 0) (t2 := 9) hG ha rfl) (by decide)), (zFr_g hF_s13 (zr (k := 0) (t2 := 9) hG ha rfl) (by decide))]) dX10_weigh_91 ?_
              refine j_icmp_ge hx 178 dX10_weigh_94 rfl (by omega) (by omega) (fun h43 => ?_) (fun h43 => ?_)
              · skip
                refine j_iload hx 6 dX10_weigh_178 rfl ?_
                refine j_if_le hx 202 dX10_weigh_180 rfl (by omega) (fun h44 => ?_) (fun h44 => ?_)
                · skip
                  exact j_vret hx hq rfl (by decide) (by decide) dX10_weigh_202 ⟨rfl, rfl, hS_s15, (zFr_t (zFr_t zFr_rf hF_s13 (by decide)) hF_s15 (by decide)), trivial⟩
                · skip
                  refine j_aload hx 4 dX10_weigh_183 rfl ?_
                  refine j_aload hx 3 dX10_weigh_185 rfl ?_
                  refine j_callV hx hG (c_X0_become hst r5 r1) lk_RX10_26 q6.1 (by decide) rfl rfl rfl rfl [.ref r1] ⟨rfl, hG, hS_s15, q6.1, q2.1⟩ rfl rfl ⟨by decide, by decide⟩ ⟨by decide, by decide⟩ (k2 := 0) (n2 := 0) rfl rfl (Nat.le_of_ble_eq_true rfl) dX10_weigh_187 (kVM (fun s20 hS_s20 hF_s20 q46 => ?_))
                  refine j_aload_n hx 0 dX10_weigh_190 rfl ?_
                  refine j_iload_n hx 1 dX10_weigh_191 rfl ?_
                  refine j_iconst hx dX10_weigh_192 ?_
                  refine j_iadd hx (r := 9) dX10_weigh_193 (by omega) ?_
                  refine j_lload_n hx 2 dX10_weigh_194 rfl ?_
                  refine j_iload hx 6 dX10_weigh_195 rfl ?_
                  refine j_i2l hx dX10_weigh_197 (by omega) ?_
                  refine j_lmul hx dX10_weigh_198 (fun w47 f48 f49 => ?_)
                  refine j_callV hx hG (c_X10_weigh_9 hst a 9 w47) lk_RX10_92 ha (by decide) rfl rfl rfl rfl [.int (zI 9), .long (zL w47)] ⟨rfl, hG, hS_s20, ha, (by omega), (by omega)⟩ rfl rfl ⟨by decide, by decide⟩ ⟨by decide, by decide⟩ (k2 := 0) (n2 := 0) rfl rfl (Nat.le_of_ble_eq_true rfl) dX10_weigh_199 (kVM (fun s21 hS_s21 hF_s21 q51 => ?_))
                  exact j_vret hx hq rfl (by decide) (by decide) dX10_weigh_202 ⟨rfl, rfl, hS_s21, (zFr_t (zFr_t (zFr_t (zFr_t zFr_rf hF_s13 (by decide)) hF_s15 (by decide)) hF_s20 (by decide)) hF_s21 (by decide)), trivial⟩
              · skip
                refine j_iload hx 5 dX10_weigh_97 rfl ?_
                refine j_iconst hx dX10_weigh_99 ?_
                have c172_22 : ∀ (v52 : Int) (s23 : zS), ((-2147483648) ≤ v52 ∧ v52 ≤ 2147483647) → (zSK G s23) → (zFr [1, 7, 11, 41] G s15 s23) → JJ X E 9 G s23 0 0 [(0, .ref a), (1, .int (zI 8)), (2, .long (zL y2)), (4, .ref r1), (5, .ref r5), (6, .int (zI v38)), (7, .int (zI v52)), (8, .int (zI v41))] 172 [] := by
                  intro v52 s23 fA24 hS_s23 hF_s23
                  refine j_iinc hx 7 [(8, .int (zI (v41 + 1))), (0, .ref a), (1, .int (zI 8)), (2, .long (zL y2)), (4, .ref r1), (5, .ref r5), (6, .int (zI v38)), (7, .int (zI v52))] dX10_weigh_172 rfl (by omega) (by decide) rfl ?_
                  refine j_goto hx 85 dX10_weigh_175 rfl ?_
                  exact j_sub [1, 2, 3, 4, 5, 6, 7, 0] [(0, .ref a), (1, .int (zI 8)), (2, .long (zL y2)), (4, .ref r1), (5, .ref r5), (6, .int (zI v38)), (7, .int (zI v52)), (8, .int (zI (v41 + 1)))] rfl (ih_c85_14 v52 (v41 + 1) s23 (by omega) (by omega) (by omega) hS_s23 (zFr_t (zFr_t zFr_rf hF_s15 (by decide)) hF_s23 (by decide)))
                have c113_27 : JJ X E 9 G s15 0 0 [(0, .ref a), (1, .int (zI 8)), (2, .long (zL y2)), (4, .ref r1), (5, .ref r5), (6, .int (zI v38)), (7, .int (zI v40)), (8, .int (zI v41))] 113 [] := by
                  refine j_iload hx 6 dX10_weigh_113 rfl ?_
                  refine j_aload_n hx 0 dX10_weigh_115 rfl ?_
                  refine g11_0 hx hG ha kf_RX10_17 dX10_weigh_116 ?_
                  refine j_iload hx 7 dX10_weigh_119 rfl ?_
                  refine j_iconst hx dX10_weigh_121 ?_
                  refine j_callV hx hG (c_X8_trait hst (gP G a 0) v41 0) lk_RX10_107 (zr (k := 0) (t2 := 9) hG ha rfl) (by decide) rfl rfl rfl rfl [.int (zI v41), .int (zI 0)] ⟨rfl, hG, hS_s15, (zr (k := 0) (t2 := 9) hG ha rfl), (by omega), (by omega)⟩ rfl rfl ⟨by decide, by decide⟩ ⟨by decide, by decide⟩ (k2 := 0) (n2 := 0) rfl rfl (Nat.le_of_ble_eq_true rfl) dX10_weigh_122 (kIP (fun v53 q54 => ?_))
                  refine j_iadd hx (r := v40 + v53) dX10_weigh_125 rfl ?_
                  refine j_norm (fun v55 f56 f57 f58 => ?_)
                  refine j_istore hx [(7, .int (zI v55)), (0, .ref a), (1, .int (zI 8)), (2, .long (zL y2)), (4, .ref r1), (5, .ref r5), (6, .int (zI v38)), (8, .int (zI v41))] dX10_weigh_126 (by decide) rfl ?_
                  refine j_goto hx 172 dX10_weigh_128 rfl ?_
                  exact j_sub [1, 2, 3, 4, 5, 6, 0, 7] [(0, .ref a), (1, .int (zI 8)), (2, .long (zL y2)), (4, .ref r1), (5, .ref r5), (6, .int (zI v38)), (7, .int (zI v55)), (8, .int (zI v41))] rfl (c172_22 v55 s15 (by omega) hS_s15 zFr_rf)
                refine j_icmp_eq hx 113 dX10_weigh_100 rfl (by omega) ⟨by decide, by decide⟩ (fun h59 => ?_) (fun h59 => ?_)
                · skip
                  exact j_sub [0, 1, 2, 3, 4, 5, 6, 7] [(0, .ref a), (1, .int (zI 8)), (2, .long (zL y2)), (4, .ref r1), (5, .ref r5), (6, .int (zI v38)), (7, .int (zI v40)), (8, .int (zI v41))] rfl (c113_27  )
                · skip
                  refine j_aload hx 3 dX10_weigh_103 rfl ?_
                  refine j_iload hx 7 dX10_weigh_105 rfl ?_
                  refine j_callV hx hG (c_X0_isOut hst r1 v41) lk_RX10_73 q2.1 (by decide) rfl rfl rfl rfl [.int (zI v41)] ⟨rfl, hG, hS_s15, q2.1, (by omega)⟩ rfl rfl ⟨by decide, by decide⟩ ⟨by decide, by decide⟩ (k2 := 0) (n2 := 0) rfl rfl (Nat.le_of_ble_eq_true rfl) dX10_weigh_107 (kIP (fun v60 q61 => ?_))
                  refine j_if_eq hx 131 dX10_weigh_110 rfl (by omega) (fun h62 => ?_) (fun h62 => ?_)
                  · skip
                    refine j_aload hx 4 dX10_weigh_131 rfl ?_
                    refine j_aload hx 3 dX10_weigh_133 rfl ?_
                    refine j_callV hx hG (c_X0_become hst r5 r1) lk_RX10_26 q6.1 (by decide) rfl rfl rfl rfl [.ref r1] ⟨rfl, hG, hS_s15, q6.1, q2.1⟩ rfl rfl ⟨by decide, by decide⟩ ⟨by decide, by decide⟩ (k2 := 0) (n2 := 0) rfl rfl (Nat.le_of_ble_eq_true rfl) dX10_weigh_135 (kVM (fun s28 hS_s28 hF_s28 q64 => ?_))
                    refine j_aload hx 4 dX10_weigh_138 rfl ?_
                    refine j_iload hx 7 dX10_weigh_140 rfl ?_
                    refine j_iload hx 5 dX10_weigh_142 rfl ?_
                    refine j_aload_n hx 0 dX10_weigh_144 rfl ?_
                    have f65 := zf hS_s15 ha (k := 3) rfl
                    refine g11_3 hx hG ha kf_RX10_45 (v := (s15 a 3)) (by rw [(zFr_g hF_s28 ha (by decide))]) dX10_weigh_145 ?_
                    refine j_callV hx hG (c_X0_win hst r5 v41 v38 ((s15 a 3))) lk_RX10_69 q6.1 (by decide) rfl rfl rfl rfl [.int (zI v41), .int (zI v38), .int (zI ((s15 a 3)))] ⟨rfl, hG, hS_s28, q6.1, (by omega), (by omega), (by omega)⟩ rfl rfl ⟨by decide, by decide⟩ ⟨by decide, by decide⟩ (k2 := 0) (n2 := 0) rfl rfl (Nat.le_of_ble_eq_true rfl) dX10_weigh_148 (kIM (fun v66 s29 hS_s29 hF_s29 q67 => ?_))
                    refine j_pop hx dX10_weigh_151 rfl ?_
                    refine j_aload_n hx 0 dX10_weigh_152 rfl ?_
                    refine j_iload_n hx 1 dX10_weigh_153 rfl ?_
                    refine j_iconst hx dX10_weigh_154 ?_
                    refine j_iadd hx (r := 9) dX10_weigh_155 (by omega) ?_
                    refine j_lload_n hx 2 dX10_weigh_156 rfl ?_
                    refine j_aload_n hx 0 dX10_weigh_157 rfl ?_
                    refine g11_0 hx hG ha kf_RX10_17 dX10_weigh_158 ?_
                    refine j_iload hx 7 dX10_weigh_161 rfl ?_
                    refine j_iconst hx dX10_weigh_163 ?_
                    refine j_callV hx hG (c_X8_trait hst (gP G a 0) v41 0) lk_RX10_107 (zr (k := 0) (t2 := 9) hG ha rfl) (by decide) rfl rfl rfl rfl [.int (zI v41), .int (zI 0)] ⟨rfl, hG, hS_s29, (zr (k := 0) (t2 := 9) hG ha rfl), (by omega), (by omega)⟩ rfl rfl ⟨by decide, by decide⟩ ⟨by decide, by decide⟩ (k2 := 0) (n2 := 0) rfl rfl (Nat.le_of_ble_eq_true rfl) dX10_weigh_164 (kIP (fun v68 q69 => ?_))
                    refine j_i2l hx dX10_weigh_167 (by omega) ?_
                    refine j_lmul hx dX10_weigh_168 (fun w70 f71 f72 => ?_)
                    refine j_callV hx hG (c_X10_weigh_9 hst a 9 w70) lk_RX10_92 ha (by decide) rfl rfl rfl rfl [.int (zI 9), .long (zL w70)] ⟨rfl, hG, hS_s29, ha, (by omega), (by omega)⟩ rfl rfl ⟨by decide, by decide⟩ ⟨by decide, by decide⟩ (k2 := 0) (n2 := 0) rfl rfl (Nat.le_of_ble_eq_true rfl) dX10_weigh_169 (kVM (fun s30 hS_s30 hF_s30 q74 => ?_))
                    exact j_sub [0, 1, 2, 3, 4, 5, 6, 7] [(0, .ref a), (1, .int (zI 8)), (2, .long (zL y2)), (4, .ref r1), (5, .ref r5), (6, .int (zI v38)), (7, .int (zI v40)), (8, .int (zI v41))] rfl (c172_22 v40 s30 (by omega) hS_s30 (zFr_t (zFr_t (zFr_t zFr_rf hF_s28 (by decide)) hF_s29 (by decide)) hF_s30 (by decide)))
                  · skip
                    exact j_sub [0, 1, 2, 3, 4, 5, 6, 7] [(0, .ref a), (1, .int (zI 8)), (2, .long (zL y2)), (4, .ref r1), (5, .ref r5), (6, .int (zI v38)), (7, .int (zI v40)), (8, .int (zI v41))] rfl (c113_27  )
          exact j_sub [5, 6, 7, 4, 3, 2, 1, 0] [(0, .ref a), (1, .int (zI 8)), (2, .long (zL y2)), (4, .ref r1), (5, .ref r5), (6, .int (zI v38)), (7, .int (zI 0)), (8, .int (zI 0))] rfl (c85_14 (2147483648 * 4) 0 0 s13 (by omega) (by omega) (by omega) hS_s13 zFr_rf)
        · skip
          exact j_sub [2, 3, 4, 1] [(0, .ref a), (1, .int (zI 8)), (2, .long (zL y2)), (4, .ref r1)] rfl (c43_7 s13 hS_s13 (zFr_t zFr_rf hF_s13 (by decide)))

set_option maxHeartbeats 4000000 in
set_option maxRecDepth 20000 in
theorem c_X10_weigh_7 {E : zE} {l : Launch} (hst : l.stackTraces = false) (a : Nat) (x1 : Int) (y2 : Int) : Con E l yX10_weigh cX10_weigh 9 none { frames := 8, cells := 0, slots := 0, locals := 211 } (fun G s vs => vs = [.ref a, .int (zI x1), .long (zL y2)] ∧ zGK G ∧ zSK G s ∧ (gT G a = 11) ∧ (7 ≤ x1 ∧ x1 ≤ 7) ∧ ((-9223372036854775808) ≤ y2 ∧ y2 ≤ 9223372036854775807)) (fun G s _ => pV (fun G2 s2 => G2 = G ∧ zSK G s2 ∧ zFr [1, 7, 11, 41] G s s2 ∧ True)) := by
  refine Con.mk hst (by decide) (fun G s vs h => by rw [h.1]; exact Nat.le_of_ble_eq_true rfl) ?_
  rintro X G s0 vs ⟨rfl, hG, hS0, ha, hx1, hy2⟩ rfl hx hq
  obtain rfl : x1 = 7 := by omega
  show JJ X E 9 G s0 0 0 [(0, .ref a), (1, .int (zI 7)), (2, .long (zL y2))] 0 []
  refine j_aload_n hx 0 dX10_weigh_0 rfl ?_
  refine j_iload_n hx 1 dX10_weigh_1 rfl ?_
  refine j_callV hx hG (c_X10_boardAt hst a 7) lk_RX10_22 ha (by decide) rfl rfl rfl rfl [.int (zI 7)] ⟨rfl, hG, hS0, ha, (by omega)⟩ rfl rfl ⟨by decide, by decide⟩ ⟨by decide, by decide⟩ (k2 := 0) (n2 := 0) rfl rfl (Nat.le_of_ble_eq_true rfl) dX10_weigh_2 (kNP (fun _ => ?_) (fun r1 q2 => ?_))
  · skip
    refine j_astoreN hx [(4, .null), (0, .ref a), (1, .int (zI 7)), (2, .long (zL y2))] dX10_weigh_5 (by decide) rfl ?_
    refine j_aload_n hx 1 dX10_weigh_7 rfl ?_
    refine j_iload_n hx 2 dX10_weigh_8 rfl ?_
    refine j_iconst hx dX10_weigh_9 ?_
    refine j_iadd hx (r := 8) dX10_weigh_10 (by omega) ?_
    refine j_callV hx hG (c_X10_boardAt hst a 8) lk_RX10_22 ha (by decide) rfl rfl rfl rfl [.int (zI 8)] ⟨rfl, hG, hS0, ha, (by omega)⟩ rfl rfl ⟨by decide, by decide⟩ ⟨by decide, by decide⟩ (k2 := 0) (n2 := 0) rfl rfl (Nat.le_of_ble_eq_true rfl) dX10_weigh_11 (kNP (fun _ => ?_) (fun r3 q4 => ?_))
    · skip
      refine j_astoreN hx [(5, .null), (4, .null), (0, .ref a), (1, .int (zI 7)), (2, .long (zL y2))] dX10_weigh_14 (by decide) rfl ?_
      refine j_aloadN hx 1 dX10_weigh_16 rfl ?_
      refine j_ifnonnullN hx dX10_weigh_18 ?_
      exact j_vret hx hq rfl (by decide) (by decide) dX10_weigh_21 ⟨rfl, rfl, hS0, zFr_rf, trivial⟩
    · skip
      refine j_astore hx [(5, .ref r3), (4, .null), (0, .ref a), (1, .int (zI 7)), (2, .long (zL y2))] dX10_weigh_14 (by decide) rfl ?_
      refine j_aloadN hx 1 dX10_weigh_16 rfl ?_
      refine j_ifnonnullN hx dX10_weigh_18 ?_
      exact j_vret hx hq rfl (by decide) (by decide) dX10_weigh_21 ⟨rfl, rfl, hS0, zFr_rf, trivial⟩
  · skip
    refine j_astore hx [(4, .ref r1), (0, .ref a), (1, .int (zI 7)), (2, .long (zL y2))] dX10_weigh_5 (by decide) rfl ?_
    refine j_aload_n hx 1 dX10_weigh_7 rfl ?_
    refine j_iload_n hx 2 dX10_weigh_8 rfl ?_
    refine j_iconst hx dX10_weigh_9 ?_
    refine j_iadd hx (r := 8) dX10_weigh_10 (by omega) ?_
    refine j_callV hx hG (c_X10_boardAt hst a 8) lk_RX10_22 ha (by decide) rfl rfl rfl rfl [.int (zI 8)] ⟨rfl, hG, hS0, ha, (by omega)⟩ rfl rfl ⟨by decide, by decide⟩ ⟨by decide, by decide⟩ (k2 := 0) (n2 := 0) rfl rfl (Nat.le_of_ble_eq_true rfl) dX10_weigh_11 (kNP (fun _ => ?_) (fun r5 q6 => ?_))
    · skip
      refine j_astoreN hx [(5, .null), (4, .ref r1), (0, .ref a), (1, .int (zI 7)), (2, .long (zL y2))] dX10_weigh_14 (by decide) rfl ?_
      refine j_aload hx 1 dX10_weigh_16 rfl ?_
      refine j_ifnonnull hx 22 dX10_weigh_18 rfl ?_
      refine j_iload_n hx 3 dX10_weigh_22 rfl ?_
      refine j_aload_n hx 2 dX10_weigh_23 rfl ?_
      have f7 := zf hS0 ha (k := 4) rfl
      refine g11_4 hx hG ha kf_RX10_77 rfl dX10_weigh_24 ?_
      have c43_1 : ∀ (s2 : zS), (zSK G s2) → (zFr [1, 7, 41] G s0 s2) → JJ X E 9 G s2 0 0 [(0, .ref a), (1, .int (zI 7)), (2, .long (zL y2)), (4, .ref r1)] 43 [] := by
        intro s2 hS_s2 hF_s2
        refine j_aload_n hx 0 dX10_weigh_43 rfl ?_
        refine j_dup hx dX10_weigh_44 rfl ?_
        have f8 := zf hS0 ha (k := 7) rfl
        refine g11_7 hx hG ha kf_RX10_80 (v := (s0 a 7)) (by rw [(zFr_g hF_s2 ha (by decide))]) dX10_weigh_45 ?_
        refine j_aload_n hx 0 dX10_weigh_48 rfl ?_
        refine j_aload hx 3 dX10_weigh_49 rfl ?_
        refine j_callV hx hG (c_X10_leads hst a r1) lk_RX10_96 ha (by decide) rfl rfl rfl rfl [.ref r1] ⟨rfl, hG, hS_s2, ha, q2.1⟩ rfl rfl ⟨by decide, by decide⟩ ⟨by decide, by decide⟩ (k2 := 0) (n2 := 0) rfl rfl (Nat.le_of_ble_eq_true rfl) dX10_weigh_51 (kIP (fun v9 q10 => ?_))
        refine j_if_eq hx 66 dX10_weigh_54 rfl (by omega) (fun h11 => ?_) (fun h11 => ?_)
        · skip
          refine j_lconst hx dX10_weigh_66 ?_
          show JJ X E 9 G s2 0 0 [(0, .ref a), (1, .int (zI 7)), (2, .long (zL y2)), (4, .ref r1)] 67 [.long (zL 0), .long (zL ((s0 a 7))), .ref a]
          refine j_ladd hx dX10_weigh_67 (fun w12 f13 f14 => ?_)
          refine p11_7 hx hG ha kf_RX10_80 dX10_weigh_68 ?_
          obtain ⟨s5, e_s5⟩ : ∃ z, z = zU s2 a 7 w12 := ⟨_, rfl⟩
          rw [← e_s5]
          have hS_s5 : zSK G s5 := by rw [e_s5]; exact zSK_F hS_s2 ha rfl rfl rfl (by omega)
          exact j_vret hx hq rfl (by decide) (by decide) dX10_weigh_71 ⟨rfl, rfl, hS_s5, (zFr_u (zFr_t zFr_rf hF_s2 (by decide)) e_s5 ha (by decide)), trivial⟩
        · skip
          refine j_aload_n hx 0 dX10_weigh_57 rfl ?_
          refine j_iload_n hx 1 dX10_weigh_58 rfl ?_
          refine j_lload_n hx 2 dX10_weigh_59 rfl ?_
          refine j_callV hx hG (c_X10_allWays hst a 7 y2) lk_RX10_100 ha (by decide) rfl rfl rfl rfl [.int (zI 7), .long (zL y2)] ⟨rfl, hG, hS_s2, ha, (by omega), (by omega)⟩ rfl rfl ⟨by decide, by decide⟩ ⟨by decide, by decide⟩ (k2 := 0) (n2 := 0) rfl rfl (Nat.le_of_ble_eq_true rfl) dX10_weigh_60 (kLP (fun v15 q16 => ?_))
          refine j_goto hx 67 dX10_weigh_63 rfl ?_
          refine j_ladd hx dX10_weigh_67 (fun w17 f18 f19 => ?_)
          refine p11_7 hx hG ha kf_RX10_80 dX10_weigh_68 ?_
          obtain ⟨s6, e_s6⟩ : ∃ z, z = zU s2 a 7 w17 := ⟨_, rfl⟩
          rw [← e_s6]
          have hS_s6 : zSK G s6 := by rw [e_s6]; exact zSK_F hS_s2 ha rfl rfl rfl (by omega)
          exact j_vret hx hq rfl (by decide) (by decide) dX10_weigh_71 ⟨rfl, rfl, hS_s6, (zFr_u (zFr_t zFr_rf hF_s2 (by decide)) e_s6 ha (by decide)), trivial⟩
      refine j_icmp_ge hx 43 dX10_weigh_27 rfl ⟨by decide, by decide⟩ (by omega) (fun h20 => ?_) (fun h20 => ?_)
      · skip
        exact j_sub [2, 3, 4, 1] [(0, .ref a), (1, .int (zI 7)), (2, .long (zL y2)), (4, .ref r1)] rfl (c43_1 s0 hS0 zFr_rf)
      · skip
        refine j_aloadN hx 0 dX10_weigh_30 rfl ?_
        refine j_ifnullN hx 43 dX10_weigh_32 rfl ?_
        exact j_sub [2, 3, 4, 1] [(0, .ref a), (1, .int (zI 7)), (2, .long (zL y2)), (4, .ref r1)] rfl (c43_1 s0 hS0 zFr_rf)
    · skip
      refine j_astore hx [(5, .ref r5), (4, .ref r1), (0, .ref a), (1, .int (zI 7)), (2, .long (zL y2))] dX10_weigh_14 (by decide) rfl ?_
      refine j_aload hx 1 dX10_weigh_16 rfl ?_
      refine j_ifnonnull hx 22 dX10_weigh_18 rfl ?_
      refine j_iload_n hx 3 dX10_weigh_22 rfl ?_
      refine j_aload_n hx 2 dX10_weigh_23 rfl ?_
      have f21 := zf hS0 ha (k := 4) rfl
      refine g11_4 hx hG ha kf_RX10_77 rfl dX10_weigh_24 ?_
      have c43_7 : ∀ (s8 : zS), (zSK G s8) → (zFr [1, 7, 41] G s0 s8) → JJ X E 9 G s8 0 0 [(0, .ref a), (1, .int (zI 7)), (2, .long (zL y2)), (4, .ref r1)] 43 [] := by
        intro s8 hS_s8 hF_s8
        refine j_aload_n hx 0 dX10_weigh_43 rfl ?_
        refine j_dup hx dX10_weigh_44 rfl ?_
        have f22 := zf hS0 ha (k := 7) rfl
        refine g11_7 hx hG ha kf_RX10_80 (v := (s0 a 7)) (by rw [(zFr_g hF_s8 ha (by decide))]) dX10_weigh_45 ?_
        refine j_aload_n hx 0 dX10_weigh_48 rfl ?_
        refine j_aload hx 3 dX10_weigh_49 rfl ?_
        refine j_callV hx hG (c_X10_leads hst a r1) lk_RX10_96 ha (by decide) rfl rfl rfl rfl [.ref r1] ⟨rfl, hG, hS_s8, ha, q2.1⟩ rfl rfl ⟨by decide, by decide⟩ ⟨by decide, by decide⟩ (k2 := 0) (n2 := 0) rfl rfl (Nat.le_of_ble_eq_true rfl) dX10_weigh_51 (kIP (fun v23 q24 => ?_))
        refine j_if_eq hx 66 dX10_weigh_54 rfl (by omega) (fun h25 => ?_) (fun h25 => ?_)
        · skip
          refine j_lconst hx dX10_weigh_66 ?_
          show JJ X E 9 G s8 0 0 [(0, .ref a), (1, .int (zI 7)), (2, .long (zL y2)), (4, .ref r1)] 67 [.long (zL 0), .long (zL ((s0 a 7))), .ref a]
          refine j_ladd hx dX10_weigh_67 (fun w26 f27 f28 => ?_)
          refine p11_7 hx hG ha kf_RX10_80 dX10_weigh_68 ?_
          obtain ⟨s11, e_s11⟩ : ∃ z, z = zU s8 a 7 w26 := ⟨_, rfl⟩
          rw [← e_s11]
          have hS_s11 : zSK G s11 := by rw [e_s11]; exact zSK_F hS_s8 ha rfl rfl rfl (by omega)
          exact j_vret hx hq rfl (by decide) (by decide) dX10_weigh_71 ⟨rfl, rfl, hS_s11, (zFr_u (zFr_t zFr_rf hF_s8 (by decide)) e_s11 ha (by decide)), trivial⟩
        · skip
          refine j_aload_n hx 0 dX10_weigh_57 rfl ?_
          refine j_iload_n hx 1 dX10_weigh_58 rfl ?_
          refine j_lload_n hx 2 dX10_weigh_59 rfl ?_
          refine j_callV hx hG (c_X10_allWays hst a 7 y2) lk_RX10_100 ha (by decide) rfl rfl rfl rfl [.int (zI 7), .long (zL y2)] ⟨rfl, hG, hS_s8, ha, (by omega), (by omega)⟩ rfl rfl ⟨by decide, by decide⟩ ⟨by decide, by decide⟩ (k2 := 0) (n2 := 0) rfl rfl (Nat.le_of_ble_eq_true rfl) dX10_weigh_60 (kLP (fun v29 q30 => ?_))
          refine j_goto hx 67 dX10_weigh_63 rfl ?_
          refine j_ladd hx dX10_weigh_67 (fun w31 f32 f33 => ?_)
          refine p11_7 hx hG ha kf_RX10_80 dX10_weigh_68 ?_
          obtain ⟨s12, e_s12⟩ : ∃ z, z = zU s8 a 7 w31 := ⟨_, rfl⟩
          rw [← e_s12]
          have hS_s12 : zSK G s12 := by rw [e_s12]; exact zSK_F hS_s8 ha rfl rfl rfl (by omega)
          exact j_vret hx hq rfl (by decide) (by decide) dX10_weigh_71 ⟨rfl, rfl, hS_s12, (zFr_u (zFr_t zFr_rf hF_s8 (by decide)) e_s12 ha (by decide)), trivial⟩
      refine j_icmp_ge hx 43 dX10_weigh_27 rfl ⟨by decide, by decide⟩ (by omega) (fun h34 => ?_) (fun h34 => ?_)
      · skip
        exact j_sub [2, 3, 4, 1] [(0, .ref a), (1, .int (zI 7)), (2, .long (zL y2)), (4, .ref r1)] rfl (c43_7 s0 hS0 zFr_rf)
      · skip
        refine j_aload hx 0 dX10_weigh_30 rfl ?_
        refine j_ifnull hx dX10_weigh_32 ?_
        refine j_aload hx 1 dX10_weigh_35 rfl ?_
        refine j_callV hx hG (c_X0_step hst r1) lk_RX10_33 q2.1 (by decide) rfl rfl rfl rfl [] ⟨rfl, hG, hS0, q2.1⟩ rfl rfl ⟨by decide, by decide⟩ ⟨by decide, by decide⟩ (k2 := 0) (n2 := 0) rfl rfl (Nat.le_of_ble_eq_true rfl) dX10_weigh_37 (kIM (fun v35 s13 hS_s13 hF_s13 q36 => ?_))
        refine j_if_ne hx 72 dX10_weigh_40 rfl (by omega) (fun h37 => ?_) (fun h37 => ?_)
        · skip
          refine j_aload hx 1 dX10_weigh_72 rfl ?_
          refine j_callV hx hG (c_X0_likeTops hst r1) lk_RX10_37 q2.1 (by decide) rfl rfl rfl rfl [] ⟨rfl, hG, hS_s13, q2.1⟩ rfl rfl ⟨by decide, by decide⟩ ⟨by decide, by decide⟩ (k2 := 0) (n2 := 0) rfl rfl (Nat.le_of_ble_eq_true rfl) dX10_weigh_74 (kIP (fun v38 q39 => ?_))
          refine j_istore hx [(6, .int (zI v38)), (5, .ref r5), (4, .ref r1), (0, .ref a), (1, .int (zI 7)), (2, .long (zL y2))] dX10_weigh_77 (by decide) rfl ?_
          refine j_iconst hx dX10_weigh_79 ?_
          refine j_istore hx [(7, .int (zI 0)), (6, .int (zI v38)), (5, .ref r5), (4, .ref r1), (0, .ref a), (1, .int (zI 7)), (2, .long (zL y2))] dX10_weigh_80 (by decide) rfl ?_
          refine j_iconst hx dX10_weigh_82 ?_
          refine j_istore hx [(8, .int (zI 0)), (7, .int (zI 0)), (6, .int (zI v38)), (5, .ref r5), (4, .ref r1), (0, .ref a), (1, .int (zI 7)), (2, .long (zL y2))] dX10_weigh_83 (by decide) rfl ?_
          have c85_14 : ∀ (m_c85_14 : Nat) (v40 : Int) (v41 : Int) (s15 : zS), 2147483648 - v41 < m_c85_14 → ((-2147483648) ≤ v40 ∧ v40 ≤ 2147483647) → (0 ≤ v41 ∧ v41 ≤ 3) → (zSK G s15) → (zFr [1, 7, 11, 41] G s13 s15) → JJ X E 9 G s15 0 0 [(0, .ref a), (1, .int (zI 7)), (2, .long (zL y2)), (4, .ref r1), (5, .ref r5), (6, .int (zI v38)), (7, .int (zI v40)), (8, .int (zI v41))] 85 [] := by
            intro m_c85_14
            induction m_c85_14 with
            | zero => intro v40 v41 s15 hm_c85_14 fA16 fA17 hS_s15 hF_s15; exfalso; omega
            | succ m_c85_14 ih_c85_14 => 
              intro v40 v41 s15 hm_c85_14 fA16 fA17 hS_s15 hF_s15
              refine j_iload hx 7 dX10_weigh_85 rfl ?_
              refine j_aload_n hx 0 dX10_weigh_87 rfl ?_
              refine g11_0 hx hG ha kf_RX10_17 dX10_weigh_88 ?_
              have f42 := zf hS0 (zr (k := 0) (t2 := 9) hG ha rfl) (k := 4) rfl
              refine gN9_4 hx hG (zr (k := 0) (t2 := 9) hG ha rfl) kf_RX10_104 (v := (s0 (gP G a 0) 4)) (by rw [(zFr_g hF_s15 (zr (k := 0) (t2 := 9) hG ha rfl) (by decide)), (zFr_g hF_s13 (zr (k := 0) (t2 := 9) hG ha rfl) (by decide))]) dX10_weigh_91 ?_
              refine j_icmp_ge hx 178 dX10_weigh_94 rfl (by omega) (by omega) (fun h43 => ?_) (fun h43 => ?_)
              · skip
                refine j_iload hx 6 dX10_weigh_178 rfl ?_
                refine j_if_le hx 202 dX10_weigh_180 rfl (by omega) (fun h44 => ?_) (fun h44 => ?_)
                · skip
                  exact j_vret hx hq rfl (by decide) (by decide) dX10_weigh_202 ⟨rfl, rfl, hS_s15, (zFr_t (zFr_t zFr_rf hF_s13 (by decide)) hF_s15 (by decide)), trivial⟩
                · skip
                  refine j_aload hx 4 dX10_weigh_183 rfl ?_
                  refine j_aload hx 3 dX10_weigh_185 rfl ?_
                  refine j_callV hx hG (c_X0_become hst r5 r1) lk_RX10_26 q6.1 (by decide) rfl rfl rfl rfl [.ref r1] ⟨rfl, hG, hS_s15, q6.1, q2.1⟩ rfl rfl ⟨by decide, by decide⟩ ⟨by decide, by decide⟩ (k2 := 0) (n2 := 0) rfl rfl (Nat.le_of_ble_eq_true rfl) dX10_weigh_187 (kVM (fun s20 hS_s20 hF_s20 q46 => ?_))
                  refine j_aload_n hx 0 dX10_weigh_190 rfl ?_
                  refine j_iload_n hx 1 dX10_weigh_191 rfl ?_
                  refine j_iconst hx dX10_weigh_192 ?_
                  refine j_iadd hx (r := 8) dX10_weigh_193 (by omega) ?_
                  refine j_lload_n hx 2 dX10_weigh_194 rfl ?_
                  refine j_iload hx 6 dX10_weigh_195 rfl ?_
                  refine j_i2l hx dX10_weigh_197 (by omega) ?_
                  refine j_lmul hx dX10_weigh_198 (fun w47 f48 f49 => ?_)
                  refine j_callV hx hG (c_X10_weigh_8 hst a 8 w47) lk_RX10_92 ha (by decide) rfl rfl rfl rfl [.int (zI 8), .long (zL w47)] ⟨rfl, hG, hS_s20, ha, (by omega), (by omega)⟩ rfl rfl ⟨by decide, by decide⟩ ⟨by decide, by decide⟩ (k2 := 0) (n2 := 0) rfl rfl (Nat.le_of_ble_eq_true rfl) dX10_weigh_199 (kVM (fun s21 hS_s21 hF_s21 q51 => ?_))
                  exact j_vret hx hq rfl (by decide) (by decide) dX10_weigh_202 ⟨rfl, rfl, hS_s21, (zFr_t (zFr_t (zFr_t (zFr_t zFr_rf hF_s13 (by decide)) hF_s15 (by decide)) hF_s20 (by decide)) hF_s21 (by decide)), trivial⟩
              · skip
                refine j_iload hx 5 dX10_weigh_97 rfl ?_
                refine j_iconst hx dX10_weigh_99 ?_
                have c172_22 : ∀ (v52 : Int) (s23 : zS), ((-2147483648) ≤ v52 ∧ v52 ≤ 2147483647) → (zSK G s23) → (zFr [1, 7, 11, 41] G s15 s23) → JJ X E 9 G s23 0 0 [(0, .ref a), (1, .int (zI 7)), (2, .long (zL y2)), (4, .ref r1), (5, .ref r5), (6, .int (zI v38)), (7, .int (zI v52)), (8, .int (zI v41))] 172 [] := by
                  intro v52 s23 fA24 hS_s23 hF_s23
                  refine j_iinc hx 7 [(8, .int (zI (v41 + 1))), (0, .ref a), (1, .int (zI 7)), (2, .long (zL y2)), (4, .ref r1), (5, .ref r5), (6, .int (zI v38)), (7, .int (zI v52))] dX10_weigh_172 rfl (by omega) (by decide) rfl ?_
                  refine j_goto hx 85 dX10_weigh_175 rfl ?_
                  exact j_sub [1, 2, 3, 4, 5, 6, 7, 0] [(0, .ref a), (1, .int (zI 7)), (2, .long (zL y2)), (4, .ref r1), (5, .ref r5), (6, .int (zI v38)), (7, .int (zI v52)), (8, .int (zI (v41 + 1)))] rfl (ih_c85_14 v52 (v41 + 1) s23 (by omega) (by omega) (by omega) hS_s23 (zFr_t (zFr_t zFr_rf hF_s15 (by decide)) hF_s23 (by decide)))
                have c113_27 : JJ X E 9 G s15 0 0 [(0, .ref a), (1, .int (zI 7)), (2, .long (zL y2)), (4, .ref r1), (5, .ref r5), (6, .int (zI v38)), (7, .int (zI v40)), (8, .int (zI v41))] 113 [] := by
                  refine j_iload hx 6 dX10_weigh_113 rfl ?_
                  refine j_aload_n hx 0 dX10_weigh_115 rfl ?_
                  refine g11_0 hx hG ha kf_RX10_17 dX10_weigh_116 ?_
                  refine j_iload hx 7 dX10_weigh_119 rfl ?_
                  refine j_iconst hx dX10_weigh_121 ?_
                  refine j_callV hx hG (c_X8_trait hst (gP G a 0) v41 0) lk_RX10_107 (zr (k := 0) (t2 := 9) hG ha rfl) (by decide) rfl rfl rfl rfl [.int (zI v41), .int (zI 0)] ⟨rfl, hG, hS_s15, (zr (k := 0) (t2 := 9) hG ha rfl), (by omega), (by omega)⟩ rfl rfl ⟨by decide, by decide⟩ ⟨by decide, by decide⟩ (k2 := 0) (n2 := 0) rfl rfl (Nat.le_of_ble_eq_true rfl) dX10_weigh_122 (kIP (fun v53 q54 => ?_))
                  refine j_iadd hx (r := v40 + v53) dX10_weigh_125 rfl ?_
                  refine j_norm (fun v55 f56 f57 f58 => ?_)
                  refine j_istore hx [(7, .int (zI v55)), (0, .ref a), (1, .int (zI 7)), (2, .long (zL y2)), (4, .ref r1), (5, .ref r5), (6, .int (zI v38)), (8, .int (zI v41))] dX10_weigh_126 (by decide) rfl ?_
                  refine j_goto hx 172 dX10_weigh_128 rfl ?_
                  exact j_sub [1, 2, 3, 4, 5, 6, 0, 7] [(0, .ref a), (1, .int (zI 7)), (2, .long (zL y2)), (4, .ref r1), (5, .ref r5), (6, .int (zI v38)), (7, .int (zI v55)), (8, .int (zI v41))] rfl (c172_22 v55 s15 (by omega) hS_s15 zFr_rf)
                refine j_icmp_eq hx 113 dX10_weigh_100 rfl (by omega) ⟨by decide, by decide⟩ (fun h59 => ?_) (fun h59 => ?_)
                · skip
                  exact j_sub [0, 1, 2, 3, 4, 5, 6, 7] [(0, .ref a), (1, .int (zI 7)), (2, .long (zL y2)), (4, .ref r1), (5, .ref r5), (6, .int (zI v38)), (7, .int (zI v40)), (8, .int (zI v41))] rfl (c113_27  )
                · skip
                  refine j_aload hx 3 dX10_weigh_103 rfl ?_
                  refine j_iload hx 7 dX10_weigh_105 rfl ?_
                  refine j_callV hx hG (c_X0_isOut hst r1 v41) lk_RX10_73 q2.1 (by decide) rfl rfl rfl rfl [.int (zI v41)] ⟨rfl, hG, hS_s15, q2.1, (by omega)⟩ rfl rfl ⟨by decide, by decide⟩ ⟨by decide, by decide⟩ (k2 := 0) (n2 := 0) rfl rfl (Nat.le_of_ble_eq_true rfl) dX10_weigh_107 (kIP (fun v60 q61 => ?_))
                  refine j_if_eq hx 131 dX10_weigh_110 rfl (by omega) (fun h62 => ?_) (fun h62 => ?_)
                  · skip
                    refine j_aload hx 4 dX10_weigh_131 rfl ?_
                    refine j_aload hx 3 dX10_weigh_133 rfl ?_
                    refine j_callV hx hG (c_X0_become hst r5 r1) lk_RX10_26 q6.1 (by decide) rfl rfl rfl rfl [.ref r1] ⟨rfl, hG, hS_s15, q6.1, q2.1⟩ rfl rfl ⟨by decide, by decide⟩ ⟨by decide, by decide⟩ (k2 := 0) (n2 := 0) rfl rfl (Nat.le_of_ble_eq_true rfl) dX10_weigh_135 (kVM (fun s28 hS_s28 hF_s28 q64 => ?_))
                    refine j_aload hx 4 dX10_weigh_138 rfl ?_
                    refine j_iload hx 7 dX10_weigh_140 rfl ?_
                    refine j_iload hx 5 dX10_weigh_142 rfl ?_
                    refine j_aload_n hx 0 dX10_weigh_144 rfl ?_
                    have f65 := zf hS_s15 ha (k := 3) rfl
                    refine g11_3 hx hG ha kf_RX10_45 (v := (s15 a 3)) (by rw [(zFr_g hF_s28 ha (by decide))]) dX10_weigh_145 ?_
                    refine j_callV hx hG (c_X0_win hst r5 v41 v38 ((s15 a 3))) lk_RX10_69 q6.1 (by decide) rfl rfl rfl rfl [.int (zI v41), .int (zI v38), .int (zI ((s15 a 3)))] ⟨rfl, hG, hS_s28, q6.1, (by omega), (by omega), (by omega)⟩ rfl rfl ⟨by decide, by decide⟩ ⟨by decide, by decide⟩ (k2 := 0) (n2 := 0) rfl rfl (Nat.le_of_ble_eq_true rfl) dX10_weigh_148 (kIM (fun v66 s29 hS_s29 hF_s29 q67 => ?_))
                    refine j_pop hx dX10_weigh_151 rfl ?_
                    refine j_aload_n hx 0 dX10_weigh_152 rfl ?_
                    refine j_iload_n hx 1 dX10_weigh_153 rfl ?_
                    refine j_iconst hx dX10_weigh_154 ?_
                    refine j_iadd hx (r := 8) dX10_weigh_155 (by omega) ?_
                    refine j_lload_n hx 2 dX10_weigh_156 rfl ?_
                    refine j_aload_n hx 0 dX10_weigh_157 rfl ?_
                    refine g11_0 hx hG ha kf_RX10_17 dX10_weigh_158 ?_
                    refine j_iload hx 7 dX10_weigh_161 rfl ?_
                    refine j_iconst hx dX10_weigh_163 ?_
                    refine j_callV hx hG (c_X8_trait hst (gP G a 0) v41 0) lk_RX10_107 (zr (k := 0) (t2 := 9) hG ha rfl) (by decide) rfl rfl rfl rfl [.int (zI v41), .int (zI 0)] ⟨rfl, hG, hS_s29, (zr (k := 0) (t2 := 9) hG ha rfl), (by omega), (by omega)⟩ rfl rfl ⟨by decide, by decide⟩ ⟨by decide, by decide⟩ (k2 := 0) (n2 := 0) rfl rfl (Nat.le_of_ble_eq_true rfl) dX10_weigh_164 (kIP (fun v68 q69 => ?_))
                    refine j_i2l hx dX10_weigh_167 (by omega) ?_
                    refine j_lmul hx dX10_weigh_168 (fun w70 f71 f72 => ?_)
                    refine j_callV hx hG (c_X10_weigh_8 hst a 8 w70) lk_RX10_92 ha (by decide) rfl rfl rfl rfl [.int (zI 8), .long (zL w70)] ⟨rfl, hG, hS_s29, ha, (by omega), (by omega)⟩ rfl rfl ⟨by decide, by decide⟩ ⟨by decide, by decide⟩ (k2 := 0) (n2 := 0) rfl rfl (Nat.le_of_ble_eq_true rfl) dX10_weigh_169 (kVM (fun s30 hS_s30 hF_s30 q74 => ?_))
                    exact j_sub [0, 1, 2, 3, 4, 5, 6, 7] [(0, .ref a), (1, .int (zI 7)), (2, .long (zL y2)), (4, .ref r1), (5, .ref r5), (6, .int (zI v38)), (7, .int (zI v40)), (8, .int (zI v41))] rfl (c172_22 v40 s30 (by omega) hS_s30 (zFr_t (zFr_t (zFr_t zFr_rf hF_s28 (by decide)) hF_s29 (by decide)) hF_s30 (by decide)))
                  · skip
                    exact j_sub [0, 1, 2, 3, 4, 5, 6, 7] [(0, .ref a), (1, .int (zI 7)), (2, .long (zL y2)), (4, .ref r1), (5, .ref r5), (6, .int (zI v38)), (7, .int (zI v40)), (8, .int (zI v41))] rfl (c113_27  )
          exact j_sub [5, 6, 7, 4, 3, 2, 1, 0] [(0, .ref a), (1, .int (zI 7)), (2, .long (zL y2)), (4, .ref r1), (5, .ref r5), (6, .int (zI v38)), (7, .int (zI 0)), (8, .int (zI 0))] rfl (c85_14 (2147483648 * 4) 0 0 s13 (by omega) (by omega) (by omega) hS_s13 zFr_rf)
        · skip
          exact j_sub [2, 3, 4, 1] [(0, .ref a), (1, .int (zI 7)), (2, .long (zL y2)), (4, .ref r1)] rfl (c43_7 s13 hS_s13 (zFr_t zFr_rf hF_s13 (by decide)))

set_option maxHeartbeats 4000000 in
set_option maxRecDepth 20000 in
theorem c_X10_weigh_6 {E : zE} {l : Launch} (hst : l.stackTraces = false) (a : Nat) (x1 : Int) (y2 : Int) : Con E l yX10_weigh cX10_weigh 9 none { frames := 9, cells := 0, slots := 0, locals := 239 } (fun G s vs => vs = [.ref a, .int (zI x1), .long (zL y2)] ∧ zGK G ∧ zSK G s ∧ (gT G a = 11) ∧ (6 ≤ x1 ∧ x1 ≤ 6) ∧ ((-9223372036854775808) ≤ y2 ∧ y2 ≤ 9223372036854775807)) (fun G s _ => pV (fun G2 s2 => G2 = G ∧ zSK G s2 ∧ zFr [1, 7, 11, 41] G s s2 ∧ True)) := by
  refine Con.mk hst (by decide) (fun G s vs h => by rw [h.1]; exact Nat.le_of_ble_eq_true rfl) ?_
  rintro X G s0 vs ⟨rfl, hG, hS0, ha, hx1, hy2⟩ rfl hx hq
  obtain rfl : x1 = 6 := by omega
  show JJ X E 9 G s0 0 0 [(0, .ref a), (1, .int (zI 6)), (2, .long (zL y2))] 0 []
  refine j_aload_n hx 0 dX10_weigh_0 rfl ?_
  refine j_iload_n hx 1 dX10_weigh_1 rfl ?_
  refine j_callV hx hG (c_X10_boardAt hst a 6) lk_RX10_22 ha (by decide) rfl rfl rfl rfl [.int (zI 6)] ⟨rfl, hG, hS0, ha, (by omega)⟩ rfl rfl ⟨by decide, by decide⟩ ⟨by decide, by decide⟩ (k2 := 0) (n2 := 0) rfl rfl (Nat.le_of_ble_eq_true rfl) dX10_weigh_2 (kNP (fun _ => ?_) (fun r1 q2 => ?_))
  · skip
    refine j_astoreN hx [(4, .null), (0, .ref a), (1, .int (zI 6)), (2, .long (zL y2))] dX10_weigh_5 (by decide) rfl ?_
    refine j_aload_n hx 1 dX10_weigh_7 rfl ?_
    refine j_iload_n hx 2 dX10_weigh_8 rfl ?_
    refine j_iconst hx dX10_weigh_9 ?_
    refine j_iadd hx (r := 7) dX10_weigh_10 (by omega) ?_
    refine j_callV hx hG (c_X10_boardAt hst a 7) lk_RX10_22 ha (by decide) rfl rfl rfl rfl [.int (zI 7)] ⟨rfl, hG, hS0, ha, (by omega)⟩ rfl rfl ⟨by decide, by decide⟩ ⟨by decide, by decide⟩ (k2 := 0) (n2 := 0) rfl rfl (Nat.le_of_ble_eq_true rfl) dX10_weigh_11 (kNP (fun _ => ?_) (fun r3 q4 => ?_))
    · skip
      refine j_astoreN hx [(5, .null), (4, .null), (0, .ref a), (1, .int (zI 6)), (2, .long (zL y2))] dX10_weigh_14 (by decide) rfl ?_
      refine j_aloadN hx 1 dX10_weigh_16 rfl ?_
      refine j_ifnonnullN hx dX10_weigh_18 ?_
      exact j_vret hx hq rfl (by decide) (by decide) dX10_weigh_21 ⟨rfl, rfl, hS0, zFr_rf, trivial⟩
    · skip
      refine j_astore hx [(5, .ref r3), (4, .null), (0, .ref a), (1, .int (zI 6)), (2, .long (zL y2))] dX10_weigh_14 (by decide) rfl ?_
      refine j_aloadN hx 1 dX10_weigh_16 rfl ?_
      refine j_ifnonnullN hx dX10_weigh_18 ?_
      exact j_vret hx hq rfl (by decide) (by decide) dX10_weigh_21 ⟨rfl, rfl, hS0, zFr_rf, trivial⟩
  · skip
    refine j_astore hx [(4, .ref r1), (0, .ref a), (1, .int (zI 6)), (2, .long (zL y2))] dX10_weigh_5 (by decide) rfl ?_
    refine j_aload_n hx 1 dX10_weigh_7 rfl ?_
    refine j_iload_n hx 2 dX10_weigh_8 rfl ?_
    refine j_iconst hx dX10_weigh_9 ?_
    refine j_iadd hx (r := 7) dX10_weigh_10 (by omega) ?_
    refine j_callV hx hG (c_X10_boardAt hst a 7) lk_RX10_22 ha (by decide) rfl rfl rfl rfl [.int (zI 7)] ⟨rfl, hG, hS0, ha, (by omega)⟩ rfl rfl ⟨by decide, by decide⟩ ⟨by decide, by decide⟩ (k2 := 0) (n2 := 0) rfl rfl (Nat.le_of_ble_eq_true rfl) dX10_weigh_11 (kNP (fun _ => ?_) (fun r5 q6 => ?_))
    · skip
      refine j_astoreN hx [(5, .null), (4, .ref r1), (0, .ref a), (1, .int (zI 6)), (2, .long (zL y2))] dX10_weigh_14 (by decide) rfl ?_
      refine j_aload hx 1 dX10_weigh_16 rfl ?_
      refine j_ifnonnull hx 22 dX10_weigh_18 rfl ?_
      refine j_iload_n hx 3 dX10_weigh_22 rfl ?_
      refine j_aload_n hx 2 dX10_weigh_23 rfl ?_
      have f7 := zf hS0 ha (k := 4) rfl
      refine g11_4 hx hG ha kf_RX10_77 rfl dX10_weigh_24 ?_
      have c43_1 : ∀ (s2 : zS), (zSK G s2) → (zFr [1, 7, 41] G s0 s2) → JJ X E 9 G s2 0 0 [(0, .ref a), (1, .int (zI 6)), (2, .long (zL y2)), (4, .ref r1)] 43 [] := by
        intro s2 hS_s2 hF_s2
        refine j_aload_n hx 0 dX10_weigh_43 rfl ?_
        refine j_dup hx dX10_weigh_44 rfl ?_
        have f8 := zf hS0 ha (k := 7) rfl
        refine g11_7 hx hG ha kf_RX10_80 (v := (s0 a 7)) (by rw [(zFr_g hF_s2 ha (by decide))]) dX10_weigh_45 ?_
        refine j_aload_n hx 0 dX10_weigh_48 rfl ?_
        refine j_aload hx 3 dX10_weigh_49 rfl ?_
        refine j_callV hx hG (c_X10_leads hst a r1) lk_RX10_96 ha (by decide) rfl rfl rfl rfl [.ref r1] ⟨rfl, hG, hS_s2, ha, q2.1⟩ rfl rfl ⟨by decide, by decide⟩ ⟨by decide, by decide⟩ (k2 := 0) (n2 := 0) rfl rfl (Nat.le_of_ble_eq_true rfl) dX10_weigh_51 (kIP (fun v9 q10 => ?_))
        refine j_if_eq hx 66 dX10_weigh_54 rfl (by omega) (fun h11 => ?_) (fun h11 => ?_)
        · skip
          refine j_lconst hx dX10_weigh_66 ?_
          show JJ X E 9 G s2 0 0 [(0, .ref a), (1, .int (zI 6)), (2, .long (zL y2)), (4, .ref r1)] 67 [.long (zL 0), .long (zL ((s0 a 7))), .ref a]
          refine j_ladd hx dX10_weigh_67 (fun w12 f13 f14 => ?_)
          refine p11_7 hx hG ha kf_RX10_80 dX10_weigh_68 ?_
          obtain ⟨s5, e_s5⟩ : ∃ z, z = zU s2 a 7 w12 := ⟨_, rfl⟩
          rw [← e_s5]
          have hS_s5 : zSK G s5 := by rw [e_s5]; exact zSK_F hS_s2 ha rfl rfl rfl (by omega)
          exact j_vret hx hq rfl (by decide) (by decide) dX10_weigh_71 ⟨rfl, rfl, hS_s5, (zFr_u (zFr_t zFr_rf hF_s2 (by decide)) e_s5 ha (by decide)), trivial⟩
        · skip
          refine j_aload_n hx 0 dX10_weigh_57 rfl ?_
          refine j_iload_n hx 1 dX10_weigh_58 rfl ?_
          refine j_lload_n hx 2 dX10_weigh_59 rfl ?_
          refine j_callV hx hG (c_X10_allWays hst a 6 y2) lk_RX10_100 ha (by decide) rfl rfl rfl rfl [.int (zI 6), .long (zL y2)] ⟨rfl, hG, hS_s2, ha, (by omega), (by omega)⟩ rfl rfl ⟨by decide, by decide⟩ ⟨by decide, by decide⟩ (k2 := 0) (n2 := 0) rfl rfl (Nat.le_of_ble_eq_true rfl) dX10_weigh_60 (kLP (fun v15 q16 => ?_))
          refine j_goto hx 67 dX10_weigh_63 rfl ?_
          refine j_ladd hx dX10_weigh_67 (fun w17 f18 f19 => ?_)
          refine p11_7 hx hG ha kf_RX10_80 dX10_weigh_68 ?_
          obtain ⟨s6, e_s6⟩ : ∃ z, z = zU s2 a 7 w17 := ⟨_, rfl⟩
          rw [← e_s6]
          have hS_s6 : zSK G s6 := by rw [e_s6]; exact zSK_F hS_s2 ha rfl rfl rfl (by omega)
          exact j_vret hx hq rfl (by decide) (by decide) dX10_weigh_71 ⟨rfl, rfl, hS_s6, (zFr_u (zFr_t zFr_rf hF_s2 (by decide)) e_s6 ha (by decide)), trivial⟩
      refine j_icmp_ge hx 43 dX10_weigh_27 rfl ⟨by decide, by decide⟩ (by omega) (fun h20 => ?_) (fun h20 => ?_)
      · skip
        exact j_sub [2, 3, 4, 1] [(0, .ref a), (1, .int (zI 6)), (2, .long (zL y2)), (4, .ref r1)] rfl (c43_1 s0 hS0 zFr_rf)
      · skip
        refine j_aloadN hx 0 dX10_weigh_30 rfl ?_
        refine j_ifnullN hx 43 dX10_weigh_32 rfl ?_
        exact j_sub [2, 3, 4, 1] [(0, .ref a), (1, .int (zI 6)), (2, .long (zL y2)), (4, .ref r1)] rfl (c43_1 s0 hS0 zFr_rf)
    · skip
      refine j_astore hx [(5, .ref r5), (4, .ref r1), (0, .ref a), (1, .int (zI 6)), (2, .long (zL y2))] dX10_weigh_14 (by decide) rfl ?_
      refine j_aload hx 1 dX10_weigh_16 rfl ?_
      refine j_ifnonnull hx 22 dX10_weigh_18 rfl ?_
      refine j_iload_n hx 3 dX10_weigh_22 rfl ?_
      refine j_aload_n hx 2 dX10_weigh_23 rfl ?_
      have f21 := zf hS0 ha (k := 4) rfl
      refine g11_4 hx hG ha kf_RX10_77 rfl dX10_weigh_24 ?_
      have c43_7 : ∀ (s8 : zS), (zSK G s8) → (zFr [1, 7, 41] G s0 s8) → JJ X E 9 G s8 0 0 [(0, .ref a), (1, .int (zI 6)), (2, .long (zL y2)), (4, .ref r1)] 43 [] := by
        intro s8 hS_s8 hF_s8
        refine j_aload_n hx 0 dX10_weigh_43 rfl ?_
        refine j_dup hx dX10_weigh_44 rfl ?_
        have f22 := zf hS0 ha (k := 7) rfl
        refine g11_7 hx hG ha kf_RX10_80 (v := (s0 a 7)) (by rw [(zFr_g hF_s8 ha (by decide))]) dX10_weigh_45 ?_
        refine j_aload_n hx 0 dX10_weigh_48 rfl ?_
        refine j_aload hx 3 dX10_weigh_49 rfl ?_
        refine j_callV hx hG (c_X10_leads hst a r1) lk_RX10_96 ha (by decide) rfl rfl rfl rfl [.ref r1] ⟨rfl, hG, hS_s8, ha, q2.1⟩ rfl rfl ⟨by decide, by decide⟩ ⟨by decide, by decide⟩ (k2 := 0) (n2 := 0) rfl rfl (Nat.le_of_ble_eq_true rfl) dX10_weigh_51 (kIP (fun v23 q24 => ?_))
        refine j_if_eq hx 66 dX10_weigh_54 rfl (by omega) (fun h25 => ?_) (fun h25 => ?_)
        · skip
          refine j_lconst hx dX10_weigh_66 ?_
          show JJ X E 9 G s8 0 0 [(0, .ref a), (1, .int (zI 6)), (2, .long (zL y2)), (4, .ref r1)] 67 [.long (zL 0), .long (zL ((s0 a 7))), .ref a]
          refine j_ladd hx dX10_weigh_67 (fun w26 f27 f28 => ?_)
          refine p11_7 hx hG ha kf_RX10_80 dX10_weigh_68 ?_
          obtain ⟨s11, e_s11⟩ : ∃ z, z = zU s8 a 7 w26 := ⟨_, rfl⟩
          rw [← e_s11]
          have hS_s11 : zSK G s11 := by rw [e_s11]; exact zSK_F hS_s8 ha rfl rfl rfl (by omega)
          exact j_vret hx hq rfl (by decide) (by decide) dX10_weigh_71 ⟨rfl, rfl, hS_s11, (zFr_u (zFr_t zFr_rf hF_s8 (by decide)) e_s11 ha (by decide)), trivial⟩
        · skip
          refine j_aload_n hx 0 dX10_weigh_57 rfl ?_
          refine j_iload_n hx 1 dX10_weigh_58 rfl ?_
          refine j_lload_n hx 2 dX10_weigh_59 rfl ?_
          refine j_callV hx hG (c_X10_allWays hst a 6 y2) lk_RX10_100 ha (by decide) rfl rfl rfl rfl [.int (zI 6), .long (zL y2)] ⟨rfl, hG, hS_s8, ha, (by omega), (by omega)⟩ rfl rfl ⟨by decide, by decide⟩ ⟨by decide, by decide⟩ (k2 := 0) (n2 := 0) rfl rfl (Nat.le_of_ble_eq_true rfl) dX10_weigh_60 (kLP (fun v29 q30 => ?_))
          refine j_goto hx 67 dX10_weigh_63 rfl ?_
          refine j_ladd hx dX10_weigh_67 (fun w31 f32 f33 => ?_)
          refine p11_7 hx hG ha kf_RX10_80 dX10_weigh_68 ?_
          obtain ⟨s12, e_s12⟩ : ∃ z, z = zU s8 a 7 w31 := ⟨_, rfl⟩
          rw [← e_s12]
          have hS_s12 : zSK G s12 := by rw [e_s12]; exact zSK_F hS_s8 ha rfl rfl rfl (by omega)
          exact j_vret hx hq rfl (by decide) (by decide) dX10_weigh_71 ⟨rfl, rfl, hS_s12, (zFr_u (zFr_t zFr_rf hF_s8 (by decide)) e_s12 ha (by decide)), trivial⟩
      refine j_icmp_ge hx 43 dX10_weigh_27 rfl ⟨by decide, by decide⟩ (by omega) (fun h34 => ?_) (fun h34 => ?_)
      · skip
        exact j_sub [2, 3, 4, 1] [(0, .ref a), (1, .int (zI 6)), (2, .long (zL y2)), (4, .ref r1)] rfl (c43_7 s0 hS0 zFr_rf)
      · skip
        refine j_aload hx 0 dX10_weigh_30 rfl ?_
        refine j_ifnull hx dX10_weigh_32 ?_
        refine j_aload hx 1 dX10_weigh_35 rfl ?_
        refine j_callV hx hG (c_X0_step hst r1) lk_RX10_33 q2.1 (by decide) rfl rfl rfl rfl [] ⟨rfl, hG, hS0, q2.1⟩ rfl rfl ⟨by decide, by decide⟩ ⟨by decide, by decide⟩ (k2 := 0) (n2 := 0) rfl rfl (Nat.le_of_ble_eq_true rfl) dX10_weigh_37 (kIM (fun v35 s13 hS_s13 hF_s13 q36 => ?_))
        refine j_if_ne hx 72 dX10_weigh_40 rfl (by omega) (fun h37 => ?_) (fun h37 => ?_)
        · skip
          refine j_aload hx 1 dX10_weigh_72 rfl ?_
          refine j_callV hx hG (c_X0_likeTops hst r1) lk_RX10_37 q2.1 (by decide) rfl rfl rfl rfl [] ⟨rfl, hG, hS_s13, q2.1⟩ rfl rfl ⟨by decide, by decide⟩ ⟨by decide, by decide⟩ (k2 := 0) (n2 := 0) rfl rfl (Nat.le_of_ble_eq_true rfl) dX10_weigh_74 (kIP (fun v38 q39 => ?_))
          refine j_istore hx [(6, .int (zI v38)), (5, .ref r5), (4, .ref r1), (0, .ref a), (1, .int (zI 6)), (2, .long (zL y2))] dX10_weigh_77 (by decide) rfl ?_
          refine j_iconst hx dX10_weigh_79 ?_
          refine j_istore hx [(7, .int (zI 0)), (6, .int (zI v38)), (5, .ref r5), (4, .ref r1), (0, .ref a), (1, .int (zI 6)), (2, .long (zL y2))] dX10_weigh_80 (by decide) rfl ?_
          refine j_iconst hx dX10_weigh_82 ?_
          refine j_istore hx [(8, .int (zI 0)), (7, .int (zI 0)), (6, .int (zI v38)), (5, .ref r5), (4, .ref r1), (0, .ref a), (1, .int (zI 6)), (2, .long (zL y2))] dX10_weigh_83 (by decide) rfl ?_
          have c85_14 : ∀ (m_c85_14 : Nat) (v40 : Int) (v41 : Int) (s15 : zS), 2147483648 - v41 < m_c85_14 → ((-2147483648) ≤ v40 ∧ v40 ≤ 2147483647) → (0 ≤ v41 ∧ v41 ≤ 3) → (zSK G s15) → (zFr [1, 7, 11, 41] G s13 s15) → JJ X E 9 G s15 0 0 [(0, .ref a), (1, .int (zI 6)), (2, .long (zL y2)), (4, .ref r1), (5, .ref r5), (6, .int (zI v38)), (7, .int (zI v40)), (8, .int (zI v41))] 85 [] := by
            intro m_c85_14
            induction m_c85_14 with
            | zero => intro v40 v41 s15 hm_c85_14 fA16 fA17 hS_s15 hF_s15; exfalso; omega
            | succ m_c85_14 ih_c85_14 => 
              intro v40 v41 s15 hm_c85_14 fA16 fA17 hS_s15 hF_s15
              refine j_iload hx 7 dX10_weigh_85 rfl ?_
              refine j_aload_n hx 0 dX10_weigh_87 rfl ?_
              refine g11_0 hx hG ha kf_RX10_17 dX10_weigh_88 ?_
              have f42 := zf hS0 (zr (k := 0) (t2 := 9) hG ha rfl) (k := 4) rfl
              refine gN9_4 hx hG (zr (k := 0) (t2 := 9) hG ha rfl) kf_RX10_104 (v := (s0 (gP G a 0) 4)) (by rw [(zFr_g hF_s15 (zr (k := 0) (t2 := 9) hG ha rfl) (by decide)), (zFr_g hF_s13 (zr (k := 0) (t2 := 9) hG ha rfl) (by decide))]) dX10_weigh_91 ?_
              refine j_icmp_ge hx 178 dX10_weigh_94 rfl (by omega) (by omega) (fun h43 => ?_) (fun h43 => ?_)
              · skip
                refine j_iload hx 6 dX10_weigh_178 rfl ?_
                refine j_if_le hx 202 dX10_weigh_180 rfl (by omega) (fun h44 => ?_) (fun h44 => ?_)
                · skip
                  exact j_vret hx hq rfl (by decide) (by decide) dX10_weigh_202 ⟨rfl, rfl, hS_s15, (zFr_t (zFr_t zFr_rf hF_s13 (by decide)) hF_s15 (by decide)), trivial⟩
                · skip
                  refine j_aload hx 4 dX10_weigh_183 rfl ?_
                  refine j_aload hx 3 dX10_weigh_185 rfl ?_
                  refine j_callV hx hG (c_X0_become hst r5 r1) lk_RX10_26 q6.1 (by decide) rfl rfl rfl rfl [.ref r1] ⟨rfl, hG, hS_s15, q6.1, q2.1⟩ rfl rfl ⟨by decide, by decide⟩ ⟨by decide, by decide⟩ (k2 := 0) (n2 := 0) rfl rfl (Nat.le_of_ble_eq_true rfl) dX10_weigh_187 (kVM (fun s20 hS_s20 hF_s20 q46 => ?_))
                  refine j_aload_n hx 0 dX10_weigh_190 rfl ?_
                  refine j_iload_n hx 1 dX10_weigh_191 rfl ?_
                  refine j_iconst hx dX10_weigh_192 ?_
                  refine j_iadd hx (r := 7) dX10_weigh_193 (by omega) ?_
                  refine j_lload_n hx 2 dX10_weigh_194 rfl ?_
                  refine j_iload hx 6 dX10_weigh_195 rfl ?_
                  refine j_i2l hx dX10_weigh_197 (by omega) ?_
                  refine j_lmul hx dX10_weigh_198 (fun w47 f48 f49 => ?_)
                  refine j_callV hx hG (c_X10_weigh_7 hst a 7 w47) lk_RX10_92 ha (by decide) rfl rfl rfl rfl [.int (zI 7), .long (zL w47)] ⟨rfl, hG, hS_s20, ha, (by omega), (by omega)⟩ rfl rfl ⟨by decide, by decide⟩ ⟨by decide, by decide⟩ (k2 := 0) (n2 := 0) rfl rfl (Nat.le_of_ble_eq_true rfl) dX10_weigh_199 (kVM (fun s21 hS_s21 hF_s21 q51 => ?_))
                  exact j_vret hx hq rfl (by decide) (by decide) dX10_weigh_202 ⟨rfl, rfl, hS_s21, (zFr_t (zFr_t (zFr_t (zFr_t zFr_rf hF_s13 (by decide)) hF_s15 (by decide)) hF_s20 (by decide)) hF_s21 (by decide)), trivial⟩
              · skip
                refine j_iload hx 5 dX10_weigh_97 rfl ?_
                refine j_iconst hx dX10_weigh_99 ?_
                have c172_22 : ∀ (v52 : Int) (s23 : zS), ((-2147483648) ≤ v52 ∧ v52 ≤ 2147483647) → (zSK G s23) → (zFr [1, 7, 11, 41] G s15 s23) → JJ X E 9 G s23 0 0 [(0, .ref a), (1, .int (zI 6)), (2, .long (zL y2)), (4, .ref r1), (5, .ref r5), (6, .int (zI v38)), (7, .int (zI v52)), (8, .int (zI v41))] 172 [] := by
                  intro v52 s23 fA24 hS_s23 hF_s23
                  refine j_iinc hx 7 [(8, .int (zI (v41 + 1))), (0, .ref a), (1, .int (zI 6)), (2, .long (zL y2)), (4, .ref r1), (5, .ref r5), (6, .int (zI v38)), (7, .int (zI v52))] dX10_weigh_172 rfl (by omega) (by decide) rfl ?_
                  refine j_goto hx 85 dX10_weigh_175 rfl ?_
                  exact j_sub [1, 2, 3, 4, 5, 6, 7, 0] [(0, .ref a), (1, .int (zI 6)), (2, .long (zL y2)), (4, .ref r1), (5, .ref r5), (6, .int (zI v38)), (7, .int (zI v52)), (8, .int (zI (v41 + 1)))] rfl (ih_c85_14 v52 (v41 + 1) s23 (by omega) (by omega) (by omega) hS_s23 (zFr_t (zFr_t zFr_rf hF_s15 (by decide)) hF_s23 (by decide)))
                have c113_27 : JJ X E 9 G s15 0 0 [(0, .ref a), (1, .int (zI 6)), (2, .long (zL y2)), (4, .ref r1), (5, .ref r5), (6, .int (zI v38)), (7, .int (zI v40)), (8, .int (zI v41))] 113 [] := by
                  refine j_iload hx 6 dX10_weigh_113 rfl ?_
                  refine j_aload_n hx 0 dX10_weigh_115 rfl ?_
                  refine g11_0 hx hG ha kf_RX10_17 dX10_weigh_116 ?_
                  refine j_iload hx 7 dX10_weigh_119 rfl ?_
                  refine j_iconst hx dX10_weigh_121 ?_
                  refine j_callV hx hG (c_X8_trait hst (gP G a 0) v41 0) lk_RX10_107 (zr (k := 0) (t2 := 9) hG ha rfl) (by decide) rfl rfl rfl rfl [.int (zI v41), .int (zI 0)] ⟨rfl, hG, hS_s15, (zr (k := 0) (t2 := 9) hG ha rfl), (by omega), (by omega)⟩ rfl rfl ⟨by decide, by decide⟩ ⟨by decide, by decide⟩ (k2 := 0) (n2 := 0) rfl rfl (Nat.le_of_ble_eq_true rfl) dX10_weigh_122 (kIP (fun v53 q54 => ?_))
                  refine j_iadd hx (r := v40 + v53) dX10_weigh_125 rfl ?_
                  refine j_norm (fun v55 f56 f57 f58 => ?_)
                  refine j_istore hx [(7, .int (zI v55)), (0, .ref a), (1, .int (zI 6)), (2, .long (zL y2)), (4, .ref r1), (5, .ref r5), (6, .int (zI v38)), (8, .int (zI v41))] dX10_weigh_126 (by decide) rfl ?_
                  refine j_goto hx 172 dX10_weigh_128 rfl ?_
                  exact j_sub [1, 2, 3, 4, 5, 6, 0, 7] [(0, .ref a), (1, .int (zI 6)), (2, .long (zL y2)), (4, .ref r1), (5, .ref r5), (6, .int (zI v38)), (7, .int (zI v55)), (8, .int (zI v41))] rfl (c172_22 v55 s15 (by omega) hS_s15 zFr_rf)
                refine j_icmp_eq hx 113 dX10_weigh_100 rfl (by omega) ⟨by decide, by decide⟩ (fun h59 => ?_) (fun h59 => ?_)
                · skip
                  exact j_sub [0, 1, 2, 3, 4, 5, 6, 7] [(0, .ref a), (1, .int (zI 6)), (2, .long (zL y2)), (4, .ref r1), (5, .ref r5), (6, .int (zI v38)), (7, .int (zI v40)), (8, .int (zI v41))] rfl (c113_27  )
                · skip
                  refine j_aload hx 3 dX10_weigh_103 rfl ?_
                  refine j_iload hx 7 dX10_weigh_105 rfl ?_
                  refine j_callV hx hG (c_X0_isOut hst r1 v41) lk_RX10_73 q2.1 (by decide) rfl rfl rfl rfl [.int (zI v41)] ⟨rfl, hG, hS_s15, q2.1, (by omega)⟩ rfl rfl ⟨by decide, by decide⟩ ⟨by decide, by decide⟩ (k2 := 0) (n2 := 0) rfl rfl (Nat.le_of_ble_eq_true rfl) dX10_weigh_107 (kIP (fun v60 q61 => ?_))
                  refine j_if_eq hx 131 dX10_weigh_110 rfl (by omega) (fun h62 => ?_) (fun h62 => ?_)
                  · skip
                    refine j_aload hx 4 dX10_weigh_131 rfl ?_
                    refine j_aload hx 3 dX10_weigh_133 rfl ?_
                    refine j_callV hx hG (c_X0_become hst r5 r1) lk_RX10_26 q6.1 (by decide) rfl rfl rfl rfl [.ref r1] ⟨rfl, hG, hS_s15, q6.1, q2.1⟩ rfl rfl ⟨by decide, by decide⟩ ⟨by decide, by decide⟩ (k2 := 0) (n2 := 0) rfl rfl (Nat.le_of_ble_eq_true rfl) dX10_weigh_135 (kVM (fun s28 hS_s28 hF_s28 q64 => ?_))
                    refine j_aload hx 4 dX10_weigh_138 rfl ?_
                    refine j_iload hx 7 dX10_weigh_140 rfl ?_
                    refine j_iload hx 5 dX10_weigh_142 rfl ?_
                    refine j_aload_n hx 0 dX10_weigh_144 rfl ?_
                    have f65 := zf hS_s15 ha (k := 3) rfl
                    refine g11_3 hx hG ha kf_RX10_45 (v := (s15 a 3)) (by rw [(zFr_g hF_s28 ha (by decide))]) dX10_weigh_145 ?_
                    refine j_callV hx hG (c_X0_win hst r5 v41 v38 ((s15 a 3))) lk_RX10_69 q6.1 (by decide) rfl rfl rfl rfl [.int (zI v41), .int (zI v38), .int (zI ((s15 a 3)))] ⟨rfl, hG, hS_s28, q6.1, (by omega), (by omega), (by omega)⟩ rfl rfl ⟨by decide, by decide⟩ ⟨by decide, by decide⟩ (k2 := 0) (n2 := 0) rfl rfl (Nat.le_of_ble_eq_true rfl) dX10_weigh_148 (kIM (fun v66 s29 hS_s29 hF_s29 q67 => ?_))
                    refine j_pop hx dX10_weigh_151 rfl ?_
                    refine j_aload_n hx 0 dX10_weigh_152 rfl ?_
                    refine j_iload_n hx 1 dX10_weigh_153 rfl ?_
                    refine j_iconst hx dX10_weigh_154 ?_
                    refine j_iadd hx (r := 7) dX10_weigh_155 (by omega) ?_
                    refine j_lload_n hx 2 dX10_weigh_156 rfl ?_
                    refine j_aload_n hx 0 dX10_weigh_157 rfl ?_
                    refine g11_0 hx hG ha kf_RX10_17 dX10_weigh_158 ?_
                    refine j_iload hx 7 dX10_weigh_161 rfl ?_
                    refine j_iconst hx dX10_weigh_163 ?_
                    refine j_callV hx hG (c_X8_trait hst (gP G a 0) v41 0) lk_RX10_107 (zr (k := 0) (t2 := 9) hG ha rfl) (by decide) rfl rfl rfl rfl [.int (zI v41), .int (zI 0)] ⟨rfl, hG, hS_s29, (zr (k := 0) (t2 := 9) hG ha rfl), (by omega), (by omega)⟩ rfl rfl ⟨by decide, by decide⟩ ⟨by decide, by decide⟩ (k2 := 0) (n2 := 0) rfl rfl (Nat.le_of_ble_eq_true rfl) dX10_weigh_164 (kIP (fun v68 q69 => ?_))
                    refine j_i2l hx dX10_weigh_167 (by omega) ?_
                    refine j_lmul hx dX10_weigh_168 (fun w70 f71 f72 => ?_)
                    refine j_callV hx hG (c_X10_weigh_7 hst a 7 w70) lk_RX10_92 ha (by decide) rfl rfl rfl rfl [.int (zI 7), .long (zL w70)] ⟨rfl, hG, hS_s29, ha, (by omega), (by omega)⟩ rfl rfl ⟨by decide, by decide⟩ ⟨by decide, by decide⟩ (k2 := 0) (n2 := 0) rfl rfl (Nat.le_of_ble_eq_true rfl) dX10_weigh_169 (kVM (fun s30 hS_s30 hF_s30 q74 => ?_))
                    exact j_sub [0, 1, 2, 3, 4, 5, 6, 7] [(0, .ref a), (1, .int (zI 6)), (2, .long (zL y2)), (4, .ref r1), (5, .ref r5), (6, .int (zI v38)), (7, .int (zI v40)), (8, .int (zI v41))] rfl (c172_22 v40 s30 (by omega) hS_s30 (zFr_t (zFr_t (zFr_t zFr_rf hF_s28 (by decide)) hF_s29 (by decide)) hF_s30 (by decide)))
                  · skip
                    exact j_sub [0, 1, 2, 3, 4, 5, 6, 7] [(0, .ref a), (1, .int (zI 6)), (2, .long (zL y2)), (4, .ref r1), (5, .ref r5), (6, .int (zI v38)), (7, .int (zI v40)), (8, .int (zI v41))] rfl (c113_27  )
          exact j_sub [5, 6, 7, 4, 3, 2, 1, 0] [(0, .ref a), (1, .int (zI 6)), (2, .long (zL y2)), (4, .ref r1), (5, .ref r5), (6, .int (zI v38)), (7, .int (zI 0)), (8, .int (zI 0))] rfl (c85_14 (2147483648 * 4) 0 0 s13 (by omega) (by omega) (by omega) hS_s13 zFr_rf)
        · skip
          exact j_sub [2, 3, 4, 1] [(0, .ref a), (1, .int (zI 6)), (2, .long (zL y2)), (4, .ref r1)] rfl (c43_7 s13 hS_s13 (zFr_t zFr_rf hF_s13 (by decide)))

set_option maxHeartbeats 4000000 in
set_option maxRecDepth 20000 in
theorem c_X10_weigh_5 {E : zE} {l : Launch} (hst : l.stackTraces = false) (a : Nat) (x1 : Int) (y2 : Int) : Con E l yX10_weigh cX10_weigh 9 none { frames := 10, cells := 0, slots := 0, locals := 267 } (fun G s vs => vs = [.ref a, .int (zI x1), .long (zL y2)] ∧ zGK G ∧ zSK G s ∧ (gT G a = 11) ∧ (5 ≤ x1 ∧ x1 ≤ 5) ∧ ((-9223372036854775808) ≤ y2 ∧ y2 ≤ 9223372036854775807)) (fun G s _ => pV (fun G2 s2 => G2 = G ∧ zSK G s2 ∧ zFr [1, 7, 11, 41] G s s2 ∧ True)) := by
  refine Con.mk hst (by decide) (fun G s vs h => by rw [h.1]; exact Nat.le_of_ble_eq_true rfl) ?_
  rintro X G s0 vs ⟨rfl, hG, hS0, ha, hx1, hy2⟩ rfl hx hq
  obtain rfl : x1 = 5 := by omega
  show JJ X E 9 G s0 0 0 [(0, .ref a), (1, .int (zI 5)), (2, .long (zL y2))] 0 []
  refine j_aload_n hx 0 dX10_weigh_0 rfl ?_
  refine j_iload_n hx 1 dX10_weigh_1 rfl ?_
  refine j_callV hx hG (c_X10_boardAt hst a 5) lk_RX10_22 ha (by decide) rfl rfl rfl rfl [.int (zI 5)] ⟨rfl, hG, hS0, ha, (by omega)⟩ rfl rfl ⟨by decide, by decide⟩ ⟨by decide, by decide⟩ (k2 := 0) (n2 := 0) rfl rfl (Nat.le_of_ble_eq_true rfl) dX10_weigh_2 (kNP (fun _ => ?_) (fun r1 q2 => ?_))
  · skip
    refine j_astoreN hx [(4, .null), (0, .ref a), (1, .int (zI 5)), (2, .long (zL y2))] dX10_weigh_5 (by decide) rfl ?_
    refine j_aload_n hx 1 dX10_weigh_7 rfl ?_
    refine j_iload_n hx 2 dX10_weigh_8 rfl ?_
    refine j_iconst hx dX10_weigh_9 ?_
    refine j_iadd hx (r := 6) dX10_weigh_10 (by omega) ?_
    refine j_callV hx hG (c_X10_boardAt hst a 6) lk_RX10_22 ha (by decide) rfl rfl rfl rfl [.int (zI 6)] ⟨rfl, hG, hS0, ha, (by omega)⟩ rfl rfl ⟨by decide, by decide⟩ ⟨by decide, by decide⟩ (k2 := 0) (n2 := 0) rfl rfl (Nat.le_of_ble_eq_true rfl) dX10_weigh_11 (kNP (fun _ => ?_) (fun r3 q4 => ?_))
    · skip
      refine j_astoreN hx [(5, .null), (4, .null), (0, .ref a), (1, .int (zI 5)), (2, .long (zL y2))] dX10_weigh_14 (by decide) rfl ?_
      refine j_aloadN hx 1 dX10_weigh_16 rfl ?_
      refine j_ifnonnullN hx dX10_weigh_18 ?_
      exact j_vret hx hq rfl (by decide) (by decide) dX10_weigh_21 ⟨rfl, rfl, hS0, zFr_rf, trivial⟩
    · skip
      refine j_astore hx [(5, .ref r3), (4, .null), (0, .ref a), (1, .int (zI 5)), (2, .long (zL y2))] dX10_weigh_14 (by decide) rfl ?_
      refine j_aloadN hx 1 dX10_weigh_16 rfl ?_
      refine j_ifnonnullN hx dX10_weigh_18 ?_
      exact j_vret hx hq rfl (by decide) (by decide) dX10_weigh_21 ⟨rfl, rfl, hS0, zFr_rf, trivial⟩
  · skip
    refine j_astore hx [(4, .ref r1), (0, .ref a), (1, .int (zI 5)), (2, .long (zL y2))] dX10_weigh_5 (by decide) rfl ?_
    refine j_aload_n hx 1 dX10_weigh_7 rfl ?_
    refine j_iload_n hx 2 dX10_weigh_8 rfl ?_
    refine j_iconst hx dX10_weigh_9 ?_
    refine j_iadd hx (r := 6) dX10_weigh_10 (by omega) ?_
    refine j_callV hx hG (c_X10_boardAt hst a 6) lk_RX10_22 ha (by decide) rfl rfl rfl rfl [.int (zI 6)] ⟨rfl, hG, hS0, ha, (by omega)⟩ rfl rfl ⟨by decide, by decide⟩ ⟨by decide, by decide⟩ (k2 := 0) (n2 := 0) rfl rfl (Nat.le_of_ble_eq_true rfl) dX10_weigh_11 (kNP (fun _ => ?_) (fun r5 q6 => ?_))
    · skip
      refine j_astoreN hx [(5, .null), (4, .ref r1), (0, .ref a), (1, .int (zI 5)), (2, .long (zL y2))] dX10_weigh_14 (by decide) rfl ?_
      refine j_aload hx 1 dX10_weigh_16 rfl ?_
      refine j_ifnonnull hx 22 dX10_weigh_18 rfl ?_
      refine j_iload_n hx 3 dX10_weigh_22 rfl ?_
      refine j_aload_n hx 2 dX10_weigh_23 rfl ?_
      have f7 := zf hS0 ha (k := 4) rfl
      refine g11_4 hx hG ha kf_RX10_77 rfl dX10_weigh_24 ?_
      have c43_1 : ∀ (s2 : zS), (zSK G s2) → (zFr [1, 7, 41] G s0 s2) → JJ X E 9 G s2 0 0 [(0, .ref a), (1, .int (zI 5)), (2, .long (zL y2)), (4, .ref r1)] 43 [] := by
        intro s2 hS_s2 hF_s2
        refine j_aload_n hx 0 dX10_weigh_43 rfl ?_
        refine j_dup hx dX10_weigh_44 rfl ?_
        have f8 := zf hS0 ha (k := 7) rfl
        refine g11_7 hx hG ha kf_RX10_80 (v := (s0 a 7)) (by rw [(zFr_g hF_s2 ha (by decide))]) dX10_weigh_45 ?_
        refine j_aload_n hx 0 dX10_weigh_48 rfl ?_
        refine j_aload hx 3 dX10_weigh_49 rfl ?_
        refine j_callV hx hG (c_X10_leads hst a r1) lk_RX10_96 ha (by decide) rfl rfl rfl rfl [.ref r1] ⟨rfl, hG, hS_s2, ha, q2.1⟩ rfl rfl ⟨by decide, by decide⟩ ⟨by decide, by decide⟩ (k2 := 0) (n2 := 0) rfl rfl (Nat.le_of_ble_eq_true rfl) dX10_weigh_51 (kIP (fun v9 q10 => ?_))
        refine j_if_eq hx 66 dX10_weigh_54 rfl (by omega) (fun h11 => ?_) (fun h11 => ?_)
        · skip
          refine j_lconst hx dX10_weigh_66 ?_
          show JJ X E 9 G s2 0 0 [(0, .ref a), (1, .int (zI 5)), (2, .long (zL y2)), (4, .ref r1)] 67 [.long (zL 0), .long (zL ((s0 a 7))), .ref a]
          refine j_ladd hx dX10_weigh_67 (fun w12 f13 f14 => ?_)
          refine p11_7 hx hG ha kf_RX10_80 dX10_weigh_68 ?_
          obtain ⟨s5, e_s5⟩ : ∃ z, z = zU s2 a 7 w12 := ⟨_, rfl⟩
          rw [← e_s5]
          have hS_s5 : zSK G s5 := by rw [e_s5]; exact zSK_F hS_s2 ha rfl rfl rfl (by omega)
          exact j_vret hx hq rfl (by decide) (by decide) dX10_weigh_71 ⟨rfl, rfl, hS_s5, (zFr_u (zFr_t zFr_rf hF_s2 (by decide)) e_s5 ha (by decide)), trivial⟩
        · skip
          refine j_aload_n hx 0 dX10_weigh_57 rfl ?_
          refine j_iload_n hx 1 dX10_weigh_58 rfl ?_
          refine j_lload_n hx 2 dX10_weigh_59 rfl ?_
          refine j_callV hx hG (c_X10_allWays hst a 5 y2) lk_RX10_100 ha (by decide) rfl rfl rfl rfl [.int (zI 5), .long (zL y2)] ⟨rfl, hG, hS_s2, ha, (by omega), (by omega)⟩ rfl rfl ⟨by decide, by decide⟩ ⟨by decide, by decide⟩ (k2 := 0) (n2 := 0) rfl rfl (Nat.le_of_ble_eq_true rfl) dX10_weigh_60 (kLP (fun v15 q16 => ?_))
          refine j_goto hx 67 dX10_weigh_63 rfl ?_
          refine j_ladd hx dX10_weigh_67 (fun w17 f18 f19 => ?_)
          refine p11_7 hx hG ha kf_RX10_80 dX10_weigh_68 ?_
          obtain ⟨s6, e_s6⟩ : ∃ z, z = zU s2 a 7 w17 := ⟨_, rfl⟩
          rw [← e_s6]
          have hS_s6 : zSK G s6 := by rw [e_s6]; exact zSK_F hS_s2 ha rfl rfl rfl (by omega)
          exact j_vret hx hq rfl (by decide) (by decide) dX10_weigh_71 ⟨rfl, rfl, hS_s6, (zFr_u (zFr_t zFr_rf hF_s2 (by decide)) e_s6 ha (by decide)), trivial⟩
      refine j_icmp_ge hx 43 dX10_weigh_27 rfl ⟨by decide, by decide⟩ (by omega) (fun h20 => ?_) (fun h20 => ?_)
      · skip
        exact j_sub [2, 3, 4, 1] [(0, .ref a), (1, .int (zI 5)), (2, .long (zL y2)), (4, .ref r1)] rfl (c43_1 s0 hS0 zFr_rf)
      · skip
        refine j_aloadN hx 0 dX10_weigh_30 rfl ?_
        refine j_ifnullN hx 43 dX10_weigh_32 rfl ?_
        exact j_sub [2, 3, 4, 1] [(0, .ref a), (1, .int (zI 5)), (2, .long (zL y2)), (4, .ref r1)] rfl (c43_1 s0 hS0 zFr_rf)
    · skip
      refine j_astore hx [(5, .ref r5), (4, .ref r1), (0, .ref a), (1, .int (zI 5)), (2, .long (zL y2))] dX10_weigh_14 (by decide) rfl ?_
      refine j_aload hx 1 dX10_weigh_16 rfl ?_
      refine j_ifnonnull hx 22 dX10_weigh_18 rfl ?_
      refine j_iload_n hx 3 dX10_weigh_22 rfl ?_
      refine j_aload_n hx 2 dX10_weigh_23 rfl ?_
      have f21 := zf hS0 ha (k := 4) rfl
      refine g11_4 hx hG ha kf_RX10_77 rfl dX10_weigh_24 ?_
      have c43_7 : ∀ (s8 : zS), (zSK G s8) → (zFr [1, 7, 41] G s0 s8) → JJ X E 9 G s8 0 0 [(0, .ref a), (1, .int (zI 5)), (2, .long (zL y2)), (4, .ref r1)] 43 [] := by
        intro s8 hS_s8 hF_s8
        refine j_aload_n hx 0 dX10_weigh_43 rfl ?_
        refine j_dup hx dX10_weigh_44 rfl ?_
        have f22 := zf hS0 ha (k := 7) rfl
        refine g11_7 hx hG ha kf_RX10_80 (v := (s0 a 7)) (by rw [(zFr_g hF_s8 ha (by decide))]) dX10_weigh_45 ?_
        refine j_aload_n hx 0 dX10_weigh_48 rfl ?_
        refine j_aload hx 3 dX10_weigh_49 rfl ?_
        refine j_callV hx hG (c_X10_leads hst a r1) lk_RX10_96 ha (by decide) rfl rfl rfl rfl [.ref r1] ⟨rfl, hG, hS_s8, ha, q2.1⟩ rfl rfl ⟨by decide, by decide⟩ ⟨by decide, by decide⟩ (k2 := 0) (n2 := 0) rfl rfl (Nat.le_of_ble_eq_true rfl) dX10_weigh_51 (kIP (fun v23 q24 => ?_))
        refine j_if_eq hx 66 dX10_weigh_54 rfl (by omega) (fun h25 => ?_) (fun h25 => ?_)
        · skip
          refine j_lconst hx dX10_weigh_66 ?_
          show JJ X E 9 G s8 0 0 [(0, .ref a), (1, .int (zI 5)), (2, .long (zL y2)), (4, .ref r1)] 67 [.long (zL 0), .long (zL ((s0 a 7))), .ref a]
          refine j_ladd hx dX10_weigh_67 (fun w26 f27 f28 => ?_)
          refine p11_7 hx hG ha kf_RX10_80 dX10_weigh_68 ?_
          obtain ⟨s11, e_s11⟩ : ∃ z, z = zU s8 a 7 w26 := ⟨_, rfl⟩
          rw [← e_s11]
          have hS_s11 : zSK G s11 := by rw [e_s11]; exact zSK_F hS_s8 ha rfl rfl rfl (by omega)
          exact j_vret hx hq rfl (by decide) (by decide) dX10_weigh_71 ⟨rfl, rfl, hS_s11, (zFr_u (zFr_t zFr_rf hF_s8 (by decide)) e_s11 ha (by decide)), trivial⟩
        · skip
          refine j_aload_n hx 0 dX10_weigh_57 rfl ?_
          refine j_iload_n hx 1 dX10_weigh_58 rfl ?_
          refine j_lload_n hx 2 dX10_weigh_59 rfl ?_
          refine j_callV hx hG (c_X10_allWays hst a 5 y2) lk_RX10_100 ha (by decide) rfl rfl rfl rfl [.int (zI 5), .long (zL y2)] ⟨rfl, hG, hS_s8, ha, (by omega), (by omega)⟩ rfl rfl ⟨by decide, by decide⟩ ⟨by decide, by decide⟩ (k2 := 0) (n2 := 0) rfl rfl (Nat.le_of_ble_eq_true rfl) dX10_weigh_60 (kLP (fun v29 q30 => ?_))
          refine j_goto hx 67 dX10_weigh_63 rfl ?_
          refine j_ladd hx dX10_weigh_67 (fun w31 f32 f33 => ?_)
          refine p11_7 hx hG ha kf_RX10_80 dX10_weigh_68 ?_
          obtain ⟨s12, e_s12⟩ : ∃ z, z = zU s8 a 7 w31 := ⟨_, rfl⟩
          rw [← e_s12]
          have hS_s12 : zSK G s12 := by rw [e_s12]; exact zSK_F hS_s8 ha rfl rfl rfl (by omega)
          exact j_vret hx hq rfl (by decide) (by decide) dX10_weigh_71 ⟨rfl, rfl, hS_s12, (zFr_u (zFr_t zFr_rf hF_s8 (by decide)) e_s12 ha (by decide)), trivial⟩
      refine j_icmp_ge hx 43 dX10_weigh_27 rfl ⟨by decide, by decide⟩ (by omega) (fun h34 => ?_) (fun h34 => ?_)
      · skip
        exact j_sub [2, 3, 4, 1] [(0, .ref a), (1, .int (zI 5)), (2, .long (zL y2)), (4, .ref r1)] rfl (c43_7 s0 hS0 zFr_rf)
      · skip
        refine j_aload hx 0 dX10_weigh_30 rfl ?_
        refine j_ifnull hx dX10_weigh_32 ?_
        refine j_aload hx 1 dX10_weigh_35 rfl ?_
        refine j_callV hx hG (c_X0_step hst r1) lk_RX10_33 q2.1 (by decide) rfl rfl rfl rfl [] ⟨rfl, hG, hS0, q2.1⟩ rfl rfl ⟨by decide, by decide⟩ ⟨by decide, by decide⟩ (k2 := 0) (n2 := 0) rfl rfl (Nat.le_of_ble_eq_true rfl) dX10_weigh_37 (kIM (fun v35 s13 hS_s13 hF_s13 q36 => ?_))
        refine j_if_ne hx 72 dX10_weigh_40 rfl (by omega) (fun h37 => ?_) (fun h37 => ?_)
        · skip
          refine j_aload hx 1 dX10_weigh_72 rfl ?_
          refine j_callV hx hG (c_X0_likeTops hst r1) lk_RX10_37 q2.1 (by decide) rfl rfl rfl rfl [] ⟨rfl, hG, hS_s13, q2.1⟩ rfl rfl ⟨by decide, by decide⟩ ⟨by decide, by decide⟩ (k2 := 0) (n2 := 0) rfl rfl (Nat.le_of_ble_eq_true rfl) dX10_weigh_74 (kIP (fun v38 q39 => ?_))
          refine j_istore hx [(6, .int (zI v38)), (5, .ref r5), (4, .ref r1), (0, .ref a), (1, .int (zI 5)), (2, .long (zL y2))] dX10_weigh_77 (by decide) rfl ?_
          refine j_iconst hx dX10_weigh_79 ?_
          refine j_istore hx [(7, .int (zI 0)), (6, .int (zI v38)), (5, .ref r5), (4, .ref r1), (0, .ref a), (1, .int (zI 5)), (2, .long (zL y2))] dX10_weigh_80 (by decide) rfl ?_
          refine j_iconst hx dX10_weigh_82 ?_
          refine j_istore hx [(8, .int (zI 0)), (7, .int (zI 0)), (6, .int (zI v38)), (5, .ref r5), (4, .ref r1), (0, .ref a), (1, .int (zI 5)), (2, .long (zL y2))] dX10_weigh_83 (by decide) rfl ?_
          have c85_14 : ∀ (m_c85_14 : Nat) (v40 : Int) (v41 : Int) (s15 : zS), 2147483648 - v41 < m_c85_14 → ((-2147483648) ≤ v40 ∧ v40 ≤ 2147483647) → (0 ≤ v41 ∧ v41 ≤ 3) → (zSK G s15) → (zFr [1, 7, 11, 41] G s13 s15) → JJ X E 9 G s15 0 0 [(0, .ref a), (1, .int (zI 5)), (2, .long (zL y2)), (4, .ref r1), (5, .ref r5), (6, .int (zI v38)), (7, .int (zI v40)), (8, .int (zI v41))] 85 [] := by
            intro m_c85_14
            induction m_c85_14 with
            | zero => intro v40 v41 s15 hm_c85_14 fA16 fA17 hS_s15 hF_s15; exfalso; omega
            | succ m_c85_14 ih_c85_14 => 
              intro v40 v41 s15 hm_c85_14 fA16 fA17 hS_s15 hF_s15
              refine j_iload hx 7 dX10_weigh_85 rfl ?_
              refine j_aload_n hx 0 dX10_weigh_87 rfl ?_
              refine g11_0 hx hG ha kf_RX10_17 dX10_weigh_88 ?_
              have f42 := zf hS0 (zr (k := 0) (t2 := 9) hG ha rfl) (k := 4) rfl
              refine gN9_4 hx hG (zr (k := 0) (t2 := 9) hG ha rfl) kf_RX10_104 (v := (s0 (gP G a 0) 4)) (by rw [(zFr_g hF_s15 (zr (k := 0) (t2 := 9) hG ha rfl) (by decide)), (zFr_g hF_s13 (zr (k := 0) (t2 := 9) hG ha rfl) (by decide))]) dX10_weigh_91 ?_
              refine j_icmp_ge hx 178 dX10_weigh_94 rfl (by omega) (by omega) (fun h43 => ?_) (fun h43 => ?_)
              · skip
                refine j_iload hx 6 dX10_weigh_178 rfl ?_
                refine j_if_le hx 202 dX10_weigh_180 rfl (by omega) (fun h44 => ?_) (fun h44 => ?_)
                · skip
                  exact j_vret hx hq rfl (by decide) (by decide) dX10_weigh_202 ⟨rfl, rfl, hS_s15, (zFr_t (zFr_t zFr_rf hF_s13 (by decide)) hF_s15 (by decide)), trivial⟩
                · skip
                  refine j_aload hx 4 dX10_weigh_183 rfl ?_
                  refine j_aload hx 3 dX10_weigh_185 rfl ?_
                  refine j_callV hx hG (c_X0_become hst r5 r1) lk_RX10_26 q6.1 (by decide) rfl rfl rfl rfl [.ref r1] ⟨rfl, hG, hS_s15, q6.1, q2.1⟩ rfl rfl ⟨by decide, by decide⟩ ⟨by decide, by decide⟩ (k2 := 0) (n2 := 0) rfl rfl (Nat.le_of_ble_eq_true rfl) dX10_weigh_187 (kVM (fun s20 hS_s20 hF_s20 q46 => ?_))
                  refine j_aload_n hx 0 dX10_weigh_190 rfl ?_
                  refine j_iload_n hx 1 dX10_weigh_191 rfl ?_
                  refine j_iconst hx dX10_weigh_192 ?_
                  refine j_iadd hx (r := 6) dX10_weigh_193 (by omega) ?_
                  refine j_lload_n hx 2 dX10_weigh_194 rfl ?_
                  refine j_iload hx 6 dX10_weigh_195 rfl ?_
                  refine j_i2l hx dX10_weigh_197 (by omega) ?_
                  refine j_lmul hx dX10_weigh_198 (fun w47 f48 f49 => ?_)
                  refine j_callV hx hG (c_X10_weigh_6 hst a 6 w47) lk_RX10_92 ha (by decide) rfl rfl rfl rfl [.int (zI 6), .long (zL w47)] ⟨rfl, hG, hS_s20, ha, (by omega), (by omega)⟩ rfl rfl ⟨by decide, by decide⟩ ⟨by decide, by decide⟩ (k2 := 0) (n2 := 0) rfl rfl (Nat.le_of_ble_eq_true rfl) dX10_weigh_199 (kVM (fun s21 hS_s21 hF_s21 q51 => ?_))
                  exact j_vret hx hq rfl (by decide) (by decide) dX10_weigh_202 ⟨rfl, rfl, hS_s21, (zFr_t (zFr_t (zFr_t (zFr_t zFr_rf hF_s13 (by decide)) hF_s15 (by decide)) hF_s20 (by decide)) hF_s21 (by decide)), trivial⟩
              · skip
                refine j_iload hx 5 dX10_weigh_97 rfl ?_
                refine j_iconst hx dX10_weigh_99 ?_
                have c172_22 : ∀ (v52 : Int) (s23 : zS), ((-2147483648) ≤ v52 ∧ v52 ≤ 2147483647) → (zSK G s23) → (zFr [1, 7, 11, 41] G s15 s23) → JJ X E 9 G s23 0 0 [(0, .ref a), (1, .int (zI 5)), (2, .long (zL y2)), (4, .ref r1), (5, .ref r5), (6, .int (zI v38)), (7, .int (zI v52)), (8, .int (zI v41))] 172 [] := by
                  intro v52 s23 fA24 hS_s23 hF_s23
                  refine j_iinc hx 7 [(8, .int (zI (v41 + 1))), (0, .ref a), (1, .int (zI 5)), (2, .long (zL y2)), (4, .ref r1), (5, .ref r5), (6, .int (zI v38)), (7, .int (zI v52))] dX10_weigh_172 rfl (by omega) (by decide) rfl ?_
                  refine j_goto hx 85 dX10_weigh_175 rfl ?_
                  exact j_sub [1, 2, 3, 4, 5, 6, 7, 0] [(0, .ref a), (1, .int (zI 5)), (2, .long (zL y2)), (4, .ref r1), (5, .ref r5), (6, .int (zI v38)), (7, .int (zI v52)), (8, .int (zI (v41 + 1)))] rfl (ih_c85_14 v52 (v41 + 1) s23 (by omega) (by omega) (by omega) hS_s23 (zFr_t (zFr_t zFr_rf hF_s15 (by decide)) hF_s23 (by decide)))
                have c113_27 : JJ X E 9 G s15 0 0 [(0, .ref a), (1, .int (zI 5)), (2, .long (zL y2)), (4, .ref r1), (5, .ref r5), (6, .int (zI v38)), (7, .int (zI v40)), (8, .int (zI v41))] 113 [] := by
                  refine j_iload hx 6 dX10_weigh_113 rfl ?_
                  refine j_aload_n hx 0 dX10_weigh_115 rfl ?_
                  refine g11_0 hx hG ha kf_RX10_17 dX10_weigh_116 ?_
                  refine j_iload hx 7 dX10_weigh_119 rfl ?_
                  refine j_iconst hx dX10_weigh_121 ?_
                  refine j_callV hx hG (c_X8_trait hst (gP G a 0) v41 0) lk_RX10_107 (zr (k := 0) (t2 := 9) hG ha rfl) (by decide) rfl rfl rfl rfl [.int (zI v41), .int (zI 0)] ⟨rfl, hG, hS_s15, (zr (k := 0) (t2 := 9) hG ha rfl), (by omega), (by omega)⟩ rfl rfl ⟨by decide, by decide⟩ ⟨by decide, by decide⟩ (k2 := 0) (n2 := 0) rfl rfl (Nat.le_of_ble_eq_true rfl) dX10_weigh_122 (kIP (fun v53 q54 => ?_))
                  refine j_iadd hx (r := v40 + v53) dX10_weigh_125 rfl ?_
                  refine j_norm (fun v55 f56 f57 f58 => ?_)
                  refine j_istore hx [(7, .int (zI v55)), (0, .ref a), (1, .int (zI 5)), (2, .long (zL y2)), (4, .ref r1), (5, .ref r5), (6, .int (zI v38)), (8, .int (zI v41))] dX10_weigh_126 (by decide) rfl ?_
                  refine j_goto hx 172 dX10_weigh_128 rfl ?_
                  exact j_sub [1, 2, 3, 4, 5, 6, 0, 7] [(0, .ref a), (1, .int (zI 5)), (2, .long (zL y2)), (4, .ref r1), (5, .ref r5), (6, .int (zI v38)), (7, .int (zI v55)), (8, .int (zI v41))] rfl (c172_22 v55 s15 (by omega) hS_s15 zFr_rf)
                refine j_icmp_eq hx 113 dX10_weigh_100 rfl (by omega) ⟨by decide, by decide⟩ (fun h59 => ?_) (fun h59 => ?_)
                · skip
                  exact j_sub [0, 1, 2, 3, 4, 5, 6, 7] [(0, .ref a), (1, .int (zI 5)), (2, .long (zL y2)), (4, .ref r1), (5, .ref r5), (6, .int (zI v38)), (7, .int (zI v40)), (8, .int (zI v41))] rfl (c113_27  )
                · skip
                  refine j_aload hx 3 dX10_weigh_103 rfl ?_
                  refine j_iload hx 7 dX10_weigh_105 rfl ?_
                  refine j_callV hx hG (c_X0_isOut hst r1 v41) lk_RX10_73 q2.1 (by decide) rfl rfl rfl rfl [.int (zI v41)] ⟨rfl, hG, hS_s15, q2.1, (by omega)⟩ rfl rfl ⟨by decide, by decide⟩ ⟨by decide, by decide⟩ (k2 := 0) (n2 := 0) rfl rfl (Nat.le_of_ble_eq_true rfl) dX10_weigh_107 (kIP (fun v60 q61 => ?_))
                  refine j_if_eq hx 131 dX10_weigh_110 rfl (by omega) (fun h62 => ?_) (fun h62 => ?_)
                  · skip
                    refine j_aload hx 4 dX10_weigh_131 rfl ?_
                    refine j_aload hx 3 dX10_weigh_133 rfl ?_
                    refine j_callV hx hG (c_X0_become hst r5 r1) lk_RX10_26 q6.1 (by decide) rfl rfl rfl rfl [.ref r1] ⟨rfl, hG, hS_s15, q6.1, q2.1⟩ rfl rfl ⟨by decide, by decide⟩ ⟨by decide, by decide⟩ (k2 := 0) (n2 := 0) rfl rfl (Nat.le_of_ble_eq_true rfl) dX10_weigh_135 (kVM (fun s28 hS_s28 hF_s28 q64 => ?_))
                    refine j_aload hx 4 dX10_weigh_138 rfl ?_
                    refine j_iload hx 7 dX10_weigh_140 rfl ?_
                    refine j_iload hx 5 dX10_weigh_142 rfl ?_
                    refine j_aload_n hx 0 dX10_weigh_144 rfl ?_
                    have f65 := zf hS_s15 ha (k := 3) rfl
                    refine g11_3 hx hG ha kf_RX10_45 (v := (s15 a 3)) (by rw [(zFr_g hF_s28 ha (by decide))]) dX10_weigh_145 ?_
                    refine j_callV hx hG (c_X0_win hst r5 v41 v38 ((s15 a 3))) lk_RX10_69 q6.1 (by decide) rfl rfl rfl rfl [.int (zI v41), .int (zI v38), .int (zI ((s15 a 3)))] ⟨rfl, hG, hS_s28, q6.1, (by omega), (by omega), (by omega)⟩ rfl rfl ⟨by decide, by decide⟩ ⟨by decide, by decide⟩ (k2 := 0) (n2 := 0) rfl rfl (Nat.le_of_ble_eq_true rfl) dX10_weigh_148 (kIM (fun v66 s29 hS_s29 hF_s29 q67 => ?_))
                    refine j_pop hx dX10_weigh_151 rfl ?_
                    refine j_aload_n hx 0 dX10_weigh_152 rfl ?_
                    refine j_iload_n hx 1 dX10_weigh_153 rfl ?_
                    refine j_iconst hx dX10_weigh_154 ?_
                    refine j_iadd hx (r := 6) dX10_weigh_155 (by omega) ?_
                    refine j_lload_n hx 2 dX10_weigh_156 rfl ?_
                    refine j_aload_n hx 0 dX10_weigh_157 rfl ?_
                    refine g11_0 hx hG ha kf_RX10_17 dX10_weigh_158 ?_
                    refine j_iload hx 7 dX10_weigh_161 rfl ?_
                    refine j_iconst hx dX10_weigh_163 ?_
                    refine j_callV hx hG (c_X8_trait hst (gP G a 0) v41 0) lk_RX10_107 (zr (k := 0) (t2 := 9) hG ha rfl) (by decide) rfl rfl rfl rfl [.int (zI v41), .int (zI 0)] ⟨rfl, hG, hS_s29, (zr (k := 0) (t2 := 9) hG ha rfl), (by omega), (by omega)⟩ rfl rfl ⟨by decide, by decide⟩ ⟨by decide, by decide⟩ (k2 := 0) (n2 := 0) rfl rfl (Nat.le_of_ble_eq_true rfl) dX10_weigh_164 (kIP (fun v68 q69 => ?_))
                    refine j_i2l hx dX10_weigh_167 (by omega) ?_
                    refine j_lmul hx dX10_weigh_168 (fun w70 f71 f72 => ?_)
                    refine j_callV hx hG (c_X10_weigh_6 hst a 6 w70) lk_RX10_92 ha (by decide) rfl rfl rfl rfl [.int (zI 6), .long (zL w70)] ⟨rfl, hG, hS_s29, ha, (by omega), (by omega)⟩ rfl rfl ⟨by decide, by decide⟩ ⟨by decide, by decide⟩ (k2 := 0) (n2 := 0) rfl rfl (Nat.le_of_ble_eq_true rfl) dX10_weigh_169 (kVM (fun s30 hS_s30 hF_s30 q74 => ?_))
                    exact j_sub [0, 1, 2, 3, 4, 5, 6, 7] [(0, .ref a), (1, .int (zI 5)), (2, .long (zL y2)), (4, .ref r1), (5, .ref r5), (6, .int (zI v38)), (7, .int (zI v40)), (8, .int (zI v41))] rfl (c172_22 v40 s30 (by omega) hS_s30 (zFr_t (zFr_t (zFr_t zFr_rf hF_s28 (by decide)) hF_s29 (by decide)) hF_s30 (by decide)))
                  · skip
                    exact j_sub [0, 1, 2, 3, 4, 5, 6, 7] [(0, .ref a), (1, .int (zI 5)), (2, .long (zL y2)), (4, .ref r1), (5, .ref r5), (6, .int (zI v38)), (7, .int (zI v40)), (8, .int (zI v41))] rfl (c113_27  )
          exact j_sub [5, 6, 7, 4, 3, 2, 1, 0] [(0, .ref a), (1, .int (zI 5)), (2, .long (zL y2)), (4, .ref r1), (5, .ref r5), (6, .int (zI v38)), (7, .int (zI 0)), (8, .int (zI 0))] rfl (c85_14 (2147483648 * 4) 0 0 s13 (by omega) (by omega) (by omega) hS_s13 zFr_rf)
        · skip
          exact j_sub [2, 3, 4, 1] [(0, .ref a), (1, .int (zI 5)), (2, .long (zL y2)), (4, .ref r1)] rfl (c43_7 s13 hS_s13 (zFr_t zFr_rf hF_s13 (by decide)))

set_option maxHeartbeats 4000000 in
set_option maxRecDepth 20000 in
theorem c_X10_weigh_4 {E : zE} {l : Launch} (hst : l.stackTraces = false) (a : Nat) (x1 : Int) (y2 : Int) : Con E l yX10_weigh cX10_weigh 9 none { frames := 11, cells := 0, slots := 0, locals := 295 } (fun G s vs => vs = [.ref a, .int (zI x1), .long (zL y2)] ∧ zGK G ∧ zSK G s ∧ (gT G a = 11) ∧ (4 ≤ x1 ∧ x1 ≤ 4) ∧ ((-9223372036854775808) ≤ y2 ∧ y2 ≤ 9223372036854775807)) (fun G s _ => pV (fun G2 s2 => G2 = G ∧ zSK G s2 ∧ zFr [1, 7, 11, 41] G s s2 ∧ True)) := by
  refine Con.mk hst (by decide) (fun G s vs h => by rw [h.1]; exact Nat.le_of_ble_eq_true rfl) ?_
  rintro X G s0 vs ⟨rfl, hG, hS0, ha, hx1, hy2⟩ rfl hx hq
  obtain rfl : x1 = 4 := by omega
  show JJ X E 9 G s0 0 0 [(0, .ref a), (1, .int (zI 4)), (2, .long (zL y2))] 0 []
  refine j_aload_n hx 0 dX10_weigh_0 rfl ?_
  refine j_iload_n hx 1 dX10_weigh_1 rfl ?_
  refine j_callV hx hG (c_X10_boardAt hst a 4) lk_RX10_22 ha (by decide) rfl rfl rfl rfl [.int (zI 4)] ⟨rfl, hG, hS0, ha, (by omega)⟩ rfl rfl ⟨by decide, by decide⟩ ⟨by decide, by decide⟩ (k2 := 0) (n2 := 0) rfl rfl (Nat.le_of_ble_eq_true rfl) dX10_weigh_2 (kNP (fun _ => ?_) (fun r1 q2 => ?_))
  · skip
    refine j_astoreN hx [(4, .null), (0, .ref a), (1, .int (zI 4)), (2, .long (zL y2))] dX10_weigh_5 (by decide) rfl ?_
    refine j_aload_n hx 1 dX10_weigh_7 rfl ?_
    refine j_iload_n hx 2 dX10_weigh_8 rfl ?_
    refine j_iconst hx dX10_weigh_9 ?_
    refine j_iadd hx (r := 5) dX10_weigh_10 (by omega) ?_
    refine j_callV hx hG (c_X10_boardAt hst a 5) lk_RX10_22 ha (by decide) rfl rfl rfl rfl [.int (zI 5)] ⟨rfl, hG, hS0, ha, (by omega)⟩ rfl rfl ⟨by decide, by decide⟩ ⟨by decide, by decide⟩ (k2 := 0) (n2 := 0) rfl rfl (Nat.le_of_ble_eq_true rfl) dX10_weigh_11 (kNP (fun _ => ?_) (fun r3 q4 => ?_))
    · skip
      refine j_astoreN hx [(5, .null), (4, .null), (0, .ref a), (1, .int (zI 4)), (2, .long (zL y2))] dX10_weigh_14 (by decide) rfl ?_
      refine j_aloadN hx 1 dX10_weigh_16 rfl ?_
      refine j_ifnonnullN hx dX10_weigh_18 ?_
      exact j_vret hx hq rfl (by decide) (by decide) dX10_weigh_21 ⟨rfl, rfl, hS0, zFr_rf, trivial⟩
    · skip
      refine j_astore hx [(5, .ref r3), (4, .null), (0, .ref a), (1, .int (zI 4)), (2, .long (zL y2))] dX10_weigh_14 (by decide) rfl ?_
      refine j_aloadN hx 1 dX10_weigh_16 rfl ?_
      refine j_ifnonnullN hx dX10_weigh_18 ?_
      exact j_vret hx hq rfl (by decide) (by decide) dX10_weigh_21 ⟨rfl, rfl, hS0, zFr_rf, trivial⟩
  · skip
    refine j_astore hx [(4, .ref r1), (0, .ref a), (1, .int (zI 4)), (2, .long (zL y2))] dX10_weigh_5 (by decide) rfl ?_
    refine j_aload_n hx 1 dX10_weigh_7 rfl ?_
    refine j_iload_n hx 2 dX10_weigh_8 rfl ?_
    refine j_iconst hx dX10_weigh_9 ?_
    refine j_iadd hx (r := 5) dX10_weigh_10 (by omega) ?_
    refine j_callV hx hG (c_X10_boardAt hst a 5) lk_RX10_22 ha (by decide) rfl rfl rfl rfl [.int (zI 5)] ⟨rfl, hG, hS0, ha, (by omega)⟩ rfl rfl ⟨by decide, by decide⟩ ⟨by decide, by decide⟩ (k2 := 0) (n2 := 0) rfl rfl (Nat.le_of_ble_eq_true rfl) dX10_weigh_11 (kNP (fun _ => ?_) (fun r5 q6 => ?_))
    · skip
      refine j_astoreN hx [(5, .null), (4, .ref r1), (0, .ref a), (1, .int (zI 4)), (2, .long (zL y2))] dX10_weigh_14 (by decide) rfl ?_
      refine j_aload hx 1 dX10_weigh_16 rfl ?_
      refine j_ifnonnull hx 22 dX10_weigh_18 rfl ?_
      refine j_iload_n hx 3 dX10_weigh_22 rfl ?_
      refine j_aload_n hx 2 dX10_weigh_23 rfl ?_
      have f7 := zf hS0 ha (k := 4) rfl
      refine g11_4 hx hG ha kf_RX10_77 rfl dX10_weigh_24 ?_
      have c43_1 : ∀ (s2 : zS), (zSK G s2) → (zFr [1, 7, 41] G s0 s2) → JJ X E 9 G s2 0 0 [(0, .ref a), (1, .int (zI 4)), (2, .long (zL y2)), (4, .ref r1)] 43 [] := by
        intro s2 hS_s2 hF_s2
        refine j_aload_n hx 0 dX10_weigh_43 rfl ?_
        refine j_dup hx dX10_weigh_44 rfl ?_
        have f8 := zf hS0 ha (k := 7) rfl
        refine g11_7 hx hG ha kf_RX10_80 (v := (s0 a 7)) (by rw [(zFr_g hF_s2 ha (by decide))]) dX10_weigh_45 ?_
        refine j_aload_n hx 0 dX10_weigh_48 rfl ?_
        refine j_aload hx 3 dX10_weigh_49 rfl ?_
        refine j_callV hx hG (c_X10_leads hst a r1) lk_RX10_96 ha (by decide) rfl rfl rfl rfl [.ref r1] ⟨rfl, hG, hS_s2, ha, q2.1⟩ rfl rfl ⟨by decide, by decide⟩ ⟨by decide, by decide⟩ (k2 := 0) (n2 := 0) rfl rfl (Nat.le_of_ble_eq_true rfl) dX10_weigh_51 (kIP (fun v9 q10 => ?_))
        refine j_if_eq hx 66 dX10_weigh_54 rfl (by omega) (fun h11 => ?_) (fun h11 => ?_)
        · skip
          refine j_lconst hx dX10_weigh_66 ?_
          show JJ X E 9 G s2 0 0 [(0, .ref a), (1, .int (zI 4)), (2, .long (zL y2)), (4, .ref r1)] 67 [.long (zL 0), .long (zL ((s0 a 7))), .ref a]
          refine j_ladd hx dX10_weigh_67 (fun w12 f13 f14 => ?_)
          refine p11_7 hx hG ha kf_RX10_80 dX10_weigh_68 ?_
          obtain ⟨s5, e_s5⟩ : ∃ z, z = zU s2 a 7 w12 := ⟨_, rfl⟩
          rw [← e_s5]
          have hS_s5 : zSK G s5 := by rw [e_s5]; exact zSK_F hS_s2 ha rfl rfl rfl (by omega)
          exact j_vret hx hq rfl (by decide) (by decide) dX10_weigh_71 ⟨rfl, rfl, hS_s5, (zFr_u (zFr_t zFr_rf hF_s2 (by decide)) e_s5 ha (by decide)), trivial⟩
        · skip
          refine j_aload_n hx 0 dX10_weigh_57 rfl ?_
          refine j_iload_n hx 1 dX10_weigh_58 rfl ?_
          refine j_lload_n hx 2 dX10_weigh_59 rfl ?_
          refine j_callV hx hG (c_X10_allWays hst a 4 y2) lk_RX10_100 ha (by decide) rfl rfl rfl rfl [.int (zI 4), .long (zL y2)] ⟨rfl, hG, hS_s2, ha, (by omega), (by omega)⟩ rfl rfl ⟨by decide, by decide⟩ ⟨by decide, by decide⟩ (k2 := 0) (n2 := 0) rfl rfl (Nat.le_of_ble_eq_true rfl) dX10_weigh_60 (kLP (fun v15 q16 => ?_))
          refine j_goto hx 67 dX10_weigh_63 rfl ?_
          refine j_ladd hx dX10_weigh_67 (fun w17 f18 f19 => ?_)
          refine p11_7 hx hG ha kf_RX10_80 dX10_weigh_68 ?_
          obtain ⟨s6, e_s6⟩ : ∃ z, z = zU s2 a 7 w17 := ⟨_, rfl⟩
          rw [← e_s6]
          have hS_s6 : zSK G s6 := by rw [e_s6]; exact zSK_F hS_s2 ha rfl rfl rfl (by omega)
          exact j_vret hx hq rfl (by decide) (by decide) dX10_weigh_71 ⟨rfl, rfl, hS_s6, (zFr_u (zFr_t zFr_rf hF_s2 (by decide)) e_s6 ha (by decide)), trivial⟩
      refine j_icmp_ge hx 43 dX10_weigh_27 rfl ⟨by decide, by decide⟩ (by omega) (fun h20 => ?_) (fun h20 => ?_)
      · skip
        exact j_sub [2, 3, 4, 1] [(0, .ref a), (1, .int (zI 4)), (2, .long (zL y2)), (4, .ref r1)] rfl (c43_1 s0 hS0 zFr_rf)
      · skip
        refine j_aloadN hx 0 dX10_weigh_30 rfl ?_
        refine j_ifnullN hx 43 dX10_weigh_32 rfl ?_
        exact j_sub [2, 3, 4, 1] [(0, .ref a), (1, .int (zI 4)), (2, .long (zL y2)), (4, .ref r1)] rfl (c43_1 s0 hS0 zFr_rf)
    · skip
      refine j_astore hx [(5, .ref r5), (4, .ref r1), (0, .ref a), (1, .int (zI 4)), (2, .long (zL y2))] dX10_weigh_14 (by decide) rfl ?_
      refine j_aload hx 1 dX10_weigh_16 rfl ?_
      refine j_ifnonnull hx 22 dX10_weigh_18 rfl ?_
      refine j_iload_n hx 3 dX10_weigh_22 rfl ?_
      refine j_aload_n hx 2 dX10_weigh_23 rfl ?_
      have f21 := zf hS0 ha (k := 4) rfl
      refine g11_4 hx hG ha kf_RX10_77 rfl dX10_weigh_24 ?_
      have c43_7 : ∀ (s8 : zS), (zSK G s8) → (zFr [1, 7, 41] G s0 s8) → JJ X E 9 G s8 0 0 [(0, .ref a), (1, .int (zI 4)), (2, .long (zL y2)), (4, .ref r1)] 43 [] := by
        intro s8 hS_s8 hF_s8
        refine j_aload_n hx 0 dX10_weigh_43 rfl ?_
        refine j_dup hx dX10_weigh_44 rfl ?_
        have f22 := zf hS0 ha (k := 7) rfl
        refine g11_7 hx hG ha kf_RX10_80 (v := (s0 a 7)) (by rw [(zFr_g hF_s8 ha (by decide))]) dX10_weigh_45 ?_
        refine j_aload_n hx 0 dX10_weigh_48 rfl ?_
        refine j_aload hx 3 dX10_weigh_49 rfl ?_
        refine j_callV hx hG (c_X10_leads hst a r1) lk_RX10_96 ha (by decide) rfl rfl rfl rfl [.ref r1] ⟨rfl, hG, hS_s8, ha, q2.1⟩ rfl rfl ⟨by decide, by decide⟩ ⟨by decide, by decide⟩ (k2 := 0) (n2 := 0) rfl rfl (Nat.le_of_ble_eq_true rfl) dX10_weigh_51 (kIP (fun v23 q24 => ?_))
        refine j_if_eq hx 66 dX10_weigh_54 rfl (by omega) (fun h25 => ?_) (fun h25 => ?_)
        · skip
          refine j_lconst hx dX10_weigh_66 ?_
          show JJ X E 9 G s8 0 0 [(0, .ref a), (1, .int (zI 4)), (2, .long (zL y2)), (4, .ref r1)] 67 [.long (zL 0), .long (zL ((s0 a 7))), .ref a]
          refine j_ladd hx dX10_weigh_67 (fun w26 f27 f28 => ?_)
          refine p11_7 hx hG ha kf_RX10_80 dX10_weigh_68 ?_
          obtain ⟨s11, e_s11⟩ : ∃ z, z = zU s8 a 7 w26 := ⟨_, rfl⟩
          rw [← e_s11]
          have hS_s11 : zSK G s11 := by rw [e_s11]; exact zSK_F hS_s8 ha rfl rfl rfl (by omega)
          exact j_vret hx hq rfl (by decide) (by decide) dX10_weigh_71 ⟨rfl, rfl, hS_s11, (zFr_u (zFr_t zFr_rf hF_s8 (by decide)) e_s11 ha (by decide)), trivial⟩
        · skip
          refine j_aload_n hx 0 dX10_weigh_57 rfl ?_
          refine j_iload_n hx 1 dX10_weigh_58 rfl ?_
          refine j_lload_n hx 2 dX10_weigh_59 rfl ?_
          refine j_callV hx hG (c_X10_allWays hst a 4 y2) lk_RX10_100 ha (by decide) rfl rfl rfl rfl [.int (zI 4), .long (zL y2)] ⟨rfl, hG, hS_s8, ha, (by omega), (by omega)⟩ rfl rfl ⟨by decide, by decide⟩ ⟨by decide, by decide⟩ (k2 := 0) (n2 := 0) rfl rfl (Nat.le_of_ble_eq_true rfl) dX10_weigh_60 (kLP (fun v29 q30 => ?_))
          refine j_goto hx 67 dX10_weigh_63 rfl ?_
          refine j_ladd hx dX10_weigh_67 (fun w31 f32 f33 => ?_)
          refine p11_7 hx hG ha kf_RX10_80 dX10_weigh_68 ?_
          obtain ⟨s12, e_s12⟩ : ∃ z, z = zU s8 a 7 w31 := ⟨_, rfl⟩
          rw [← e_s12]
          have hS_s12 : zSK G s12 := by rw [e_s12]; exact zSK_F hS_s8 ha rfl rfl rfl (by omega)
          exact j_vret hx hq rfl (by decide) (by decide) dX10_weigh_71 ⟨rfl, rfl, hS_s12, (zFr_u (zFr_t zFr_rf hF_s8 (by decide)) e_s12 ha (by decide)), trivial⟩
      refine j_icmp_ge hx 43 dX10_weigh_27 rfl ⟨by decide, by decide⟩ (by omega) (fun h34 => ?_) (fun h34 => ?_)
      · skip
        exact j_sub [2, 3, 4, 1] [(0, .ref a), (1, .int (zI 4)), (2, .long (zL y2)), (4, .ref r1)] rfl (c43_7 s0 hS0 zFr_rf)
      · skip
        refine j_aload hx 0 dX10_weigh_30 rfl ?_
        refine j_ifnull hx dX10_weigh_32 ?_
        refine j_aload hx 1 dX10_weigh_35 rfl ?_
        refine j_callV hx hG (c_X0_step hst r1) lk_RX10_33 q2.1 (by decide) rfl rfl rfl rfl [] ⟨rfl, hG, hS0, q2.1⟩ rfl rfl ⟨by decide, by decide⟩ ⟨by decide, by decide⟩ (k2 := 0) (n2 := 0) rfl rfl (Nat.le_of_ble_eq_true rfl) dX10_weigh_37 (kIM (fun v35 s13 hS_s13 hF_s13 q36 => ?_))
        refine j_if_ne hx 72 dX10_weigh_40 rfl (by omega) (fun h37 => ?_) (fun h37 => ?_)
        · skip
          refine j_aload hx 1 dX10_weigh_72 rfl ?_
          refine j_callV hx hG (c_X0_likeTops hst r1) lk_RX10_37 q2.1 (by decide) rfl rfl rfl rfl [] ⟨rfl, hG, hS_s13, q2.1⟩ rfl rfl ⟨by decide, by decide⟩ ⟨by decide, by decide⟩ (k2 := 0) (n2 := 0) rfl rfl (Nat.le_of_ble_eq_true rfl) dX10_weigh_74 (kIP (fun v38 q39 => ?_))
          refine j_istore hx [(6, .int (zI v38)), (5, .ref r5), (4, .ref r1), (0, .ref a), (1, .int (zI 4)), (2, .long (zL y2))] dX10_weigh_77 (by decide) rfl ?_
          refine j_iconst hx dX10_weigh_79 ?_
          refine j_istore hx [(7, .int (zI 0)), (6, .int (zI v38)), (5, .ref r5), (4, .ref r1), (0, .ref a), (1, .int (zI 4)), (2, .long (zL y2))] dX10_weigh_80 (by decide) rfl ?_
          refine j_iconst hx dX10_weigh_82 ?_
          refine j_istore hx [(8, .int (zI 0)), (7, .int (zI 0)), (6, .int (zI v38)), (5, .ref r5), (4, .ref r1), (0, .ref a), (1, .int (zI 4)), (2, .long (zL y2))] dX10_weigh_83 (by decide) rfl ?_
          have c85_14 : ∀ (m_c85_14 : Nat) (v40 : Int) (v41 : Int) (s15 : zS), 2147483648 - v41 < m_c85_14 → ((-2147483648) ≤ v40 ∧ v40 ≤ 2147483647) → (0 ≤ v41 ∧ v41 ≤ 3) → (zSK G s15) → (zFr [1, 7, 11, 41] G s13 s15) → JJ X E 9 G s15 0 0 [(0, .ref a), (1, .int (zI 4)), (2, .long (zL y2)), (4, .ref r1), (5, .ref r5), (6, .int (zI v38)), (7, .int (zI v40)), (8, .int (zI v41))] 85 [] := by
            intro m_c85_14
            induction m_c85_14 with
            | zero => intro v40 v41 s15 hm_c85_14 fA16 fA17 hS_s15 hF_s15; exfalso; omega
            | succ m_c85_14 ih_c85_14 => 
              intro v40 v41 s15 hm_c85_14 fA16 fA17 hS_s15 hF_s15
              refine j_iload hx 7 dX10_weigh_85 rfl ?_
              refine j_aload_n hx 0 dX10_weigh_87 rfl ?_
              refine g11_0 hx hG ha kf_RX10_17 dX10_weigh_88 ?_
              have f42 := zf hS0 (zr (k := 0) (t2 := 9) hG ha rfl) (k := 4) rfl
              refine gN9_4 hx hG (zr (k := 0) (t2 := 9) hG ha rfl) kf_RX10_104 (v := (s0 (gP G a 0) 4)) (by rw [(zFr_g hF_s15 (zr (k := 0) (t2 := 9) hG ha rfl) (by decide)), (zFr_g hF_s13 (zr (k := 0) (t2 := 9) hG ha rfl) (by decide))]) dX10_weigh_91 ?_
              refine j_icmp_ge hx 178 dX10_weigh_94 rfl (by omega) (by omega) (fun h43 => ?_) (fun h43 => ?_)
              · skip
                refine j_iload hx 6 dX10_weigh_178 rfl ?_
                refine j_if_le hx 202 dX10_weigh_180 rfl (by omega) (fun h44 => ?_) (fun h44 => ?_)
                · skip
                  exact j_vret hx hq rfl (by decide) (by decide) dX10_weigh_202 ⟨rfl, rfl, hS_s15, (zFr_t (zFr_t zFr_rf hF_s13 (by decide)) hF_s15 (by decide)), trivial⟩
                · skip
                  refine j_aload hx 4 dX10_weigh_183 rfl ?_
                  refine j_aload hx 3 dX10_weigh_185 rfl ?_
                  refine j_callV hx hG (c_X0_become hst r5 r1) lk_RX10_26 q6.1 (by decide) rfl rfl rfl rfl [.ref r1] ⟨rfl, hG, hS_s15, q6.1, q2.1⟩ rfl rfl ⟨by decide, by decide⟩ ⟨by decide, by decide⟩ (k2 := 0) (n2 := 0) rfl rfl (Nat.le_of_ble_eq_true rfl) dX10_weigh_187 (kVM (fun s20 hS_s20 hF_s20 q46 => ?_))
                  refine j_aload_n hx 0 dX10_weigh_190 rfl ?_
                  refine j_iload_n hx 1 dX10_weigh_191 rfl ?_
                  refine j_iconst hx dX10_weigh_192 ?_
                  refine j_iadd hx (r := 5) dX10_weigh_193 (by omega) ?_
                  refine j_lload_n hx 2 dX10_weigh_194 rfl ?_
                  refine j_iload hx 6 dX10_weigh_195 rfl ?_
                  refine j_i2l hx dX10_weigh_197 (by omega) ?_
                  refine j_lmul hx dX10_weigh_198 (fun w47 f48 f49 => ?_)
                  refine j_callV hx hG (c_X10_weigh_5 hst a 5 w47) lk_RX10_92 ha (by decide) rfl rfl rfl rfl [.int (zI 5), .long (zL w47)] ⟨rfl, hG, hS_s20, ha, (by omega), (by omega)⟩ rfl rfl ⟨by decide, by decide⟩ ⟨by decide, by decide⟩ (k2 := 0) (n2 := 0) rfl rfl (Nat.le_of_ble_eq_true rfl) dX10_weigh_199 (kVM (fun s21 hS_s21 hF_s21 q51 => ?_))
                  exact j_vret hx hq rfl (by decide) (by decide) dX10_weigh_202 ⟨rfl, rfl, hS_s21, (zFr_t (zFr_t (zFr_t (zFr_t zFr_rf hF_s13 (by decide)) hF_s15 (by decide)) hF_s20 (by decide)) hF_s21 (by decide)), trivial⟩
              · skip
                refine j_iload hx 5 dX10_weigh_97 rfl ?_
                refine j_iconst hx dX10_weigh_99 ?_
                have c172_22 : ∀ (v52 : Int) (s23 : zS), ((-2147483648) ≤ v52 ∧ v52 ≤ 2147483647) → (zSK G s23) → (zFr [1, 7, 11, 41] G s15 s23) → JJ X E 9 G s23 0 0 [(0, .ref a), (1, .int (zI 4)), (2, .long (zL y2)), (4, .ref r1), (5, .ref r5), (6, .int (zI v38)), (7, .int (zI v52)), (8, .int (zI v41))] 172 [] := by
                  intro v52 s23 fA24 hS_s23 hF_s23
                  refine j_iinc hx 7 [(8, .int (zI (v41 + 1))), (0, .ref a), (1, .int (zI 4)), (2, .long (zL y2)), (4, .ref r1), (5, .ref r5), (6, .int (zI v38)), (7, .int (zI v52))] dX10_weigh_172 rfl (by omega) (by decide) rfl ?_
                  refine j_goto hx 85 dX10_weigh_175 rfl ?_
                  exact j_sub [1, 2, 3, 4, 5, 6, 7, 0] [(0, .ref a), (1, .int (zI 4)), (2, .long (zL y2)), (4, .ref r1), (5, .ref r5), (6, .int (zI v38)), (7, .int (zI v52)), (8, .int (zI (v41 + 1)))] rfl (ih_c85_14 v52 (v41 + 1) s23 (by omega) (by omega) (by omega) hS_s23 (zFr_t (zFr_t zFr_rf hF_s15 (by decide)) hF_s23 (by decide)))
                have c113_27 : JJ X E 9 G s15 0 0 [(0, .ref a), (1, .int (zI 4)), (2, .long (zL y2)), (4, .ref r1), (5, .ref r5), (6, .int (zI v38)), (7, .int (zI v40)), (8, .int (zI v41))] 113 [] := by
                  refine j_iload hx 6 dX10_weigh_113 rfl ?_
                  refine j_aload_n hx 0 dX10_weigh_115 rfl ?_
                  refine g11_0 hx hG ha kf_RX10_17 dX10_weigh_116 ?_
                  refine j_iload hx 7 dX10_weigh_119 rfl ?_
                  refine j_iconst hx dX10_weigh_121 ?_
                  refine j_callV hx hG (c_X8_trait hst (gP G a 0) v41 0) lk_RX10_107 (zr (k := 0) (t2 := 9) hG ha rfl) (by decide) rfl rfl rfl rfl [.int (zI v41), .int (zI 0)] ⟨rfl, hG, hS_s15, (zr (k := 0) (t2 := 9) hG ha rfl), (by omega), (by omega)⟩ rfl rfl ⟨by decide, by decide⟩ ⟨by decide, by decide⟩ (k2 := 0) (n2 := 0) rfl rfl (Nat.le_of_ble_eq_true rfl) dX10_weigh_122 (kIP (fun v53 q54 => ?_))
                  refine j_iadd hx (r := v40 + v53) dX10_weigh_125 rfl ?_
                  refine j_norm (fun v55 f56 f57 f58 => ?_)
                  refine j_istore hx [(7, .int (zI v55)), (0, .ref a), (1, .int (zI 4)), (2, .long (zL y2)), (4, .ref r1), (5, .ref r5), (6, .int (zI v38)), (8, .int (zI v41))] dX10_weigh_126 (by decide) rfl ?_
                  refine j_goto hx 172 dX10_weigh_128 rfl ?_
                  exact j_sub [1, 2, 3, 4, 5, 6, 0, 7] [(0, .ref a), (1, .int (zI 4)), (2, .long (zL y2)), (4, .ref r1), (5, .ref r5), (6, .int (zI v38)), (7, .int (zI v55)), (8, .int (zI v41))] rfl (c172_22 v55 s15 (by omega) hS_s15 zFr_rf)
                refine j_icmp_eq hx 113 dX10_weigh_100 rfl (by omega) ⟨by decide, by decide⟩ (fun h59 => ?_) (fun h59 => ?_)
                · skip
                  exact j_sub [0, 1, 2, 3, 4, 5, 6, 7] [(0, .ref a), (1, .int (zI 4)), (2, .long (zL y2)), (4, .ref r1), (5, .ref r5), (6, .int (zI v38)), (7, .int (zI v40)), (8, .int (zI v41))] rfl (c113_27  )
                · skip
                  refine j_aload hx 3 dX10_weigh_103 rfl ?_
                  refine j_iload hx 7 dX10_weigh_105 rfl ?_
                  refine j_callV hx hG (c_X0_isOut hst r1 v41) lk_RX10_73 q2.1 (by decide) rfl rfl rfl rfl [.int (zI v41)] ⟨rfl, hG, hS_s15, q2.1, (by omega)⟩ rfl rfl ⟨by decide, by decide⟩ ⟨by decide, by decide⟩ (k2 := 0) (n2 := 0) rfl rfl (Nat.le_of_ble_eq_true rfl) dX10_weigh_107 (kIP (fun v60 q61 => ?_))
                  refine j_if_eq hx 131 dX10_weigh_110 rfl (by omega) (fun h62 => ?_) (fun h62 => ?_)
                  · skip
                    refine j_aload hx 4 dX10_weigh_131 rfl ?_
                    refine j_aload hx 3 dX10_weigh_133 rfl ?_
                    refine j_callV hx hG (c_X0_become hst r5 r1) lk_RX10_26 q6.1 (by decide) rfl rfl rfl rfl [.ref r1] ⟨rfl, hG, hS_s15, q6.1, q2.1⟩ rfl rfl ⟨by decide, by decide⟩ ⟨by decide, by decide⟩ (k2 := 0) (n2 := 0) rfl rfl (Nat.le_of_ble_eq_true rfl) dX10_weigh_135 (kVM (fun s28 hS_s28 hF_s28 q64 => ?_))
                    refine j_aload hx 4 dX10_weigh_138 rfl ?_
                    refine j_iload hx 7 dX10_weigh_140 rfl ?_
                    refine j_iload hx 5 dX10_weigh_142 rfl ?_
                    refine j_aload_n hx 0 dX10_weigh_144 rfl ?_
                    have f65 := zf hS_s15 ha (k := 3) rfl
                    refine g11_3 hx hG ha kf_RX10_45 (v := (s15 a 3)) (by rw [(zFr_g hF_s28 ha (by decide))]) dX10_weigh_145 ?_
                    refine j_callV hx hG (c_X0_win hst r5 v41 v38 ((s15 a 3))) lk_RX10_69 q6.1 (by decide) rfl rfl rfl rfl [.int (zI v41), .int (zI v38), .int (zI ((s15 a 3)))] ⟨rfl, hG, hS_s28, q6.1, (by omega), (by omega), (by omega)⟩ rfl rfl ⟨by decide, by decide⟩ ⟨by decide, by decide⟩ (k2 := 0) (n2 := 0) rfl rfl (Nat.le_of_ble_eq_true rfl) dX10_weigh_148 (kIM (fun v66 s29 hS_s29 hF_s29 q67 => ?_))
                    refine j_pop hx dX10_weigh_151 rfl ?_
                    refine j_aload_n hx 0 dX10_weigh_152 rfl ?_
                    refine j_iload_n hx 1 dX10_weigh_153 rfl ?_
                    refine j_iconst hx dX10_weigh_154 ?_
                    refine j_iadd hx (r := 5) dX10_weigh_155 (by omega) ?_
                    refine j_lload_n hx 2 dX10_weigh_156 rfl ?_
                    refine j_aload_n hx 0 dX10_weigh_157 rfl ?_
                    refine g11_0 hx hG ha kf_RX10_17 dX10_weigh_158 ?_
                    refine j_iload hx 7 dX10_weigh_161 rfl ?_
                    refine j_iconst hx dX10_weigh_163 ?_
                    refine j_callV hx hG (c_X8_trait hst (gP G a 0) v41 0) lk_RX10_107 (zr (k := 0) (t2 := 9) hG ha rfl) (by decide) rfl rfl rfl rfl [.int (zI v41), .int (zI 0)] ⟨rfl, hG, hS_s29, (zr (k := 0) (t2 := 9) hG ha rfl), (by omega), (by omega)⟩ rfl rfl ⟨by decide, by decide⟩ ⟨by decide, by decide⟩ (k2 := 0) (n2 := 0) rfl rfl (Nat.le_of_ble_eq_true rfl) dX10_weigh_164 (kIP (fun v68 q69 => ?_))
                    refine j_i2l hx dX10_weigh_167 (by omega) ?_
                    refine j_lmul hx dX10_weigh_168 (fun w70 f71 f72 => ?_)
                    refine j_callV hx hG (c_X10_weigh_5 hst a 5 w70) lk_RX10_92 ha (by decide) rfl rfl rfl rfl [.int (zI 5), .long (zL w70)] ⟨rfl, hG, hS_s29, ha, (by omega), (by omega)⟩ rfl rfl ⟨by decide, by decide⟩ ⟨by decide, by decide⟩ (k2 := 0) (n2 := 0) rfl rfl (Nat.le_of_ble_eq_true rfl) dX10_weigh_169 (kVM (fun s30 hS_s30 hF_s30 q74 => ?_))
                    exact j_sub [0, 1, 2, 3, 4, 5, 6, 7] [(0, .ref a), (1, .int (zI 4)), (2, .long (zL y2)), (4, .ref r1), (5, .ref r5), (6, .int (zI v38)), (7, .int (zI v40)), (8, .int (zI v41))] rfl (c172_22 v40 s30 (by omega) hS_s30 (zFr_t (zFr_t (zFr_t zFr_rf hF_s28 (by decide)) hF_s29 (by decide)) hF_s30 (by decide)))
                  · skip
                    exact j_sub [0, 1, 2, 3, 4, 5, 6, 7] [(0, .ref a), (1, .int (zI 4)), (2, .long (zL y2)), (4, .ref r1), (5, .ref r5), (6, .int (zI v38)), (7, .int (zI v40)), (8, .int (zI v41))] rfl (c113_27  )
          exact j_sub [5, 6, 7, 4, 3, 2, 1, 0] [(0, .ref a), (1, .int (zI 4)), (2, .long (zL y2)), (4, .ref r1), (5, .ref r5), (6, .int (zI v38)), (7, .int (zI 0)), (8, .int (zI 0))] rfl (c85_14 (2147483648 * 4) 0 0 s13 (by omega) (by omega) (by omega) hS_s13 zFr_rf)
        · skip
          exact j_sub [2, 3, 4, 1] [(0, .ref a), (1, .int (zI 4)), (2, .long (zL y2)), (4, .ref r1)] rfl (c43_7 s13 hS_s13 (zFr_t zFr_rf hF_s13 (by decide)))

set_option maxHeartbeats 4000000 in
set_option maxRecDepth 20000 in
theorem c_X10_weigh_3 {E : zE} {l : Launch} (hst : l.stackTraces = false) (a : Nat) (x1 : Int) (y2 : Int) : Con E l yX10_weigh cX10_weigh 9 none { frames := 12, cells := 0, slots := 0, locals := 323 } (fun G s vs => vs = [.ref a, .int (zI x1), .long (zL y2)] ∧ zGK G ∧ zSK G s ∧ (gT G a = 11) ∧ (3 ≤ x1 ∧ x1 ≤ 3) ∧ ((-9223372036854775808) ≤ y2 ∧ y2 ≤ 9223372036854775807)) (fun G s _ => pV (fun G2 s2 => G2 = G ∧ zSK G s2 ∧ zFr [1, 7, 11, 41] G s s2 ∧ True)) := by
  refine Con.mk hst (by decide) (fun G s vs h => by rw [h.1]; exact Nat.le_of_ble_eq_true rfl) ?_
  rintro X G s0 vs ⟨rfl, hG, hS0, ha, hx1, hy2⟩ rfl hx hq
  obtain rfl : x1 = 3 := by omega
  show JJ X E 9 G s0 0 0 [(0, .ref a), (1, .int (zI 3)), (2, .long (zL y2))] 0 []
  refine j_aload_n hx 0 dX10_weigh_0 rfl ?_
  refine j_iload_n hx 1 dX10_weigh_1 rfl ?_
  refine j_callV hx hG (c_X10_boardAt hst a 3) lk_RX10_22 ha (by decide) rfl rfl rfl rfl [.int (zI 3)] ⟨rfl, hG, hS0, ha, (by omega)⟩ rfl rfl ⟨by decide, by decide⟩ ⟨by decide, by decide⟩ (k2 := 0) (n2 := 0) rfl rfl (Nat.le_of_ble_eq_true rfl) dX10_weigh_2 (kNP (fun _ => ?_) (fun r1 q2 => ?_))
  · skip
    refine j_astoreN hx [(4, .null), (0, .ref a), (1, .int (zI 3)), (2, .long (zL y2))] dX10_weigh_5 (by decide) rfl ?_
    refine j_aload_n hx 1 dX10_weigh_7 rfl ?_
    refine j_iload_n hx 2 dX10_weigh_8 rfl ?_
    refine j_iconst hx dX10_weigh_9 ?_
    refine j_iadd hx (r := 4) dX10_weigh_10 (by omega) ?_
    refine j_callV hx hG (c_X10_boardAt hst a 4) lk_RX10_22 ha (by decide) rfl rfl rfl rfl [.int (zI 4)] ⟨rfl, hG, hS0, ha, (by omega)⟩ rfl rfl ⟨by decide, by decide⟩ ⟨by decide, by decide⟩ (k2 := 0) (n2 := 0) rfl rfl (Nat.le_of_ble_eq_true rfl) dX10_weigh_11 (kNP (fun _ => ?_) (fun r3 q4 => ?_))
    · skip
      refine j_astoreN hx [(5, .null), (4, .null), (0, .ref a), (1, .int (zI 3)), (2, .long (zL y2))] dX10_weigh_14 (by decide) rfl ?_
      refine j_aloadN hx 1 dX10_weigh_16 rfl ?_
      refine j_ifnonnullN hx dX10_weigh_18 ?_
      exact j_vret hx hq rfl (by decide) (by decide) dX10_weigh_21 ⟨rfl, rfl, hS0, zFr_rf, trivial⟩
    · skip
      refine j_astore hx [(5, .ref r3), (4, .null), (0, .ref a), (1, .int (zI 3)), (2, .long (zL y2))] dX10_weigh_14 (by decide) rfl ?_
      refine j_aloadN hx 1 dX10_weigh_16 rfl ?_
      refine j_ifnonnullN hx dX10_weigh_18 ?_
      exact j_vret hx hq rfl (by decide) (by decide) dX10_weigh_21 ⟨rfl, rfl, hS0, zFr_rf, trivial⟩
  · skip
    refine j_astore hx [(4, .ref r1), (0, .ref a), (1, .int (zI 3)), (2, .long (zL y2))] dX10_weigh_5 (by decide) rfl ?_
    refine j_aload_n hx 1 dX10_weigh_7 rfl ?_
    refine j_iload_n hx 2 dX10_weigh_8 rfl ?_
    refine j_iconst hx dX10_weigh_9 ?_
    refine j_iadd hx (r := 4) dX10_weigh_10 (by omega) ?_
    refine j_callV hx hG (c_X10_boardAt hst a 4) lk_RX10_22 ha (by decide) rfl rfl rfl rfl [.int (zI 4)] ⟨rfl, hG, hS0, ha, (by omega)⟩ rfl rfl ⟨by decide, by decide⟩ ⟨by decide, by decide⟩ (k2 := 0) (n2 := 0) rfl rfl (Nat.le_of_ble_eq_true rfl) dX10_weigh_11 (kNP (fun _ => ?_) (fun r5 q6 => ?_))
    · skip
      refine j_astoreN hx [(5, .null), (4, .ref r1), (0, .ref a), (1, .int (zI 3)), (2, .long (zL y2))] dX10_weigh_14 (by decide) rfl ?_
      refine j_aload hx 1 dX10_weigh_16 rfl ?_
      refine j_ifnonnull hx 22 dX10_weigh_18 rfl ?_
      refine j_iload_n hx 3 dX10_weigh_22 rfl ?_
      refine j_aload_n hx 2 dX10_weigh_23 rfl ?_
      have f7 := zf hS0 ha (k := 4) rfl
      refine g11_4 hx hG ha kf_RX10_77 rfl dX10_weigh_24 ?_
      have c43_1 : ∀ (s2 : zS), (zSK G s2) → (zFr [1, 7, 41] G s0 s2) → JJ X E 9 G s2 0 0 [(0, .ref a), (1, .int (zI 3)), (2, .long (zL y2)), (4, .ref r1)] 43 [] := by
        intro s2 hS_s2 hF_s2
        refine j_aload_n hx 0 dX10_weigh_43 rfl ?_
        refine j_dup hx dX10_weigh_44 rfl ?_
        have f8 := zf hS0 ha (k := 7) rfl
        refine g11_7 hx hG ha kf_RX10_80 (v := (s0 a 7)) (by rw [(zFr_g hF_s2 ha (by decide))]) dX10_weigh_45 ?_
        refine j_aload_n hx 0 dX10_weigh_48 rfl ?_
        refine j_aload hx 3 dX10_weigh_49 rfl ?_
        refine j_callV hx hG (c_X10_leads hst a r1) lk_RX10_96 ha (by decide) rfl rfl rfl rfl [.ref r1] ⟨rfl, hG, hS_s2, ha, q2.1⟩ rfl rfl ⟨by decide, by decide⟩ ⟨by decide, by decide⟩ (k2 := 0) (n2 := 0) rfl rfl (Nat.le_of_ble_eq_true rfl) dX10_weigh_51 (kIP (fun v9 q10 => ?_))
        refine j_if_eq hx 66 dX10_weigh_54 rfl (by omega) (fun h11 => ?_) (fun h11 => ?_)
        · skip
          refine j_lconst hx dX10_weigh_66 ?_
          show JJ X E 9 G s2 0 0 [(0, .ref a), (1, .int (zI 3)), (2, .long (zL y2)), (4, .ref r1)] 67 [.long (zL 0), .long (zL ((s0 a 7))), .ref a]
          refine j_ladd hx dX10_weigh_67 (fun w12 f13 f14 => ?_)
          refine p11_7 hx hG ha kf_RX10_80 dX10_weigh_68 ?_
          obtain ⟨s5, e_s5⟩ : ∃ z, z = zU s2 a 7 w12 := ⟨_, rfl⟩
          rw [← e_s5]
          have hS_s5 : zSK G s5 := by rw [e_s5]; exact zSK_F hS_s2 ha rfl rfl rfl (by omega)
          exact j_vret hx hq rfl (by decide) (by decide) dX10_weigh_71 ⟨rfl, rfl, hS_s5, (zFr_u (zFr_t zFr_rf hF_s2 (by decide)) e_s5 ha (by decide)), trivial⟩
        · skip
          refine j_aload_n hx 0 dX10_weigh_57 rfl ?_
          refine j_iload_n hx 1 dX10_weigh_58 rfl ?_
          refine j_lload_n hx 2 dX10_weigh_59 rfl ?_
          refine j_callV hx hG (c_X10_allWays hst a 3 y2) lk_RX10_100 ha (by decide) rfl rfl rfl rfl [.int (zI 3), .long (zL y2)] ⟨rfl, hG, hS_s2, ha, (by omega), (by omega)⟩ rfl rfl ⟨by decide, by decide⟩ ⟨by decide, by decide⟩ (k2 := 0) (n2 := 0) rfl rfl (Nat.le_of_ble_eq_true rfl) dX10_weigh_60 (kLP (fun v15 q16 => ?_))
          refine j_goto hx 67 dX10_weigh_63 rfl ?_
          refine j_ladd hx dX10_weigh_67 (fun w17 f18 f19 => ?_)
          refine p11_7 hx hG ha kf_RX10_80 dX10_weigh_68 ?_
          obtain ⟨s6, e_s6⟩ : ∃ z, z = zU s2 a 7 w17 := ⟨_, rfl⟩
          rw [← e_s6]
          have hS_s6 : zSK G s6 := by rw [e_s6]; exact zSK_F hS_s2 ha rfl rfl rfl (by omega)
          exact j_vret hx hq rfl (by decide) (by decide) dX10_weigh_71 ⟨rfl, rfl, hS_s6, (zFr_u (zFr_t zFr_rf hF_s2 (by decide)) e_s6 ha (by decide)), trivial⟩
      refine j_icmp_ge hx 43 dX10_weigh_27 rfl ⟨by decide, by decide⟩ (by omega) (fun h20 => ?_) (fun h20 => ?_)
      · skip
        exact j_sub [2, 3, 4, 1] [(0, .ref a), (1, .int (zI 3)), (2, .long (zL y2)), (4, .ref r1)] rfl (c43_1 s0 hS0 zFr_rf)
      · skip
        refine j_aloadN hx 0 dX10_weigh_30 rfl ?_
        refine j_ifnullN hx 43 dX10_weigh_32 rfl ?_
        exact j_sub [2, 3, 4, 1] [(0, .ref a), (1, .int (zI 3)), (2, .long (zL y2)), (4, .ref r1)] rfl (c43_1 s0 hS0 zFr_rf)
    · skip
      refine j_astore hx [(5, .ref r5), (4, .ref r1), (0, .ref a), (1, .int (zI 3)), (2, .long (zL y2))] dX10_weigh_14 (by decide) rfl ?_
      refine j_aload hx 1 dX10_weigh_16 rfl ?_
      refine j_ifnonnull hx 22 dX10_weigh_18 rfl ?_
      refine j_iload_n hx 3 dX10_weigh_22 rfl ?_
      refine j_aload_n hx 2 dX10_weigh_23 rfl ?_
      have f21 := zf hS0 ha (k := 4) rfl
      refine g11_4 hx hG ha kf_RX10_77 rfl dX10_weigh_24 ?_
      have c43_7 : ∀ (s8 : zS), (zSK G s8) → (zFr [1, 7, 41] G s0 s8) → JJ X E 9 G s8 0 0 [(0, .ref a), (1, .int (zI 3)), (2, .long (zL y2)), (4, .ref r1)] 43 [] := by
        intro s8 hS_s8 hF_s8
        refine j_aload_n hx 0 dX10_weigh_43 rfl ?_
        refine j_dup hx dX10_weigh_44 rfl ?_
        have f22 := zf hS0 ha (k := 7) rfl
        refine g11_7 hx hG ha kf_RX10_80 (v := (s0 a 7)) (by rw [(zFr_g hF_s8 ha (by decide))]) dX10_weigh_45 ?_
        refine j_aload_n hx 0 dX10_weigh_48 rfl ?_
        refine j_aload hx 3 dX10_weigh_49 rfl ?_
        refine j_callV hx hG (c_X10_leads hst a r1) lk_RX10_96 ha (by decide) rfl rfl rfl rfl [.ref r1] ⟨rfl, hG, hS_s8, ha, q2.1⟩ rfl rfl ⟨by decide, by decide⟩ ⟨by decide, by decide⟩ (k2 := 0) (n2 := 0) rfl rfl (Nat.le_of_ble_eq_true rfl) dX10_weigh_51 (kIP (fun v23 q24 => ?_))
        refine j_if_eq hx 66 dX10_weigh_54 rfl (by omega) (fun h25 => ?_) (fun h25 => ?_)
        · skip
          refine j_lconst hx dX10_weigh_66 ?_
          show JJ X E 9 G s8 0 0 [(0, .ref a), (1, .int (zI 3)), (2, .long (zL y2)), (4, .ref r1)] 67 [.long (zL 0), .long (zL ((s0 a 7))), .ref a]
          refine j_ladd hx dX10_weigh_67 (fun w26 f27 f28 => ?_)
          refine p11_7 hx hG ha kf_RX10_80 dX10_weigh_68 ?_
          obtain ⟨s11, e_s11⟩ : ∃ z, z = zU s8 a 7 w26 := ⟨_, rfl⟩
          rw [← e_s11]
          have hS_s11 : zSK G s11 := by rw [e_s11]; exact zSK_F hS_s8 ha rfl rfl rfl (by omega)
          exact j_vret hx hq rfl (by decide) (by decide) dX10_weigh_71 ⟨rfl, rfl, hS_s11, (zFr_u (zFr_t zFr_rf hF_s8 (by decide)) e_s11 ha (by decide)), trivial⟩
        · skip
          refine j_aload_n hx 0 dX10_weigh_57 rfl ?_
          refine j_iload_n hx 1 dX10_weigh_58 rfl ?_
          refine j_lload_n hx 2 dX10_weigh_59 rfl ?_
          refine j_callV hx hG (c_X10_allWays hst a 3 y2) lk_RX10_100 ha (by decide) rfl rfl rfl rfl [.int (zI 3), .long (zL y2)] ⟨rfl, hG, hS_s8, ha, (by omega), (by omega)⟩ rfl rfl ⟨by decide, by decide⟩ ⟨by decide, by decide⟩ (k2 := 0) (n2 := 0) rfl rfl (Nat.le_of_ble_eq_true rfl) dX10_weigh_60 (kLP (fun v29 q30 => ?_))
          refine j_goto hx 67 dX10_weigh_63 rfl ?_
          refine j_ladd hx dX10_weigh_67 (fun w31 f32 f33 => ?_)
          refine p11_7 hx hG ha kf_RX10_80 dX10_weigh_68 ?_
          obtain ⟨s12, e_s12⟩ : ∃ z, z = zU s8 a 7 w31 := ⟨_, rfl⟩
          rw [← e_s12]
          have hS_s12 : zSK G s12 := by rw [e_s12]; exact zSK_F hS_s8 ha rfl rfl rfl (by omega)
          exact j_vret hx hq rfl (by decide) (by decide) dX10_weigh_71 ⟨rfl, rfl, hS_s12, (zFr_u (zFr_t zFr_rf hF_s8 (by decide)) e_s12 ha (by decide)), trivial⟩
      refine j_icmp_ge hx 43 dX10_weigh_27 rfl ⟨by decide, by decide⟩ (by omega) (fun h34 => ?_) (fun h34 => ?_)
      · skip
        exact j_sub [2, 3, 4, 1] [(0, .ref a), (1, .int (zI 3)), (2, .long (zL y2)), (4, .ref r1)] rfl (c43_7 s0 hS0 zFr_rf)
      · skip
        refine j_aload hx 0 dX10_weigh_30 rfl ?_
        refine j_ifnull hx dX10_weigh_32 ?_
        refine j_aload hx 1 dX10_weigh_35 rfl ?_
        refine j_callV hx hG (c_X0_step hst r1) lk_RX10_33 q2.1 (by decide) rfl rfl rfl rfl [] ⟨rfl, hG, hS0, q2.1⟩ rfl rfl ⟨by decide, by decide⟩ ⟨by decide, by decide⟩ (k2 := 0) (n2 := 0) rfl rfl (Nat.le_of_ble_eq_true rfl) dX10_weigh_37 (kIM (fun v35 s13 hS_s13 hF_s13 q36 => ?_))
        refine j_if_ne hx 72 dX10_weigh_40 rfl (by omega) (fun h37 => ?_) (fun h37 => ?_)
        · skip
          refine j_aload hx 1 dX10_weigh_72 rfl ?_
          refine j_callV hx hG (c_X0_likeTops hst r1) lk_RX10_37 q2.1 (by decide) rfl rfl rfl rfl [] ⟨rfl, hG, hS_s13, q2.1⟩ rfl rfl ⟨by decide, by decide⟩ ⟨by decide, by decide⟩ (k2 := 0) (n2 := 0) rfl rfl (Nat.le_of_ble_eq_true rfl) dX10_weigh_74 (kIP (fun v38 q39 => ?_))
          refine j_istore hx [(6, .int (zI v38)), (5, .ref r5), (4, .ref r1), (0, .ref a), (1, .int (zI 3)), (2, .long (zL y2))] dX10_weigh_77 (by decide) rfl ?_
          refine j_iconst hx dX10_weigh_79 ?_
          refine j_istore hx [(7, .int (zI 0)), (6, .int (zI v38)), (5, .ref r5), (4, .ref r1), (0, .ref a), (1, .int (zI 3)), (2, .long (zL y2))] dX10_weigh_80 (by decide) rfl ?_
          refine j_iconst hx dX10_weigh_82 ?_
          refine j_istore hx [(8, .int (zI 0)), (7, .int (zI 0)), (6, .int (zI v38)), (5, .ref r5), (4, .ref r1), (0, .ref a), (1, .int (zI 3)), (2, .long (zL y2))] dX10_weigh_83 (by decide) rfl ?_
          have c85_14 : ∀ (m_c85_14 : Nat) (v40 : Int) (v41 : Int) (s15 : zS), 2147483648 - v41 < m_c85_14 → ((-2147483648) ≤ v40 ∧ v40 ≤ 2147483647) → (0 ≤ v41 ∧ v41 ≤ 3) → (zSK G s15) → (zFr [1, 7, 11, 41] G s13 s15) → JJ X E 9 G s15 0 0 [(0, .ref a), (1, .int (zI 3)), (2, .long (zL y2)), (4, .ref r1), (5, .ref r5), (6, .int (zI v38)), (7, .int (zI v40)), (8, .int (zI v41))] 85 [] := by
            intro m_c85_14
            induction m_c85_14 with
            | zero => intro v40 v41 s15 hm_c85_14 fA16 fA17 hS_s15 hF_s15; exfalso; omega
            | succ m_c85_14 ih_c85_14 => 
              intro v40 v41 s15 hm_c85_14 fA16 fA17 hS_s15 hF_s15
              refine j_iload hx 7 dX10_weigh_85 rfl ?_
              refine j_aload_n hx 0 dX10_weigh_87 rfl ?_
              refine g11_0 hx hG ha kf_RX10_17 dX10_weigh_88 ?_
              have f42 := zf hS0 (zr (k := 0) (t2 := 9) hG ha rfl) (k := 4) rfl
              refine gN9_4 hx hG (zr (k := 0) (t2 := 9) hG ha rfl) kf_RX10_104 (v := (s0 (gP G a 0) 4)) (by rw [(zFr_g hF_s15 (zr (k := 0) (t2 := 9) hG ha rfl) (by decide)), (zFr_g hF_s13 (zr (k := 0) (t2 := 9) hG ha rfl) (by decide))]) dX10_weigh_91 ?_
              refine j_icmp_ge hx 178 dX10_weigh_94 rfl (by omega) (by omega) (fun h43 => ?_) (fun h43 => ?_)
              · skip
                refine j_iload hx 6 dX10_weigh_178 rfl ?_
                refine j_if_le hx 202 dX10_weigh_180 rfl (by omega) (fun h44 => ?_) (fun h44 => ?_)
                · skip
                  exact j_vret hx hq rfl (by decide) (by decide) dX10_weigh_202 ⟨rfl, rfl, hS_s15, (zFr_t (zFr_t zFr_rf hF_s13 (by decide)) hF_s15 (by decide)), trivial⟩
                · skip
                  refine j_aload hx 4 dX10_weigh_183 rfl ?_
                  refine j_aload hx 3 dX10_weigh_185 rfl ?_
                  refine j_callV hx hG (c_X0_become hst r5 r1) lk_RX10_26 q6.1 (by decide) rfl rfl rfl rfl [.ref r1] ⟨rfl, hG, hS_s15, q6.1, q2.1⟩ rfl rfl ⟨by decide, by decide⟩ ⟨by decide, by decide⟩ (k2 := 0) (n2 := 0) rfl rfl (Nat.le_of_ble_eq_true rfl) dX10_weigh_187 (kVM (fun s20 hS_s20 hF_s20 q46 => ?_))
                  refine j_aload_n hx 0 dX10_weigh_190 rfl ?_
                  refine j_iload_n hx 1 dX10_weigh_191 rfl ?_
                  refine j_iconst hx dX10_weigh_192 ?_
                  refine j_iadd hx (r := 4) dX10_weigh_193 (by omega) ?_
                  refine j_lload_n hx 2 dX10_weigh_194 rfl ?_
                  refine j_iload hx 6 dX10_weigh_195 rfl ?_
                  refine j_i2l hx dX10_weigh_197 (by omega) ?_
                  refine j_lmul hx dX10_weigh_198 (fun w47 f48 f49 => ?_)
                  refine j_callV hx hG (c_X10_weigh_4 hst a 4 w47) lk_RX10_92 ha (by decide) rfl rfl rfl rfl [.int (zI 4), .long (zL w47)] ⟨rfl, hG, hS_s20, ha, (by omega), (by omega)⟩ rfl rfl ⟨by decide, by decide⟩ ⟨by decide, by decide⟩ (k2 := 0) (n2 := 0) rfl rfl (Nat.le_of_ble_eq_true rfl) dX10_weigh_199 (kVM (fun s21 hS_s21 hF_s21 q51 => ?_))
                  exact j_vret hx hq rfl (by decide) (by decide) dX10_weigh_202 ⟨rfl, rfl, hS_s21, (zFr_t (zFr_t (zFr_t (zFr_t zFr_rf hF_s13 (by decide)) hF_s15 (by decide)) hF_s20 (by decide)) hF_s21 (by decide)), trivial⟩
              · skip
                refine j_iload hx 5 dX10_weigh_97 rfl ?_
                refine j_iconst hx dX10_weigh_99 ?_
                have c172_22 : ∀ (v52 : Int) (s23 : zS), ((-2147483648) ≤ v52 ∧ v52 ≤ 2147483647) → (zSK G s23) → (zFr [1, 7, 11, 41] G s15 s23) → JJ X E 9 G s23 0 0 [(0, .ref a), (1, .int (zI 3)), (2, .long (zL y2)), (4, .ref r1), (5, .ref r5), (6, .int (zI v38)), (7, .int (zI v52)), (8, .int (zI v41))] 172 [] := by
                  intro v52 s23 fA24 hS_s23 hF_s23
                  refine j_iinc hx 7 [(8, .int (zI (v41 + 1))), (0, .ref a), (1, .int (zI 3)), (2, .long (zL y2)), (4, .ref r1), (5, .ref r5), (6, .int (zI v38)), (7, .int (zI v52))] dX10_weigh_172 rfl (by omega) (by decide) rfl ?_
                  refine j_goto hx 85 dX10_weigh_175 rfl ?_
                  exact j_sub [1, 2, 3, 4, 5, 6, 7, 0] [(0, .ref a), (1, .int (zI 3)), (2, .long (zL y2)), (4, .ref r1), (5, .ref r5), (6, .int (zI v38)), (7, .int (zI v52)), (8, .int (zI (v41 + 1)))] rfl (ih_c85_14 v52 (v41 + 1) s23 (by omega) (by omega) (by omega) hS_s23 (zFr_t (zFr_t zFr_rf hF_s15 (by decide)) hF_s23 (by decide)))
                have c113_27 : JJ X E 9 G s15 0 0 [(0, .ref a), (1, .int (zI 3)), (2, .long (zL y2)), (4, .ref r1), (5, .ref r5), (6, .int (zI v38)), (7, .int (zI v40)), (8, .int (zI v41))] 113 [] := by
                  refine j_iload hx 6 dX10_weigh_113 rfl ?_
                  refine j_aload_n hx 0 dX10_weigh_115 rfl ?_
                  refine g11_0 hx hG ha kf_RX10_17 dX10_weigh_116 ?_
                  refine j_iload hx 7 dX10_weigh_119 rfl ?_
                  refine j_iconst hx dX10_weigh_121 ?_
                  refine j_callV hx hG (c_X8_trait hst (gP G a 0) v41 0) lk_RX10_107 (zr (k := 0) (t2 := 9) hG ha rfl) (by decide) rfl rfl rfl rfl [.int (zI v41), .int (zI 0)] ⟨rfl, hG, hS_s15, (zr (k := 0) (t2 := 9) hG ha rfl), (by omega), (by omega)⟩ rfl rfl ⟨by decide, by decide⟩ ⟨by decide, by decide⟩ (k2 := 0) (n2 := 0) rfl rfl (Nat.le_of_ble_eq_true rfl) dX10_weigh_122 (kIP (fun v53 q54 => ?_))
                  refine j_iadd hx (r := v40 + v53) dX10_weigh_125 rfl ?_
                  refine j_norm (fun v55 f56 f57 f58 => ?_)
                  refine j_istore hx [(7, .int (zI v55)), (0, .ref a), (1, .int (zI 3)), (2, .long (zL y2)), (4, .ref r1), (5, .ref r5), (6, .int (zI v38)), (8, .int (zI v41))] dX10_weigh_126 (by decide) rfl ?_
                  refine j_goto hx 172 dX10_weigh_128 rfl ?_
                  exact j_sub [1, 2, 3, 4, 5, 6, 0, 7] [(0, .ref a), (1, .int (zI 3)), (2, .long (zL y2)), (4, .ref r1), (5, .ref r5), (6, .int (zI v38)), (7, .int (zI v55)), (8, .int (zI v41))] rfl (c172_22 v55 s15 (by omega) hS_s15 zFr_rf)
                refine j_icmp_eq hx 113 dX10_weigh_100 rfl (by omega) ⟨by decide, by decide⟩ (fun h59 => ?_) (fun h59 => ?_)
                · skip
                  exact j_sub [0, 1, 2, 3, 4, 5, 6, 7] [(0, .ref a), (1, .int (zI 3)), (2, .long (zL y2)), (4, .ref r1), (5, .ref r5), (6, .int (zI v38)), (7, .int (zI v40)), (8, .int (zI v41))] rfl (c113_27  )
                · skip
                  refine j_aload hx 3 dX10_weigh_103 rfl ?_
                  refine j_iload hx 7 dX10_weigh_105 rfl ?_
                  refine j_callV hx hG (c_X0_isOut hst r1 v41) lk_RX10_73 q2.1 (by decide) rfl rfl rfl rfl [.int (zI v41)] ⟨rfl, hG, hS_s15, q2.1, (by omega)⟩ rfl rfl ⟨by decide, by decide⟩ ⟨by decide, by decide⟩ (k2 := 0) (n2 := 0) rfl rfl (Nat.le_of_ble_eq_true rfl) dX10_weigh_107 (kIP (fun v60 q61 => ?_))
                  refine j_if_eq hx 131 dX10_weigh_110 rfl (by omega) (fun h62 => ?_) (fun h62 => ?_)
                  · skip
                    refine j_aload hx 4 dX10_weigh_131 rfl ?_
                    refine j_aload hx 3 dX10_weigh_133 rfl ?_
                    refine j_callV hx hG (c_X0_become hst r5 r1) lk_RX10_26 q6.1 (by decide) rfl rfl rfl rfl [.ref r1] ⟨rfl, hG, hS_s15, q6.1, q2.1⟩ rfl rfl ⟨by decide, by decide⟩ ⟨by decide, by decide⟩ (k2 := 0) (n2 := 0) rfl rfl (Nat.le_of_ble_eq_true rfl) dX10_weigh_135 (kVM (fun s28 hS_s28 hF_s28 q64 => ?_))
                    refine j_aload hx 4 dX10_weigh_138 rfl ?_
                    refine j_iload hx 7 dX10_weigh_140 rfl ?_
                    refine j_iload hx 5 dX10_weigh_142 rfl ?_
                    refine j_aload_n hx 0 dX10_weigh_144 rfl ?_
                    have f65 := zf hS_s15 ha (k := 3) rfl
                    refine g11_3 hx hG ha kf_RX10_45 (v := (s15 a 3)) (by rw [(zFr_g hF_s28 ha (by decide))]) dX10_weigh_145 ?_
                    refine j_callV hx hG (c_X0_win hst r5 v41 v38 ((s15 a 3))) lk_RX10_69 q6.1 (by decide) rfl rfl rfl rfl [.int (zI v41), .int (zI v38), .int (zI ((s15 a 3)))] ⟨rfl, hG, hS_s28, q6.1, (by omega), (by omega), (by omega)⟩ rfl rfl ⟨by decide, by decide⟩ ⟨by decide, by decide⟩ (k2 := 0) (n2 := 0) rfl rfl (Nat.le_of_ble_eq_true rfl) dX10_weigh_148 (kIM (fun v66 s29 hS_s29 hF_s29 q67 => ?_))
                    refine j_pop hx dX10_weigh_151 rfl ?_
                    refine j_aload_n hx 0 dX10_weigh_152 rfl ?_
                    refine j_iload_n hx 1 dX10_weigh_153 rfl ?_
                    refine j_iconst hx dX10_weigh_154 ?_
                    refine j_iadd hx (r := 4) dX10_weigh_155 (by omega) ?_
                    refine j_lload_n hx 2 dX10_weigh_156 rfl ?_
                    refine j_aload_n hx 0 dX10_weigh_157 rfl ?_
                    refine g11_0 hx hG ha kf_RX10_17 dX10_weigh_158 ?_
                    refine j_iload hx 7 dX10_weigh_161 rfl ?_
                    refine j_iconst hx dX10_weigh_163 ?_
                    refine j_callV hx hG (c_X8_trait hst (gP G a 0) v41 0) lk_RX10_107 (zr (k := 0) (t2 := 9) hG ha rfl) (by decide) rfl rfl rfl rfl [.int (zI v41), .int (zI 0)] ⟨rfl, hG, hS_s29, (zr (k := 0) (t2 := 9) hG ha rfl), (by omega), (by omega)⟩ rfl rfl ⟨by decide, by decide⟩ ⟨by decide, by decide⟩ (k2 := 0) (n2 := 0) rfl rfl (Nat.le_of_ble_eq_true rfl) dX10_weigh_164 (kIP (fun v68 q69 => ?_))
                    refine j_i2l hx dX10_weigh_167 (by omega) ?_
                    refine j_lmul hx dX10_weigh_168 (fun w70 f71 f72 => ?_)
                    refine j_callV hx hG (c_X10_weigh_4 hst a 4 w70) lk_RX10_92 ha (by decide) rfl rfl rfl rfl [.int (zI 4), .long (zL w70)] ⟨rfl, hG, hS_s29, ha, (by omega), (by omega)⟩ rfl rfl ⟨by decide, by decide⟩ ⟨by decide, by decide⟩ (k2 := 0) (n2 := 0) rfl rfl (Nat.le_of_ble_eq_true rfl) dX10_weigh_169 (kVM (fun s30 hS_s30 hF_s30 q74 => ?_))
                    exact j_sub [0, 1, 2, 3, 4, 5, 6, 7] [(0, .ref a), (1, .int (zI 3)), (2, .long (zL y2)), (4, .ref r1), (5, .ref r5), (6, .int (zI v38)), (7, .int (zI v40)), (8, .int (zI v41))] rfl (c172_22 v40 s30 (by omega) hS_s30 (zFr_t (zFr_t (zFr_t zFr_rf hF_s28 (by decide)) hF_s29 (by decide)) hF_s30 (by decide)))
                  · skip
                    exact j_sub [0, 1, 2, 3, 4, 5, 6, 7] [(0, .ref a), (1, .int (zI 3)), (2, .long (zL y2)), (4, .ref r1), (5, .ref r5), (6, .int (zI v38)), (7, .int (zI v40)), (8, .int (zI v41))] rfl (c113_27  )
          exact j_sub [5, 6, 7, 4, 3, 2, 1, 0] [(0, .ref a), (1, .int (zI 3)), (2, .long (zL y2)), (4, .ref r1), (5, .ref r5), (6, .int (zI v38)), (7, .int (zI 0)), (8, .int (zI 0))] rfl (c85_14 (2147483648 * 4) 0 0 s13 (by omega) (by omega) (by omega) hS_s13 zFr_rf)
        · skip
          exact j_sub [2, 3, 4, 1] [(0, .ref a), (1, .int (zI 3)), (2, .long (zL y2)), (4, .ref r1)] rfl (c43_7 s13 hS_s13 (zFr_t zFr_rf hF_s13 (by decide)))

set_option maxHeartbeats 4000000 in
set_option maxRecDepth 20000 in
theorem c_X10_weigh_2 {E : zE} {l : Launch} (hst : l.stackTraces = false) (a : Nat) (x1 : Int) (y2 : Int) : Con E l yX10_weigh cX10_weigh 9 none { frames := 13, cells := 0, slots := 0, locals := 351 } (fun G s vs => vs = [.ref a, .int (zI x1), .long (zL y2)] ∧ zGK G ∧ zSK G s ∧ (gT G a = 11) ∧ (2 ≤ x1 ∧ x1 ≤ 2) ∧ ((-9223372036854775808) ≤ y2 ∧ y2 ≤ 9223372036854775807)) (fun G s _ => pV (fun G2 s2 => G2 = G ∧ zSK G s2 ∧ zFr [1, 7, 11, 41] G s s2 ∧ True)) := by
  refine Con.mk hst (by decide) (fun G s vs h => by rw [h.1]; exact Nat.le_of_ble_eq_true rfl) ?_
  rintro X G s0 vs ⟨rfl, hG, hS0, ha, hx1, hy2⟩ rfl hx hq
  obtain rfl : x1 = 2 := by omega
  show JJ X E 9 G s0 0 0 [(0, .ref a), (1, .int (zI 2)), (2, .long (zL y2))] 0 []
  refine j_aload_n hx 0 dX10_weigh_0 rfl ?_
  refine j_iload_n hx 1 dX10_weigh_1 rfl ?_
  refine j_callV hx hG (c_X10_boardAt hst a 2) lk_RX10_22 ha (by decide) rfl rfl rfl rfl [.int (zI 2)] ⟨rfl, hG, hS0, ha, (by omega)⟩ rfl rfl ⟨by decide, by decide⟩ ⟨by decide, by decide⟩ (k2 := 0) (n2 := 0) rfl rfl (Nat.le_of_ble_eq_true rfl) dX10_weigh_2 (kNP (fun _ => ?_) (fun r1 q2 => ?_))
  · skip
    refine j_astoreN hx [(4, .null), (0, .ref a), (1, .int (zI 2)), (2, .long (zL y2))] dX10_weigh_5 (by decide) rfl ?_
    refine j_aload_n hx 1 dX10_weigh_7 rfl ?_
    refine j_iload_n hx 2 dX10_weigh_8 rfl ?_
    refine j_iconst hx dX10_weigh_9 ?_
    refine j_iadd hx (r := 3) dX10_weigh_10 (by omega) ?_
    refine j_callV hx hG (c_X10_boardAt hst a 3) lk_RX10_22 ha (by decide) rfl rfl rfl rfl [.int (zI 3)] ⟨rfl, hG, hS0, ha, (by omega)⟩ rfl rfl ⟨by decide, by decide⟩ ⟨by decide, by decide⟩ (k2 := 0) (n2 := 0) rfl rfl (Nat.le_of_ble_eq_true rfl) dX10_weigh_11 (kNP (fun _ => ?_) (fun r3 q4 => ?_))
    · skip
      refine j_astoreN hx [(5, .null), (4, .null), (0, .ref a), (1, .int (zI 2)), (2, .long (zL y2))] dX10_weigh_14 (by decide) rfl ?_
      refine j_aloadN hx 1 dX10_weigh_16 rfl ?_
      refine j_ifnonnullN hx dX10_weigh_18 ?_
      exact j_vret hx hq rfl (by decide) (by decide) dX10_weigh_21 ⟨rfl, rfl, hS0, zFr_rf, trivial⟩
    · skip
      refine j_astore hx [(5, .ref r3), (4, .null), (0, .ref a), (1, .int (zI 2)), (2, .long (zL y2))] dX10_weigh_14 (by decide) rfl ?_
      refine j_aloadN hx 1 dX10_weigh_16 rfl ?_
      refine j_ifnonnullN hx dX10_weigh_18 ?_
      exact j_vret hx hq rfl (by decide) (by decide) dX10_weigh_21 ⟨rfl, rfl, hS0, zFr_rf, trivial⟩
  · skip
    refine j_astore hx [(4, .ref r1), (0, .ref a), (1, .int (zI 2)), (2, .long (zL y2))] dX10_weigh_5 (by decide) rfl ?_
    refine j_aload_n hx 1 dX10_weigh_7 rfl ?_
    refine j_iload_n hx 2 dX10_weigh_8 rfl ?_
    refine j_iconst hx dX10_weigh_9 ?_
    refine j_iadd hx (r := 3) dX10_weigh_10 (by omega) ?_
    refine j_callV hx hG (c_X10_boardAt hst a 3) lk_RX10_22 ha (by decide) rfl rfl rfl rfl [.int (zI 3)] ⟨rfl, hG, hS0, ha, (by omega)⟩ rfl rfl ⟨by decide, by decide⟩ ⟨by decide, by decide⟩ (k2 := 0) (n2 := 0) rfl rfl (Nat.le_of_ble_eq_true rfl) dX10_weigh_11 (kNP (fun _ => ?_) (fun r5 q6 => ?_))
    · skip
      refine j_astoreN hx [(5, .null), (4, .ref r1), (0, .ref a), (1, .int (zI 2)), (2, .long (zL y2))] dX10_weigh_14 (by decide) rfl ?_
      refine j_aload hx 1 dX10_weigh_16 rfl ?_
      refine j_ifnonnull hx 22 dX10_weigh_18 rfl ?_
      refine j_iload_n hx 3 dX10_weigh_22 rfl ?_
      refine j_aload_n hx 2 dX10_weigh_23 rfl ?_
      have f7 := zf hS0 ha (k := 4) rfl
      refine g11_4 hx hG ha kf_RX10_77 rfl dX10_weigh_24 ?_
      have c43_1 : ∀ (s2 : zS), (zSK G s2) → (zFr [1, 7, 41] G s0 s2) → JJ X E 9 G s2 0 0 [(0, .ref a), (1, .int (zI 2)), (2, .long (zL y2)), (4, .ref r1)] 43 [] := by
        intro s2 hS_s2 hF_s2
        refine j_aload_n hx 0 dX10_weigh_43 rfl ?_
        refine j_dup hx dX10_weigh_44 rfl ?_
        have f8 := zf hS0 ha (k := 7) rfl
        refine g11_7 hx hG ha kf_RX10_80 (v := (s0 a 7)) (by rw [(zFr_g hF_s2 ha (by decide))]) dX10_weigh_45 ?_
        refine j_aload_n hx 0 dX10_weigh_48 rfl ?_
        refine j_aload hx 3 dX10_weigh_49 rfl ?_
        refine j_callV hx hG (c_X10_leads hst a r1) lk_RX10_96 ha (by decide) rfl rfl rfl rfl [.ref r1] ⟨rfl, hG, hS_s2, ha, q2.1⟩ rfl rfl ⟨by decide, by decide⟩ ⟨by decide, by decide⟩ (k2 := 0) (n2 := 0) rfl rfl (Nat.le_of_ble_eq_true rfl) dX10_weigh_51 (kIP (fun v9 q10 => ?_))
        refine j_if_eq hx 66 dX10_weigh_54 rfl (by omega) (fun h11 => ?_) (fun h11 => ?_)
        · skip
          refine j_lconst hx dX10_weigh_66 ?_
          show JJ X E 9 G s2 0 0 [(0, .ref a), (1, .int (zI 2)), (2, .long (zL y2)), (4, .ref r1)] 67 [.long (zL 0), .long (zL ((s0 a 7))), .ref a]
          refine j_ladd hx dX10_weigh_67 (fun w12 f13 f14 => ?_)
          refine p11_7 hx hG ha kf_RX10_80 dX10_weigh_68 ?_
          obtain ⟨s5, e_s5⟩ : ∃ z, z = zU s2 a 7 w12 := ⟨_, rfl⟩
          rw [← e_s5]
          have hS_s5 : zSK G s5 := by rw [e_s5]; exact zSK_F hS_s2 ha rfl rfl rfl (by omega)
          exact j_vret hx hq rfl (by decide) (by decide) dX10_weigh_71 ⟨rfl, rfl, hS_s5, (zFr_u (zFr_t zFr_rf hF_s2 (by decide)) e_s5 ha (by decide)), trivial⟩
        · skip
          refine j_aload_n hx 0 dX10_weigh_57 rfl ?_
          refine j_iload_n hx 1 dX10_weigh_58 rfl ?_
          refine j_lload_n hx 2 dX10_weigh_59 rfl ?_
          refine j_callV hx hG (c_X10_allWays hst a 2 y2) lk_RX10_100 ha (by decide) rfl rfl rfl rfl [.int (zI 2), .long (zL y2)] ⟨rfl, hG, hS_s2, ha, (by omega), (by omega)⟩ rfl rfl ⟨by decide, by decide⟩ ⟨by decide, by decide⟩ (k2 := 0) (n2 := 0) rfl rfl (Nat.le_of_ble_eq_true rfl) dX10_weigh_60 (kLP (fun v15 q16 => ?_))
          refine j_goto hx 67 dX10_weigh_63 rfl ?_
          refine j_ladd hx dX10_weigh_67 (fun w17 f18 f19 => ?_)
          refine p11_7 hx hG ha kf_RX10_80 dX10_weigh_68 ?_
          obtain ⟨s6, e_s6⟩ : ∃ z, z = zU s2 a 7 w17 := ⟨_, rfl⟩
          rw [← e_s6]
          have hS_s6 : zSK G s6 := by rw [e_s6]; exact zSK_F hS_s2 ha rfl rfl rfl (by omega)
          exact j_vret hx hq rfl (by decide) (by decide) dX10_weigh_71 ⟨rfl, rfl, hS_s6, (zFr_u (zFr_t zFr_rf hF_s2 (by decide)) e_s6 ha (by decide)), trivial⟩
      refine j_icmp_ge hx 43 dX10_weigh_27 rfl ⟨by decide, by decide⟩ (by omega) (fun h20 => ?_) (fun h20 => ?_)
      · skip
        exact j_sub [2, 3, 4, 1] [(0, .ref a), (1, .int (zI 2)), (2, .long (zL y2)), (4, .ref r1)] rfl (c43_1 s0 hS0 zFr_rf)
      · skip
        refine j_aloadN hx 0 dX10_weigh_30 rfl ?_
        refine j_ifnullN hx 43 dX10_weigh_32 rfl ?_
        exact j_sub [2, 3, 4, 1] [(0, .ref a), (1, .int (zI 2)), (2, .long (zL y2)), (4, .ref r1)] rfl (c43_1 s0 hS0 zFr_rf)
    · skip
      refine j_astore hx [(5, .ref r5), (4, .ref r1), (0, .ref a), (1, .int (zI 2)), (2, .long (zL y2))] dX10_weigh_14 (by decide) rfl ?_
      refine j_aload hx 1 dX10_weigh_16 rfl ?_
      refine j_ifnonnull hx 22 dX10_weigh_18 rfl ?_
      refine j_iload_n hx 3 dX10_weigh_22 rfl ?_
      refine j_aload_n hx 2 dX10_weigh_23 rfl ?_
      have f21 := zf hS0 ha (k := 4) rfl
      refine g11_4 hx hG ha kf_RX10_77 rfl dX10_weigh_24 ?_
      have c43_7 : ∀ (s8 : zS), (zSK G s8) → (zFr [1, 7, 41] G s0 s8) → JJ X E 9 G s8 0 0 [(0, .ref a), (1, .int (zI 2)), (2, .long (zL y2)), (4, .ref r1)] 43 [] := by
        intro s8 hS_s8 hF_s8
        refine j_aload_n hx 0 dX10_weigh_43 rfl ?_
        refine j_dup hx dX10_weigh_44 rfl ?_
        have f22 := zf hS0 ha (k := 7) rfl
        refine g11_7 hx hG ha kf_RX10_80 (v := (s0 a 7)) (by rw [(zFr_g hF_s8 ha (by decide))]) dX10_weigh_45 ?_
        refine j_aload_n hx 0 dX10_weigh_48 rfl ?_
        refine j_aload hx 3 dX10_weigh_49 rfl ?_
        refine j_callV hx hG (c_X10_leads hst a r1) lk_RX10_96 ha (by decide) rfl rfl rfl rfl [.ref r1] ⟨rfl, hG, hS_s8, ha, q2.1⟩ rfl rfl ⟨by decide, by decide⟩ ⟨by decide, by decide⟩ (k2 := 0) (n2 := 0) rfl rfl (Nat.le_of_ble_eq_true rfl) dX10_weigh_51 (kIP (fun v23 q24 => ?_))
        refine j_if_eq hx 66 dX10_weigh_54 rfl (by omega) (fun h25 => ?_) (fun h25 => ?_)
        · skip
          refine j_lconst hx dX10_weigh_66 ?_
          show JJ X E 9 G s8 0 0 [(0, .ref a), (1, .int (zI 2)), (2, .long (zL y2)), (4, .ref r1)] 67 [.long (zL 0), .long (zL ((s0 a 7))), .ref a]
          refine j_ladd hx dX10_weigh_67 (fun w26 f27 f28 => ?_)
          refine p11_7 hx hG ha kf_RX10_80 dX10_weigh_68 ?_
          obtain ⟨s11, e_s11⟩ : ∃ z, z = zU s8 a 7 w26 := ⟨_, rfl⟩
          rw [← e_s11]
          have hS_s11 : zSK G s11 := by rw [e_s11]; exact zSK_F hS_s8 ha rfl rfl rfl (by omega)
          exact j_vret hx hq rfl (by decide) (by decide) dX10_weigh_71 ⟨rfl, rfl, hS_s11, (zFr_u (zFr_t zFr_rf hF_s8 (by decide)) e_s11 ha (by decide)), trivial⟩
        · skip
          refine j_aload_n hx 0 dX10_weigh_57 rfl ?_
          refine j_iload_n hx 1 dX10_weigh_58 rfl ?_
          refine j_lload_n hx 2 dX10_weigh_59 rfl ?_
          refine j_callV hx hG (c_X10_allWays hst a 2 y2) lk_RX10_100 ha (by decide) rfl rfl rfl rfl [.int (zI 2), .long (zL y2)] ⟨rfl, hG, hS_s8, ha, (by omega), (by omega)⟩ rfl rfl ⟨by decide, by decide⟩ ⟨by decide, by decide⟩ (k2 := 0) (n2 := 0) rfl rfl (Nat.le_of_ble_eq_true rfl) dX10_weigh_60 (kLP (fun v29 q30 => ?_))
          refine j_goto hx 67 dX10_weigh_63 rfl ?_
          refine j_ladd hx dX10_weigh_67 (fun w31 f32 f33 => ?_)
          refine p11_7 hx hG ha kf_RX10_80 dX10_weigh_68 ?_
          obtain ⟨s12, e_s12⟩ : ∃ z, z = zU s8 a 7 w31 := ⟨_, rfl⟩
          rw [← e_s12]
          have hS_s12 : zSK G s12 := by rw [e_s12]; exact zSK_F hS_s8 ha rfl rfl rfl (by omega)
          exact j_vret hx hq rfl (by decide) (by decide) dX10_weigh_71 ⟨rfl, rfl, hS_s12, (zFr_u (zFr_t zFr_rf hF_s8 (by decide)) e_s12 ha (by decide)), trivial⟩
      refine j_icmp_ge hx 43 dX10_weigh_27 rfl ⟨by decide, by decide⟩ (by omega) (fun h34 => ?_) (fun h34 => ?_)
      · skip
        exact j_sub [2, 3, 4, 1] [(0, .ref a), (1, .int (zI 2)), (2, .long (zL y2)), (4, .ref r1)] rfl (c43_7 s0 hS0 zFr_rf)
      · skip
        refine j_aload hx 0 dX10_weigh_30 rfl ?_
        refine j_ifnull hx dX10_weigh_32 ?_
        refine j_aload hx 1 dX10_weigh_35 rfl ?_
        refine j_callV hx hG (c_X0_step hst r1) lk_RX10_33 q2.1 (by decide) rfl rfl rfl rfl [] ⟨rfl, hG, hS0, q2.1⟩ rfl rfl ⟨by decide, by decide⟩ ⟨by decide, by decide⟩ (k2 := 0) (n2 := 0) rfl rfl (Nat.le_of_ble_eq_true rfl) dX10_weigh_37 (kIM (fun v35 s13 hS_s13 hF_s13 q36 => ?_))
        refine j_if_ne hx 72 dX10_weigh_40 rfl (by omega) (fun h37 => ?_) (fun h37 => ?_)
        · skip
          refine j_aload hx 1 dX10_weigh_72 rfl ?_
          refine j_callV hx hG (c_X0_likeTops hst r1) lk_RX10_37 q2.1 (by decide) rfl rfl rfl rfl [] ⟨rfl, hG, hS_s13, q2.1⟩ rfl rfl ⟨by decide, by decide⟩ ⟨by decide, by decide⟩ (k2 := 0) (n2 := 0) rfl rfl (Nat.le_of_ble_eq_true rfl) dX10_weigh_74 (kIP (fun v38 q39 => ?_))
          refine j_istore hx [(6, .int (zI v38)), (5, .ref r5), (4, .ref r1), (0, .ref a), (1, .int (zI 2)), (2, .long (zL y2))] dX10_weigh_77 (by decide) rfl ?_
          refine j_iconst hx dX10_weigh_79 ?_
          refine j_istore hx [(7, .int (zI 0)), (6, .int (zI v38)), (5, .ref r5), (4, .ref r1), (0, .ref a), (1, .int (zI 2)), (2, .long (zL y2))] dX10_weigh_80 (by decide) rfl ?_
          refine j_iconst hx dX10_weigh_82 ?_
          refine j_istore hx [(8, .int (zI 0)), (7, .int (zI 0)), (6, .int (zI v38)), (5, .ref r5), (4, .ref r1), (0, .ref a), (1, .int (zI 2)), (2, .long (zL y2))] dX10_weigh_83 (by decide) rfl ?_
          have c85_14 : ∀ (m_c85_14 : Nat) (v40 : Int) (v41 : Int) (s15 : zS), 2147483648 - v41 < m_c85_14 → ((-2147483648) ≤ v40 ∧ v40 ≤ 2147483647) → (0 ≤ v41 ∧ v41 ≤ 3) → (zSK G s15) → (zFr [1, 7, 11, 41] G s13 s15) → JJ X E 9 G s15 0 0 [(0, .ref a), (1, .int (zI 2)), (2, .long (zL y2)), (4, .ref r1), (5, .ref r5), (6, .int (zI v38)), (7, .int (zI v40)), (8, .int (zI v41))] 85 [] := by
            intro m_c85_14
            induction m_c85_14 with
            | zero => intro v40 v41 s15 hm_c85_14 fA16 fA17 hS_s15 hF_s15; exfalso; omega
            | succ m_c85_14 ih_c85_14 => 
              intro v40 v41 s15 hm_c85_14 fA16 fA17 hS_s15 hF_s15
              refine j_iload hx 7 dX10_weigh_85 rfl ?_
              refine j_aload_n hx 0 dX10_weigh_87 rfl ?_
              refine g11_0 hx hG ha kf_RX10_17 dX10_weigh_88 ?_
              have f42 := zf hS0 (zr (k := 0) (t2 := 9) hG ha rfl) (k := 4) rfl
              refine gN9_4 hx hG (zr (k := 0) (t2 := 9) hG ha rfl) kf_RX10_104 (v := (s0 (gP G a 0) 4)) (by rw [(zFr_g hF_s15 (zr (k := 0) (t2 := 9) hG ha rfl) (by decide)), (zFr_g hF_s13 (zr (k := 0) (t2 := 9) hG ha rfl) (by decide))]) dX10_weigh_91 ?_
              refine j_icmp_ge hx 178 dX10_weigh_94 rfl (by omega) (by omega) (fun h43 => ?_) (fun h43 => ?_)
              · skip
                refine j_iload hx 6 dX10_weigh_178 rfl ?_
                refine j_if_le hx 202 dX10_weigh_180 rfl (by omega) (fun h44 => ?_) (fun h44 => ?_)
                · skip
                  exact j_vret hx hq rfl (by decide) (by decide) dX10_weigh_202 ⟨rfl, rfl, hS_s15, (zFr_t (zFr_t zFr_rf hF_s13 (by decide)) hF_s15 (by decide)), trivial⟩
                · skip
                  refine j_aload hx 4 dX10_weigh_183 rfl ?_
                  refine j_aload hx 3 dX10_weigh_185 rfl ?_
                  refine j_callV hx hG (c_X0_become hst r5 r1) lk_RX10_26 q6.1 (by decide) rfl rfl rfl rfl [.ref r1] ⟨rfl, hG, hS_s15, q6.1, q2.1⟩ rfl rfl ⟨by decide, by decide⟩ ⟨by decide, by decide⟩ (k2 := 0) (n2 := 0) rfl rfl (Nat.le_of_ble_eq_true rfl) dX10_weigh_187 (kVM (fun s20 hS_s20 hF_s20 q46 => ?_))
                  refine j_aload_n hx 0 dX10_weigh_190 rfl ?_
                  refine j_iload_n hx 1 dX10_weigh_191 rfl ?_
                  refine j_iconst hx dX10_weigh_192 ?_
                  refine j_iadd hx (r := 3) dX10_weigh_193 (by omega) ?_
                  refine j_lload_n hx 2 dX10_weigh_194 rfl ?_
                  refine j_iload hx 6 dX10_weigh_195 rfl ?_
                  refine j_i2l hx dX10_weigh_197 (by omega) ?_
                  refine j_lmul hx dX10_weigh_198 (fun w47 f48 f49 => ?_)
                  refine j_callV hx hG (c_X10_weigh_3 hst a 3 w47) lk_RX10_92 ha (by decide) rfl rfl rfl rfl [.int (zI 3), .long (zL w47)] ⟨rfl, hG, hS_s20, ha, (by omega), (by omega)⟩ rfl rfl ⟨by decide, by decide⟩ ⟨by decide, by decide⟩ (k2 := 0) (n2 := 0) rfl rfl (Nat.le_of_ble_eq_true rfl) dX10_weigh_199 (kVM (fun s21 hS_s21 hF_s21 q51 => ?_))
                  exact j_vret hx hq rfl (by decide) (by decide) dX10_weigh_202 ⟨rfl, rfl, hS_s21, (zFr_t (zFr_t (zFr_t (zFr_t zFr_rf hF_s13 (by decide)) hF_s15 (by decide)) hF_s20 (by decide)) hF_s21 (by decide)), trivial⟩
              · skip
                refine j_iload hx 5 dX10_weigh_97 rfl ?_
                refine j_iconst hx dX10_weigh_99 ?_
                have c172_22 : ∀ (v52 : Int) (s23 : zS), ((-2147483648) ≤ v52 ∧ v52 ≤ 2147483647) → (zSK G s23) → (zFr [1, 7, 11, 41] G s15 s23) → JJ X E 9 G s23 0 0 [(0, .ref a), (1, .int (zI 2)), (2, .long (zL y2)), (4, .ref r1), (5, .ref r5), (6, .int (zI v38)), (7, .int (zI v52)), (8, .int (zI v41))] 172 [] := by
                  intro v52 s23 fA24 hS_s23 hF_s23
                  refine j_iinc hx 7 [(8, .int (zI (v41 + 1))), (0, .ref a), (1, .int (zI 2)), (2, .long (zL y2)), (4, .ref r1), (5, .ref r5), (6, .int (zI v38)), (7, .int (zI v52))] dX10_weigh_172 rfl (by omega) (by decide) rfl ?_
                  refine j_goto hx 85 dX10_weigh_175 rfl ?_
                  exact j_sub [1, 2, 3, 4, 5, 6, 7, 0] [(0, .ref a), (1, .int (zI 2)), (2, .long (zL y2)), (4, .ref r1), (5, .ref r5), (6, .int (zI v38)), (7, .int (zI v52)), (8, .int (zI (v41 + 1)))] rfl (ih_c85_14 v52 (v41 + 1) s23 (by omega) (by omega) (by omega) hS_s23 (zFr_t (zFr_t zFr_rf hF_s15 (by decide)) hF_s23 (by decide)))
                have c113_27 : JJ X E 9 G s15 0 0 [(0, .ref a), (1, .int (zI 2)), (2, .long (zL y2)), (4, .ref r1), (5, .ref r5), (6, .int (zI v38)), (7, .int (zI v40)), (8, .int (zI v41))] 113 [] := by
                  refine j_iload hx 6 dX10_weigh_113 rfl ?_
                  refine j_aload_n hx 0 dX10_weigh_115 rfl ?_
                  refine g11_0 hx hG ha kf_RX10_17 dX10_weigh_116 ?_
                  refine j_iload hx 7 dX10_weigh_119 rfl ?_
                  refine j_iconst hx dX10_weigh_121 ?_
                  refine j_callV hx hG (c_X8_trait hst (gP G a 0) v41 0) lk_RX10_107 (zr (k := 0) (t2 := 9) hG ha rfl) (by decide) rfl rfl rfl rfl [.int (zI v41), .int (zI 0)] ⟨rfl, hG, hS_s15, (zr (k := 0) (t2 := 9) hG ha rfl), (by omega), (by omega)⟩ rfl rfl ⟨by decide, by decide⟩ ⟨by decide, by decide⟩ (k2 := 0) (n2 := 0) rfl rfl (Nat.le_of_ble_eq_true rfl) dX10_weigh_122 (kIP (fun v53 q54 => ?_))
                  refine j_iadd hx (r := v40 + v53) dX10_weigh_125 rfl ?_
                  refine j_norm (fun v55 f56 f57 f58 => ?_)
                  refine j_istore hx [(7, .int (zI v55)), (0, .ref a), (1, .int (zI 2)), (2, .long (zL y2)), (4, .ref r1), (5, .ref r5), (6, .int (zI v38)), (8, .int (zI v41))] dX10_weigh_126 (by decide) rfl ?_
                  refine j_goto hx 172 dX10_weigh_128 rfl ?_
                  exact j_sub [1, 2, 3, 4, 5, 6, 0, 7] [(0, .ref a), (1, .int (zI 2)), (2, .long (zL y2)), (4, .ref r1), (5, .ref r5), (6, .int (zI v38)), (7, .int (zI v55)), (8, .int (zI v41))] rfl (c172_22 v55 s15 (by omega) hS_s15 zFr_rf)
                refine j_icmp_eq hx 113 dX10_weigh_100 rfl (by omega) ⟨by decide, by decide⟩ (fun h59 => ?_) (fun h59 => ?_)
                · skip
                  exact j_sub [0, 1, 2, 3, 4, 5, 6, 7] [(0, .ref a), (1, .int (zI 2)), (2, .long (zL y2)), (4, .ref r1), (5, .ref r5), (6, .int (zI v38)), (7, .int (zI v40)), (8, .int (zI v41))] rfl (c113_27  )
                · skip
                  refine j_aload hx 3 dX10_weigh_103 rfl ?_
                  refine j_iload hx 7 dX10_weigh_105 rfl ?_
                  refine j_callV hx hG (c_X0_isOut hst r1 v41) lk_RX10_73 q2.1 (by decide) rfl rfl rfl rfl [.int (zI v41)] ⟨rfl, hG, hS_s15, q2.1, (by omega)⟩ rfl rfl ⟨by decide, by decide⟩ ⟨by decide, by decide⟩ (k2 := 0) (n2 := 0) rfl rfl (Nat.le_of_ble_eq_true rfl) dX10_weigh_107 (kIP (fun v60 q61 => ?_))
                  refine j_if_eq hx 131 dX10_weigh_110 rfl (by omega) (fun h62 => ?_) (fun h62 => ?_)
                  · skip
                    refine j_aload hx 4 dX10_weigh_131 rfl ?_
                    refine j_aload hx 3 dX10_weigh_133 rfl ?_
                    refine j_callV hx hG (c_X0_become hst r5 r1) lk_RX10_26 q6.1 (by decide) rfl rfl rfl rfl [.ref r1] ⟨rfl, hG, hS_s15, q6.1, q2.1⟩ rfl rfl ⟨by decide, by decide⟩ ⟨by decide, by decide⟩ (k2 := 0) (n2 := 0) rfl rfl (Nat.le_of_ble_eq_true rfl) dX10_weigh_135 (kVM (fun s28 hS_s28 hF_s28 q64 => ?_))
                    refine j_aload hx 4 dX10_weigh_138 rfl ?_
                    refine j_iload hx 7 dX10_weigh_140 rfl ?_
                    refine j_iload hx 5 dX10_weigh_142 rfl ?_
                    refine j_aload_n hx 0 dX10_weigh_144 rfl ?_
                    have f65 := zf hS_s15 ha (k := 3) rfl
                    refine g11_3 hx hG ha kf_RX10_45 (v := (s15 a 3)) (by rw [(zFr_g hF_s28 ha (by decide))]) dX10_weigh_145 ?_
                    refine j_callV hx hG (c_X0_win hst r5 v41 v38 ((s15 a 3))) lk_RX10_69 q6.1 (by decide) rfl rfl rfl rfl [.int (zI v41), .int (zI v38), .int (zI ((s15 a 3)))] ⟨rfl, hG, hS_s28, q6.1, (by omega), (by omega), (by omega)⟩ rfl rfl ⟨by decide, by decide⟩ ⟨by decide, by decide⟩ (k2 := 0) (n2 := 0) rfl rfl (Nat.le_of_ble_eq_true rfl) dX10_weigh_148 (kIM (fun v66 s29 hS_s29 hF_s29 q67 => ?_))
                    refine j_pop hx dX10_weigh_151 rfl ?_
                    refine j_aload_n hx 0 dX10_weigh_152 rfl ?_
                    refine j_iload_n hx 1 dX10_weigh_153 rfl ?_
                    refine j_iconst hx dX10_weigh_154 ?_
                    refine j_iadd hx (r := 3) dX10_weigh_155 (by omega) ?_
                    refine j_lload_n hx 2 dX10_weigh_156 rfl ?_
                    refine j_aload_n hx 0 dX10_weigh_157 rfl ?_
                    refine g11_0 hx hG ha kf_RX10_17 dX10_weigh_158 ?_
                    refine j_iload hx 7 dX10_weigh_161 rfl ?_
                    refine j_iconst hx dX10_weigh_163 ?_
                    refine j_callV hx hG (c_X8_trait hst (gP G a 0) v41 0) lk_RX10_107 (zr (k := 0) (t2 := 9) hG ha rfl) (by decide) rfl rfl rfl rfl [.int (zI v41), .int (zI 0)] ⟨rfl, hG, hS_s29, (zr (k := 0) (t2 := 9) hG ha rfl), (by omega), (by omega)⟩ rfl rfl ⟨by decide, by decide⟩ ⟨by decide, by decide⟩ (k2 := 0) (n2 := 0) rfl rfl (Nat.le_of_ble_eq_true rfl) dX10_weigh_164 (kIP (fun v68 q69 => ?_))
                    refine j_i2l hx dX10_weigh_167 (by omega) ?_
                    refine j_lmul hx dX10_weigh_168 (fun w70 f71 f72 => ?_)
                    refine j_callV hx hG (c_X10_weigh_3 hst a 3 w70) lk_RX10_92 ha (by decide) rfl rfl rfl rfl [.int (zI 3), .long (zL w70)] ⟨rfl, hG, hS_s29, ha, (by omega), (by omega)⟩ rfl rfl ⟨by decide, by decide⟩ ⟨by decide, by decide⟩ (k2 := 0) (n2 := 0) rfl rfl (Nat.le_of_ble_eq_true rfl) dX10_weigh_169 (kVM (fun s30 hS_s30 hF_s30 q74 => ?_))
                    exact j_sub [0, 1, 2, 3, 4, 5, 6, 7] [(0, .ref a), (1, .int (zI 2)), (2, .long (zL y2)), (4, .ref r1), (5, .ref r5), (6, .int (zI v38)), (7, .int (zI v40)), (8, .int (zI v41))] rfl (c172_22 v40 s30 (by omega) hS_s30 (zFr_t (zFr_t (zFr_t zFr_rf hF_s28 (by decide)) hF_s29 (by decide)) hF_s30 (by decide)))
                  · skip
                    exact j_sub [0, 1, 2, 3, 4, 5, 6, 7] [(0, .ref a), (1, .int (zI 2)), (2, .long (zL y2)), (4, .ref r1), (5, .ref r5), (6, .int (zI v38)), (7, .int (zI v40)), (8, .int (zI v41))] rfl (c113_27  )
          exact j_sub [5, 6, 7, 4, 3, 2, 1, 0] [(0, .ref a), (1, .int (zI 2)), (2, .long (zL y2)), (4, .ref r1), (5, .ref r5), (6, .int (zI v38)), (7, .int (zI 0)), (8, .int (zI 0))] rfl (c85_14 (2147483648 * 4) 0 0 s13 (by omega) (by omega) (by omega) hS_s13 zFr_rf)
        · skip
          exact j_sub [2, 3, 4, 1] [(0, .ref a), (1, .int (zI 2)), (2, .long (zL y2)), (4, .ref r1)] rfl (c43_7 s13 hS_s13 (zFr_t zFr_rf hF_s13 (by decide)))

set_option maxHeartbeats 4000000 in
set_option maxRecDepth 20000 in
theorem c_X10_weigh_1 {E : zE} {l : Launch} (hst : l.stackTraces = false) (a : Nat) (x1 : Int) (y2 : Int) : Con E l yX10_weigh cX10_weigh 9 none { frames := 14, cells := 0, slots := 0, locals := 379 } (fun G s vs => vs = [.ref a, .int (zI x1), .long (zL y2)] ∧ zGK G ∧ zSK G s ∧ (gT G a = 11) ∧ (1 ≤ x1 ∧ x1 ≤ 1) ∧ ((-9223372036854775808) ≤ y2 ∧ y2 ≤ 9223372036854775807)) (fun G s _ => pV (fun G2 s2 => G2 = G ∧ zSK G s2 ∧ zFr [1, 7, 11, 41] G s s2 ∧ True)) := by
  refine Con.mk hst (by decide) (fun G s vs h => by rw [h.1]; exact Nat.le_of_ble_eq_true rfl) ?_
  rintro X G s0 vs ⟨rfl, hG, hS0, ha, hx1, hy2⟩ rfl hx hq
  obtain rfl : x1 = 1 := by omega
  show JJ X E 9 G s0 0 0 [(0, .ref a), (1, .int (zI 1)), (2, .long (zL y2))] 0 []
  refine j_aload_n hx 0 dX10_weigh_0 rfl ?_
  refine j_iload_n hx 1 dX10_weigh_1 rfl ?_
  refine j_callV hx hG (c_X10_boardAt hst a 1) lk_RX10_22 ha (by decide) rfl rfl rfl rfl [.int (zI 1)] ⟨rfl, hG, hS0, ha, (by omega)⟩ rfl rfl ⟨by decide, by decide⟩ ⟨by decide, by decide⟩ (k2 := 0) (n2 := 0) rfl rfl (Nat.le_of_ble_eq_true rfl) dX10_weigh_2 (kNP (fun _ => ?_) (fun r1 q2 => ?_))
  · skip
    refine j_astoreN hx [(4, .null), (0, .ref a), (1, .int (zI 1)), (2, .long (zL y2))] dX10_weigh_5 (by decide) rfl ?_
    refine j_aload_n hx 1 dX10_weigh_7 rfl ?_
    refine j_iload_n hx 2 dX10_weigh_8 rfl ?_
    refine j_iconst hx dX10_weigh_9 ?_
    refine j_iadd hx (r := 2) dX10_weigh_10 (by omega) ?_
    refine j_callV hx hG (c_X10_boardAt hst a 2) lk_RX10_22 ha (by decide) rfl rfl rfl rfl [.int (zI 2)] ⟨rfl, hG, hS0, ha, (by omega)⟩ rfl rfl ⟨by decide, by decide⟩ ⟨by decide, by decide⟩ (k2 := 0) (n2 := 0) rfl rfl (Nat.le_of_ble_eq_true rfl) dX10_weigh_11 (kNP (fun _ => ?_) (fun r3 q4 => ?_))
    · skip
      refine j_astoreN hx [(5, .null), (4, .null), (0, .ref a), (1, .int (zI 1)), (2, .long (zL y2))] dX10_weigh_14 (by decide) rfl ?_
      refine j_aloadN hx 1 dX10_weigh_16 rfl ?_
      refine j_ifnonnullN hx dX10_weigh_18 ?_
      exact j_vret hx hq rfl (by decide) (by decide) dX10_weigh_21 ⟨rfl, rfl, hS0, zFr_rf, trivial⟩
    · skip
      refine j_astore hx [(5, .ref r3), (4, .null), (0, .ref a), (1, .int (zI 1)), (2, .long (zL y2))] dX10_weigh_14 (by decide) rfl ?_
      refine j_aloadN hx 1 dX10_weigh_16 rfl ?_
      refine j_ifnonnullN hx dX10_weigh_18 ?_
      exact j_vret hx hq rfl (by decide) (by decide) dX10_weigh_21 ⟨rfl, rfl, hS0, zFr_rf, trivial⟩
  · skip
    refine j_astore hx [(4, .ref r1), (0, .ref a), (1, .int (zI 1)), (2, .long (zL y2))] dX10_weigh_5 (by decide) rfl ?_
    refine j_aload_n hx 1 dX10_weigh_7 rfl ?_
    refine j_iload_n hx 2 dX10_weigh_8 rfl ?_
    refine j_iconst hx dX10_weigh_9 ?_
    refine j_iadd hx (r := 2) dX10_weigh_10 (by omega) ?_
    refine j_callV hx hG (c_X10_boardAt hst a 2) lk_RX10_22 ha (by decide) rfl rfl rfl rfl [.int (zI 2)] ⟨rfl, hG, hS0, ha, (by omega)⟩ rfl rfl ⟨by decide, by decide⟩ ⟨by decide, by decide⟩ (k2 := 0) (n2 := 0) rfl rfl (Nat.le_of_ble_eq_true rfl) dX10_weigh_11 (kNP (fun _ => ?_) (fun r5 q6 => ?_))
    · skip
      refine j_astoreN hx [(5, .null), (4, .ref r1), (0, .ref a), (1, .int (zI 1)), (2, .long (zL y2))] dX10_weigh_14 (by decide) rfl ?_
      refine j_aload hx 1 dX10_weigh_16 rfl ?_
      refine j_ifnonnull hx 22 dX10_weigh_18 rfl ?_
      refine j_iload_n hx 3 dX10_weigh_22 rfl ?_
      refine j_aload_n hx 2 dX10_weigh_23 rfl ?_
      have f7 := zf hS0 ha (k := 4) rfl
      refine g11_4 hx hG ha kf_RX10_77 rfl dX10_weigh_24 ?_
      have c43_1 : ∀ (s2 : zS), (zSK G s2) → (zFr [1, 7, 41] G s0 s2) → JJ X E 9 G s2 0 0 [(0, .ref a), (1, .int (zI 1)), (2, .long (zL y2)), (4, .ref r1)] 43 [] := by
        intro s2 hS_s2 hF_s2
        refine j_aload_n hx 0 dX10_weigh_43 rfl ?_
        refine j_dup hx dX10_weigh_44 rfl ?_
        have f8 := zf hS0 ha (k := 7) rfl
        refine g11_7 hx hG ha kf_RX10_80 (v := (s0 a 7)) (by rw [(zFr_g hF_s2 ha (by decide))]) dX10_weigh_45 ?_
        refine j_aload_n hx 0 dX10_weigh_48 rfl ?_
        refine j_aload hx 3 dX10_weigh_49 rfl ?_
        refine j_callV hx hG (c_X10_leads hst a r1) lk_RX10_96 ha (by decide) rfl rfl rfl rfl [.ref r1] ⟨rfl, hG, hS_s2, ha, q2.1⟩ rfl rfl ⟨by decide, by decide⟩ ⟨by decide, by decide⟩ (k2 := 0) (n2 := 0) rfl rfl (Nat.le_of_ble_eq_true rfl) dX10_weigh_51 (kIP (fun v9 q10 => ?_))
        refine j_if_eq hx 66 dX10_weigh_54 rfl (by omega) (fun h11 => ?_) (fun h11 => ?_)
        · skip
          refine j_lconst hx dX10_weigh_66 ?_
          show JJ X E 9 G s2 0 0 [(0, .ref a), (1, .int (zI 1)), (2, .long (zL y2)), (4, .ref r1)] 67 [.long (zL 0), .long (zL ((s0 a 7))), .ref a]
          refine j_ladd hx dX10_weigh_67 (fun w12 f13 f14 => ?_)
          refine p11_7 hx hG ha kf_RX10_80 dX10_weigh_68 ?_
          obtain ⟨s5, e_s5⟩ : ∃ z, z = zU s2 a 7 w12 := ⟨_, rfl⟩
          rw [← e_s5]
          have hS_s5 : zSK G s5 := by rw [e_s5]; exact zSK_F hS_s2 ha rfl rfl rfl (by omega)
          exact j_vret hx hq rfl (by decide) (by decide) dX10_weigh_71 ⟨rfl, rfl, hS_s5, (zFr_u (zFr_t zFr_rf hF_s2 (by decide)) e_s5 ha (by decide)), trivial⟩
        · skip
          refine j_aload_n hx 0 dX10_weigh_57 rfl ?_
          refine j_iload_n hx 1 dX10_weigh_58 rfl ?_
          refine j_lload_n hx 2 dX10_weigh_59 rfl ?_
          refine j_callV hx hG (c_X10_allWays hst a 1 y2) lk_RX10_100 ha (by decide) rfl rfl rfl rfl [.int (zI 1), .long (zL y2)] ⟨rfl, hG, hS_s2, ha, (by omega), (by omega)⟩ rfl rfl ⟨by decide, by decide⟩ ⟨by decide, by decide⟩ (k2 := 0) (n2 := 0) rfl rfl (Nat.le_of_ble_eq_true rfl) dX10_weigh_60 (kLP (fun v15 q16 => ?_))
          refine j_goto hx 67 dX10_weigh_63 rfl ?_
          refine j_ladd hx dX10_weigh_67 (fun w17 f18 f19 => ?_)
          refine p11_7 hx hG ha kf_RX10_80 dX10_weigh_68 ?_
          obtain ⟨s6, e_s6⟩ : ∃ z, z = zU s2 a 7 w17 := ⟨_, rfl⟩
          rw [← e_s6]
          have hS_s6 : zSK G s6 := by rw [e_s6]; exact zSK_F hS_s2 ha rfl rfl rfl (by omega)
          exact j_vret hx hq rfl (by decide) (by decide) dX10_weigh_71 ⟨rfl, rfl, hS_s6, (zFr_u (zFr_t zFr_rf hF_s2 (by decide)) e_s6 ha (by decide)), trivial⟩
      refine j_icmp_ge hx 43 dX10_weigh_27 rfl ⟨by decide, by decide⟩ (by omega) (fun h20 => ?_) (fun h20 => ?_)
      · skip
        exact j_sub [2, 3, 4, 1] [(0, .ref a), (1, .int (zI 1)), (2, .long (zL y2)), (4, .ref r1)] rfl (c43_1 s0 hS0 zFr_rf)
      · skip
        refine j_aloadN hx 0 dX10_weigh_30 rfl ?_
        refine j_ifnullN hx 43 dX10_weigh_32 rfl ?_
        exact j_sub [2, 3, 4, 1] [(0, .ref a), (1, .int (zI 1)), (2, .long (zL y2)), (4, .ref r1)] rfl (c43_1 s0 hS0 zFr_rf)
    · skip
      refine j_astore hx [(5, .ref r5), (4, .ref r1), (0, .ref a), (1, .int (zI 1)), (2, .long (zL y2))] dX10_weigh_14 (by decide) rfl ?_
      refine j_aload hx 1 dX10_weigh_16 rfl ?_
      refine j_ifnonnull hx 22 dX10_weigh_18 rfl ?_
      refine j_iload_n hx 3 dX10_weigh_22 rfl ?_
      refine j_aload_n hx 2 dX10_weigh_23 rfl ?_
      have f21 := zf hS0 ha (k := 4) rfl
      refine g11_4 hx hG ha kf_RX10_77 rfl dX10_weigh_24 ?_
      have c43_7 : ∀ (s8 : zS), (zSK G s8) → (zFr [1, 7, 41] G s0 s8) → JJ X E 9 G s8 0 0 [(0, .ref a), (1, .int (zI 1)), (2, .long (zL y2)), (4, .ref r1)] 43 [] := by
        intro s8 hS_s8 hF_s8
        refine j_aload_n hx 0 dX10_weigh_43 rfl ?_
        refine j_dup hx dX10_weigh_44 rfl ?_
        have f22 := zf hS0 ha (k := 7) rfl
        refine g11_7 hx hG ha kf_RX10_80 (v := (s0 a 7)) (by rw [(zFr_g hF_s8 ha (by decide))]) dX10_weigh_45 ?_
        refine j_aload_n hx 0 dX10_weigh_48 rfl ?_
        refine j_aload hx 3 dX10_weigh_49 rfl ?_
        refine j_callV hx hG (c_X10_leads hst a r1) lk_RX10_96 ha (by decide) rfl rfl rfl rfl [.ref r1] ⟨rfl, hG, hS_s8, ha, q2.1⟩ rfl rfl ⟨by decide, by decide⟩ ⟨by decide, by decide⟩ (k2 := 0) (n2 := 0) rfl rfl (Nat.le_of_ble_eq_true rfl) dX10_weigh_51 (kIP (fun v23 q24 => ?_))
        refine j_if_eq hx 66 dX10_weigh_54 rfl (by omega) (fun h25 => ?_) (fun h25 => ?_)
        · skip
          refine j_lconst hx dX10_weigh_66 ?_
          show JJ X E 9 G s8 0 0 [(0, .ref a), (1, .int (zI 1)), (2, .long (zL y2)), (4, .ref r1)] 67 [.long (zL 0), .long (zL ((s0 a 7))), .ref a]
          refine j_ladd hx dX10_weigh_67 (fun w26 f27 f28 => ?_)
          refine p11_7 hx hG ha kf_RX10_80 dX10_weigh_68 ?_
          obtain ⟨s11, e_s11⟩ : ∃ z, z = zU s8 a 7 w26 := ⟨_, rfl⟩
          rw [← e_s11]
          have hS_s11 : zSK G s11 := by rw [e_s11]; exact zSK_F hS_s8 ha rfl rfl rfl (by omega)
          exact j_vret hx hq rfl (by decide) (by decide) dX10_weigh_71 ⟨rfl, rfl, hS_s11, (zFr_u (zFr_t zFr_rf hF_s8 (by decide)) e_s11 ha (by decide)), trivial⟩
        · skip
          refine j_aload_n hx 0 dX10_weigh_57 rfl ?_
          refine j_iload_n hx 1 dX10_weigh_58 rfl ?_
          refine j_lload_n hx 2 dX10_weigh_59 rfl ?_
          refine j_callV hx hG (c_X10_allWays hst a 1 y2) lk_RX10_100 ha (by decide) rfl rfl rfl rfl [.int (zI 1), .long (zL y2)] ⟨rfl, hG, hS_s8, ha, (by omega), (by omega)⟩ rfl rfl ⟨by decide, by decide⟩ ⟨by decide, by decide⟩ (k2 := 0) (n2 := 0) rfl rfl (Nat.le_of_ble_eq_true rfl) dX10_weigh_60 (kLP (fun v29 q30 => ?_))
          refine j_goto hx 67 dX10_weigh_63 rfl ?_
          refine j_ladd hx dX10_weigh_67 (fun w31 f32 f33 => ?_)
          refine p11_7 hx hG ha kf_RX10_80 dX10_weigh_68 ?_
          obtain ⟨s12, e_s12⟩ : ∃ z, z = zU s8 a 7 w31 := ⟨_, rfl⟩
          rw [← e_s12]
          have hS_s12 : zSK G s12 := by rw [e_s12]; exact zSK_F hS_s8 ha rfl rfl rfl (by omega)
          exact j_vret hx hq rfl (by decide) (by decide) dX10_weigh_71 ⟨rfl, rfl, hS_s12, (zFr_u (zFr_t zFr_rf hF_s8 (by decide)) e_s12 ha (by decide)), trivial⟩
      refine j_icmp_ge hx 43 dX10_weigh_27 rfl ⟨by decide, by decide⟩ (by omega) (fun h34 => ?_) (fun h34 => ?_)
      · skip
        exact j_sub [2, 3, 4, 1] [(0, .ref a), (1, .int (zI 1)), (2, .long (zL y2)), (4, .ref r1)] rfl (c43_7 s0 hS0 zFr_rf)
      · skip
        refine j_aload hx 0 dX10_weigh_30 rfl ?_
        refine j_ifnull hx dX10_weigh_32 ?_
        refine j_aload hx 1 dX10_weigh_35 rfl ?_
        refine j_callV hx hG (c_X0_step hst r1) lk_RX10_33 q2.1 (by decide) rfl rfl rfl rfl [] ⟨rfl, hG, hS0, q2.1⟩ rfl rfl ⟨by decide, by decide⟩ ⟨by decide, by decide⟩ (k2 := 0) (n2 := 0) rfl rfl (Nat.le_of_ble_eq_true rfl) dX10_weigh_37 (kIM (fun v35 s13 hS_s13 hF_s13 q36 => ?_))
        refine j_if_ne hx 72 dX10_weigh_40 rfl (by omega) (fun h37 => ?_) (fun h37 => ?_)
        · skip
          refine j_aload hx 1 dX10_weigh_72 rfl ?_
          refine j_callV hx hG (c_X0_likeTops hst r1) lk_RX10_37 q2.1 (by decide) rfl rfl rfl rfl [] ⟨rfl, hG, hS_s13, q2.1⟩ rfl rfl ⟨by decide, by decide⟩ ⟨by decide, by decide⟩ (k2 := 0) (n2 := 0) rfl rfl (Nat.le_of_ble_eq_true rfl) dX10_weigh_74 (kIP (fun v38 q39 => ?_))
          refine j_istore hx [(6, .int (zI v38)), (5, .ref r5), (4, .ref r1), (0, .ref a), (1, .int (zI 1)), (2, .long (zL y2))] dX10_weigh_77 (by decide) rfl ?_
          refine j_iconst hx dX10_weigh_79 ?_
          refine j_istore hx [(7, .int (zI 0)), (6, .int (zI v38)), (5, .ref r5), (4, .ref r1), (0, .ref a), (1, .int (zI 1)), (2, .long (zL y2))] dX10_weigh_80 (by decide) rfl ?_
          refine j_iconst hx dX10_weigh_82 ?_
          refine j_istore hx [(8, .int (zI 0)), (7, .int (zI 0)), (6, .int (zI v38)), (5, .ref r5), (4, .ref r1), (0, .ref a), (1, .int (zI 1)), (2, .long (zL y2))] dX10_weigh_83 (by decide) rfl ?_
          have c85_14 : ∀ (m_c85_14 : Nat) (v40 : Int) (v41 : Int) (s15 : zS), 2147483648 - v41 < m_c85_14 → ((-2147483648) ≤ v40 ∧ v40 ≤ 2147483647) → (0 ≤ v41 ∧ v41 ≤ 3) → (zSK G s15) → (zFr [1, 7, 11, 41] G s13 s15) → JJ X E 9 G s15 0 0 [(0, .ref a), (1, .int (zI 1)), (2, .long (zL y2)), (4, .ref r1), (5, .ref r5), (6, .int (zI v38)), (7, .int (zI v40)), (8, .int (zI v41))] 85 [] := by
            intro m_c85_14
            induction m_c85_14 with
            | zero => intro v40 v41 s15 hm_c85_14 fA16 fA17 hS_s15 hF_s15; exfalso; omega
            | succ m_c85_14 ih_c85_14 => 
              intro v40 v41 s15 hm_c85_14 fA16 fA17 hS_s15 hF_s15
              refine j_iload hx 7 dX10_weigh_85 rfl ?_
              refine j_aload_n hx 0 dX10_weigh_87 rfl ?_
              refine g11_0 hx hG ha kf_RX10_17 dX10_weigh_88 ?_
              have f42 := zf hS0 (zr (k := 0) (t2 := 9) hG ha rfl) (k := 4) rfl
              refine gN9_4 hx hG (zr (k := 0) (t2 := 9) hG ha rfl) kf_RX10_104 (v := (s0 (gP G a 0) 4)) (by rw [(zFr_g hF_s15 (zr (k := 0) (t2 := 9) hG ha rfl) (by decide)), (zFr_g hF_s13 (zr (k := 0) (t2 := 9) hG ha rfl) (by decide))]) dX10_weigh_91 ?_
              refine j_icmp_ge hx 178 dX10_weigh_94 rfl (by omega) (by omega) (fun h43 => ?_) (fun h43 => ?_)
              · skip
                refine j_iload hx 6 dX10_weigh_178 rfl ?_
                refine j_if_le hx 202 dX10_weigh_180 rfl (by omega) (fun h44 => ?_) (fun h44 => ?_)
                · skip
                  exact j_vret hx hq rfl (by decide) (by decide) dX10_weigh_202 ⟨rfl, rfl, hS_s15, (zFr_t (zFr_t zFr_rf hF_s13 (by decide)) hF_s15 (by decide)), trivial⟩
                · skip
                  refine j_aload hx 4 dX10_weigh_183 rfl ?_
                  refine j_aload hx 3 dX10_weigh_185 rfl ?_
                  refine j_callV hx hG (c_X0_become hst r5 r1) lk_RX10_26 q6.1 (by decide) rfl rfl rfl rfl [.ref r1] ⟨rfl, hG, hS_s15, q6.1, q2.1⟩ rfl rfl ⟨by decide, by decide⟩ ⟨by decide, by decide⟩ (k2 := 0) (n2 := 0) rfl rfl (Nat.le_of_ble_eq_true rfl) dX10_weigh_187 (kVM (fun s20 hS_s20 hF_s20 q46 => ?_))
                  refine j_aload_n hx 0 dX10_weigh_190 rfl ?_
                  refine j_iload_n hx 1 dX10_weigh_191 rfl ?_
                  refine j_iconst hx dX10_weigh_192 ?_
                  refine j_iadd hx (r := 2) dX10_weigh_193 (by omega) ?_
                  refine j_lload_n hx 2 dX10_weigh_194 rfl ?_
                  refine j_iload hx 6 dX10_weigh_195 rfl ?_
                  refine j_i2l hx dX10_weigh_197 (by omega) ?_
                  refine j_lmul hx dX10_weigh_198 (fun w47 f48 f49 => ?_)
                  refine j_callV hx hG (c_X10_weigh_2 hst a 2 w47) lk_RX10_92 ha (by decide) rfl rfl rfl rfl [.int (zI 2), .long (zL w47)] ⟨rfl, hG, hS_s20, ha, (by omega), (by omega)⟩ rfl rfl ⟨by decide, by decide⟩ ⟨by decide, by decide⟩ (k2 := 0) (n2 := 0) rfl rfl (Nat.le_of_ble_eq_true rfl) dX10_weigh_199 (kVM (fun s21 hS_s21 hF_s21 q51 => ?_))
                  exact j_vret hx hq rfl (by decide) (by decide) dX10_weigh_202 ⟨rfl, rfl, hS_s21, (zFr_t (zFr_t (zFr_t (zFr_t zFr_rf hF_s13 (by decide)) hF_s15 (by decide)) hF_s20 (by decide)) hF_s21 (by decide)), trivial⟩
              · skip
                refine j_iload hx 5 dX10_weigh_97 rfl ?_
                refine j_iconst hx dX10_weigh_99 ?_
                have c172_22 : ∀ (v52 : Int) (s23 : zS), ((-2147483648) ≤ v52 ∧ v52 ≤ 2147483647) → (zSK G s23) → (zFr [1, 7, 11, 41] G s15 s23) → JJ X E 9 G s23 0 0 [(0, .ref a), (1, .int (zI 1)), (2, .long (zL y2)), (4, .ref r1), (5, .ref r5), (6, .int (zI v38)), (7, .int (zI v52)), (8, .int (zI v41))] 172 [] := by
                  intro v52 s23 fA24 hS_s23 hF_s23
                  refine j_iinc hx 7 [(8, .int (zI (v41 + 1))), (0, .ref a), (1, .int (zI 1)), (2, .long (zL y2)), (4, .ref r1), (5, .ref r5), (6, .int (zI v38)), (7, .int (zI v52))] dX10_weigh_172 rfl (by omega) (by decide) rfl ?_
                  refine j_goto hx 85 dX10_weigh_175 rfl ?_
                  exact j_sub [1, 2, 3, 4, 5, 6, 7, 0] [(0, .ref a), (1, .int (zI 1)), (2, .long (zL y2)), (4, .ref r1), (5, .ref r5), (6, .int (zI v38)), (7, .int (zI v52)), (8, .int (zI (v41 + 1)))] rfl (ih_c85_14 v52 (v41 + 1) s23 (by omega) (by omega) (by omega) hS_s23 (zFr_t (zFr_t zFr_rf hF_s15 (by decide)) hF_s23 (by decide)))
                have c113_27 : JJ X E 9 G s15 0 0 [(0, .ref a), (1, .int (zI 1)), (2, .long (zL y2)), (4, .ref r1), (5, .ref r5), (6, .int (zI v38)), (7, .int (zI v40)), (8, .int (zI v41))] 113 [] := by
                  refine j_iload hx 6 dX10_weigh_113 rfl ?_
                  refine j_aload_n hx 0 dX10_weigh_115 rfl ?_
                  refine g11_0 hx hG ha kf_RX10_17 dX10_weigh_116 ?_
                  refine j_iload hx 7 dX10_weigh_119 rfl ?_
                  refine j_iconst hx dX10_weigh_121 ?_
                  refine j_callV hx hG (c_X8_trait hst (gP G a 0) v41 0) lk_RX10_107 (zr (k := 0) (t2 := 9) hG ha rfl) (by decide) rfl rfl rfl rfl [.int (zI v41), .int (zI 0)] ⟨rfl, hG, hS_s15, (zr (k := 0) (t2 := 9) hG ha rfl), (by omega), (by omega)⟩ rfl rfl ⟨by decide, by decide⟩ ⟨by decide, by decide⟩ (k2 := 0) (n2 := 0) rfl rfl (Nat.le_of_ble_eq_true rfl) dX10_weigh_122 (kIP (fun v53 q54 => ?_))
                  refine j_iadd hx (r := v40 + v53) dX10_weigh_125 rfl ?_
                  refine j_norm (fun v55 f56 f57 f58 => ?_)
                  refine j_istore hx [(7, .int (zI v55)), (0, .ref a), (1, .int (zI 1)), (2, .long (zL y2)), (4, .ref r1), (5, .ref r5), (6, .int (zI v38)), (8, .int (zI v41))] dX10_weigh_126 (by decide) rfl ?_
                  refine j_goto hx 172 dX10_weigh_128 rfl ?_
                  exact j_sub [1, 2, 3, 4, 5, 6, 0, 7] [(0, .ref a), (1, .int (zI 1)), (2, .long (zL y2)), (4, .ref r1), (5, .ref r5), (6, .int (zI v38)), (7, .int (zI v55)), (8, .int (zI v41))] rfl (c172_22 v55 s15 (by omega) hS_s15 zFr_rf)
                refine j_icmp_eq hx 113 dX10_weigh_100 rfl (by omega) ⟨by decide, by decide⟩ (fun h59 => ?_) (fun h59 => ?_)
                · skip
                  exact j_sub [0, 1, 2, 3, 4, 5, 6, 7] [(0, .ref a), (1, .int (zI 1)), (2, .long (zL y2)), (4, .ref r1), (5, .ref r5), (6, .int (zI v38)), (7, .int (zI v40)), (8, .int (zI v41))] rfl (c113_27  )
                · skip
                  refine j_aload hx 3 dX10_weigh_103 rfl ?_
                  refine j_iload hx 7 dX10_weigh_105 rfl ?_
                  refine j_callV hx hG (c_X0_isOut hst r1 v41) lk_RX10_73 q2.1 (by decide) rfl rfl rfl rfl [.int (zI v41)] ⟨rfl, hG, hS_s15, q2.1, (by omega)⟩ rfl rfl ⟨by decide, by decide⟩ ⟨by decide, by decide⟩ (k2 := 0) (n2 := 0) rfl rfl (Nat.le_of_ble_eq_true rfl) dX10_weigh_107 (kIP (fun v60 q61 => ?_))
                  refine j_if_eq hx 131 dX10_weigh_110 rfl (by omega) (fun h62 => ?_) (fun h62 => ?_)
                  · skip
                    refine j_aload hx 4 dX10_weigh_131 rfl ?_
                    refine j_aload hx 3 dX10_weigh_133 rfl ?_
                    refine j_callV hx hG (c_X0_become hst r5 r1) lk_RX10_26 q6.1 (by decide) rfl rfl rfl rfl [.ref r1] ⟨rfl, hG, hS_s15, q6.1, q2.1⟩ rfl rfl ⟨by decide, by decide⟩ ⟨by decide, by decide⟩ (k2 := 0) (n2 := 0) rfl rfl (Nat.le_of_ble_eq_true rfl) dX10_weigh_135 (kVM (fun s28 hS_s28 hF_s28 q64 => ?_))
                    refine j_aload hx 4 dX10_weigh_138 rfl ?_
                    refine j_iload hx 7 dX10_weigh_140 rfl ?_
                    refine j_iload hx 5 dX10_weigh_142 rfl ?_
                    refine j_aload_n hx 0 dX10_weigh_144 rfl ?_
                    have f65 := zf hS_s15 ha (k := 3) rfl
                    refine g11_3 hx hG ha kf_RX10_45 (v := (s15 a 3)) (by rw [(zFr_g hF_s28 ha (by decide))]) dX10_weigh_145 ?_
                    refine j_callV hx hG (c_X0_win hst r5 v41 v38 ((s15 a 3))) lk_RX10_69 q6.1 (by decide) rfl rfl rfl rfl [.int (zI v41), .int (zI v38), .int (zI ((s15 a 3)))] ⟨rfl, hG, hS_s28, q6.1, (by omega), (by omega), (by omega)⟩ rfl rfl ⟨by decide, by decide⟩ ⟨by decide, by decide⟩ (k2 := 0) (n2 := 0) rfl rfl (Nat.le_of_ble_eq_true rfl) dX10_weigh_148 (kIM (fun v66 s29 hS_s29 hF_s29 q67 => ?_))
                    refine j_pop hx dX10_weigh_151 rfl ?_
                    refine j_aload_n hx 0 dX10_weigh_152 rfl ?_
                    refine j_iload_n hx 1 dX10_weigh_153 rfl ?_
                    refine j_iconst hx dX10_weigh_154 ?_
                    refine j_iadd hx (r := 2) dX10_weigh_155 (by omega) ?_
                    refine j_lload_n hx 2 dX10_weigh_156 rfl ?_
                    refine j_aload_n hx 0 dX10_weigh_157 rfl ?_
                    refine g11_0 hx hG ha kf_RX10_17 dX10_weigh_158 ?_
                    refine j_iload hx 7 dX10_weigh_161 rfl ?_
                    refine j_iconst hx dX10_weigh_163 ?_
                    refine j_callV hx hG (c_X8_trait hst (gP G a 0) v41 0) lk_RX10_107 (zr (k := 0) (t2 := 9) hG ha rfl) (by decide) rfl rfl rfl rfl [.int (zI v41), .int (zI 0)] ⟨rfl, hG, hS_s29, (zr (k := 0) (t2 := 9) hG ha rfl), (by omega), (by omega)⟩ rfl rfl ⟨by decide, by decide⟩ ⟨by decide, by decide⟩ (k2 := 0) (n2 := 0) rfl rfl (Nat.le_of_ble_eq_true rfl) dX10_weigh_164 (kIP (fun v68 q69 => ?_))
                    refine j_i2l hx dX10_weigh_167 (by omega) ?_
                    refine j_lmul hx dX10_weigh_168 (fun w70 f71 f72 => ?_)
                    refine j_callV hx hG (c_X10_weigh_2 hst a 2 w70) lk_RX10_92 ha (by decide) rfl rfl rfl rfl [.int (zI 2), .long (zL w70)] ⟨rfl, hG, hS_s29, ha, (by omega), (by omega)⟩ rfl rfl ⟨by decide, by decide⟩ ⟨by decide, by decide⟩ (k2 := 0) (n2 := 0) rfl rfl (Nat.le_of_ble_eq_true rfl) dX10_weigh_169 (kVM (fun s30 hS_s30 hF_s30 q74 => ?_))
                    exact j_sub [0, 1, 2, 3, 4, 5, 6, 7] [(0, .ref a), (1, .int (zI 1)), (2, .long (zL y2)), (4, .ref r1), (5, .ref r5), (6, .int (zI v38)), (7, .int (zI v40)), (8, .int (zI v41))] rfl (c172_22 v40 s30 (by omega) hS_s30 (zFr_t (zFr_t (zFr_t zFr_rf hF_s28 (by decide)) hF_s29 (by decide)) hF_s30 (by decide)))
                  · skip
                    exact j_sub [0, 1, 2, 3, 4, 5, 6, 7] [(0, .ref a), (1, .int (zI 1)), (2, .long (zL y2)), (4, .ref r1), (5, .ref r5), (6, .int (zI v38)), (7, .int (zI v40)), (8, .int (zI v41))] rfl (c113_27  )
          exact j_sub [5, 6, 7, 4, 3, 2, 1, 0] [(0, .ref a), (1, .int (zI 1)), (2, .long (zL y2)), (4, .ref r1), (5, .ref r5), (6, .int (zI v38)), (7, .int (zI 0)), (8, .int (zI 0))] rfl (c85_14 (2147483648 * 4) 0 0 s13 (by omega) (by omega) (by omega) hS_s13 zFr_rf)
        · skip
          exact j_sub [2, 3, 4, 1] [(0, .ref a), (1, .int (zI 1)), (2, .long (zL y2)), (4, .ref r1)] rfl (c43_7 s13 hS_s13 (zFr_t zFr_rf hF_s13 (by decide)))

set_option maxHeartbeats 4000000 in
set_option maxRecDepth 20000 in
theorem c_X10_weigh_0 {E : zE} {l : Launch} (hst : l.stackTraces = false) (a : Nat) (x1 : Int) (y2 : Int) : Con E l yX10_weigh cX10_weigh 9 none { frames := 15, cells := 0, slots := 0, locals := 407 } (fun G s vs => vs = [.ref a, .int (zI x1), .long (zL y2)] ∧ zGK G ∧ zSK G s ∧ (gT G a = 11) ∧ (0 ≤ x1 ∧ x1 ≤ 0) ∧ ((-9223372036854775808) ≤ y2 ∧ y2 ≤ 9223372036854775807)) (fun G s _ => pV (fun G2 s2 => G2 = G ∧ zSK G s2 ∧ zFr [1, 7, 11, 41] G s s2 ∧ True)) := by
  refine Con.mk hst (by decide) (fun G s vs h => by rw [h.1]; exact Nat.le_of_ble_eq_true rfl) ?_
  rintro X G s0 vs ⟨rfl, hG, hS0, ha, hx1, hy2⟩ rfl hx hq
  obtain rfl : x1 = 0 := by omega
  show JJ X E 9 G s0 0 0 [(0, .ref a), (1, .int (zI 0)), (2, .long (zL y2))] 0 []
  refine j_aload_n hx 0 dX10_weigh_0 rfl ?_
  refine j_iload_n hx 1 dX10_weigh_1 rfl ?_
  refine j_callV hx hG (c_X10_boardAt hst a 0) lk_RX10_22 ha (by decide) rfl rfl rfl rfl [.int (zI 0)] ⟨rfl, hG, hS0, ha, (by omega)⟩ rfl rfl ⟨by decide, by decide⟩ ⟨by decide, by decide⟩ (k2 := 0) (n2 := 0) rfl rfl (Nat.le_of_ble_eq_true rfl) dX10_weigh_2 (kNP (fun _ => ?_) (fun r1 q2 => ?_))
  · skip
    refine j_astoreN hx [(4, .null), (0, .ref a), (1, .int (zI 0)), (2, .long (zL y2))] dX10_weigh_5 (by decide) rfl ?_
    refine j_aload_n hx 1 dX10_weigh_7 rfl ?_
    refine j_iload_n hx 2 dX10_weigh_8 rfl ?_
    refine j_iconst hx dX10_weigh_9 ?_
    refine j_iadd hx (r := 1) dX10_weigh_10 (by omega) ?_
    refine j_callV hx hG (c_X10_boardAt hst a 1) lk_RX10_22 ha (by decide) rfl rfl rfl rfl [.int (zI 1)] ⟨rfl, hG, hS0, ha, (by omega)⟩ rfl rfl ⟨by decide, by decide⟩ ⟨by decide, by decide⟩ (k2 := 0) (n2 := 0) rfl rfl (Nat.le_of_ble_eq_true rfl) dX10_weigh_11 (kNP (fun _ => ?_) (fun r3 q4 => ?_))
    · skip
      refine j_astoreN hx [(5, .null), (4, .null), (0, .ref a), (1, .int (zI 0)), (2, .long (zL y2))] dX10_weigh_14 (by decide) rfl ?_
      refine j_aloadN hx 1 dX10_weigh_16 rfl ?_
      refine j_ifnonnullN hx dX10_weigh_18 ?_
      exact j_vret hx hq rfl (by decide) (by decide) dX10_weigh_21 ⟨rfl, rfl, hS0, zFr_rf, trivial⟩
    · skip
      refine j_astore hx [(5, .ref r3), (4, .null), (0, .ref a), (1, .int (zI 0)), (2, .long (zL y2))] dX10_weigh_14 (by decide) rfl ?_
      refine j_aloadN hx 1 dX10_weigh_16 rfl ?_
      refine j_ifnonnullN hx dX10_weigh_18 ?_
      exact j_vret hx hq rfl (by decide) (by decide) dX10_weigh_21 ⟨rfl, rfl, hS0, zFr_rf, trivial⟩
  · skip
    refine j_astore hx [(4, .ref r1), (0, .ref a), (1, .int (zI 0)), (2, .long (zL y2))] dX10_weigh_5 (by decide) rfl ?_
    refine j_aload_n hx 1 dX10_weigh_7 rfl ?_
    refine j_iload_n hx 2 dX10_weigh_8 rfl ?_
    refine j_iconst hx dX10_weigh_9 ?_
    refine j_iadd hx (r := 1) dX10_weigh_10 (by omega) ?_
    refine j_callV hx hG (c_X10_boardAt hst a 1) lk_RX10_22 ha (by decide) rfl rfl rfl rfl [.int (zI 1)] ⟨rfl, hG, hS0, ha, (by omega)⟩ rfl rfl ⟨by decide, by decide⟩ ⟨by decide, by decide⟩ (k2 := 0) (n2 := 0) rfl rfl (Nat.le_of_ble_eq_true rfl) dX10_weigh_11 (kNP (fun _ => ?_) (fun r5 q6 => ?_))
    · skip
      refine j_astoreN hx [(5, .null), (4, .ref r1), (0, .ref a), (1, .int (zI 0)), (2, .long (zL y2))] dX10_weigh_14 (by decide) rfl ?_
      refine j_aload hx 1 dX10_weigh_16 rfl ?_
      refine j_ifnonnull hx 22 dX10_weigh_18 rfl ?_
      refine j_iload_n hx 3 dX10_weigh_22 rfl ?_
      refine j_aload_n hx 2 dX10_weigh_23 rfl ?_
      have f7 := zf hS0 ha (k := 4) rfl
      refine g11_4 hx hG ha kf_RX10_77 rfl dX10_weigh_24 ?_
      have c43_1 : ∀ (s2 : zS), (zSK G s2) → (zFr [1, 7, 41] G s0 s2) → JJ X E 9 G s2 0 0 [(0, .ref a), (1, .int (zI 0)), (2, .long (zL y2)), (4, .ref r1)] 43 [] := by
        intro s2 hS_s2 hF_s2
        refine j_aload_n hx 0 dX10_weigh_43 rfl ?_
        refine j_dup hx dX10_weigh_44 rfl ?_
        have f8 := zf hS0 ha (k := 7) rfl
        refine g11_7 hx hG ha kf_RX10_80 (v := (s0 a 7)) (by rw [(zFr_g hF_s2 ha (by decide))]) dX10_weigh_45 ?_
        refine j_aload_n hx 0 dX10_weigh_48 rfl ?_
        refine j_aload hx 3 dX10_weigh_49 rfl ?_
        refine j_callV hx hG (c_X10_leads hst a r1) lk_RX10_96 ha (by decide) rfl rfl rfl rfl [.ref r1] ⟨rfl, hG, hS_s2, ha, q2.1⟩ rfl rfl ⟨by decide, by decide⟩ ⟨by decide, by decide⟩ (k2 := 0) (n2 := 0) rfl rfl (Nat.le_of_ble_eq_true rfl) dX10_weigh_51 (kIP (fun v9 q10 => ?_))
        refine j_if_eq hx 66 dX10_weigh_54 rfl (by omega) (fun h11 => ?_) (fun h11 => ?_)
        · skip
          refine j_lconst hx dX10_weigh_66 ?_
          show JJ X E 9 G s2 0 0 [(0, .ref a), (1, .int (zI 0)), (2, .long (zL y2)), (4, .ref r1)] 67 [.long (zL 0), .long (zL ((s0 a 7))), .ref a]
          refine j_ladd hx dX10_weigh_67 (fun w12 f13 f14 => ?_)
          refine p11_7 hx hG ha kf_RX10_80 dX10_weigh_68 ?_
          obtain ⟨s5, e_s5⟩ : ∃ z, z = zU s2 a 7 w12 := ⟨_, rfl⟩
          rw [← e_s5]
          have hS_s5 : zSK G s5 := by rw [e_s5]; exact zSK_F hS_s2 ha rfl rfl rfl (by omega)
          exact j_vret hx hq rfl (by decide) (by decide) dX10_weigh_71 ⟨rfl, rfl, hS_s5, (zFr_u (zFr_t zFr_rf hF_s2 (by decide)) e_s5 ha (by decide)), trivial⟩
        · skip
          refine j_aload_n hx 0 dX10_weigh_57 rfl ?_
          refine j_iload_n hx 1 dX10_weigh_58 rfl ?_
          refine j_lload_n hx 2 dX10_weigh_59 rfl ?_
          refine j_callV hx hG (c_X10_allWays hst a 0 y2) lk_RX10_100 ha (by decide) rfl rfl rfl rfl [.int (zI 0), .long (zL y2)] ⟨rfl, hG, hS_s2, ha, (by omega), (by omega)⟩ rfl rfl ⟨by decide, by decide⟩ ⟨by decide, by decide⟩ (k2 := 0) (n2 := 0) rfl rfl (Nat.le_of_ble_eq_true rfl) dX10_weigh_60 (kLP (fun v15 q16 => ?_))
          refine j_goto hx 67 dX10_weigh_63 rfl ?_
          refine j_ladd hx dX10_weigh_67 (fun w17 f18 f19 => ?_)
          refine p11_7 hx hG ha kf_RX10_80 dX10_weigh_68 ?_
          obtain ⟨s6, e_s6⟩ : ∃ z, z = zU s2 a 7 w17 := ⟨_, rfl⟩
          rw [← e_s6]
          have hS_s6 : zSK G s6 := by rw [e_s6]; exact zSK_F hS_s2 ha rfl rfl rfl (by omega)
          exact j_vret hx hq rfl (by decide) (by decide) dX10_weigh_71 ⟨rfl, rfl, hS_s6, (zFr_u (zFr_t zFr_rf hF_s2 (by decide)) e_s6 ha (by decide)), trivial⟩
      refine j_icmp_ge hx 43 dX10_weigh_27 rfl ⟨by decide, by decide⟩ (by omega) (fun h20 => ?_) (fun h20 => ?_)
      · skip
        exact j_sub [2, 3, 4, 1] [(0, .ref a), (1, .int (zI 0)), (2, .long (zL y2)), (4, .ref r1)] rfl (c43_1 s0 hS0 zFr_rf)
      · skip
        refine j_aloadN hx 0 dX10_weigh_30 rfl ?_
        refine j_ifnullN hx 43 dX10_weigh_32 rfl ?_
        exact j_sub [2, 3, 4, 1] [(0, .ref a), (1, .int (zI 0)), (2, .long (zL y2)), (4, .ref r1)] rfl (c43_1 s0 hS0 zFr_rf)
    · skip
      refine j_astore hx [(5, .ref r5), (4, .ref r1), (0, .ref a), (1, .int (zI 0)), (2, .long (zL y2))] dX10_weigh_14 (by decide) rfl ?_
      refine j_aload hx 1 dX10_weigh_16 rfl ?_
      refine j_ifnonnull hx 22 dX10_weigh_18 rfl ?_
      refine j_iload_n hx 3 dX10_weigh_22 rfl ?_
      refine j_aload_n hx 2 dX10_weigh_23 rfl ?_
      have f21 := zf hS0 ha (k := 4) rfl
      refine g11_4 hx hG ha kf_RX10_77 rfl dX10_weigh_24 ?_
      have c43_7 : ∀ (s8 : zS), (zSK G s8) → (zFr [1, 7, 41] G s0 s8) → JJ X E 9 G s8 0 0 [(0, .ref a), (1, .int (zI 0)), (2, .long (zL y2)), (4, .ref r1)] 43 [] := by
        intro s8 hS_s8 hF_s8
        refine j_aload_n hx 0 dX10_weigh_43 rfl ?_
        refine j_dup hx dX10_weigh_44 rfl ?_
        have f22 := zf hS0 ha (k := 7) rfl
        refine g11_7 hx hG ha kf_RX10_80 (v := (s0 a 7)) (by rw [(zFr_g hF_s8 ha (by decide))]) dX10_weigh_45 ?_
        refine j_aload_n hx 0 dX10_weigh_48 rfl ?_
        refine j_aload hx 3 dX10_weigh_49 rfl ?_
        refine j_callV hx hG (c_X10_leads hst a r1) lk_RX10_96 ha (by decide) rfl rfl rfl rfl [.ref r1] ⟨rfl, hG, hS_s8, ha, q2.1⟩ rfl rfl ⟨by decide, by decide⟩ ⟨by decide, by decide⟩ (k2 := 0) (n2 := 0) rfl rfl (Nat.le_of_ble_eq_true rfl) dX10_weigh_51 (kIP (fun v23 q24 => ?_))
        refine j_if_eq hx 66 dX10_weigh_54 rfl (by omega) (fun h25 => ?_) (fun h25 => ?_)
        · skip
          refine j_lconst hx dX10_weigh_66 ?_
          show JJ X E 9 G s8 0 0 [(0, .ref a), (1, .int (zI 0)), (2, .long (zL y2)), (4, .ref r1)] 67 [.long (zL 0), .long (zL ((s0 a 7))), .ref a]
          refine j_ladd hx dX10_weigh_67 (fun w26 f27 f28 => ?_)
          refine p11_7 hx hG ha kf_RX10_80 dX10_weigh_68 ?_
          obtain ⟨s11, e_s11⟩ : ∃ z, z = zU s8 a 7 w26 := ⟨_, rfl⟩
          rw [← e_s11]
          have hS_s11 : zSK G s11 := by rw [e_s11]; exact zSK_F hS_s8 ha rfl rfl rfl (by omega)
          exact j_vret hx hq rfl (by decide) (by decide) dX10_weigh_71 ⟨rfl, rfl, hS_s11, (zFr_u (zFr_t zFr_rf hF_s8 (by decide)) e_s11 ha (by decide)), trivial⟩
        · skip
          refine j_aload_n hx 0 dX10_weigh_57 rfl ?_
          refine j_iload_n hx 1 dX10_weigh_58 rfl ?_
          refine j_lload_n hx 2 dX10_weigh_59 rfl ?_
          refine j_callV hx hG (c_X10_allWays hst a 0 y2) lk_RX10_100 ha (by decide) rfl rfl rfl rfl [.int (zI 0), .long (zL y2)] ⟨rfl, hG, hS_s8, ha, (by omega), (by omega)⟩ rfl rfl ⟨by decide, by decide⟩ ⟨by decide, by decide⟩ (k2 := 0) (n2 := 0) rfl rfl (Nat.le_of_ble_eq_true rfl) dX10_weigh_60 (kLP (fun v29 q30 => ?_))
          refine j_goto hx 67 dX10_weigh_63 rfl ?_
          refine j_ladd hx dX10_weigh_67 (fun w31 f32 f33 => ?_)
          refine p11_7 hx hG ha kf_RX10_80 dX10_weigh_68 ?_
          obtain ⟨s12, e_s12⟩ : ∃ z, z = zU s8 a 7 w31 := ⟨_, rfl⟩
          rw [← e_s12]
          have hS_s12 : zSK G s12 := by rw [e_s12]; exact zSK_F hS_s8 ha rfl rfl rfl (by omega)
          exact j_vret hx hq rfl (by decide) (by decide) dX10_weigh_71 ⟨rfl, rfl, hS_s12, (zFr_u (zFr_t zFr_rf hF_s8 (by decide)) e_s12 ha (by decide)), trivial⟩
      refine j_icmp_ge hx 43 dX10_weigh_27 rfl ⟨by decide, by decide⟩ (by omega) (fun h34 => ?_) (fun h34 => ?_)
      · skip
        exact j_sub [2, 3, 4, 1] [(0, .ref a), (1, .int (zI 0)), (2, .long (zL y2)), (4, .ref r1)] rfl (c43_7 s0 hS0 zFr_rf)
      · skip
        refine j_aload hx 0 dX10_weigh_30 rfl ?_
        refine j_ifnull hx dX10_weigh_32 ?_
        refine j_aload hx 1 dX10_weigh_35 rfl ?_
        refine j_callV hx hG (c_X0_step hst r1) lk_RX10_33 q2.1 (by decide) rfl rfl rfl rfl [] ⟨rfl, hG, hS0, q2.1⟩ rfl rfl ⟨by decide, by decide⟩ ⟨by decide, by decide⟩ (k2 := 0) (n2 := 0) rfl rfl (Nat.le_of_ble_eq_true rfl) dX10_weigh_37 (kIM (fun v35 s13 hS_s13 hF_s13 q36 => ?_))
        refine j_if_ne hx 72 dX10_weigh_40 rfl (by omega) (fun h37 => ?_) (fun h37 => ?_)
        · skip
          refine j_aload hx 1 dX10_weigh_72 rfl ?_
          refine j_callV hx hG (c_X0_likeTops hst r1) lk_RX10_37 q2.1 (by decide) rfl rfl rfl rfl [] ⟨rfl, hG, hS_s13, q2.1⟩ rfl rfl ⟨by decide, by decide⟩ ⟨by decide, by decide⟩ (k2 := 0) (n2 := 0) rfl rfl (Nat.le_of_ble_eq_true rfl) dX10_weigh_74 (kIP (fun v38 q39 => ?_))
          refine j_istore hx [(6, .int (zI v38)), (5, .ref r5), (4, .ref r1), (0, .ref a), (1, .int (zI 0)), (2, .long (zL y2))] dX10_weigh_77 (by decide) rfl ?_
          refine j_iconst hx dX10_weigh_79 ?_
          refine j_istore hx [(7, .int (zI 0)), (6, .int (zI v38)), (5, .ref r5), (4, .ref r1), (0, .ref a), (1, .int (zI 0)), (2, .long (zL y2))] dX10_weigh_80 (by decide) rfl ?_
          refine j_iconst hx dX10_weigh_82 ?_
          refine j_istore hx [(8, .int (zI 0)), (7, .int (zI 0)), (6, .int (zI v38)), (5, .ref r5), (4, .ref r1), (0, .ref a), (1, .int (zI 0)), (2, .long (zL y2))] dX10_weigh_83 (by decide) rfl ?_
          have c85_14 : ∀ (m_c85_14 : Nat) (v40 : Int) (v41 : Int) (s15 : zS), 2147483648 - v41 < m_c85_14 → ((-2147483648) ≤ v40 ∧ v40 ≤ 2147483647) → (0 ≤ v41 ∧ v41 ≤ 3) → (zSK G s15) → (zFr [1, 7, 11, 41] G s13 s15) → JJ X E 9 G s15 0 0 [(0, .ref a), (1, .int (zI 0)), (2, .long (zL y2)), (4, .ref r1), (5, .ref r5), (6, .int (zI v38)), (7, .int (zI v40)), (8, .int (zI v41))] 85 [] := by
            intro m_c85_14
            induction m_c85_14 with
            | zero => intro v40 v41 s15 hm_c85_14 fA16 fA17 hS_s15 hF_s15; exfalso; omega
            | succ m_c85_14 ih_c85_14 => 
              intro v40 v41 s15 hm_c85_14 fA16 fA17 hS_s15 hF_s15
              refine j_iload hx 7 dX10_weigh_85 rfl ?_
              refine j_aload_n hx 0 dX10_weigh_87 rfl ?_
              refine g11_0 hx hG ha kf_RX10_17 dX10_weigh_88 ?_
              have f42 := zf hS0 (zr (k := 0) (t2 := 9) hG ha rfl) (k := 4) rfl
              refine gN9_4 hx hG (zr (k := 0) (t2 := 9) hG ha rfl) kf_RX10_104 (v := (s0 (gP G a 0) 4)) (by rw [(zFr_g hF_s15 (zr (k := 0) (t2 := 9) hG ha rfl) (by decide)), (zFr_g hF_s13 (zr (k := 0) (t2 := 9) hG ha rfl) (by decide))]) dX10_weigh_91 ?_
              refine j_icmp_ge hx 178 dX10_weigh_94 rfl (by omega) (by omega) (fun h43 => ?_) (fun h43 => ?_)
              · skip
                refine j_iload hx 6 dX10_weigh_178 rfl ?_
                refine j_if_le hx 202 dX10_weigh_180 rfl (by omega) (fun h44 => ?_) (fun h44 => ?_)
                · skip
                  exact j_vret hx hq rfl (by decide) (by decide) dX10_weigh_202 ⟨rfl, rfl, hS_s15, (zFr_t (zFr_t zFr_rf hF_s13 (by decide)) hF_s15 (by decide)), trivial⟩
                · skip
                  refine j_aload hx 4 dX10_weigh_183 rfl ?_
                  refine j_aload hx 3 dX10_weigh_185 rfl ?_
                  refine j_callV hx hG (c_X0_become hst r5 r1) lk_RX10_26 q6.1 (by decide) rfl rfl rfl rfl [.ref r1] ⟨rfl, hG, hS_s15, q6.1, q2.1⟩ rfl rfl ⟨by decide, by decide⟩ ⟨by decide, by decide⟩ (k2 := 0) (n2 := 0) rfl rfl (Nat.le_of_ble_eq_true rfl) dX10_weigh_187 (kVM (fun s20 hS_s20 hF_s20 q46 => ?_))
                  refine j_aload_n hx 0 dX10_weigh_190 rfl ?_
                  refine j_iload_n hx 1 dX10_weigh_191 rfl ?_
                  refine j_iconst hx dX10_weigh_192 ?_
                  refine j_iadd hx (r := 1) dX10_weigh_193 (by omega) ?_
                  refine j_lload_n hx 2 dX10_weigh_194 rfl ?_
                  refine j_iload hx 6 dX10_weigh_195 rfl ?_
                  refine j_i2l hx dX10_weigh_197 (by omega) ?_
                  refine j_lmul hx dX10_weigh_198 (fun w47 f48 f49 => ?_)
                  refine j_callV hx hG (c_X10_weigh_1 hst a 1 w47) lk_RX10_92 ha (by decide) rfl rfl rfl rfl [.int (zI 1), .long (zL w47)] ⟨rfl, hG, hS_s20, ha, (by omega), (by omega)⟩ rfl rfl ⟨by decide, by decide⟩ ⟨by decide, by decide⟩ (k2 := 0) (n2 := 0) rfl rfl (Nat.le_of_ble_eq_true rfl) dX10_weigh_199 (kVM (fun s21 hS_s21 hF_s21 q51 => ?_))
                  exact j_vret hx hq rfl (by decide) (by decide) dX10_weigh_202 ⟨rfl, rfl, hS_s21, (zFr_t (zFr_t (zFr_t (zFr_t zFr_rf hF_s13 (by decide)) hF_s15 (by decide)) hF_s20 (by decide)) hF_s21 (by decide)), trivial⟩
              · skip
                refine j_iload hx 5 dX10_weigh_97 rfl ?_
                refine j_iconst hx dX10_weigh_99 ?_
                have c172_22 : ∀ (v52 : Int) (s23 : zS), ((-2147483648) ≤ v52 ∧ v52 ≤ 2147483647) → (zSK G s23) → (zFr [1, 7, 11, 41] G s15 s23) → JJ X E 9 G s23 0 0 [(0, .ref a), (1, .int (zI 0)), (2, .long (zL y2)), (4, .ref r1), (5, .ref r5), (6, .int (zI v38)), (7, .int (zI v52)), (8, .int (zI v41))] 172 [] := by
                  intro v52 s23 fA24 hS_s23 hF_s23
                  refine j_iinc hx 7 [(8, .int (zI (v41 + 1))), (0, .ref a), (1, .int (zI 0)), (2, .long (zL y2)), (4, .ref r1), (5, .ref r5), (6, .int (zI v38)), (7, .int (zI v52))] dX10_weigh_172 rfl (by omega) (by decide) rfl ?_
                  refine j_goto hx 85 dX10_weigh_175 rfl ?_
                  exact j_sub [1, 2, 3, 4, 5, 6, 7, 0] [(0, .ref a), (1, .int (zI 0)), (2, .long (zL y2)), (4, .ref r1), (5, .ref r5), (6, .int (zI v38)), (7, .int (zI v52)), (8, .int (zI (v41 + 1)))] rfl (ih_c85_14 v52 (v41 + 1) s23 (by omega) (by omega) (by omega) hS_s23 (zFr_t (zFr_t zFr_rf hF_s15 (by decide)) hF_s23 (by decide)))
                have c113_27 : JJ X E 9 G s15 0 0 [(0, .ref a), (1, .int (zI 0)), (2, .long (zL y2)), (4, .ref r1), (5, .ref r5), (6, .int (zI v38)), (7, .int (zI v40)), (8, .int (zI v41))] 113 [] := by
                  refine j_iload hx 6 dX10_weigh_113 rfl ?_
                  refine j_aload_n hx 0 dX10_weigh_115 rfl ?_
                  refine g11_0 hx hG ha kf_RX10_17 dX10_weigh_116 ?_
                  refine j_iload hx 7 dX10_weigh_119 rfl ?_
                  refine j_iconst hx dX10_weigh_121 ?_
                  refine j_callV hx hG (c_X8_trait hst (gP G a 0) v41 0) lk_RX10_107 (zr (k := 0) (t2 := 9) hG ha rfl) (by decide) rfl rfl rfl rfl [.int (zI v41), .int (zI 0)] ⟨rfl, hG, hS_s15, (zr (k := 0) (t2 := 9) hG ha rfl), (by omega), (by omega)⟩ rfl rfl ⟨by decide, by decide⟩ ⟨by decide, by decide⟩ (k2 := 0) (n2 := 0) rfl rfl (Nat.le_of_ble_eq_true rfl) dX10_weigh_122 (kIP (fun v53 q54 => ?_))
                  refine j_iadd hx (r := v40 + v53) dX10_weigh_125 rfl ?_
                  refine j_norm (fun v55 f56 f57 f58 => ?_)
                  refine j_istore hx [(7, .int (zI v55)), (0, .ref a), (1, .int (zI 0)), (2, .long (zL y2)), (4, .ref r1), (5, .ref r5), (6, .int (zI v38)), (8, .int (zI v41))] dX10_weigh_126 (by decide) rfl ?_
                  refine j_goto hx 172 dX10_weigh_128 rfl ?_
                  exact j_sub [1, 2, 3, 4, 5, 6, 0, 7] [(0, .ref a), (1, .int (zI 0)), (2, .long (zL y2)), (4, .ref r1), (5, .ref r5), (6, .int (zI v38)), (7, .int (zI v55)), (8, .int (zI v41))] rfl (c172_22 v55 s15 (by omega) hS_s15 zFr_rf)
                refine j_icmp_eq hx 113 dX10_weigh_100 rfl (by omega) ⟨by decide, by decide⟩ (fun h59 => ?_) (fun h59 => ?_)
                · skip
                  exact j_sub [0, 1, 2, 3, 4, 5, 6, 7] [(0, .ref a), (1, .int (zI 0)), (2, .long (zL y2)), (4, .ref r1), (5, .ref r5), (6, .int (zI v38)), (7, .int (zI v40)), (8, .int (zI v41))] rfl (c113_27  )
                · skip
                  refine j_aload hx 3 dX10_weigh_103 rfl ?_
                  refine j_iload hx 7 dX10_weigh_105 rfl ?_
                  refine j_callV hx hG (c_X0_isOut hst r1 v41) lk_RX10_73 q2.1 (by decide) rfl rfl rfl rfl [.int (zI v41)] ⟨rfl, hG, hS_s15, q2.1, (by omega)⟩ rfl rfl ⟨by decide, by decide⟩ ⟨by decide, by decide⟩ (k2 := 0) (n2 := 0) rfl rfl (Nat.le_of_ble_eq_true rfl) dX10_weigh_107 (kIP (fun v60 q61 => ?_))
                  refine j_if_eq hx 131 dX10_weigh_110 rfl (by omega) (fun h62 => ?_) (fun h62 => ?_)
                  · skip
                    refine j_aload hx 4 dX10_weigh_131 rfl ?_
                    refine j_aload hx 3 dX10_weigh_133 rfl ?_
                    refine j_callV hx hG (c_X0_become hst r5 r1) lk_RX10_26 q6.1 (by decide) rfl rfl rfl rfl [.ref r1] ⟨rfl, hG, hS_s15, q6.1, q2.1⟩ rfl rfl ⟨by decide, by decide⟩ ⟨by decide, by decide⟩ (k2 := 0) (n2 := 0) rfl rfl (Nat.le_of_ble_eq_true rfl) dX10_weigh_135 (kVM (fun s28 hS_s28 hF_s28 q64 => ?_))
                    refine j_aload hx 4 dX10_weigh_138 rfl ?_
                    refine j_iload hx 7 dX10_weigh_140 rfl ?_
                    refine j_iload hx 5 dX10_weigh_142 rfl ?_
                    refine j_aload_n hx 0 dX10_weigh_144 rfl ?_
                    have f65 := zf hS_s15 ha (k := 3) rfl
                    refine g11_3 hx hG ha kf_RX10_45 (v := (s15 a 3)) (by rw [(zFr_g hF_s28 ha (by decide))]) dX10_weigh_145 ?_
                    refine j_callV hx hG (c_X0_win hst r5 v41 v38 ((s15 a 3))) lk_RX10_69 q6.1 (by decide) rfl rfl rfl rfl [.int (zI v41), .int (zI v38), .int (zI ((s15 a 3)))] ⟨rfl, hG, hS_s28, q6.1, (by omega), (by omega), (by omega)⟩ rfl rfl ⟨by decide, by decide⟩ ⟨by decide, by decide⟩ (k2 := 0) (n2 := 0) rfl rfl (Nat.le_of_ble_eq_true rfl) dX10_weigh_148 (kIM (fun v66 s29 hS_s29 hF_s29 q67 => ?_))
                    refine j_pop hx dX10_weigh_151 rfl ?_
                    refine j_aload_n hx 0 dX10_weigh_152 rfl ?_
                    refine j_iload_n hx 1 dX10_weigh_153 rfl ?_
                    refine j_iconst hx dX10_weigh_154 ?_
                    refine j_iadd hx (r := 1) dX10_weigh_155 (by omega) ?_
                    refine j_lload_n hx 2 dX10_weigh_156 rfl ?_
                    refine j_aload_n hx 0 dX10_weigh_157 rfl ?_
                    refine g11_0 hx hG ha kf_RX10_17 dX10_weigh_158 ?_
                    refine j_iload hx 7 dX10_weigh_161 rfl ?_
                    refine j_iconst hx dX10_weigh_163 ?_
                    refine j_callV hx hG (c_X8_trait hst (gP G a 0) v41 0) lk_RX10_107 (zr (k := 0) (t2 := 9) hG ha rfl) (by decide) rfl rfl rfl rfl [.int (zI v41), .int (zI 0)] ⟨rfl, hG, hS_s29, (zr (k := 0) (t2 := 9) hG ha rfl), (by omega), (by omega)⟩ rfl rfl ⟨by decide, by decide⟩ ⟨by decide, by decide⟩ (k2 := 0) (n2 := 0) rfl rfl (Nat.le_of_ble_eq_true rfl) dX10_weigh_164 (kIP (fun v68 q69 => ?_))
                    refine j_i2l hx dX10_weigh_167 (by omega) ?_
                    refine j_lmul hx dX10_weigh_168 (fun w70 f71 f72 => ?_)
                    refine j_callV hx hG (c_X10_weigh_1 hst a 1 w70) lk_RX10_92 ha (by decide) rfl rfl rfl rfl [.int (zI 1), .long (zL w70)] ⟨rfl, hG, hS_s29, ha, (by omega), (by omega)⟩ rfl rfl ⟨by decide, by decide⟩ ⟨by decide, by decide⟩ (k2 := 0) (n2 := 0) rfl rfl (Nat.le_of_ble_eq_true rfl) dX10_weigh_169 (kVM (fun s30 hS_s30 hF_s30 q74 => ?_))
                    exact j_sub [0, 1, 2, 3, 4, 5, 6, 7] [(0, .ref a), (1, .int (zI 0)), (2, .long (zL y2)), (4, .ref r1), (5, .ref r5), (6, .int (zI v38)), (7, .int (zI v40)), (8, .int (zI v41))] rfl (c172_22 v40 s30 (by omega) hS_s30 (zFr_t (zFr_t (zFr_t zFr_rf hF_s28 (by decide)) hF_s29 (by decide)) hF_s30 (by decide)))
                  · skip
                    exact j_sub [0, 1, 2, 3, 4, 5, 6, 7] [(0, .ref a), (1, .int (zI 0)), (2, .long (zL y2)), (4, .ref r1), (5, .ref r5), (6, .int (zI v38)), (7, .int (zI v40)), (8, .int (zI v41))] rfl (c113_27  )
          exact j_sub [5, 6, 7, 4, 3, 2, 1, 0] [(0, .ref a), (1, .int (zI 0)), (2, .long (zL y2)), (4, .ref r1), (5, .ref r5), (6, .int (zI v38)), (7, .int (zI 0)), (8, .int (zI 0))] rfl (c85_14 (2147483648 * 4) 0 0 s13 (by omega) (by omega) (by omega) hS_s13 zFr_rf)
        · skip
          exact j_sub [2, 3, 4, 1] [(0, .ref a), (1, .int (zI 0)), (2, .long (zL y2)), (4, .ref r1)] rfl (c43_7 s13 hS_s13 (zFr_t zFr_rf hF_s13 (by decide)))

set_option maxHeartbeats 4000000 in
set_option maxRecDepth 20000 in
theorem c_X10_weighing {E : zE} {l : Launch} (hst : l.stackTraces = false) (a : Nat) (b1 : Nat) (x2 : Int) (x3 : Int) (x4 : Int) : Con E l yX10_weighing cX10_weighing 6 none { frames := 16, cells := 0, slots := 0, locals := 435 } (fun G s vs => vs = [.ref a, .ref b1, .int (zI x2), .int (zI x3), .int (zI x4)] ∧ zGK G ∧ zSK G s ∧ (gT G a = 11) ∧ (gT G b1 = 1) ∧ ((-2147483648) ≤ x2 ∧ x2 ≤ 2147483647) ∧ ((-2147483648) ≤ x3 ∧ x3 ≤ 2147483647) ∧ ((-2147483648) ≤ x4 ∧ x4 ≤ 2147483647)) (fun G s _ => pV (fun G2 s2 => G2 = G ∧ zSK G s2 ∧ zFr [1, 7, 11, 41] G s s2 ∧ True)) := by
  refine Con.mk hst (by decide) (fun G s vs h => by rw [h.1]; exact Nat.le_of_ble_eq_true rfl) ?_
  rintro X G s0 vs ⟨rfl, hG, hS0, ha, hb1, hx2, hx3, hx4⟩ rfl hx hq
  show JJ X E 6 G s0 0 0 [(0, .ref a), (1, .ref b1), (2, .int (zI x2)), (3, .int (zI x3)), (4, .int (zI x4))] 0 []
  refine j_aload_n hx 0 dX10_weighing_0 rfl ?_
  refine j_aload_n hx 1 dX10_weighing_1 rfl ?_
  refine j_callV hx hG (c_X10_start hst a b1) lk_RX10_30 ha (by decide) rfl rfl rfl rfl [.ref b1] ⟨rfl, hG, hS0, ha, hb1⟩ rfl rfl ⟨by decide, by decide⟩ ⟨by decide, by decide⟩ (k2 := 0) (n2 := 0) rfl rfl (Nat.le_of_ble_eq_true rfl) dX10_weighing_2 (kVM (fun s1 hS_s1 hF_s1 q2 => ?_))
  refine j_aload_n hx 0 dX10_weighing_5 rfl ?_
  refine j_iload_n hx 2 dX10_weighing_6 rfl ?_
  refine p11_2 hx hG ha kf_RX10_41 dX10_weighing_7 ?_
  obtain ⟨s2, e_s2⟩ : ∃ z, z = zU s1 a 2 x2 := ⟨_, rfl⟩
  rw [← e_s2]
  have hS_s2 : zSK G s2 := by rw [e_s2]; exact zSK_F hS_s1 ha rfl rfl rfl (by omega)
  refine j_aload_n hx 0 dX10_weighing_10 rfl ?_
  refine j_iload hx 4 dX10_weighing_11 rfl ?_
  refine p11_3 hx hG ha kf_RX10_45 dX10_weighing_13 ?_
  obtain ⟨s3, e_s3⟩ : ∃ z, z = zU s2 a 3 x4 := ⟨_, rfl⟩
  rw [← e_s3]
  have hS_s3 : zSK G s3 := by rw [e_s3]; exact zSK_F hS_s2 ha rfl rfl rfl (by omega)
  refine j_aload_n hx 0 dX10_weighing_16 rfl ?_
  refine j_iload_n hx 3 dX10_weighing_17 rfl ?_
  refine p11_4 hx hG ha kf_RX10_77 dX10_weighing_18 ?_
  obtain ⟨s4, e_s4⟩ : ∃ z, z = zU s3 a 4 x3 := ⟨_, rfl⟩
  rw [← e_s4]
  have hS_s4 : zSK G s4 := by rw [e_s4]; exact zSK_F hS_s3 ha rfl rfl rfl (by omega)
  refine j_aload_n hx 0 dX10_weighing_21 rfl ?_
  refine j_lconst hx dX10_weighing_22 ?_
  show JJ X E 6 G s4 0 0 [(0, .ref a), (1, .ref b1), (2, .int (zI x2)), (3, .int (zI x3)), (4, .int (zI x4))] 23 [.long (zL 0), .ref a]
  refine p11_7 hx hG ha kf_RX10_80 dX10_weighing_23 ?_
  obtain ⟨s5, e_s5⟩ : ∃ z, z = zU s4 a 7 0 := ⟨_, rfl⟩
  rw [← e_s5]
  have hS_s5 : zSK G s5 := by rw [e_s5]; exact zSK_F hS_s4 ha rfl rfl rfl (by omega)
  refine j_aload_n hx 0 dX10_weighing_26 rfl ?_
  refine j_lconst hx dX10_weighing_27 ?_
  show JJ X E 6 G s5 0 0 [(0, .ref a), (1, .ref b1), (2, .int (zI x2)), (3, .int (zI x3)), (4, .int (zI x4))] 28 [.long (zL 1), .ref a]
  refine p11_8 hx hG ha kf_RX10_84 dX10_weighing_28 ?_
  obtain ⟨s6, e_s6⟩ : ∃ z, z = zU s5 a 8 1 := ⟨_, rfl⟩
  rw [← e_s6]
  have hS_s6 : zSK G s6 := by rw [e_s6]; exact zSK_F hS_s5 ha rfl rfl rfl (by omega)
  refine j_iconst hx dX10_weighing_31 ?_
  refine j_istore hx [(5, .int (zI 0)), (0, .ref a), (1, .ref b1), (2, .int (zI x2)), (3, .int (zI x3)), (4, .int (zI x4))] dX10_weighing_32 (by decide) rfl ?_
  have c34_7 : ∀ (m_c34_7 : Nat) (v3 : Int) (s8 : zS), 2147483648 - v3 < m_c34_7 → (0 ≤ v3 ∧ v3 ≤ 2147483647) → (zSK G s8) → (zFr [11] G s6 s8) → JJ X E 6 G s8 0 0 [(0, .ref a), (3, .int (zI x3)), (5, .int (zI v3))] 34 [] := by
    intro m_c34_7
    induction m_c34_7 with
    | zero => intro v3 s8 hm_c34_7 fA9 hS_s8 hF_s8; exfalso; omega
    | succ m_c34_7 ih_c34_7 => 
      intro v3 s8 hm_c34_7 fA9 hS_s8 hF_s8
      refine j_iload hx 2 dX10_weighing_34 rfl ?_
      refine j_iload_n hx 1 dX10_weighing_36 rfl ?_
      refine j_icmp_ge hx 63 dX10_weighing_37 rfl (by omega) (by omega) (fun h4 => ?_) (fun h4 => ?_)
      · skip
        refine j_aload_n hx 0 dX10_weighing_63 rfl ?_
        refine j_iconst hx dX10_weighing_64 ?_
        refine j_lconst hx dX10_weighing_65 ?_
        show JJ X E 6 G s8 0 0 [(0, .ref a), (3, .int (zI x3)), (5, .int (zI v3))] 66 [.long (zL 1), .int (zI 0), .ref a]
        refine j_callV hx hG (c_X10_weigh_0 hst a 0 1) lk_RX10_92 ha (by decide) rfl rfl rfl rfl [.int (zI 0), .long (zL 1)] ⟨rfl, hG, hS_s8, ha, (by omega), (by omega)⟩ rfl rfl ⟨by decide, by decide⟩ ⟨by decide, by decide⟩ (k2 := 0) (n2 := 0) rfl rfl (Nat.le_of_ble_eq_true rfl) dX10_weighing_66 (kVM (fun s12 hS_s12 hF_s12 q6 => ?_))
        exact j_vret hx hq rfl (by decide) (by decide) dX10_weighing_69 ⟨rfl, rfl, hS_s12, (zFr_t (zFr_t (zFr_u (zFr_u (zFr_u (zFr_u (zFr_u (zFr_t zFr_rf hF_s1 (by decide)) e_s2 ha (by decide)) e_s3 ha (by decide)) e_s4 ha (by decide)) e_s5 ha (by decide)) e_s6 ha (by decide)) hF_s8 (by decide)) hF_s12 (by decide)), trivial⟩
      · skip
        refine j_aload_n hx 0 dX10_weighing_40 rfl ?_
        refine j_dup hx dX10_weighing_41 rfl ?_
        have f7 := zf hS_s8 ha (k := 8) rfl
        refine g11_8 hx hG ha kf_RX10_84 rfl dX10_weighing_42 ?_
        refine j_aload_n hx 0 dX10_weighing_45 rfl ?_
        refine g11_0 hx hG ha kf_RX10_17 dX10_weighing_46 ?_
        refine j_callV hx hG (c_X8_allQuickness hst (gP G a 0)) lk_RX10_87 (zr (k := 0) (t2 := 9) hG ha rfl) (by decide) rfl rfl rfl rfl [] ⟨rfl, hG, hS_s8, (zr (k := 0) (t2 := 9) hG ha rfl)⟩ rfl rfl ⟨by decide, by decide⟩ ⟨by decide, by decide⟩ (k2 := 0) (n2 := 0) rfl rfl (Nat.le_of_ble_eq_true rfl) dX10_weighing_49 (kIP (fun v8 q9 => ?_))
        refine j_i2l hx dX10_weighing_52 (by omega) ?_
        refine j_lmul hx dX10_weighing_53 (fun w10 f11 f12 => ?_)
        refine p11_8 hx hG ha kf_RX10_84 dX10_weighing_54 ?_
        obtain ⟨s13, e_s13⟩ : ∃ z, z = zU s8 a 8 w10 := ⟨_, rfl⟩
        rw [← e_s13]
        have hS_s13 : zSK G s13 := by rw [e_s13]; exact zSK_F hS_s8 ha rfl rfl rfl (by omega)
        refine j_iinc hx 2 [(5, .int (zI (v3 + 1))), (0, .ref a), (3, .int (zI x3))] dX10_weighing_57 rfl (by omega) (by decide) rfl ?_
        refine j_goto hx 34 dX10_weighing_60 rfl ?_
        exact j_sub [1, 2, 0] [(0, .ref a), (3, .int (zI x3)), (5, .int (zI (v3 + 1)))] rfl (ih_c34_7 (v3 + 1) s13 (by omega) (by omega) hS_s13 (zFr_u (zFr_t zFr_rf hF_s8 (by decide)) e_s13 ha (by decide)))
  exact j_sub [1, 4, 0] [(0, .ref a), (3, .int (zI x3)), (5, .int (zI 0))] rfl (c34_7 (2147483648 * 4) 0 s6 (by omega) (by omega) hS_s6 zFr_rf)

theorem lk_RX11_294 : LkV RX11 294 RX10 yX10_weighing cX10_weighing 6 none 4 := ⟨km_RX11_294, ki_yX10_weighing, ks_RX10_yX10_weighing, kn_RX10, kc_yX10_weighing, rfl, by decide +kernel, by decide +kernel, by decide +kernel⟩
set_option maxHeartbeats 4000000 in
set_option maxRecDepth 20000 in
theorem c_X11_odds {E : zE} {l : Launch} (hst : l.stackTraces = false) (a : Nat) (x1 : Int) (x2 : Int) (x3 : Int) : ConX E l yX11_odds cX11_odds 4 (some .long) { frames := 17, cells := 3, slots := 18, locals := 460 } (fun G s vs => vs = [.ref a, .int (zI x1), .int (zI x2), .int (zI x3)] ∧ zGK G ∧ zSK G s ∧ (gT G a = 12) ∧ ((-2147483648) ≤ x1 ∧ x1 ≤ 2147483647) ∧ ((-2147483648) ≤ x2 ∧ x2 ≤ 2147483647) ∧ ((-2147483648) ≤ x3 ∧ x3 ≤ 2147483647)) (fun G s _ => pL (fun r G2 s2 => G2 = G ∧ zSK G s2 ∧ zFr [1, 7, 11, 41] G s s2 ∧ ((-9223372036854775808) ≤ r ∧ r ≤ 9223372036854775807))) (fun G s _ Ex G2 s2 => G2 = G ∧ zSK G s2 ∧ zFr [1, 7, 11, 12, 41] G s s2 ∧ ((Ex = "java/lang/IllegalArgumentException" ∧ (True)) ∨ (Ex = "java/util/NoSuchElementException" ∧ (True)))) := by
  refine ConX.mk hst (by decide) (fun G s vs h => by rw [h.1]; exact Nat.le_of_ble_eq_true rfl) ?_
  rintro X G s0 vs ⟨rfl, hG, hS0, ha, hx1, hx2, hx3⟩ rfl hx hq
  show JJ X E 4 G s0 0 0 [(0, .ref a), (1, .int (zI x1)), (2, .int (zI x2)), (3, .int (zI x3))] 0 []
  refine j_aload_n hx 0 dX11_odds_0 rfl ?_
  refine j_iload_n hx 1 dX11_odds_1 rfl ?_
  refine j_callVX hx hq hG (c_X11_needPlayer hst a x1) lk_RX11_134 ha (by decide) rfl rfl rfl rfl [.int (zI x1)] ⟨rfl, hG, hS0, ha, (by omega)⟩ rfl rfl ⟨by decide, by decide⟩ ⟨by decide, by decide⟩ (k2 := 1) (n2 := 6) rfl rfl (Nat.le_of_ble_eq_true rfl) ⟨by decide, by decide⟩ dX11_odds_2 (by rintro Ex9 G9 s9 ⟨rfl, hS9, hF9, e9, c9⟩; exact ⟨rfl, hS9, (zFr_t zFr_rf hF9 (by decide)), Or.inr ⟨e9, by first | trivial | omega⟩⟩) (kVP (fun q2 => ?_))
  refine j_aload_n hx 0 dX11_odds_5 rfl ?_
  refine j_iload_n hx 2 dX11_odds_6 rfl ?_
  refine j_iconst hx dX11_odds_7 ?_
  refine j_bipush hx dX11_odds_8 rfl ?_
  refine j_callVX hx hq hG (c_X11_needRange hst a x2 0 12) lk_RX11_98 ha (by decide) rfl rfl rfl rfl [.int (zI x2), .int (zI 0), .int (zI 12)] ⟨rfl, hG, hS0, ha, (by omega), (by omega), (by omega)⟩ rfl rfl ⟨by decide, by decide⟩ ⟨by decide, by decide⟩ (k2 := 2) (n2 := 12) rfl rfl (Nat.le_of_ble_eq_true rfl) ⟨by decide, by decide⟩ dX11_odds_10 (by rintro Ex9 G9 s9 ⟨rfl, hS9, hF9, e9, c9⟩; exact ⟨rfl, hS9, (zFr_t zFr_rf hF9 (by decide)), Or.inl ⟨e9, by first | trivial | omega⟩⟩) (kVP (fun q4 => ?_))
  refine j_aload_n hx 0 dX11_odds_13 rfl ?_
  refine j_iload_n hx 3 dX11_odds_14 rfl ?_
  refine j_iconst hx dX11_odds_15 ?_
  refine j_iconst hx dX11_odds_16 ?_
  refine j_callVX hx hq hG (c_X11_needRange hst a x3 0 1) lk_RX11_98 ha (by decide) rfl rfl rfl rfl [.int (zI x3), .int (zI 0), .int (zI 1)] ⟨rfl, hG, hS0, ha, (by omega), (by omega), (by omega)⟩ rfl rfl ⟨by decide, by decide⟩ ⟨by decide, by decide⟩ (k2 := 3) (n2 := 18) rfl rfl (Nat.le_of_ble_eq_true rfl) ⟨by decide, by decide⟩ dX11_odds_17 (by rintro Ex9 G9 s9 ⟨rfl, hS9, hF9, e9, c9⟩; exact ⟨rfl, hS9, (zFr_t zFr_rf hF9 (by decide)), Or.inl ⟨e9, by first | trivial | omega⟩⟩) (kVP (fun q6 => ?_))
  refine j_aload_n hx 0 dX11_odds_20 rfl ?_
  refine g12_8 hx hG ha kf_RX11_62 dX11_odds_21 ?_
  refine j_aload_n hx 0 dX11_odds_24 rfl ?_
  refine g12_6 hx hG ha kf_RX11_48 dX11_odds_25 ?_
  refine gN4_1 hx hG (zr (k := 6) (t2 := 4) hG ha rfl) kf_RX11_155 dX11_odds_28 ?_
  refine j_iload_n hx 1 dX11_odds_31 rfl ?_
  refine j_iload_n hx 2 dX11_odds_32 rfl ?_
  refine j_aload_n hx 0 dX11_odds_33 rfl ?_
  refine g12_6 hx hG ha kf_RX11_48 dX11_odds_34 ?_
  refine j_iconst hx dX11_odds_37 ?_
  refine j_callV hx hG (c_X3_lawOf hst (gP G a 6) 2) lk_RX11_178 (zr (k := 6) (t2 := 4) hG ha rfl) (by decide) rfl rfl rfl rfl [.int (zI 2)] ⟨rfl, hG, hS0, (zr (k := 6) (t2 := 4) hG ha rfl), (by omega)⟩ rfl rfl ⟨by decide, by decide⟩ ⟨by decide, by decide⟩ (k2 := 3) (n2 := 18) rfl rfl (Nat.le_of_ble_eq_true rfl) dX11_odds_38 (kIP (fun v7 q8 => ?_))
  refine j_callV hx hG (c_X10_weighing hst (gP G a 8) (gP G (gP G a 6) 1) x1 x2 v7) lk_RX11_294 (zr (k := 8) (t2 := 11) hG ha rfl) (by decide) rfl rfl rfl rfl [.ref (gP G (gP G a 6) 1), .int (zI x1), .int (zI x2), .int (zI v7)] ⟨rfl, hG, hS0, (zr (k := 8) (t2 := 11) hG ha rfl), (zr (k := 1) (t2 := 1) hG (zr (k := 6) (t2 := 4) hG ha rfl) rfl), (by omega), (by omega), (by omega)⟩ rfl rfl ⟨by decide, by decide⟩ ⟨by decide, by decide⟩ (k2 := 3) (n2 := 18) rfl rfl (Nat.le_of_ble_eq_true rfl) dX11_odds_41 (kVM (fun s1 hS_s1 hF_s1 q10 => ?_))
  refine j_aload_n hx 0 dX11_odds_44 rfl ?_
  refine g12_8 hx hG ha kf_RX11_62 dX11_odds_45 ?_
  have f11 := zf hS_s1 (zr (k := 8) (t2 := 11) hG ha rfl) (k := 7) rfl
  refine gN11_7 hx hG (zr (k := 8) (t2 := 11) hG ha rfl) kf_RX11_297 rfl dX11_odds_48 ?_
  refine j_aload_n hx 0 dX11_odds_51 rfl ?_
  refine g12_8 hx hG ha kf_RX11_62 dX11_odds_52 ?_
  have f12 := zf hS_s1 (zr (k := 8) (t2 := 11) hG ha rfl) (k := 8) rfl
  refine gN11_8 hx hG (zr (k := 8) (t2 := 11) hG ha rfl) kf_RX11_301 rfl dX11_odds_55 ?_
  refine j_iload_n hx 3 dX11_odds_58 rfl ?_
  refine j_callS hx (c_X11_leastTerm hst ((s1 (gP G a 8) 7)) ((s1 (gP G a 8) 8)) x3) lk_RX11_268 [.long (zL ((s1 (gP G a 8) 7))), .long (zL ((s1 (gP G a 8) 8))), .int (zI x3)] ⟨rfl, hG, hS_s1, (by omega), (by omega), (by omega)⟩ rfl rfl ⟨by decide, by decide⟩ ⟨by decide, by decide⟩ (k2 := 3) (n2 := 18) rfl rfl (Nat.le_of_ble_eq_true rfl) dX11_odds_59 (kLP (fun v13 q14 => ?_))
  exact j_lret hx hq.r rfl (by decide) (by decide) dX11_odds_62 ⟨v13, rfl, rfl, hS_s1, (zFr_t zFr_rf hF_s1 (by decide)), (by omega)⟩

set_option maxHeartbeats 4000000 in
set_option maxRecDepth 20000 in
theorem c_X6_exchange {E : zE} {l : Launch} (hst : l.stackTraces = false) (a : Nat) (x1 : Int) (x2 : Int) : Con E l yX6_exchange cX6_exchange 4 none { frames := 0, cells := 0, slots := 0, locals := 0 } (fun G s vs => vs = [.ref a, .int (zI x1), .int (zI x2)] ∧ zGK G ∧ zSK G s ∧ (gT G a = 7) ∧ ((-2147483648) ≤ x1 ∧ x1 ≤ 2147483647) ∧ ((-2147483648) ≤ x2 ∧ x2 ≤ 2147483647)) (fun G s _ => pV (fun G2 s2 => G2 = G ∧ zSK G s2 ∧ zFr [41] G s s2 ∧ True)) := by
  refine Con.mk hst (by decide) (fun G s vs h => by rw [h.1]; exact Nat.le_of_ble_eq_true rfl) ?_
  rintro X G s0 vs ⟨rfl, hG, hS0, ha, hx1, hx2⟩ rfl hx hq
  show JJ X E 4 G s0 0 0 [(0, .ref a), (1, .int (zI x1)), (2, .int (zI x2))] 0 []
  refine j_iload_n hx 1 dX6_exchange_0 rfl ?_
  refine j_if_lt hx 52 dX6_exchange_1 rfl (by omega) (fun h1 => ?_) (fun h1 => ?_)
  · skip
    exact j_vret hx hq rfl (by decide) (by decide) dX6_exchange_52 ⟨rfl, rfl, hS0, zFr_rf, trivial⟩
  · skip
    refine j_iload_n hx 1 dX6_exchange_4 rfl ?_
    refine j_aload_n hx 0 dX6_exchange_5 rfl ?_
    refine g7_0 hx hG ha kf_RX6_9 dX6_exchange_6 ?_
    refine j_alen hx hG (zr (k := 0) (t2 := 41) hG ha rfl) (by decide) (by decide) (zlen hG (zr (k := 0) (t2 := 41) hG ha rfl) (n := 60) rfl rfl) dX6_exchange_9 ?_
    refine j_icmp_ge hx 52 dX6_exchange_10 rfl (by omega) ⟨by decide, by decide⟩ (fun h2 => ?_) (fun h2 => ?_)
    · skip
      exact j_vret hx hq rfl (by decide) (by decide) dX6_exchange_52 ⟨rfl, rfl, hS0, zFr_rf, trivial⟩
    · skip
      refine j_iload_n hx 2 dX6_exchange_13 rfl ?_
      refine j_if_lt hx 52 dX6_exchange_14 rfl (by omega) (fun h3 => ?_) (fun h3 => ?_)
      · skip
        exact j_vret hx hq rfl (by decide) (by decide) dX6_exchange_52 ⟨rfl, rfl, hS0, zFr_rf, trivial⟩
      · skip
        refine j_iload_n hx 2 dX6_exchange_17 rfl ?_
        refine j_aload_n hx 0 dX6_exchange_18 rfl ?_
        refine g7_0 hx hG ha kf_RX6_9 dX6_exchange_19 ?_
        refine j_alen hx hG (zr (k := 0) (t2 := 41) hG ha rfl) (by decide) (by decide) (zlen hG (zr (k := 0) (t2 := 41) hG ha rfl) (n := 60) rfl rfl) dX6_exchange_22 ?_
        refine j_icmp_ge hx 52 dX6_exchange_23 rfl (by omega) ⟨by decide, by decide⟩ (fun h4 => ?_) (fun h4 => ?_)
        · skip
          exact j_vret hx hq rfl (by decide) (by decide) dX6_exchange_52 ⟨rfl, rfl, hS0, zFr_rf, trivial⟩
        · skip
          refine j_aload_n hx 0 dX6_exchange_26 rfl ?_
          refine g7_0 hx hG ha kf_RX6_9 dX6_exchange_27 ?_
          refine j_iload_n hx 1 dX6_exchange_30 rfl ?_
          have f5 := zaI (j := (x1).toNat) hS0 (zr (k := 0) (t2 := 41) hG ha rfl) rfl (zlen hG (zr (k := 0) (t2 := 41) hG ha rfl) (n := 60) rfl rfl) (show 0 ≤ x1 by omega) (by omega) rfl
          refine j_iald hx hG (zr (k := 0) (t2 := 41) hG ha rfl) (by decide) rfl (zlen hG (zr (k := 0) (t2 := 41) hG ha rfl) (n := 60) rfl rfl) (by omega) (by omega) (j := (x1).toNat) rfl rfl dX6_exchange_31 ?_
          refine j_istore_n hx [(3, .int (zI ((s0 (gP G a 0) (x1).toNat)))), (0, .ref a), (1, .int (zI x1)), (2, .int (zI x2))] dX6_exchange_32 (by decide) rfl ?_
          refine j_aload_n hx 1 dX6_exchange_33 rfl ?_
          refine g7_0 hx hG ha kf_RX6_9 dX6_exchange_34 ?_
          refine j_iload_n hx 2 dX6_exchange_37 rfl ?_
          refine j_aload_n hx 1 dX6_exchange_38 rfl ?_
          refine g7_0 hx hG ha kf_RX6_9 dX6_exchange_39 ?_
          refine j_iload_n hx 3 dX6_exchange_42 rfl ?_
          have f6 := zaI (j := (x2).toNat) hS0 (zr (k := 0) (t2 := 41) hG ha rfl) rfl (zlen hG (zr (k := 0) (t2 := 41) hG ha rfl) (n := 60) rfl rfl) (show 0 ≤ x2 by omega) (by omega) rfl
          refine j_iald hx hG (zr (k := 0) (t2 := 41) hG ha rfl) (by decide) rfl (zlen hG (zr (k := 0) (t2 := 41) hG ha rfl) (n := 60) rfl rfl) (by omega) (by omega) (j := (x2).toNat) rfl rfl dX6_exchange_43 ?_
          refine j_iast hx hG (zr (k := 0) (t2 := 41) hG ha rfl) (by decide) rfl (zlen hG (zr (k := 0) (t2 := 41) hG ha rfl) (n := 60) rfl rfl) (by omega) (by omega) (j := (x1).toNat) rfl dX6_exchange_44 ?_
          obtain ⟨s1, e_s1⟩ : ∃ z, z = zU s0 (gP G a 0) (x1).toNat ((s0 (gP G a 0) (x2).toNat)) := ⟨_, rfl⟩
          rw [← e_s1]
          have hS_s1 : zSK G s1 := by rw [e_s1]; exact zSK_A hS0 (zr (k := 0) (t2 := 41) hG ha rfl) rfl rfl rfl (by omega)
          refine j_aload_n hx 1 dX6_exchange_45 rfl ?_
          refine g7_0 hx hG ha kf_RX6_9 dX6_exchange_46 ?_
          refine j_iload_n hx 3 dX6_exchange_49 rfl ?_
          refine j_iload_n hx 0 dX6_exchange_50 rfl ?_
          refine j_iast hx hG (zr (k := 0) (t2 := 41) hG ha rfl) (by decide) rfl (zlen hG (zr (k := 0) (t2 := 41) hG ha rfl) (n := 60) rfl rfl) (by omega) (by omega) (j := (x2).toNat) rfl dX6_exchange_51 ?_
          obtain ⟨s2, e_s2⟩ : ∃ z, z = zU s1 (gP G a 0) (x2).toNat ((s0 (gP G a 0) (x1).toNat)) := ⟨_, rfl⟩
          rw [← e_s2]
          have hS_s2 : zSK G s2 := by rw [e_s2]; exact zSK_A hS_s1 (zr (k := 0) (t2 := 41) hG ha rfl) rfl rfl rfl (by omega)
          exact j_vret hx hq rfl (by decide) (by decide) dX6_exchange_52 ⟨rfl, rfl, hS_s2, (zFr_u (zFr_u zFr_rf e_s1 (zr (k := 0) (t2 := 41) hG ha rfl) (by decide)) e_s2 (zr (k := 0) (t2 := 41) hG ha rfl) (by decide)), trivial⟩

theorem lk_RX0_102 : LkV RX0 102 RX6 yX6_exchange cX6_exchange 4 none 2 := ⟨km_RX0_102, ki_yX6_exchange, ks_RX6_yX6_exchange, kn_RX6, kc_yX6_exchange, rfl, by decide +kernel, by decide +kernel, by decide +kernel⟩
set_option maxHeartbeats 4000000 in
set_option maxRecDepth 20000 in
theorem c_X0_mix {E : zE} {l : Launch} (hst : l.stackTraces = false) (a : Nat) (x1 : Int) : Con E l yX0_mix cX0_mix 6 none { frames := 1, cells := 0, slots := 0, locals := 23 } (fun G s vs => vs = [.ref a, .int (zI x1)] ∧ zGK G ∧ zSK G s ∧ (gT G a = 1) ∧ ((-2147483648) ≤ x1 ∧ x1 ≤ 2147483647)) (fun G s _ => pV (fun G2 s2 => G2 = G ∧ zSK G s2 ∧ zFr [41] G s s2 ∧ True)) := by
  refine Con.mk hst (by decide) (fun G s vs h => by rw [h.1]; exact Nat.le_of_ble_eq_true rfl) ?_
  rintro X G s0 vs ⟨rfl, hG, hS0, ha, hx1⟩ rfl hx hq
  show JJ X E 6 G s0 0 0 [(0, .ref a), (1, .int (zI x1))] 0 []
  refine j_iload_n hx 1 dX0_mix_0 rfl ?_
  refine j_istore_n hx [(2, .int (zI x1)), (0, .ref a), (1, .int (zI x1))] dX0_mix_1 (by decide) rfl ?_
  refine j_iconst hx dX0_mix_2 ?_
  refine j_istore_n hx [(3, .int (zI 0)), (2, .int (zI x1)), (0, .ref a), (1, .int (zI x1))] dX0_mix_3 (by decide) rfl ?_
  have c4_1 : ∀ (m_c4_1 : Nat) (v1 : Int) (v2 : Int) (s2 : zS), 2147483648 - v2 < m_c4_1 → ((-2147483648) ≤ v1 ∧ v1 ≤ 2147483647) → (0 ≤ v2 ∧ v2 ≤ 3) → (zSK G s2) → (zFr [41] G s0 s2) → JJ X E 6 G s2 0 0 [(0, .ref a), (2, .int (zI v1)), (3, .int (zI v2))] 4 [] := by
    intro m_c4_1
    induction m_c4_1 with
    | zero => intro v1 v2 s2 hm_c4_1 fA3 fA4 hS_s2 hF_s2; exfalso; omega
    | succ m_c4_1 ih_c4_1 => 
      intro v1 v2 s2 hm_c4_1 fA3 fA4 hS_s2 hF_s2
      refine j_iload_n hx 2 dX0_mix_4 rfl ?_
      refine j_aload_n hx 0 dX0_mix_5 rfl ?_
      have f3 := zf hS0 ha (k := 7) rfl
      refine g1_7 hx hG ha kf_RX0_50 (v := (s0 a 7)) (by rw [(zFr_g hF_s2 ha (by decide))]) dX0_mix_6 ?_
      refine j_icmp_ge hx 75 dX0_mix_9 rfl (by omega) (by omega) (fun h4 => ?_) (fun h4 => ?_)
      · skip
        exact j_vret hx hq rfl (by decide) (by decide) dX0_mix_75 ⟨rfl, rfl, hS_s2, (zFr_t zFr_rf hF_s2 (by decide)), trivial⟩
      · skip
        refine j_aload_n hx 0 dX0_mix_12 rfl ?_
        refine j_iload_n hx 2 dX0_mix_13 rfl ?_
        refine j_callV hx hG (c_X0_rowOf hst a v2) lk_RX0_36 ha (by decide) rfl rfl rfl rfl [.int (zI v2)] ⟨rfl, hG, hS_s2, ha, (by omega)⟩ rfl rfl ⟨by decide, by decide⟩ ⟨by decide, by decide⟩ (k2 := 0) (n2 := 0) rfl rfl (Nat.le_of_ble_eq_true rfl) dX0_mix_14 (kRP (fun r5 q6 => ?_))
        refine j_astore hx [(4, .ref r5), (0, .ref a), (2, .int (zI v1)), (3, .int (zI v2))] dX0_mix_17 (by decide) rfl ?_
        refine j_aload hx 0 dX0_mix_19 rfl ?_
        have f7 := zf hS0 q6 (k := 1) rfl
        refine gN7_1 hx hG q6 kf_RX0_43 (v := (s0 r5 1)) (by rw [(zFr_g hF_s2 q6 (by decide))]) dX0_mix_21 ?_
        refine j_iconst hx dX0_mix_24 ?_
        refine j_isub hx (r := (s0 r5 1) - 1) dX0_mix_25 (by omega) ?_
        refine j_istore hx [(5, .int (zI ((s0 r5 1) - 1))), (4, .ref r5), (0, .ref a), (2, .int (zI v1)), (3, .int (zI v2))] dX0_mix_26 (by decide) rfl ?_
        have c28_7 : ∀ (m_c28_7 : Nat) (v8 : Int) (v9 : Int) (s8 : zS), v9 + 2147483648 < m_c28_7 → ((-2147483648) ≤ v8 ∧ v8 ≤ 2147483647) → ((-1) ≤ v9 ∧ v9 ≤ 59) → (zSK G s8) → (zFr [41] G s2 s8) → JJ X E 6 G s8 0 0 [(0, .ref a), (2, .int (zI v8)), (3, .int (zI v2)), (4, .ref r5), (5, .int (zI v9))] 28 [] := by
          intro m_c28_7
          induction m_c28_7 with
          | zero => intro v8 v9 s8 hm_c28_7 fA9 fA10 hS_s8 hF_s8; exfalso; omega
          | succ m_c28_7 ih_c28_7 => 
            intro v8 v9 s8 hm_c28_7 fA9 fA10 hS_s8 hF_s8
            refine j_iload hx 4 dX0_mix_28 rfl ?_
            refine j_iconst hx dX0_mix_30 ?_
            refine j_icmp_lt hx 69 dX0_mix_31 rfl (by omega) ⟨by decide, by decide⟩ (fun h10 => ?_) (fun h10 => ?_)
            · skip
              refine j_iinc hx 2 [(3, .int (zI (v2 + 1))), (0, .ref a), (2, .int (zI v8)), (4, .ref r5), (5, .int (zI v9))] dX0_mix_69 rfl (by omega) (by decide) rfl ?_
              refine j_goto hx 4 dX0_mix_72 rfl ?_
              exact j_sub [1, 2, 0] [(0, .ref a), (2, .int (zI v8)), (3, .int (zI (v2 + 1)))] rfl (ih_c4_1 v8 (v2 + 1) s8 (by omega) (by omega) (by omega) hS_s8 (zFr_t (zFr_t zFr_rf hF_s2 (by decide)) hF_s8 (by decide)))
            · skip
              refine j_iload_n hx 1 dX0_mix_34 rfl ?_
              refine j_ldc hx (c := 1103515245) dX0_mix_35 kk_RX0_101 (by decide) ?_
              refine j_imul hx (r := 1103515245 * v8) dX0_mix_37 (by omega) ?_
              refine j_norm (fun v11 f12 f13 f14 => ?_)
              refine j_sipush hx dX0_mix_38 rfl ?_
              refine j_iadd hx (r := v11 + 12345) dX0_mix_41 rfl ?_
              refine j_norm (fun v15 f16 f17 f18 => ?_)
              refine j_istore_n hx [(2, .int (zI v15)), (0, .ref a), (3, .int (zI v2)), (4, .ref r5), (5, .int (zI v9))] dX0_mix_42 (by decide) rfl ?_
              refine j_aload hx 3 dX0_mix_43 rfl ?_
              refine j_iload hx 4 dX0_mix_45 rfl ?_
              refine j_iload_n hx 0 dX0_mix_47 rfl ?_
              refine j_bipush hx dX0_mix_48 rfl ?_
              refine j_iushr hx dX0_mix_50 (fun v19 f20 f21 => ?_)
              refine j_sipush hx dX0_mix_51 rfl ?_
              refine j_iand hx dX0_mix_54 (by omega) ⟨by decide, by decide⟩ (fun v22 f23 f24 f25 f26 _ => ?_)
              refine j_iload hx 4 dX0_mix_55 rfl ?_
              refine j_iconst hx dX0_mix_57 ?_
              refine j_iadd hx (r := v9 + 1) dX0_mix_58 rfl ?_
              refine j_irem hx dX0_mix_59 (by omega) (by omega) (by omega) (fun v28 f29 f30 f31 f32 => ?_)
              refine j_callV hx hG (c_X6_exchange hst r5 v9 v28) lk_RX0_102 q6 (by decide) rfl rfl rfl rfl [.int (zI v9), .int (zI v28)] ⟨rfl, hG, hS_s8, q6, (by omega), (by omega)⟩ rfl rfl ⟨by decide, by decide⟩ ⟨by decide, by decide⟩ (k2 := 0) (n2 := 0) rfl rfl (Nat.le_of_ble_eq_true rfl) dX0_mix_60 (kVM (fun s13 hS_s13 hF_s13 q35 => ?_))
              refine j_iinc hx 4 [(5, .int (zI (v9 - 1))), (2, .int (zI v15)), (0, .ref a), (3, .int (zI v2)), (4, .ref r5)] dX0_mix_63 rfl (by omega) (by decide) rfl ?_
              refine j_goto hx 28 dX0_mix_66 rfl ?_
              exact j_sub [2, 1, 3, 4, 0] [(0, .ref a), (2, .int (zI v15)), (3, .int (zI v2)), (4, .ref r5), (5, .int (zI (v9 - 1)))] rfl (ih_c28_7 v15 (v9 - 1) s13 (by omega) (by omega) (by omega) hS_s13 (zFr_t (zFr_t zFr_rf hF_s8 (by decide)) hF_s13 (by decide)))
        exact j_sub [2, 3, 4, 1, 0] [(0, .ref a), (2, .int (zI v1)), (3, .int (zI v2)), (4, .ref r5), (5, .int (zI ((s0 r5 1) - 1)))] rfl (c28_7 (2147483648 * 4) v1 ((s0 r5 1) - 1) s2 (by omega) (by omega) (by omega) hS_s2 zFr_rf)
  exact j_sub [2, 1, 0] [(0, .ref a), (2, .int (zI x1)), (3, .int (zI 0))] rfl (c4_1 (2147483648 * 4) x1 0 s0 (by omega) (by omega) (by omega) hS0 zFr_rf)

theorem lk_RX11_304 : LkV RX11 304 RX0 yX0_mix cX0_mix 6 none 1 := ⟨km_RX11_304, ki_yX0_mix, ks_RX0_yX0_mix, kn_RX0, kc_yX0_mix, rfl, by decide +kernel, by decide +kernel, by decide +kernel⟩
set_option maxHeartbeats 4000000 in
set_option maxRecDepth 20000 in
theorem c_X11_shuffle {E : zE} {l : Launch} (hst : l.stackTraces = false) (a : Nat) (x1 : Int) : Con E l yX11_shuffle cX11_shuffle 2 none { frames := 2, cells := 0, slots := 0, locals := 48 } (fun G s vs => vs = [.ref a, .int (zI x1)] ∧ zGK G ∧ zSK G s ∧ (gT G a = 12) ∧ ((-2147483648) ≤ x1 ∧ x1 ≤ 2147483647)) (fun G s _ => pV (fun G2 s2 => G2 = G ∧ zSK G s2 ∧ zFr [5, 41] G s s2 ∧ True)) := by
  refine Con.mk hst (by decide) (fun G s vs h => by rw [h.1]; exact Nat.le_of_ble_eq_true rfl) ?_
  rintro X G s0 vs ⟨rfl, hG, hS0, ha, hx1⟩ rfl hx hq
  show JJ X E 2 G s0 0 0 [(0, .ref a), (1, .int (zI x1))] 0 []
  refine j_aload_n hx 0 dX11_shuffle_0 rfl ?_
  refine g12_6 hx hG ha kf_RX11_48 dX11_shuffle_1 ?_
  refine gN4_1 hx hG (zr (k := 6) (t2 := 4) hG ha rfl) kf_RX11_155 dX11_shuffle_4 ?_
  refine j_iload_n hx 1 dX11_shuffle_7 rfl ?_
  refine j_callV hx hG (c_X0_mix hst (gP G (gP G a 6) 1) x1) lk_RX11_304 (zr (k := 1) (t2 := 1) hG (zr (k := 6) (t2 := 4) hG ha rfl) rfl) (by decide) rfl rfl rfl rfl [.int (zI x1)] ⟨rfl, hG, hS0, (zr (k := 1) (t2 := 1) hG (zr (k := 6) (t2 := 4) hG ha rfl) rfl), (by omega)⟩ rfl rfl ⟨by decide, by decide⟩ ⟨by decide, by decide⟩ (k2 := 0) (n2 := 0) rfl rfl (Nat.le_of_ble_eq_true rfl) dX11_shuffle_8 (kVM (fun s1 hS_s1 hF_s1 q2 => ?_))
  refine j_aload_n hx 0 dX11_shuffle_11 rfl ?_
  refine g12_9 hx hG ha kf_RX11_69 dX11_shuffle_12 ?_
  refine j_aload_n hx 0 dX11_shuffle_15 rfl ?_
  refine g12_6 hx hG ha kf_RX11_48 dX11_shuffle_16 ?_
  have f3 := zf hS0 (zr (k := 6) (t2 := 4) hG ha rfl) (k := 10) rfl
  refine gN4_10 hx hG (zr (k := 6) (t2 := 4) hG ha rfl) kf_RX11_165 (v := (s0 (gP G a 6) 10)) (by rw [(zFr_g hF_s1 (zr (k := 6) (t2 := 4) hG ha rfl) (by decide))]) dX11_shuffle_19 ?_
  refine j_callV hx hG (c_X4_settle hst (gP G a 9) ((s0 (gP G a 6) 10))) lk_RX11_124 (zr (k := 9) (t2 := 5) hG ha rfl) (by decide) rfl rfl rfl rfl [.int (zI ((s0 (gP G a 6) 10)))] ⟨rfl, hG, hS_s1, (zr (k := 9) (t2 := 5) hG ha rfl), (by omega)⟩ rfl rfl ⟨by decide, by decide⟩ ⟨by decide, by decide⟩ (k2 := 0) (n2 := 0) rfl rfl (Nat.le_of_ble_eq_true rfl) dX11_shuffle_22 (kVM (fun s2 hS_s2 hF_s2 q5 => ?_))
  exact j_vret hx hq rfl (by decide) (by decide) dX11_shuffle_25 ⟨rfl, rfl, hS_s2, (zFr_t (zFr_t zFr_rf hF_s1 (by decide)) hF_s2 (by decide)), trivial⟩

set_option maxHeartbeats 4000000 in
set_option maxRecDepth 20000 in
theorem c_X11_lot {E : zE} {l : Launch} (hst : l.stackTraces = false) (a : Nat) (x1 : Int) (x2 : Int) (x3 : Int) : ConX E l yX11_lot cX11_lot 9 (some .int) { frames := 7, cells := 2, slots := 12, locals := 166 } (fun G s vs => vs = [.ref a, .int (zI x1), .int (zI x2), .int (zI x3)] ∧ zGK G ∧ zSK G s ∧ (gT G a = 12) ∧ ((-2147483648) ≤ x1 ∧ x1 ≤ 2147483647) ∧ ((-2147483648) ≤ x2 ∧ x2 ≤ 2147483647) ∧ ((-2147483648) ≤ x3 ∧ x3 ≤ 2147483647)) (fun G s _ => pI (fun r G2 s2 => G2 = G ∧ zSK G s2 ∧ zFr [1, 3, 4, 7, 41, 44, 49, 50, 51, 52, 53, 54, 55] G s s2 ∧ ((-2147483648) ≤ r ∧ r ≤ 2147483647))) (fun G s _ Ex G2 s2 => G2 = G ∧ zSK G s2 ∧ zFr [1, 3, 4, 7, 12, 41, 44, 49, 50, 51, 52, 53, 54, 55] G s s2 ∧ ((Ex = "java/lang/IllegalArgumentException" ∧ (True)))) := by
  refine ConX.mk hst (by decide) (fun G s vs h => by rw [h.1]; exact Nat.le_of_ble_eq_true rfl) ?_
  rintro X G s0 vs ⟨rfl, hG, hS0, ha, hx1, hx2, hx3⟩ rfl hx hq
  show JJ X E 9 G s0 0 0 [(0, .ref a), (1, .int (zI x1)), (2, .int (zI x2)), (3, .int (zI x3))] 0 []
  refine j_aload_n hx 0 dX11_lot_0 rfl ?_
  refine j_iload_n hx 2 dX11_lot_1 rfl ?_
  refine j_iconst hx dX11_lot_2 ?_
  refine j_bipush hx dX11_lot_3 rfl ?_
  refine j_callVX hx hq hG (c_X11_needRange hst a x2 1 20) lk_RX11_98 ha (by decide) rfl rfl rfl rfl [.int (zI x2), .int (zI 1), .int (zI 20)] ⟨rfl, hG, hS0, ha, (by omega), (by omega), (by omega)⟩ rfl rfl ⟨by decide, by decide⟩ ⟨by decide, by decide⟩ (k2 := 1) (n2 := 6) rfl rfl (Nat.le_of_ble_eq_true rfl) ⟨by decide, by decide⟩ dX11_lot_5 (by rintro Ex9 G9 s9 ⟨rfl, hS9, hF9, e9, c9⟩; exact ⟨rfl, hS9, (zFr_t zFr_rf hF9 (by decide)), ⟨e9, by first | trivial | omega⟩⟩) (kVP (fun q2 => ?_))
  refine j_aload_n hx 0 dX11_lot_8 rfl ?_
  refine j_iload_n hx 3 dX11_lot_9 rfl ?_
  refine j_iconst hx dX11_lot_10 ?_
  refine j_iconst hx dX11_lot_11 ?_
  refine j_callVX hx hq hG (c_X11_needRange hst a x3 0 5) lk_RX11_98 ha (by decide) rfl rfl rfl rfl [.int (zI x3), .int (zI 0), .int (zI 5)] ⟨rfl, hG, hS0, ha, (by omega), (by omega), (by omega)⟩ rfl rfl ⟨by decide, by decide⟩ ⟨by decide, by decide⟩ (k2 := 2) (n2 := 12) rfl rfl (Nat.le_of_ble_eq_true rfl) ⟨by decide, by decide⟩ dX11_lot_12 (by rintro Ex9 G9 s9 ⟨rfl, hS9, hF9, e9, c9⟩; exact ⟨rfl, hS9, (zFr_t zFr_rf hF9 (by decide)), ⟨e9, by first | trivial | omega⟩⟩) (kVP (fun q4 => ?_))
  refine j_iconst hx dX11_lot_15 ?_
  refine j_istore hx [(4, .int (zI 0)), (0, .ref a), (1, .int (zI x1)), (2, .int (zI x2)), (3, .int (zI x3))] dX11_lot_16 (by decide) rfl ?_
  refine j_iconst hx dX11_lot_18 ?_
  refine j_istore hx [(5, .int (zI 0)), (4, .int (zI 0)), (0, .ref a), (1, .int (zI x1)), (2, .int (zI x2)), (3, .int (zI x3))] dX11_lot_19 (by decide) rfl ?_
  refine j_iconst hx dX11_lot_21 ?_
  refine j_istore hx [(6, .int (zI 0)), (5, .int (zI 0)), (4, .int (zI 0)), (0, .ref a), (1, .int (zI x1)), (2, .int (zI x2)), (3, .int (zI x3))] dX11_lot_22 (by decide) rfl ?_
  refine j_iconst hx dX11_lot_24 ?_
  refine j_istore hx [(7, .int (zI 0)), (6, .int (zI 0)), (5, .int (zI 0)), (4, .int (zI 0)), (0, .ref a), (1, .int (zI x1)), (2, .int (zI x2)), (3, .int (zI x3))] dX11_lot_25 (by decide) rfl ?_
  refine j_iconst hx dX11_lot_27 ?_
  refine j_istore hx [(8, .int (zI 0)), (7, .int (zI 0)), (6, .int (zI 0)), (5, .int (zI 0)), (4, .int (zI 0)), (0, .ref a), (1, .int (zI x1)), (2, .int (zI x2)), (3, .int (zI x3))] dX11_lot_28 (by decide) rfl ?_
  have c30_1 : ∀ (m_c30_1 : Nat) (v5 : Int) (v6 : Int) (v7 : Int) (v8 : Int) (v9 : Int) (s2 : zS), 2147483648 - v9 < m_c30_1 → ((-2147483648) ≤ v5 ∧ v5 ≤ 2147483647) → (0 ≤ v6 ∧ v6 ≤ 2147483647) → ((-2147483648) ≤ v7 ∧ v7 ≤ 2147483647) → ((-2147483648) ≤ v8 ∧ v8 ≤ 2147483647) → (0 ≤ v9 ∧ v9 ≤ 2147483647) → (zSK G s2) → (zFr [1, 3, 4, 7, 41, 44, 49, 50, 51, 52, 53, 54, 55] G s0 s2) → JJ X E 9 G s2 2 12 [(0, .ref a), (1, .int (zI x1)), (2, .int (zI x2)), (3, .int (zI x3)), (4, .int (zI v5)), (5, .int (zI v6)), (6, .int (zI v7)), (7, .int (zI v8)), (8, .int (zI v9))] 30 [] := by
    intro m_c30_1
    induction m_c30_1 with
    | zero => intro v5 v6 v7 v8 v9 s2 hm_c30_1 fA3 fA4 fA5 fA6 fA7 hS_s2 hF_s2; exfalso; omega
    | succ m_c30_1 ih_c30_1 => 
      intro v5 v6 v7 v8 v9 s2 hm_c30_1 fA3 fA4 fA5 fA6 fA7 hS_s2 hF_s2
      refine j_iload hx 8 dX11_lot_30 rfl ?_
      refine j_iload_n hx 2 dX11_lot_32 rfl ?_
      refine j_icmp_ge hx 175 dX11_lot_33 rfl (by omega) (by omega) (fun h10 => ?_) (fun h10 => ?_)
      · skip
        refine j_iload_n hx 3 dX11_lot_175 rfl ?_
        refine j_if_ne hx 182 dX11_lot_176 rfl (by omega) (fun h11 => ?_) (fun h11 => ?_)
        · skip
          refine j_iload_n hx 3 dX11_lot_182 rfl ?_
          refine j_iconst hx dX11_lot_183 ?_
          refine j_icmp_ne hx 190 dX11_lot_184 rfl (by omega) ⟨by decide, by decide⟩ (fun h12 => ?_) (fun h12 => ?_)
          · skip
            refine j_iload_n hx 3 dX11_lot_190 rfl ?_
            refine j_iconst hx dX11_lot_191 ?_
            refine j_icmp_ne hx 200 dX11_lot_192 rfl (by omega) ⟨by decide, by decide⟩ (fun h13 => ?_) (fun h13 => ?_)
            · skip
              refine j_iload hx 7 dX11_lot_200 rfl ?_
              exact j_iret hx hq.r rfl (by decide) (by decide) dX11_lot_202 ⟨v8, rfl, rfl, hS_s2, (zFr_t zFr_rf hF_s2 (by decide)), (by omega)⟩
            · skip
              refine j_iload hx 6 dX11_lot_195 rfl ?_
              refine j_goto hx 202 dX11_lot_197 rfl ?_
              exact j_iret hx hq.r rfl (by decide) (by decide) dX11_lot_202 ⟨v7, rfl, rfl, hS_s2, (zFr_t zFr_rf hF_s2 (by decide)), (by omega)⟩
          · skip
            refine j_iload hx 5 dX11_lot_187 rfl ?_
            exact j_iret hx hq.r rfl (by decide) (by decide) dX11_lot_189 ⟨v6, rfl, rfl, hS_s2, (zFr_t zFr_rf hF_s2 (by decide)), (by omega)⟩
        · skip
          refine j_iload hx 4 dX11_lot_179 rfl ?_
          exact j_iret hx hq.r rfl (by decide) (by decide) dX11_lot_181 ⟨v5, rfl, rfl, hS_s2, (zFr_t zFr_rf hF_s2 (by decide)), (by omega)⟩
      · skip
        refine j_aload_n hx 0 dX11_lot_36 rfl ?_
        refine g12_7 hx hG ha kf_RX11_55 dX11_lot_37 ?_
        refine j_aload_n hx 0 dX11_lot_40 rfl ?_
        refine g12_6 hx hG ha kf_RX11_48 dX11_lot_41 ?_
        refine j_callV hx hG (c_X2_begin hst (gP G a 7) (gP G a 6)) lk_RX11_237 (zr (k := 7) (t2 := 3) hG ha rfl) (by decide) rfl rfl rfl rfl [.ref (gP G a 6)] ⟨rfl, hG, hS_s2, (zr (k := 7) (t2 := 3) hG ha rfl), (zr (k := 6) (t2 := 4) hG ha rfl)⟩ rfl rfl ⟨by decide, by decide⟩ ⟨by decide, by decide⟩ (k2 := 2) (n2 := 12) rfl rfl (Nat.le_of_ble_eq_true rfl) dX11_lot_44 (kVM (fun s10 hS_s10 hF_s10 q15 => ?_))
        refine j_aload_n hx 0 dX11_lot_47 rfl ?_
        refine g12_7 hx hG ha kf_RX11_55 dX11_lot_48 ?_
        refine gN3_0 hx hG (zr (k := 7) (t2 := 3) hG ha rfl) kf_RX11_307 dX11_lot_51 ?_
        refine gN4_1 hx hG (zr (k := 0) (t2 := 4) hG (zr (k := 7) (t2 := 3) hG ha rfl) rfl) kf_RX11_155 dX11_lot_54 ?_
        refine j_iload_n hx 1 dX11_lot_57 rfl ?_
        refine j_iload hx 8 dX11_lot_58 rfl ?_
        refine j_iadd hx (r := x1 + v9) dX11_lot_60 rfl ?_
        refine j_norm (fun v16 f17 f18 f19 => ?_)
        refine j_callV hx hG (c_X0_mix hst (gP G (gP G (gP G a 7) 0) 1) v16) lk_RX11_304 (zr (k := 1) (t2 := 1) hG (zr (k := 0) (t2 := 4) hG (zr (k := 7) (t2 := 3) hG ha rfl) rfl) rfl) (by decide) rfl rfl rfl rfl [.int (zI v16)] ⟨rfl, hG, hS_s10, (zr (k := 1) (t2 := 1) hG (zr (k := 0) (t2 := 4) hG (zr (k := 7) (t2 := 3) hG ha rfl) rfl) rfl), (by omega)⟩ rfl rfl ⟨by decide, by decide⟩ ⟨by decide, by decide⟩ (k2 := 2) (n2 := 12) rfl rfl (Nat.le_of_ble_eq_true rfl) dX11_lot_61 (kVM (fun s11 hS_s11 hF_s11 q21 => ?_))
        refine j_aload_n hx 0 dX11_lot_64 rfl ?_
        refine g12_7 hx hG ha kf_RX11_55 dX11_lot_65 ?_
        refine j_callV hx hG (c_X2_run hst (gP G a 7)) lk_RX11_240 (zr (k := 7) (t2 := 3) hG ha rfl) (by decide) rfl rfl rfl rfl [] ⟨rfl, hG, hS_s11, (zr (k := 7) (t2 := 3) hG ha rfl)⟩ rfl rfl ⟨by decide, by decide⟩ ⟨by decide, by decide⟩ (k2 := 2) (n2 := 12) rfl rfl (Nat.le_of_ble_eq_true rfl) dX11_lot_68 (kVM (fun s12 hS_s12 hF_s12 q23 => ?_))
        refine j_iload hx 8 dX11_lot_71 rfl ?_
        have c98_13 : ∀ (v24 : Int), ((-2147483648) ≤ v24 ∧ v24 ≤ 2147483647) → JJ X E 9 G s12 2 12 [(0, .ref a), (1, .int (zI x1)), (2, .int (zI x2)), (3, .int (zI x3)), (5, .int (zI v6)), (6, .int (zI v7)), (7, .int (zI v8)), (8, .int (zI v9))] 98 [.int (zI v24)] := by
          intro v24 fA14
          refine j_istore hx [(4, .int (zI v24)), (0, .ref a), (1, .int (zI x1)), (2, .int (zI x2)), (3, .int (zI x3)), (5, .int (zI v6)), (6, .int (zI v7)), (7, .int (zI v8)), (8, .int (zI v9))] dX11_lot_98 (by decide) rfl ?_
          refine j_iload hx 5 dX11_lot_100 rfl ?_
          refine j_aload_n hx 1 dX11_lot_102 rfl ?_
          refine g12_7 hx hG ha kf_RX11_55 dX11_lot_103 ?_
          have f25 := zf hS_s12 (zr (k := 7) (t2 := 3) hG ha rfl) (k := 5) rfl
          refine gN3_5 hx hG (zr (k := 7) (t2 := 3) hG ha rfl) kf_RX11_246 rfl dX11_lot_106 ?_
          refine j_mmax hx km_RX11_310 kst_max kn_RJ9 kc_Lib_Math_max_name (by omega) (by omega) ⟨by decide, Nat.le_of_ble_eq_true rfl⟩ ⟨by decide, by decide⟩ dX11_lot_109 (fun v26 f27 f28 f29 => ?_)
          refine j_istore hx [(5, .int (zI v26)), (4, .int (zI v24)), (0, .ref a), (1, .int (zI x1)), (2, .int (zI x2)), (3, .int (zI x3)), (6, .int (zI v7)), (7, .int (zI v8)), (8, .int (zI v9))] dX11_lot_112 (by decide) rfl ?_
          refine j_iload hx 6 dX11_lot_114 rfl ?_
          refine j_aload_n hx 2 dX11_lot_116 rfl ?_
          refine g12_7 hx hG ha kf_RX11_55 dX11_lot_117 ?_
          have f30 := zf hS_s12 (zr (k := 7) (t2 := 3) hG ha rfl) (k := 6) rfl
          refine gN3_6 hx hG (zr (k := 7) (t2 := 3) hG ha rfl) kf_RX11_249 rfl dX11_lot_120 ?_
          refine j_iconst hx dX11_lot_123 ?_
          have c132_15 : ∀ (v31 : Int), (0 ≤ v31 ∧ v31 ≤ 1) → JJ X E 9 G s12 2 12 [(0, .ref a), (1, .int (zI x1)), (2, .int (zI x2)), (3, .int (zI x3)), (4, .int (zI v24)), (5, .int (zI v26)), (7, .int (zI v8)), (8, .int (zI v9))] 132 [.int (zI v31), .int (zI v7)] := by
            intro v31 fA16
            refine j_iadd hx (r := v7 + v31) dX11_lot_132 rfl ?_
            refine j_norm (fun v32 f33 f34 f35 => ?_)
            refine j_istore hx [(6, .int (zI v32)), (0, .ref a), (1, .int (zI x1)), (2, .int (zI x2)), (3, .int (zI x3)), (4, .int (zI v24)), (5, .int (zI v26)), (7, .int (zI v8)), (8, .int (zI v9))] dX11_lot_133 (by decide) rfl ?_
            refine j_iload hx 7 dX11_lot_135 rfl ?_
            refine j_aload_n hx 1 dX11_lot_137 rfl ?_
            refine g12_7 hx hG ha kf_RX11_55 dX11_lot_138 ?_
            have f36 := zf hS_s12 (zr (k := 7) (t2 := 3) hG ha rfl) (k := 4) rfl
            refine gN3_4 hx hG (zr (k := 7) (t2 := 3) hG ha rfl) kf_RX11_243 rfl dX11_lot_141 ?_
            refine j_iconst hx dX11_lot_144 ?_
            have c166_17 : ∀ (v37 : Int), (0 ≤ v37 ∧ v37 ≤ 1) → JJ X E 9 G s12 2 12 [(0, .ref a), (1, .int (zI x1)), (2, .int (zI x2)), (3, .int (zI x3)), (4, .int (zI v24)), (5, .int (zI v26)), (6, .int (zI v32)), (8, .int (zI v9))] 166 [.int (zI v37), .int (zI v8)] := by
              intro v37 fA18
              refine j_iadd hx (r := v8 + v37) dX11_lot_166 rfl ?_
              refine j_norm (fun v38 f39 f40 f41 => ?_)
              refine j_istore hx [(7, .int (zI v38)), (0, .ref a), (1, .int (zI x1)), (2, .int (zI x2)), (3, .int (zI x3)), (4, .int (zI v24)), (5, .int (zI v26)), (6, .int (zI v32)), (8, .int (zI v9))] dX11_lot_167 (by decide) rfl ?_
              refine j_iinc hx 8 [(8, .int (zI (v9 + 1))), (7, .int (zI v38)), (0, .ref a), (1, .int (zI x1)), (2, .int (zI x2)), (3, .int (zI x3)), (4, .int (zI v24)), (5, .int (zI v26)), (6, .int (zI v32))] dX11_lot_169 rfl (by omega) (by decide) rfl ?_
              refine j_goto hx 30 dX11_lot_172 rfl ?_
              exact j_sub [2, 3, 4, 5, 6, 7, 8, 1, 0] [(0, .ref a), (1, .int (zI x1)), (2, .int (zI x2)), (3, .int (zI x3)), (4, .int (zI v24)), (5, .int (zI v26)), (6, .int (zI v32)), (7, .int (zI v38)), (8, .int (zI (v9 + 1)))] rfl (ih_c30_1 v24 v26 v32 v38 (v9 + 1) s12 (by omega) (by omega) (by omega) (by omega) (by omega) (by omega) hS_s12 (zFr_t (zFr_t (zFr_t (zFr_t zFr_rf hF_s2 (by decide)) hF_s10 (by decide)) hF_s11 (by decide)) hF_s12 (by decide)))
            have c165_19 : JJ X E 9 G s12 2 12 [(0, .ref a), (1, .int (zI x1)), (2, .int (zI x2)), (3, .int (zI x3)), (4, .int (zI v24)), (5, .int (zI v26)), (6, .int (zI v32)), (8, .int (zI v9))] 165 [.int (zI v8)] := by
              refine j_iconst hx dX11_lot_165 ?_
              exact j_sub [0, 1, 2, 3, 4, 5, 6, 7] [(0, .ref a), (1, .int (zI x1)), (2, .int (zI x2)), (3, .int (zI x3)), (4, .int (zI v24)), (5, .int (zI v26)), (6, .int (zI v32)), (8, .int (zI v9))] rfl (c166_17 0 (by omega))
            refine j_icmp_eq hx 165 dX11_lot_145 rfl (by omega) ⟨by decide, by decide⟩ (fun h42 => ?_) (fun h42 => ?_)
            · skip
              exact j_sub [1, 2, 3, 4, 5, 6, 0, 8] [(0, .ref a), (1, .int (zI x1)), (2, .int (zI x2)), (3, .int (zI x3)), (4, .int (zI v24)), (5, .int (zI v26)), (6, .int (zI v32)), (8, .int (zI v9))] rfl (c165_19  )
            · skip
              refine j_aload_n hx 1 dX11_lot_148 rfl ?_
              refine g12_7 hx hG ha kf_RX11_55 dX11_lot_149 ?_
              refine gN3_4 hx hG (zr (k := 7) (t2 := 3) hG ha rfl) kf_RX11_243 rfl dX11_lot_152 ?_
              refine j_iload_n hx 4 dX11_lot_155 rfl ?_
              refine j_iconst hx dX11_lot_156 ?_
              refine j_isub hx (r := x3 - 2) dX11_lot_157 rfl ?_
              refine j_icmp_ne hx 165 dX11_lot_158 rfl (by omega) (by omega) (fun h43 => ?_) (fun h43 => ?_)
              · skip
                exact j_sub [1, 2, 3, 4, 5, 6, 0, 8] [(0, .ref a), (1, .int (zI x1)), (2, .int (zI x2)), (3, .int (zI x3)), (4, .int (zI v24)), (5, .int (zI v26)), (6, .int (zI v32)), (8, .int (zI v9))] rfl (c165_19  )
              · skip
                refine j_iconst hx dX11_lot_161 ?_
                refine j_goto hx 166 dX11_lot_162 rfl ?_
                exact j_sub [1, 2, 3, 4, 5, 6, 0, 8] [(0, .ref a), (1, .int (zI x1)), (2, .int (zI x2)), (3, .int (zI x3)), (4, .int (zI v24)), (5, .int (zI v26)), (6, .int (zI v32)), (8, .int (zI v9))] rfl (c166_17 1 (by omega))
          refine j_icmp_ne hx 131 dX11_lot_124 rfl (by omega) ⟨by decide, by decide⟩ (fun h44 => ?_) (fun h44 => ?_)
          · skip
            refine j_iconst hx dX11_lot_131 ?_
            exact j_sub [2, 3, 4, 5, 1, 0, 7, 8] [(0, .ref a), (1, .int (zI x1)), (2, .int (zI x2)), (3, .int (zI x3)), (4, .int (zI v24)), (5, .int (zI v26)), (7, .int (zI v8)), (8, .int (zI v9))] rfl (c132_15 1 (by omega))
          · skip
            refine j_iconst hx dX11_lot_127 ?_
            refine j_goto hx 132 dX11_lot_128 rfl ?_
            exact j_sub [2, 3, 4, 5, 1, 0, 7, 8] [(0, .ref a), (1, .int (zI x1)), (2, .int (zI x2)), (3, .int (zI x3)), (4, .int (zI v24)), (5, .int (zI v26)), (7, .int (zI v8)), (8, .int (zI v9))] rfl (c132_15 0 (by omega))
        refine j_if_ne hx 86 dX11_lot_73 rfl (by omega) (fun h45 => ?_) (fun h45 => ?_)
        · skip
          refine j_iload hx 4 dX11_lot_86 rfl ?_
          refine j_aload_n hx 0 dX11_lot_88 rfl ?_
          refine g12_7 hx hG ha kf_RX11_55 dX11_lot_89 ?_
          have f46 := zf hS_s12 (zr (k := 7) (t2 := 3) hG ha rfl) (k := 5) rfl
          refine gN3_5 hx hG (zr (k := 7) (t2 := 3) hG ha rfl) kf_RX11_246 rfl dX11_lot_92 ?_
          refine j_mmin hx km_RX11_137 kst_min kn_RJ9 kc_Lib_Math_min_name (by omega) (by omega) ⟨by decide, Nat.le_of_ble_eq_true rfl⟩ ⟨by decide, by decide⟩ dX11_lot_95 (fun v47 f48 f49 f50 => ?_)
          exact j_sub [0, 1, 2, 3, 5, 6, 7, 8] [(0, .ref a), (1, .int (zI x1)), (2, .int (zI x2)), (3, .int (zI x3)), (5, .int (zI v6)), (6, .int (zI v7)), (7, .int (zI v8)), (8, .int (zI v9))] rfl (c98_13 v47 (by omega))
        · skip
          refine j_aload_n hx 0 dX11_lot_76 rfl ?_
          refine g12_7 hx hG ha kf_RX11_55 dX11_lot_77 ?_
          have f51 := zf hS_s12 (zr (k := 7) (t2 := 3) hG ha rfl) (k := 5) rfl
          refine gN3_5 hx hG (zr (k := 7) (t2 := 3) hG ha rfl) kf_RX11_246 rfl dX11_lot_80 ?_
          refine j_goto hx 98 dX11_lot_83 rfl ?_
          exact j_sub [0, 1, 2, 3, 5, 6, 7, 8] [(0, .ref a), (1, .int (zI x1)), (2, .int (zI x2)), (3, .int (zI x3)), (5, .int (zI v6)), (6, .int (zI v7)), (7, .int (zI v8)), (8, .int (zI v9))] rfl (c98_13 ((s12 (gP G a 7) 5)) (by omega))
  exact j_sub [5, 6, 7, 8, 4, 3, 2, 1, 0] [(0, .ref a), (1, .int (zI x1)), (2, .int (zI x2)), (3, .int (zI x3)), (4, .int (zI 0)), (5, .int (zI 0)), (6, .int (zI 0)), (7, .int (zI 0)), (8, .int (zI 0))] rfl (c30_1 (2147483648 * 4) 0 0 0 0 0 s0 (by omega) (by omega) (by omega) (by omega) (by omega) (by omega) hS0 zFr_rf)

set_option maxHeartbeats 4000000 in
set_option maxRecDepth 20000 in
theorem c_X11_film {E : zE} {l : Launch} (hst : l.stackTraces = false) (a : Nat) (x1 : Int) (x2 : Int) (x3 : Int) (x4 : Int) (x5 : Int) : ConX E l yX11_film cX11_film 10 (some .int) { frames := 7, cells := 5, slots := 30, locals := 113 } (fun G s vs => vs = [.ref a, .int (zI x1), .int (zI x2), .int (zI x3), .int (zI x4), .int (zI x5)] ∧ zGK G ∧ zSK G s ∧ (gT G a = 12) ∧ ((-2147483648) ≤ x1 ∧ x1 ≤ 2147483647) ∧ ((-2147483648) ≤ x2 ∧ x2 ≤ 2147483647) ∧ ((-2147483648) ≤ x3 ∧ x3 ≤ 2147483647) ∧ ((-2147483648) ≤ x4 ∧ x4 ≤ 2147483647) ∧ ((-2147483648) ≤ x5 ∧ x5 ≤ 2147483647)) (fun G s _ => pI (fun r G2 s2 => G2 = G ∧ s2 = s ∧ ((-2147483648) ≤ r ∧ r ≤ 2147483647))) (fun G s _ Ex G2 s2 => G2 = G ∧ zSK G s2 ∧ zFr [12] G s s2 ∧ ((Ex = "java/lang/IllegalArgumentException" ∧ (True)))) := by
  refine ConX.mk hst (by decide) (fun G s vs h => by rw [h.1]; exact Nat.le_of_ble_eq_true rfl) ?_
  rintro X G s0 vs ⟨rfl, hG, hS0, ha, hx1, hx2, hx3, hx4, hx5⟩ rfl hx hq
  show JJ X E 10 G s0 0 0 [(0, .ref a), (1, .int (zI x1)), (2, .int (zI x2)), (3, .int (zI x3)), (4, .int (zI x4)), (5, .int (zI x5))] 0 []
  refine j_aload_n hx 0 dX11_film_0 rfl ?_
  refine j_iload_n hx 2 dX11_film_1 rfl ?_
  refine j_iconst hx dX11_film_2 ?_
  refine j_bipush hx dX11_film_3 rfl ?_
  refine j_callVX hx hq hG (c_X11_needRange hst a x2 0 99) lk_RX11_98 ha (by decide) rfl rfl rfl rfl [.int (zI x2), .int (zI 0), .int (zI 99)] ⟨rfl, hG, hS0, ha, (by omega), (by omega), (by omega)⟩ rfl rfl ⟨by decide, by decide⟩ ⟨by decide, by decide⟩ (k2 := 1) (n2 := 6) rfl rfl (Nat.le_of_ble_eq_true rfl) ⟨by decide, by decide⟩ dX11_film_5 (by rintro Ex9 G9 s9 ⟨rfl, hS9, hF9, e9, c9⟩; exact ⟨rfl, hS9, (zFr_t zFr_rf hF9 (by decide)), ⟨e9, by first | trivial | omega⟩⟩) (kVP (fun q2 => ?_))
  refine j_aload_n hx 0 dX11_film_8 rfl ?_
  refine j_iload hx 4 dX11_film_9 rfl ?_
  refine j_iconst hx dX11_film_11 ?_
  refine j_bipush hx dX11_film_12 rfl ?_
  refine j_callVX hx hq hG (c_X11_needRange hst a x4 0 99) lk_RX11_98 ha (by decide) rfl rfl rfl rfl [.int (zI x4), .int (zI 0), .int (zI 99)] ⟨rfl, hG, hS0, ha, (by omega), (by omega), (by omega)⟩ rfl rfl ⟨by decide, by decide⟩ ⟨by decide, by decide⟩ (k2 := 2) (n2 := 12) rfl rfl (Nat.le_of_ble_eq_true rfl) ⟨by decide, by decide⟩ dX11_film_14 (by rintro Ex9 G9 s9 ⟨rfl, hS9, hF9, e9, c9⟩; exact ⟨rfl, hS9, (zFr_t zFr_rf hF9 (by decide)), ⟨e9, by first | trivial | omega⟩⟩) (kVP (fun q4 => ?_))
  refine j_aload_n hx 0 dX11_film_17 rfl ?_
  refine j_iload_n hx 1 dX11_film_18 rfl ?_
  refine j_iconst hx dX11_film_19 ?_
  refine j_iload_n hx 2 dX11_film_20 rfl ?_
  refine j_callVX hx hq hG (c_X11_needRange hst a x1 0 x2) lk_RX11_98 ha (by decide) rfl rfl rfl rfl [.int (zI x1), .int (zI 0), .int (zI x2)] ⟨rfl, hG, hS0, ha, (by omega), (by omega), (by omega)⟩ rfl rfl ⟨by decide, by decide⟩ ⟨by decide, by decide⟩ (k2 := 3) (n2 := 18) rfl rfl (Nat.le_of_ble_eq_true rfl) ⟨by decide, by decide⟩ dX11_film_21 (by rintro Ex9 G9 s9 ⟨rfl, hS9, hF9, e9, c9⟩; exact ⟨rfl, hS9, (zFr_t zFr_rf hF9 (by decide)), ⟨e9, by first | trivial | omega⟩⟩) (kVP (fun q6 => ?_))
  refine j_aload_n hx 0 dX11_film_24 rfl ?_
  refine j_iload_n hx 3 dX11_film_25 rfl ?_
  refine j_iconst hx dX11_film_26 ?_
  refine j_iload hx 4 dX11_film_27 rfl ?_
  refine j_callVX hx hq hG (c_X11_needRange hst a x3 0 x4) lk_RX11_98 ha (by decide) rfl rfl rfl rfl [.int (zI x3), .int (zI 0), .int (zI x4)] ⟨rfl, hG, hS0, ha, (by omega), (by omega), (by omega)⟩ rfl rfl ⟨by decide, by decide⟩ ⟨by decide, by decide⟩ (k2 := 4) (n2 := 24) rfl rfl (Nat.le_of_ble_eq_true rfl) ⟨by decide, by decide⟩ dX11_film_29 (by rintro Ex9 G9 s9 ⟨rfl, hS9, hF9, e9, c9⟩; exact ⟨rfl, hS9, (zFr_t zFr_rf hF9 (by decide)), ⟨e9, by first | trivial | omega⟩⟩) (kVP (fun q8 => ?_))
  refine j_aload_n hx 0 dX11_film_32 rfl ?_
  refine j_iload hx 5 dX11_film_33 rfl ?_
  refine j_iconst hx dX11_film_35 ?_
  refine j_iconst hx dX11_film_36 ?_
  refine j_callVX hx hq hG (c_X11_needRange hst a x5 0 2) lk_RX11_98 ha (by decide) rfl rfl rfl rfl [.int (zI x5), .int (zI 0), .int (zI 2)] ⟨rfl, hG, hS0, ha, (by omega), (by omega), (by omega)⟩ rfl rfl ⟨by decide, by decide⟩ ⟨by decide, by decide⟩ (k2 := 5) (n2 := 30) rfl rfl (Nat.le_of_ble_eq_true rfl) ⟨by decide, by decide⟩ dX11_film_37 (by rintro Ex9 G9 s9 ⟨rfl, hS9, hF9, e9, c9⟩; exact ⟨rfl, hS9, (zFr_t zFr_rf hF9 (by decide)), ⟨e9, by first | trivial | omega⟩⟩) (kVP (fun q10 => ?_))
  refine j_iconst hx dX11_film_40 ?_
  refine j_istore hx [(6, .int (zI 0)), (0, .ref a), (1, .int (zI x1)), (2, .int (zI x2)), (3, .int (zI x3)), (4, .int (zI x4)), (5, .int (zI x5))] dX11_film_41 (by decide) rfl ?_
  refine j_iconst hx dX11_film_43 ?_
  refine j_istore hx [(7, .int (zI 0)), (6, .int (zI 0)), (0, .ref a), (1, .int (zI x1)), (2, .int (zI x2)), (3, .int (zI x3)), (4, .int (zI x4)), (5, .int (zI x5))] dX11_film_44 (by decide) rfl ?_
  refine j_iload_n hx 3 dX11_film_46 rfl ?_
  refine j_istore hx [(8, .int (zI x1)), (7, .int (zI 0)), (6, .int (zI 0)), (0, .ref a), (1, .int (zI x1)), (2, .int (zI x2)), (3, .int (zI x3)), (4, .int (zI x4)), (5, .int (zI x5))] dX11_film_47 (by decide) rfl ?_
  have c49_1 : ∀ (m_c49_1 : Nat) (v11 : Int) (v12 : Int) (v13 : Int), 2147483648 - v13 < m_c49_1 → ((-2147483648) ≤ v11 ∧ v11 ≤ 2147483647) → ((-2147483648) ≤ v12 ∧ v12 ≤ 2147483647) → ((-2147483648) ≤ v13 ∧ v13 ≤ 2147483647) → JJ X E 10 G s0 5 30 [(1, .int (zI x1)), (2, .int (zI x2)), (3, .int (zI x3)), (4, .int (zI x4)), (5, .int (zI x5)), (6, .int (zI v11)), (7, .int (zI v12)), (8, .int (zI v13))] 49 [] := by
    intro m_c49_1
    induction m_c49_1 with
    | zero => intro v11 v12 v13 hm_c49_1 fA2 fA3 fA4; exfalso; omega
    | succ m_c49_1 ih_c49_1 => 
      intro v11 v12 v13 hm_c49_1 fA2 fA3 fA4
      refine j_iload hx 7 dX11_film_49 rfl ?_
      refine j_iload_n hx 1 dX11_film_51 rfl ?_
      refine j_icmp_gt hx 111 dX11_film_52 rfl (by omega) (by omega) (fun h14 => ?_) (fun h14 => ?_)
      · skip
        refine j_iload hx 4 dX11_film_111 rfl ?_
        refine j_if_ne hx 119 dX11_film_113 rfl (by omega) (fun h15 => ?_) (fun h15 => ?_)
        · skip
          refine j_iload hx 4 dX11_film_119 rfl ?_
          refine j_iconst hx dX11_film_121 ?_
          refine j_icmp_ne hx 130 dX11_film_122 rfl (by omega) ⟨by decide, by decide⟩ (fun h16 => ?_) (fun h16 => ?_)
          · skip
            refine j_iload_n hx 1 dX11_film_130 rfl ?_
            refine j_iload_n hx 0 dX11_film_131 rfl ?_
            refine j_isub hx (r := x2 - x1) dX11_film_132 rfl ?_
            refine j_iconst hx dX11_film_133 ?_
            refine j_iadd hx (r := x2 - x1 + 1) dX11_film_134 (by omega) ?_
            refine j_iload hx 3 dX11_film_135 rfl ?_
            refine j_iload_n hx 2 dX11_film_137 rfl ?_
            refine j_isub hx (r := x4 - x3) dX11_film_138 rfl ?_
            refine j_iconst hx dX11_film_139 ?_
            refine j_iadd hx (r := x4 - x3 + 1) dX11_film_140 (by omega) ?_
            refine j_imul hx (r := ((x2 - x1 + 1) * (x4 - x3 + 1))) dX11_film_141 rfl ?_
            have f17 : 0 ≤ ((x2 - x1 + 1) * (x4 - x3 + 1)) ∧ ((x2 - x1 + 1) * (x4 - x3 + 1)) ≤ 100 * 100 := zmulnn (by omega) (by omega)
            exact j_iret hx hq.r rfl (by decide) (by decide) dX11_film_142 ⟨((x2 - x1 + 1) * (x4 - x3 + 1)), rfl, rfl, rfl, (by omega)⟩
          · skip
            refine j_iload hx 6 dX11_film_125 rfl ?_
            refine j_goto hx 142 dX11_film_127 rfl ?_
            exact j_iret hx hq.r rfl (by decide) (by decide) dX11_film_142 ⟨v12, rfl, rfl, rfl, (by omega)⟩
        · skip
          refine j_iload hx 5 dX11_film_116 rfl ?_
          exact j_iret hx hq.r rfl (by decide) (by decide) dX11_film_118 ⟨v11, rfl, rfl, rfl, (by omega)⟩
      · skip
        refine j_iload_n hx 2 dX11_film_55 rfl ?_
        refine j_istore hx [(9, .int (zI x3)), (1, .int (zI x1)), (2, .int (zI x2)), (3, .int (zI x3)), (4, .int (zI x4)), (5, .int (zI x5)), (6, .int (zI v11)), (7, .int (zI v12)), (8, .int (zI v13))] dX11_film_56 (by decide) rfl ?_
        have c58_5 : ∀ (m_c58_5 : Nat) (v18 : Int) (v19 : Int) (v20 : Int), 2147483648 - v20 < m_c58_5 → ((-2147483648) ≤ v18 ∧ v18 ≤ 2147483647) → ((-2147483648) ≤ v19 ∧ v19 ≤ 2147483647) → ((-2147483648) ≤ v20 ∧ v20 ≤ 2147483647) → JJ X E 10 G s0 5 30 [(1, .int (zI x1)), (2, .int (zI x2)), (3, .int (zI x3)), (4, .int (zI x4)), (5, .int (zI x5)), (6, .int (zI v18)), (7, .int (zI v19)), (8, .int (zI v13)), (9, .int (zI v20))] 58 [] := by
          intro m_c58_5
          induction m_c58_5 with
          | zero => intro v18 v19 v20 hm_c58_5 fA6 fA7 fA8; exfalso; omega
          | succ m_c58_5 ih_c58_5 => 
            intro v18 v19 v20 hm_c58_5 fA6 fA7 fA8
            refine j_iload hx 8 dX11_film_58 rfl ?_
            refine j_iload hx 3 dX11_film_60 rfl ?_
            refine j_icmp_gt hx 105 dX11_film_62 rfl (by omega) (by omega) (fun h21 => ?_) (fun h21 => ?_)
            · skip
              refine j_iinc hx 7 [(8, .int (zI (v13 + 1))), (1, .int (zI x1)), (2, .int (zI x2)), (3, .int (zI x3)), (4, .int (zI x4)), (5, .int (zI x5)), (6, .int (zI v18)), (7, .int (zI v19)), (9, .int (zI v20))] dX11_film_105 rfl (by omega) (by decide) rfl ?_
              refine j_goto hx 49 dX11_film_108 rfl ?_
              exact j_sub [1, 2, 3, 4, 5, 6, 7, 0] [(1, .int (zI x1)), (2, .int (zI x2)), (3, .int (zI x3)), (4, .int (zI x4)), (5, .int (zI x5)), (6, .int (zI v18)), (7, .int (zI v19)), (8, .int (zI (v13 + 1)))] rfl (ih_c49_1 v18 v19 (v13 + 1) (by omega) (by omega) (by omega) (by omega))
            · skip
              refine j_iload hx 5 dX11_film_65 rfl ?_
              refine j_iload hx 7 dX11_film_67 rfl ?_
              refine j_iload hx 8 dX11_film_69 rfl ?_
              have c79_9 : ∀ (v22 : Int), (0 ≤ v22 ∧ v22 ≤ 1) → JJ X E 10 G s0 5 30 [(1, .int (zI x1)), (2, .int (zI x2)), (3, .int (zI x3)), (4, .int (zI x4)), (5, .int (zI x5)), (7, .int (zI v19)), (8, .int (zI v13)), (9, .int (zI v20))] 79 [.int (zI v22), .int (zI v18)] := by
                intro v22 fA10
                refine j_iadd hx (r := v18 + v22) dX11_film_79 rfl ?_
                refine j_norm (fun v23 f24 f25 f26 => ?_)
                refine j_istore hx [(6, .int (zI v23)), (1, .int (zI x1)), (2, .int (zI x2)), (3, .int (zI x3)), (4, .int (zI x4)), (5, .int (zI x5)), (7, .int (zI v19)), (8, .int (zI v13)), (9, .int (zI v20))] dX11_film_80 (by decide) rfl ?_
                refine j_iload hx 6 dX11_film_82 rfl ?_
                refine j_iload hx 7 dX11_film_84 rfl ?_
                refine j_iload hx 8 dX11_film_86 rfl ?_
                have c96_11 : ∀ (v27 : Int), (0 ≤ v27 ∧ v27 ≤ 1) → JJ X E 10 G s0 5 30 [(1, .int (zI x1)), (2, .int (zI x2)), (3, .int (zI x3)), (4, .int (zI x4)), (5, .int (zI x5)), (6, .int (zI v23)), (8, .int (zI v13)), (9, .int (zI v20))] 96 [.int (zI v27), .int (zI v19)] := by
                  intro v27 fA12
                  refine j_iadd hx (r := v19 + v27) dX11_film_96 rfl ?_
                  refine j_norm (fun v28 f29 f30 f31 => ?_)
                  refine j_istore hx [(7, .int (zI v28)), (1, .int (zI x1)), (2, .int (zI x2)), (3, .int (zI x3)), (4, .int (zI x4)), (5, .int (zI x5)), (6, .int (zI v23)), (8, .int (zI v13)), (9, .int (zI v20))] dX11_film_97 (by decide) rfl ?_
                  refine j_iinc hx 8 [(9, .int (zI (v20 + 1))), (7, .int (zI v28)), (1, .int (zI x1)), (2, .int (zI x2)), (3, .int (zI x3)), (4, .int (zI x4)), (5, .int (zI x5)), (6, .int (zI v23)), (8, .int (zI v13))] dX11_film_99 rfl (by omega) (by decide) rfl ?_
                  refine j_goto hx 58 dX11_film_102 rfl ?_
                  exact j_sub [2, 3, 4, 5, 6, 7, 1, 8, 0] [(1, .int (zI x1)), (2, .int (zI x2)), (3, .int (zI x3)), (4, .int (zI x4)), (5, .int (zI x5)), (6, .int (zI v23)), (7, .int (zI v28)), (8, .int (zI v13)), (9, .int (zI (v20 + 1)))] rfl (ih_c58_5 v23 v28 (v20 + 1) (by omega) (by omega) (by omega) (by omega))
                refine j_icmp_ne hx 95 dX11_film_88 rfl (by omega) (by omega) (fun h32 => ?_) (fun h32 => ?_)
                · skip
                  refine j_iconst hx dX11_film_95 ?_
                  exact j_sub [1, 2, 3, 4, 5, 0, 7, 8] [(1, .int (zI x1)), (2, .int (zI x2)), (3, .int (zI x3)), (4, .int (zI x4)), (5, .int (zI x5)), (6, .int (zI v23)), (8, .int (zI v13)), (9, .int (zI v20))] rfl (c96_11 0 (by omega))
                · skip
                  refine j_iconst hx dX11_film_91 ?_
                  refine j_goto hx 96 dX11_film_92 rfl ?_
                  exact j_sub [1, 2, 3, 4, 5, 0, 7, 8] [(1, .int (zI x1)), (2, .int (zI x2)), (3, .int (zI x3)), (4, .int (zI x4)), (5, .int (zI x5)), (6, .int (zI v23)), (8, .int (zI v13)), (9, .int (zI v20))] rfl (c96_11 1 (by omega))
              refine j_icmp_ge hx 78 dX11_film_71 rfl (by omega) (by omega) (fun h33 => ?_) (fun h33 => ?_)
              · skip
                refine j_iconst hx dX11_film_78 ?_
                exact j_sub [0, 1, 2, 3, 4, 6, 7, 8] [(1, .int (zI x1)), (2, .int (zI x2)), (3, .int (zI x3)), (4, .int (zI x4)), (5, .int (zI x5)), (7, .int (zI v19)), (8, .int (zI v13)), (9, .int (zI v20))] rfl (c79_9 0 (by omega))
              · skip
                refine j_iconst hx dX11_film_74 ?_
                refine j_goto hx 79 dX11_film_75 rfl ?_
                exact j_sub [0, 1, 2, 3, 4, 6, 7, 8] [(1, .int (zI x1)), (2, .int (zI x2)), (3, .int (zI x3)), (4, .int (zI x4)), (5, .int (zI x5)), (7, .int (zI v19)), (8, .int (zI v13)), (9, .int (zI v20))] rfl (c79_9 1 (by omega))
        exact j_sub [1, 2, 3, 4, 5, 6, 7, 8, 0] [(1, .int (zI x1)), (2, .int (zI x2)), (3, .int (zI x3)), (4, .int (zI x4)), (5, .int (zI x5)), (6, .int (zI v11)), (7, .int (zI v12)), (8, .int (zI v13)), (9, .int (zI x3))] rfl (c58_5 (2147483648 * 4) v11 v12 x3 (by omega) (by omega) (by omega) (by omega))
  exact j_sub [4, 5, 6, 7, 8, 2, 1, 0] [(1, .int (zI x1)), (2, .int (zI x2)), (3, .int (zI x3)), (4, .int (zI x4)), (5, .int (zI x5)), (6, .int (zI 0)), (7, .int (zI 0)), (8, .int (zI x1))] rfl (c49_1 (2147483648 * 4) 0 0 x1 (by omega) (by omega) (by omega) (by omega))

set_option maxHeartbeats 4000000 in
set_option maxRecDepth 20000 in
theorem c_X11_laws {E : zE} {l : Launch} (hst : l.stackTraces = false) (a : Nat) (x1 : Int) (x2 : Int) : ConX E l yX11_laws cX11_laws 3 (some .int) { frames := 7, cells := 2, slots := 12, locals := 166 } (fun G s vs => vs = [.ref a, .int (zI x1), .int (zI x2)] ∧ zGK G ∧ zSK G s ∧ (gT G a = 12) ∧ ((-2147483648) ≤ x1 ∧ x1 ≤ 2147483647) ∧ ((-2147483648) ≤ x2 ∧ x2 ≤ 2147483647)) (fun G s _ => pI (fun r G2 s2 => G2 = G ∧ zSK G s2 ∧ zFr [1, 3, 4, 7, 41, 44, 49, 50, 51, 52, 53, 54, 55] G s s2 ∧ ((-2147483648) ≤ r ∧ r ≤ 2147483647))) (fun G s _ Ex G2 s2 => G2 = G ∧ zSK G s2 ∧ zFr [1, 3, 4, 7, 12, 41, 44, 49, 50, 51, 52, 53, 54, 55] G s s2 ∧ ((Ex = "java/lang/IllegalArgumentException" ∧ (True)))) := by
  refine ConX.mk hst (by decide) (fun G s vs h => by rw [h.1]; exact Nat.le_of_ble_eq_true rfl) ?_
  rintro X G s0 vs ⟨rfl, hG, hS0, ha, hx1, hx2⟩ rfl hx hq
  show JJ X E 3 G s0 0 0 [(0, .ref a), (1, .int (zI x1)), (2, .int (zI x2))] 0 []
  refine j_aload_n hx 0 dX11_laws_0 rfl ?_
  refine j_iload_n hx 1 dX11_laws_1 rfl ?_
  refine j_iconst hx dX11_laws_2 ?_
  refine j_bipush hx dX11_laws_3 rfl ?_
  refine j_callVX hx hq hG (c_X11_needRange hst a x1 0 8) lk_RX11_98 ha (by decide) rfl rfl rfl rfl [.int (zI x1), .int (zI 0), .int (zI 8)] ⟨rfl, hG, hS0, ha, (by omega), (by omega), (by omega)⟩ rfl rfl ⟨by decide, by decide⟩ ⟨by decide, by decide⟩ (k2 := 1) (n2 := 6) rfl rfl (Nat.le_of_ble_eq_true rfl) ⟨by decide, by decide⟩ dX11_laws_5 (by rintro Ex9 G9 s9 ⟨rfl, hS9, hF9, e9, c9⟩; exact ⟨rfl, hS9, (zFr_t zFr_rf hF9 (by decide)), ⟨e9, by first | trivial | omega⟩⟩) (kVP (fun q2 => ?_))
  refine j_aload_n hx 0 dX11_laws_8 rfl ?_
  refine j_iload_n hx 2 dX11_laws_9 rfl ?_
  refine j_iconst hx dX11_laws_10 ?_
  refine j_iconst hx dX11_laws_11 ?_
  refine j_callVX hx hq hG (c_X11_needRange hst a x2 0 1) lk_RX11_98 ha (by decide) rfl rfl rfl rfl [.int (zI x2), .int (zI 0), .int (zI 1)] ⟨rfl, hG, hS0, ha, (by omega), (by omega), (by omega)⟩ rfl rfl ⟨by decide, by decide⟩ ⟨by decide, by decide⟩ (k2 := 2) (n2 := 12) rfl rfl (Nat.le_of_ble_eq_true rfl) ⟨by decide, by decide⟩ dX11_laws_12 (by rintro Ex9 G9 s9 ⟨rfl, hS9, hF9, e9, c9⟩; exact ⟨rfl, hS9, (zFr_t zFr_rf hF9 (by decide)), ⟨e9, by first | trivial | omega⟩⟩) (kVP (fun q4 => ?_))
  refine j_aload_n hx 0 dX11_laws_15 rfl ?_
  refine g12_7 hx hG ha kf_RX11_55 dX11_laws_16 ?_
  refine j_aload_n hx 0 dX11_laws_19 rfl ?_
  refine g12_6 hx hG ha kf_RX11_48 dX11_laws_20 ?_
  refine j_callV hx hG (c_X2_begin hst (gP G a 7) (gP G a 6)) lk_RX11_237 (zr (k := 7) (t2 := 3) hG ha rfl) (by decide) rfl rfl rfl rfl [.ref (gP G a 6)] ⟨rfl, hG, hS0, (zr (k := 7) (t2 := 3) hG ha rfl), (zr (k := 6) (t2 := 4) hG ha rfl)⟩ rfl rfl ⟨by decide, by decide⟩ ⟨by decide, by decide⟩ (k2 := 2) (n2 := 12) rfl rfl (Nat.le_of_ble_eq_true rfl) dX11_laws_23 (kVM (fun s1 hS_s1 hF_s1 q6 => ?_))
  refine j_aload_n hx 0 dX11_laws_26 rfl ?_
  refine g12_7 hx hG ha kf_RX11_55 dX11_laws_27 ?_
  refine gN3_0 hx hG (zr (k := 7) (t2 := 3) hG ha rfl) kf_RX11_307 dX11_laws_30 ?_
  refine j_iconst hx dX11_laws_33 ?_
  refine j_iload_n hx 1 dX11_laws_34 rfl ?_
  refine j_iconst hx dX11_laws_35 ?_
  refine j_idiv hx dX11_laws_36 (by omega) ⟨by decide, by decide⟩ (by decide) (fun v7 f8 f9 f10 => ?_)
  refine j_callV hx hG (c_X3_setLaw hst (gP G (gP G a 7) 0) 0 v7) lk_RX11_213 (zr (k := 0) (t2 := 4) hG (zr (k := 7) (t2 := 3) hG ha rfl) rfl) (by decide) rfl rfl rfl rfl [.int (zI 0), .int (zI v7)] ⟨rfl, hG, hS_s1, (zr (k := 0) (t2 := 4) hG (zr (k := 7) (t2 := 3) hG ha rfl) rfl), (by omega), (by omega)⟩ rfl rfl ⟨by decide, by decide⟩ ⟨by decide, by decide⟩ (k2 := 2) (n2 := 12) rfl rfl (Nat.le_of_ble_eq_true rfl) dX11_laws_37 (kVM (fun s2 hS_s2 hF_s2 q14 => ?_))
  refine j_aload_n hx 0 dX11_laws_40 rfl ?_
  refine g12_7 hx hG ha kf_RX11_55 dX11_laws_41 ?_
  refine gN3_0 hx hG (zr (k := 7) (t2 := 3) hG ha rfl) kf_RX11_307 dX11_laws_44 ?_
  refine j_iconst hx dX11_laws_47 ?_
  refine j_iload_n hx 1 dX11_laws_48 rfl ?_
  refine j_iconst hx dX11_laws_49 ?_
  refine j_irem hx dX11_laws_50 (by omega) ⟨by decide, by decide⟩ (by decide) (fun v15 f16 f17 f18 f19 => ?_)
  refine j_callV hx hG (c_X3_setLaw hst (gP G (gP G a 7) 0) 1 v15) lk_RX11_213 (zr (k := 0) (t2 := 4) hG (zr (k := 7) (t2 := 3) hG ha rfl) rfl) (by decide) rfl rfl rfl rfl [.int (zI 1), .int (zI v15)] ⟨rfl, hG, hS_s2, (zr (k := 0) (t2 := 4) hG (zr (k := 7) (t2 := 3) hG ha rfl) rfl), (by omega), (by omega)⟩ rfl rfl ⟨by decide, by decide⟩ ⟨by decide, by decide⟩ (k2 := 2) (n2 := 12) rfl rfl (Nat.le_of_ble_eq_true rfl) dX11_laws_51 (kVM (fun s3 hS_s3 hF_s3 q22 => ?_))
  refine j_aload_n hx 0 dX11_laws_54 rfl ?_
  refine g12_7 hx hG ha kf_RX11_55 dX11_laws_55 ?_
  refine j_callV hx hG (c_X2_run hst (gP G a 7)) lk_RX11_240 (zr (k := 7) (t2 := 3) hG ha rfl) (by decide) rfl rfl rfl rfl [] ⟨rfl, hG, hS_s3, (zr (k := 7) (t2 := 3) hG ha rfl)⟩ rfl rfl ⟨by decide, by decide⟩ ⟨by decide, by decide⟩ (k2 := 2) (n2 := 12) rfl rfl (Nat.le_of_ble_eq_true rfl) dX11_laws_58 (kVM (fun s4 hS_s4 hF_s4 q24 => ?_))
  refine j_iload_n hx 2 dX11_laws_61 rfl ?_
  refine j_if_ne hx 75 dX11_laws_62 rfl (by omega) (fun h25 => ?_) (fun h25 => ?_)
  · skip
    refine j_aload_n hx 0 dX11_laws_75 rfl ?_
    refine g12_7 hx hG ha kf_RX11_55 dX11_laws_76 ?_
    have f26 := zf hS_s4 (zr (k := 7) (t2 := 3) hG ha rfl) (k := 5) rfl
    refine gN3_5 hx hG (zr (k := 7) (t2 := 3) hG ha rfl) kf_RX11_246 rfl dX11_laws_79 ?_
    exact j_iret hx hq.r rfl (by decide) (by decide) dX11_laws_82 ⟨(s4 (gP G a 7) 5), rfl, rfl, hS_s4, (zFr_t (zFr_t (zFr_t (zFr_t zFr_rf hF_s1 (by decide)) hF_s2 (by decide)) hF_s3 (by decide)) hF_s4 (by decide)), (by omega)⟩
  · skip
    refine j_aload_n hx 0 dX11_laws_65 rfl ?_
    refine g12_7 hx hG ha kf_RX11_55 dX11_laws_66 ?_
    have f27 := zf hS_s4 (zr (k := 7) (t2 := 3) hG ha rfl) (k := 4) rfl
    refine gN3_4 hx hG (zr (k := 7) (t2 := 3) hG ha rfl) kf_RX11_243 rfl dX11_laws_69 ?_
    refine j_goto hx 82 dX11_laws_72 rfl ?_
    exact j_iret hx hq.r rfl (by decide) (by decide) dX11_laws_82 ⟨(s4 (gP G a 7) 4), rfl, rfl, hS_s4, (zFr_t (zFr_t (zFr_t (zFr_t zFr_rf hF_s1 (by decide)) hF_s2 (by decide)) hF_s3 (by decide)) hF_s4 (by decide)), (by omega)⟩

set_option maxHeartbeats 4000000 in
set_option maxRecDepth 20000 in
theorem c_X4_winnerOf {E : zE} {l : Launch} (hst : l.stackTraces = false) (a : Nat) (x1 : Int) : Con E l yX4_winnerOf cX4_winnerOf 3 (some .int) { frames := 0, cells := 0, slots := 0, locals := 0 } (fun G s vs => vs = [.ref a, .int (zI x1)] ∧ zGK G ∧ zSK G s ∧ (gT G a = 5) ∧ ((-2147483648) ≤ x1 ∧ x1 ≤ 2147483647)) (fun G s _ => pI (fun r G2 s2 => G2 = G ∧ s2 = s ∧ ((-2147483648) ≤ r ∧ r ≤ 2147483647))) := by
  refine Con.mk hst (by decide) (fun G s vs h => by rw [h.1]; exact Nat.le_of_ble_eq_true rfl) ?_
  rintro X G s0 vs ⟨rfl, hG, hS0, ha, hx1⟩ rfl hx hq
  show JJ X E 3 G s0 0 0 [(0, .ref a), (1, .int (zI x1))] 0 []
  refine j_iload_n hx 1 dX4_winnerOf_0 rfl ?_
  refine j_bipush hx dX4_winnerOf_1 rfl ?_
  refine j_idiv hx dX4_winnerOf_3 (by omega) ⟨by decide, by decide⟩ (by decide) (fun v1 f2 f3 f4 => ?_)
  refine j_istore_n hx [(2, .int (zI v1)), (0, .ref a), (1, .int (zI x1))] dX4_winnerOf_4 (by decide) rfl ?_
  refine j_iload_n hx 2 dX4_winnerOf_5 rfl ?_
  refine j_if_lt hx 25 dX4_winnerOf_6 rfl (by omega) (fun h7 => ?_) (fun h7 => ?_)
  · skip
    refine j_iconst hx dX4_winnerOf_25 ?_
    exact j_iret hx hq rfl (by decide) (by decide) dX4_winnerOf_26 ⟨(-1), rfl, rfl, rfl, (by omega)⟩
  · skip
    refine j_iload_n hx 2 dX4_winnerOf_9 rfl ?_
    refine j_sipush hx dX4_winnerOf_10 rfl ?_
    refine j_icmp_ge hx 25 dX4_winnerOf_13 rfl (by omega) ⟨by decide, by decide⟩ (fun h8 => ?_) (fun h8 => ?_)
    · skip
      refine j_iconst hx dX4_winnerOf_25 ?_
      exact j_iret hx hq rfl (by decide) (by decide) dX4_winnerOf_26 ⟨(-1), rfl, rfl, rfl, (by omega)⟩
    · skip
      refine j_iload_n hx 0 dX4_winnerOf_16 rfl ?_
      refine j_aload_n hx 1 dX4_winnerOf_17 rfl ?_
      refine g5_0 hx hG ha kf_RX4_11 dX4_winnerOf_18 ?_
      refine j_alen hx hG (zr (k := 0) (t2 := 57) hG ha rfl) (by decide) (by decide) (zlen hG (zr (k := 0) (t2 := 57) hG ha rfl) (n := 323) rfl rfl) dX4_winnerOf_21 ?_
      refine j_icmp_lt hx 27 dX4_winnerOf_22 rfl (by omega) ⟨by decide, by decide⟩ (fun h9 => ?_) (fun h9 => ?_)
      · skip
        refine j_aload_n hx 1 dX4_winnerOf_27 rfl ?_
        refine g5_0 hx hG ha kf_RX4_11 dX4_winnerOf_28 ?_
        refine j_iload_n hx 0 dX4_winnerOf_31 rfl ?_
        have f10 := zaI (j := (v1).toNat) hS0 (zr (k := 0) (t2 := 57) hG ha rfl) rfl (zlen hG (zr (k := 0) (t2 := 57) hG ha rfl) (n := 323) rfl rfl) (show 0 ≤ v1 by omega) (by omega) rfl
        refine j_lald hx hG (zr (k := 0) (t2 := 57) hG ha rfl) (by decide) rfl (zlen hG (zr (k := 0) (t2 := 57) hG ha rfl) (n := 323) rfl rfl) (by omega) (by omega) (j := (v1).toNat) rfl rfl dX4_winnerOf_32 ?_
        refine j_iconst hx dX4_winnerOf_33 ?_
        refine j_iload_n hx 2 dX4_winnerOf_34 rfl ?_
        refine j_bipush hx dX4_winnerOf_35 rfl ?_
        refine j_irem hx dX4_winnerOf_37 (by omega) ⟨by decide, by decide⟩ (by decide) (fun v11 f12 f13 f14 f15 => ?_)
        refine j_imul hx (r := 2 * v11) dX4_winnerOf_38 rfl ?_
        refine j_lushr hx dX4_winnerOf_39 (fun w17 f18 f19 => ?_)
        refine j_ldc2 hx (c := 3) dX4_winnerOf_40 kk_RX4_34 (by decide) ?_
        refine j_land hx dX4_winnerOf_43 (fun w20 f21 f22 => ?_)
        refine j_l2i hx dX4_winnerOf_44 (by omega) (fun v23 f24 f25 f26 => ?_)
        refine j_iconst hx dX4_winnerOf_45 ?_
        refine j_isub hx (r := v23 - 1) dX4_winnerOf_46 rfl ?_
        refine j_norm (fun v27 f28 f29 f30 => ?_)
        exact j_iret hx hq rfl (by decide) (by decide) dX4_winnerOf_47 ⟨v27, rfl, rfl, rfl, (by omega)⟩
      · skip
        refine j_iconst hx dX4_winnerOf_25 ?_
        exact j_iret hx hq rfl (by decide) (by decide) dX4_winnerOf_26 ⟨(-1), rfl, rfl, rfl, (by omega)⟩

theorem lk_RX11_313 : LkV RX11 313 RX1 yX1_turnAt cX1_turnAt 2 (some .int) 1 := ⟨km_RX11_313, ki_yX1_turnAt, ks_RX1_yX1_turnAt, kn_RX1, kc_yX1_turnAt, rfl, by decide +kernel, by decide +kernel, by decide +kernel⟩
theorem lk_RX11_316 : LkV RX11 316 RX4 yX4_winnerOf cX4_winnerOf 3 (some .int) 1 := ⟨km_RX11_316, ki_yX4_winnerOf, ks_RX4_yX4_winnerOf, kn_RX4, kc_yX4_winnerOf, rfl, by decide +kernel, by decide +kernel, by decide +kernel⟩
theorem lk_RX11_319 : LkV RX11 319 RX1 yX1_playerAt cX1_playerAt 2 (some .int) 1 := ⟨km_RX11_319, ki_yX1_playerAt, ks_RX1_yX1_playerAt, kn_RX1, kc_yX1_playerAt, rfl, by decide +kernel, by decide +kernel, by decide +kernel⟩
set_option maxHeartbeats 4000000 in
set_option maxRecDepth 20000 in
theorem c_X11_right {E : zE} {l : Launch} (hst : l.stackTraces = false) (a : Nat) : Con E l yX11_right cX11_right 3 (some .int) { frames := 1, cells := 0, slots := 0, locals := 22 } (fun G s vs => vs = [.ref a] ∧ zGK G ∧ zSK G s ∧ (gT G a = 12)) (fun G s _ => pI (fun r G2 s2 => G2 = G ∧ s2 = s ∧ ((-2147483648) ≤ r ∧ r ≤ 2147483647))) := by
  refine Con.mk hst (by decide) (fun G s vs h => by rw [h.1]; exact Nat.le_of_ble_eq_true rfl) ?_
  rintro X G s0 vs ⟨rfl, hG, hS0, ha⟩ rfl hx hq
  show JJ X E 3 G s0 0 0 [(0, .ref a)] 0 []
  refine j_iconst hx dX11_right_0 ?_
  refine j_istore_n hx [(1, .int (zI 0)), (0, .ref a)] dX11_right_1 (by decide) rfl ?_
  have c2_1 : ∀ (m_c2_1 : Nat) (v1 : Int), 2147483648 - v1 < m_c2_1 → (0 ≤ v1 ∧ v1 ≤ 2147483647) → JJ X E 3 G s0 0 0 [(0, .ref a), (1, .int (zI v1))] 2 [] := by
    intro m_c2_1
    induction m_c2_1 with
    | zero => intro v1 hm_c2_1 fA2; exfalso; omega
    | succ m_c2_1 ih_c2_1 => 
      intro v1 hm_c2_1 fA2
      refine j_iload_n hx 1 dX11_right_2 rfl ?_
      refine j_aload_n hx 0 dX11_right_3 rfl ?_
      refine g12_4 hx hG ha kf_RX11_36 dX11_right_4 ?_
      have f2 := zf hS0 (zr (k := 4) (t2 := 2) hG ha rfl) (k := 2) rfl
      refine gN2_2 hx hG (zr (k := 4) (t2 := 2) hG ha rfl) kf_RX11_118 rfl dX11_right_7 ?_
      refine j_icmp_ge hx 60 dX11_right_10 rfl (by omega) (by omega) (fun h3 => ?_) (fun h3 => ?_)
      · skip
        refine j_aload_n hx 0 dX11_right_60 rfl ?_
        refine g12_4 hx hG ha kf_RX11_36 dX11_right_61 ?_
        refine gN2_2 hx hG (zr (k := 4) (t2 := 2) hG ha rfl) kf_RX11_118 rfl dX11_right_64 ?_
        exact j_iret hx hq rfl (by decide) (by decide) dX11_right_67 ⟨(s0 (gP G a 4) 2), rfl, rfl, rfl, (by omega)⟩
      · skip
        refine j_aload_n hx 0 dX11_right_13 rfl ?_
        refine g12_4 hx hG ha kf_RX11_36 dX11_right_14 ?_
        refine j_iload_n hx 1 dX11_right_17 rfl ?_
        refine j_callV hx hG (c_X1_turnAt hst (gP G a 4) v1) lk_RX11_313 (zr (k := 4) (t2 := 2) hG ha rfl) (by decide) rfl rfl rfl rfl [.int (zI v1)] ⟨rfl, hG, hS0, (zr (k := 4) (t2 := 2) hG ha rfl), (by omega)⟩ rfl rfl ⟨by decide, by decide⟩ ⟨by decide, by decide⟩ (k2 := 0) (n2 := 0) rfl rfl (Nat.le_of_ble_eq_true rfl) dX11_right_18 (kIP (fun v4 q5 => ?_))
        refine j_istore_n hx [(2, .int (zI v4)), (0, .ref a), (1, .int (zI v1))] dX11_right_21 (by decide) rfl ?_
        refine j_iload_n hx 0 dX11_right_22 rfl ?_
        refine j_aload_n hx 1 dX11_right_23 rfl ?_
        refine g12_6 hx hG ha kf_RX11_48 dX11_right_24 ?_
        have f6 := zf hS0 (zr (k := 6) (t2 := 4) hG ha rfl) (k := 10) rfl
        refine gN4_10 hx hG (zr (k := 6) (t2 := 4) hG ha rfl) kf_RX11_165 rfl dX11_right_27 ?_
        refine j_icmp_ge hx 52 dX11_right_30 rfl (by omega) (by omega) (fun h7 => ?_) (fun h7 => ?_)
        · skip
          refine j_iload_n hx 2 dX11_right_52 rfl ?_
          exact j_iret hx hq rfl (by decide) (by decide) dX11_right_53 ⟨v1, rfl, rfl, rfl, (by omega)⟩
        · skip
          refine j_aload_n hx 1 dX11_right_33 rfl ?_
          refine g12_9 hx hG ha kf_RX11_69 dX11_right_34 ?_
          refine j_iload_n hx 0 dX11_right_37 rfl ?_
          refine j_callV hx hG (c_X4_winnerOf hst (gP G a 9) v4) lk_RX11_316 (zr (k := 9) (t2 := 5) hG ha rfl) (by decide) rfl rfl rfl rfl [.int (zI v4)] ⟨rfl, hG, hS0, (zr (k := 9) (t2 := 5) hG ha rfl), (by omega)⟩ rfl rfl ⟨by decide, by decide⟩ ⟨by decide, by decide⟩ (k2 := 0) (n2 := 0) rfl rfl (Nat.le_of_ble_eq_true rfl) dX11_right_38 (kIP (fun v8 q9 => ?_))
          refine j_aload_n hx 1 dX11_right_41 rfl ?_
          refine g12_4 hx hG ha kf_RX11_36 dX11_right_42 ?_
          refine j_iload_n hx 2 dX11_right_45 rfl ?_
          refine j_callV hx hG (c_X1_playerAt hst (gP G a 4) v1) lk_RX11_319 (zr (k := 4) (t2 := 2) hG ha rfl) (by decide) rfl rfl rfl rfl [.int (zI v1)] ⟨rfl, hG, hS0, (zr (k := 4) (t2 := 2) hG ha rfl), (by omega)⟩ rfl rfl ⟨by decide, by decide⟩ ⟨by decide, by decide⟩ (k2 := 0) (n2 := 0) rfl rfl (Nat.le_of_ble_eq_true rfl) dX11_right_46 (kIP (fun v10 q11 => ?_))
          refine j_icmp_eq hx 54 dX11_right_49 rfl (by omega) (by omega) (fun h12 => ?_) (fun h12 => ?_)
          · skip
            refine j_iinc hx 2 [(1, .int (zI (v1 + 1))), (2, .int (zI v4)), (0, .ref a)] dX11_right_54 rfl (by omega) (by decide) rfl ?_
            refine j_goto hx 2 dX11_right_57 rfl ?_
            exact j_sub [2, 0] [(0, .ref a), (1, .int (zI (v1 + 1)))] rfl (ih_c2_1 (v1 + 1) (by omega) (by omega))
          · skip
            refine j_iload_n hx 2 dX11_right_52 rfl ?_
            exact j_iret hx hq rfl (by decide) (by decide) dX11_right_53 ⟨v1, rfl, rfl, rfl, (by omega)⟩
  exact j_sub [1, 0] [(0, .ref a), (1, .int (zI 0))] rfl (c2_1 (2147483648 * 4) 0 (by omega) (by omega))

set_option maxHeartbeats 4000000 in
set_option maxRecDepth 20000 in
theorem c_X11_entry {E : zE} {l : Launch} (hst : l.stackTraces = false) (a : Nat) (x1 : Int) (x2 : Int) : ConX E l yX11_entry cX11_entry 3 (some .int) { frames := 7, cells := 1, slots := 6, locals := 113 } (fun G s vs => vs = [.ref a, .int (zI x1), .int (zI x2)] ∧ zGK G ∧ zSK G s ∧ (gT G a = 12) ∧ ((-2147483648) ≤ x1 ∧ x1 ≤ 2147483647) ∧ ((-2147483648) ≤ x2 ∧ x2 ≤ 2147483647)) (fun G s _ => pI (fun r G2 s2 => G2 = G ∧ s2 = s ∧ ((-2147483648) ≤ r ∧ r ≤ 2147483647))) (fun G s _ Ex G2 s2 => G2 = G ∧ zSK G s2 ∧ zFr [12] G s s2 ∧ ((Ex = "java/lang/IllegalArgumentException" ∧ (True)))) := by
  refine ConX.mk hst (by decide) (fun G s vs h => by rw [h.1]; exact Nat.le_of_ble_eq_true rfl) ?_
  rintro X G s0 vs ⟨rfl, hG, hS0, ha, hx1, hx2⟩ rfl hx hq
  show JJ X E 3 G s0 0 0 [(0, .ref a), (1, .int (zI x1)), (2, .int (zI x2))] 0 []
  refine j_aload_n hx 0 dX11_entry_0 rfl ?_
  refine j_iload_n hx 2 dX11_entry_1 rfl ?_
  refine j_iconst hx dX11_entry_2 ?_
  refine j_iconst hx dX11_entry_3 ?_
  refine j_callVX hx hq hG (c_X11_needRange hst a x2 0 1) lk_RX11_98 ha (by decide) rfl rfl rfl rfl [.int (zI x2), .int (zI 0), .int (zI 1)] ⟨rfl, hG, hS0, ha, (by omega), (by omega), (by omega)⟩ rfl rfl ⟨by decide, by decide⟩ ⟨by decide, by decide⟩ (k2 := 1) (n2 := 6) rfl rfl (Nat.le_of_ble_eq_true rfl) ⟨by decide, by decide⟩ dX11_entry_4 (by rintro Ex9 G9 s9 ⟨rfl, hS9, hF9, e9, c9⟩; exact ⟨rfl, hS9, (zFr_t zFr_rf hF9 (by decide)), ⟨e9, by first | trivial | omega⟩⟩) (kVP (fun q2 => ?_))
  refine j_iload_n hx 2 dX11_entry_7 rfl ?_
  refine j_if_ne hx 22 dX11_entry_8 rfl (by omega) (fun h3 => ?_) (fun h3 => ?_)
  · skip
    refine j_aload_n hx 0 dX11_entry_22 rfl ?_
    refine g12_4 hx hG ha kf_RX11_36 dX11_entry_23 ?_
    refine j_iload_n hx 1 dX11_entry_26 rfl ?_
    refine j_callV hx hG (c_X1_playerAt hst (gP G a 4) x1) lk_RX11_319 (zr (k := 4) (t2 := 2) hG ha rfl) (by decide) rfl rfl rfl rfl [.int (zI x1)] ⟨rfl, hG, hS0, (zr (k := 4) (t2 := 2) hG ha rfl), (by omega)⟩ rfl rfl ⟨by decide, by decide⟩ ⟨by decide, by decide⟩ (k2 := 1) (n2 := 6) rfl rfl (Nat.le_of_ble_eq_true rfl) dX11_entry_27 (kIP (fun v4 q5 => ?_))
    exact j_iret hx hq.r rfl (by decide) (by decide) dX11_entry_30 ⟨v4, rfl, rfl, rfl, (by omega)⟩
  · skip
    refine j_aload_n hx 0 dX11_entry_11 rfl ?_
    refine g12_4 hx hG ha kf_RX11_36 dX11_entry_12 ?_
    refine j_iload_n hx 1 dX11_entry_15 rfl ?_
    refine j_callV hx hG (c_X1_turnAt hst (gP G a 4) x1) lk_RX11_313 (zr (k := 4) (t2 := 2) hG ha rfl) (by decide) rfl rfl rfl rfl [.int (zI x1)] ⟨rfl, hG, hS0, (zr (k := 4) (t2 := 2) hG ha rfl), (by omega)⟩ rfl rfl ⟨by decide, by decide⟩ ⟨by decide, by decide⟩ (k2 := 1) (n2 := 6) rfl rfl (Nat.le_of_ble_eq_true rfl) dX11_entry_16 (kIP (fun v6 q7 => ?_))
    refine j_goto hx 30 dX11_entry_19 rfl ?_
    exact j_iret hx hq.r rfl (by decide) (by decide) dX11_entry_30 ⟨v6, rfl, rfl, rfl, (by omega)⟩

set_option maxHeartbeats 4000000 in
set_option maxRecDepth 20000 in
theorem c_X11_imageOf {E : zE} {l : Launch} (hst : l.stackTraces = false) (a : Nat) (x1 : Int) : Con E l yX11_imageOf cX11_imageOf 2 (some (.object "SnapHeaps$Image")) { frames := 0, cells := 0, slots := 0, locals := 0 } (fun G s vs => vs = [.ref a, .int (zI x1)] ∧ zGK G ∧ zSK G s ∧ (gT G a = 12) ∧ ((-2147483648) ≤ x1 ∧ x1 ≤ 2147483647)) (fun G s _ => pR (fun r G2 s2 => G2 = G ∧ s2 = s ∧ gT G r = 6)) := by
  refine Con.mk hst (by decide) (fun G s vs h => by rw [h.1]; exact Nat.le_of_ble_eq_true rfl) ?_
  rintro X G s0 vs ⟨rfl, hG, hS0, ha, hx1⟩ rfl hx hq
  show JJ X E 2 G s0 0 0 [(0, .ref a), (1, .int (zI x1))] 0 []
  refine j_iload_n hx 1 dX11_imageOf_0 rfl ?_
  refine j_if_gt hx 9 dX11_imageOf_1 rfl (by omega) (fun h1 => ?_) (fun h1 => ?_)
  · skip
    refine j_iload_n hx 1 dX11_imageOf_9 rfl ?_
    refine j_iconst hx dX11_imageOf_10 ?_
    refine j_icmp_ne hx 21 dX11_imageOf_11 rfl (by omega) ⟨by decide, by decide⟩ (fun h2 => ?_) (fun h2 => ?_)
    · skip
      refine j_aload_n hx 0 dX11_imageOf_21 rfl ?_
      refine g12_12 hx hG ha kf_RX11_83 dX11_imageOf_22 ?_
      exact j_aret hx hq rfl (by decide) (by decide) dX11_imageOf_25 (Or.inr ⟨_, rfl⟩) ⟨_, rfl, rfl, rfl, (zr (k := 12) (t2 := 6) hG ha rfl)⟩
    · skip
      refine j_aload_n hx 0 dX11_imageOf_14 rfl ?_
      refine g12_11 hx hG ha kf_RX11_80 dX11_imageOf_15 ?_
      refine j_goto hx 25 dX11_imageOf_18 rfl ?_
      exact j_aret hx hq rfl (by decide) (by decide) dX11_imageOf_25 (Or.inr ⟨_, rfl⟩) ⟨_, rfl, rfl, rfl, (zr (k := 11) (t2 := 6) hG ha rfl)⟩
  · skip
    refine j_aload_n hx 0 dX11_imageOf_4 rfl ?_
    refine g12_10 hx hG ha kf_RX11_76 dX11_imageOf_5 ?_
    exact j_aret hx hq rfl (by decide) (by decide) dX11_imageOf_8 (Or.inr ⟨_, rfl⟩) ⟨_, rfl, rfl, rfl, (zr (k := 10) (t2 := 6) hG ha rfl)⟩

set_option maxHeartbeats 4000000 in
set_option maxRecDepth 20000 in
theorem c_X9_become {E : zE} {l : Launch} (hst : l.stackTraces = false) (a : Nat) (b1 : Nat) : Con E l yX9_become cX9_become 3 none { frames := 0, cells := 0, slots := 0, locals := 0 } (fun G s vs => vs = [.ref a, .ref b1] ∧ zGK G ∧ zSK G s ∧ (gT G a = 10) ∧ (gT G b1 = 10)) (fun G s _ => pV (fun G2 s2 => G2 = G ∧ zSK G s2 ∧ zFr [10, 45] G s s2 ∧ True)) := by
  refine Con.mk hst (by decide) (fun G s vs h => by rw [h.1]; exact Nat.le_of_ble_eq_true rfl) ?_
  rintro X G s0 vs ⟨rfl, hG, hS0, ha, hb1⟩ rfl hx hq
  show JJ X E 3 G s0 0 0 [(0, .ref a), (1, .ref b1)] 0 []
  refine j_iconst hx dX9_become_0 ?_
  refine j_istore_n hx [(2, .int (zI 0)), (0, .ref a), (1, .ref b1)] dX9_become_1 (by decide) rfl ?_
  have c2_1 : ∀ (m_c2_1 : Nat) (v1 : Int) (s2 : zS), 2147483648 - v1 < m_c2_1 → (0 ≤ v1 ∧ v1 ≤ 600) → (zSK G s2) → (zFr [45] G s0 s2) → JJ X E 3 G s2 0 0 [(0, .ref a), (1, .ref b1), (2, .int (zI v1))] 2 [] := by
    intro m_c2_1
    induction m_c2_1 with
    | zero => intro v1 s2 hm_c2_1 fA3 hS_s2 hF_s2; exfalso; omega
    | succ m_c2_1 ih_c2_1 => 
      intro v1 s2 hm_c2_1 fA3 hS_s2 hF_s2
      refine j_iload_n hx 2 dX9_become_2 rfl ?_
      refine j_aload_n hx 0 dX9_become_3 rfl ?_
      refine g10_0 hx hG ha kf_RX9_11 dX9_become_4 ?_
      refine j_alen hx hG (zr (k := 0) (t2 := 45) hG ha rfl) (by decide) (by decide) (zlen hG (zr (k := 0) (t2 := 45) hG ha rfl) (n := 600) rfl rfl) dX9_become_7 ?_
      refine j_icmp_ge hx 38 dX9_become_8 rfl (by omega) ⟨by decide, by decide⟩ (fun h2 => ?_) (fun h2 => ?_)
      · skip
        refine j_aload_n hx 0 dX9_become_38 rfl ?_
        refine j_aload_n hx 1 dX9_become_39 rfl ?_
        have f3 := zf hS0 hb1 (k := 1) rfl
        refine g10_1 hx hG hb1 kf_RX9_19 (v := (s0 b1 1)) (by rw [(zFr_g hF_s2 hb1 (by decide))]) dX9_become_40 ?_
        refine p10_1 hx hG ha kf_RX9_19 dX9_become_43 ?_
        obtain ⟨s6, e_s6⟩ : ∃ z, z = zU s2 a 1 ((s0 b1 1)) := ⟨_, rfl⟩
        rw [← e_s6]
        have hS_s6 : zSK G s6 := by rw [e_s6]; exact zSK_F hS_s2 ha rfl rfl rfl (by omega)
        refine j_aload_n hx 0 dX9_become_46 rfl ?_
        refine j_aload_n hx 1 dX9_become_47 rfl ?_
        have f4 := zf hS_s6 hb1 (k := 5) rfl
        refine g10_5 hx hG hb1 kf_RX9_15 rfl dX9_become_48 ?_
        refine p10_5 hx hG ha kf_RX9_15 dX9_become_51 ?_
        obtain ⟨s7, e_s7⟩ : ∃ z, z = zU s6 a 5 ((s6 b1 5)) := ⟨_, rfl⟩
        rw [← e_s7]
        have hS_s7 : zSK G s7 := by rw [e_s7]; exact zSK_F hS_s6 ha rfl rfl rfl (by omega)
        exact j_vret hx hq rfl (by decide) (by decide) dX9_become_54 ⟨rfl, rfl, hS_s7, (zFr_u (zFr_u (zFr_t zFr_rf hF_s2 (by decide)) e_s6 ha (by decide)) e_s7 ha (by decide)), trivial⟩
      · skip
        refine j_iload_n hx 2 dX9_become_11 rfl ?_
        refine j_aload_n hx 1 dX9_become_12 rfl ?_
        refine g10_0 hx hG hb1 kf_RX9_11 dX9_become_13 ?_
        refine j_alen hx hG (zr (k := 0) (t2 := 45) hG hb1 rfl) (by decide) (by decide) (zlen hG (zr (k := 0) (t2 := 45) hG hb1 rfl) (n := 600) rfl rfl) dX9_become_16 ?_
        refine j_icmp_ge hx 38 dX9_become_17 rfl (by omega) ⟨by decide, by decide⟩ (fun h5 => absurd h5 (by omega)) (fun h5 => ?_)
        refine j_aload_n hx 0 dX9_become_20 rfl ?_
        refine g10_0 hx hG ha kf_RX9_11 dX9_become_21 ?_
        refine j_iload_n hx 2 dX9_become_24 rfl ?_
        refine j_aload_n hx 1 dX9_become_25 rfl ?_
        refine g10_0 hx hG hb1 kf_RX9_11 dX9_become_26 ?_
        refine j_iload_n hx 2 dX9_become_29 rfl ?_
        have f6 := zaI (j := (v1).toNat) hS_s2 (zr (k := 0) (t2 := 45) hG hb1 rfl) rfl (zlen hG (zr (k := 0) (t2 := 45) hG hb1 rfl) (n := 600) rfl rfl) (show 0 ≤ v1 by omega) (by omega) rfl
        refine j_bald hx hG (zr (k := 0) (t2 := 45) hG hb1 rfl) (by decide) rfl (zlen hG (zr (k := 0) (t2 := 45) hG hb1 rfl) (n := 600) rfl rfl) (by omega) (by omega) (j := (v1).toNat) rfl rfl dX9_become_30 ?_
        refine j_bast hx hG (zr (k := 0) (t2 := 45) hG ha rfl) (by decide) rfl (zlen hG (zr (k := 0) (t2 := 45) hG ha rfl) (n := 600) rfl rfl) (by omega) (by omega) (j := (v1).toNat) rfl (znar_b (by omega)) dX9_become_31 ?_
        obtain ⟨s8, e_s8⟩ : ∃ z, z = zU s2 (gP G a 0) (v1).toNat ((s2 (gP G b1 0) (v1).toNat)) := ⟨_, rfl⟩
        rw [← e_s8]
        have hS_s8 : zSK G s8 := by rw [e_s8]; exact zSK_A hS_s2 (zr (k := 0) (t2 := 45) hG ha rfl) rfl rfl rfl (by omega)
        refine j_iinc hx 2 [(2, .int (zI (v1 + 1))), (0, .ref a), (1, .ref b1)] dX9_become_32 rfl (by omega) (by decide) rfl ?_
        refine j_goto hx 2 dX9_become_35 rfl ?_
        exact j_sub [1, 2, 0] [(0, .ref a), (1, .ref b1), (2, .int (zI (v1 + 1)))] rfl (ih_c2_1 (v1 + 1) s8 (by omega) (by omega) hS_s8 (zFr_u (zFr_t zFr_rf hF_s2 (by decide)) e_s8 (zr (k := 0) (t2 := 45) hG ha rfl) (by decide)))
  exact j_sub [1, 2, 0] [(0, .ref a), (1, .ref b1), (2, .int (zI 0))] rfl (c2_1 (2147483648 * 4) 0 s0 (by omega) (by omega) hS0 zFr_rf)

theorem lk_RX5_31 : LkV RX5 31 RX3 yX3_become cX3_become 3 none 1 := ⟨km_RX5_31, ki_yX3_become, ks_RX3_yX3_become, kn_RX3, kc_yX3_become, rfl, by decide +kernel, by decide +kernel, by decide +kernel⟩
theorem lk_RX5_35 : LkV RX5 35 RX9 yX9_become cX9_become 3 none 1 := ⟨km_RX5_35, ki_yX9_become, ks_RX9_yX9_become, kn_RX9, kc_yX9_become, rfl, by decide +kernel, by decide +kernel, by decide +kernel⟩
set_option maxHeartbeats 4000000 in
set_option maxRecDepth 20000 in
theorem c_X5_take {E : zE} {l : Launch} (hst : l.stackTraces = false) (a : Nat) (b1 : Nat) (b2 : Nat) (b3 : Nat) : Con E l yX5_take cX5_take 5 none { frames := 4, cells := 0, slots := 0, locals := 87 } (fun G s vs => vs = [.ref a, .ref b1, .ref b2, .ref b3] ∧ zGK G ∧ zSK G s ∧ (gT G a = 6) ∧ (gT G b1 = 4) ∧ (gT G b2 = 5) ∧ (gT G b3 = 10)) (fun G s _ => pV (fun G2 s2 => G2 = G ∧ zSK G s2 ∧ zFr [1, 4, 7, 10, 41, 44, 45, 49, 50, 57] G s s2 ∧ True)) := by
  refine Con.mk hst (by decide) (fun G s vs h => by rw [h.1]; exact Nat.le_of_ble_eq_true rfl) ?_
  rintro X G s0 vs ⟨rfl, hG, hS0, ha, hb1, hb2, hb3⟩ rfl hx hq
  show JJ X E 5 G s0 0 0 [(0, .ref a), (1, .ref b1), (2, .ref b2), (3, .ref b3)] 0 []
  refine j_aload_n hx 0 dX5_take_0 rfl ?_
  refine g6_0 hx hG ha kf_RX5_27 dX5_take_1 ?_
  refine j_aload_n hx 1 dX5_take_4 rfl ?_
  refine j_callV hx hG (c_X3_become hst (gP G a 0) b1) lk_RX5_31 (zr (k := 0) (t2 := 4) hG ha rfl) (by decide) rfl rfl rfl rfl [.ref b1] ⟨rfl, hG, hS0, (zr (k := 0) (t2 := 4) hG ha rfl), hb1⟩ rfl rfl ⟨by decide, by decide⟩ ⟨by decide, by decide⟩ (k2 := 0) (n2 := 0) rfl rfl (Nat.le_of_ble_eq_true rfl) dX5_take_5 (kVM (fun s1 hS_s1 hF_s1 q2 => ?_))
  refine j_aload_n hx 0 dX5_take_8 rfl ?_
  refine g6_1 hx hG ha kf_RX5_10 dX5_take_9 ?_
  refine j_aload_n hx 3 dX5_take_12 rfl ?_
  refine j_callV hx hG (c_X9_become hst (gP G a 1) b3) lk_RX5_35 (zr (k := 1) (t2 := 10) hG ha rfl) (by decide) rfl rfl rfl rfl [.ref b3] ⟨rfl, hG, hS_s1, (zr (k := 1) (t2 := 10) hG ha rfl), hb3⟩ rfl rfl ⟨by decide, by decide⟩ ⟨by decide, by decide⟩ (k2 := 0) (n2 := 0) rfl rfl (Nat.le_of_ble_eq_true rfl) dX5_take_13 (kVM (fun s2 hS_s2 hF_s2 q4 => ?_))
  refine j_iconst hx dX5_take_16 ?_
  refine j_istore hx [(4, .int (zI 0)), (0, .ref a), (1, .ref b1), (2, .ref b2), (3, .ref b3)] dX5_take_17 (by decide) rfl ?_
  have c19_3 : ∀ (m_c19_3 : Nat) (v5 : Int) (s4 : zS), 2147483648 - v5 < m_c19_3 → (0 ≤ v5 ∧ v5 ≤ 323) → (zSK G s4) → (zFr [57] G s2 s4) → JJ X E 5 G s4 0 0 [(0, .ref a), (2, .ref b2), (4, .int (zI v5))] 19 [] := by
    intro m_c19_3
    induction m_c19_3 with
    | zero => intro v5 s4 hm_c19_3 fA5 hS_s4 hF_s4; exfalso; omega
    | succ m_c19_3 ih_c19_3 => 
      intro v5 s4 hm_c19_3 fA5 hS_s4 hF_s4
      refine j_iload hx 2 dX5_take_19 rfl ?_
      refine j_aload_n hx 0 dX5_take_21 rfl ?_
      refine g6_2 hx hG ha kf_RX5_18 dX5_take_22 ?_
      refine j_alen hx hG (zr (k := 2) (t2 := 57) hG ha rfl) (by decide) (by decide) (zlen hG (zr (k := 2) (t2 := 57) hG ha rfl) (n := 323) rfl rfl) dX5_take_25 ?_
      refine j_icmp_ge hx 59 dX5_take_26 rfl (by omega) ⟨by decide, by decide⟩ (fun h6 => ?_) (fun h6 => ?_)
      · skip
        exact j_vret hx hq rfl (by decide) (by decide) dX5_take_59 ⟨rfl, rfl, hS_s4, (zFr_t (zFr_t (zFr_t zFr_rf hF_s1 (by decide)) hF_s2 (by decide)) hF_s4 (by decide)), trivial⟩
      · skip
        refine j_iload hx 2 dX5_take_29 rfl ?_
        refine j_aload_n hx 1 dX5_take_31 rfl ?_
        refine gN5_0 hx hG hb2 kf_RX5_38 dX5_take_32 ?_
        refine j_alen hx hG (zr (k := 0) (t2 := 57) hG hb2 rfl) (by decide) (by decide) (zlen hG (zr (k := 0) (t2 := 57) hG hb2 rfl) (n := 323) rfl rfl) dX5_take_35 ?_
        refine j_icmp_ge hx 59 dX5_take_36 rfl (by omega) ⟨by decide, by decide⟩ (fun h7 => absurd h7 (by omega)) (fun h7 => ?_)
        refine j_aload_n hx 0 dX5_take_39 rfl ?_
        refine g6_2 hx hG ha kf_RX5_18 dX5_take_40 ?_
        refine j_iload hx 2 dX5_take_43 rfl ?_
        refine j_aload_n hx 1 dX5_take_45 rfl ?_
        refine gN5_0 hx hG hb2 kf_RX5_38 dX5_take_46 ?_
        refine j_iload hx 2 dX5_take_49 rfl ?_
        have f8 := zaI (j := (v5).toNat) hS_s4 (zr (k := 0) (t2 := 57) hG hb2 rfl) rfl (zlen hG (zr (k := 0) (t2 := 57) hG hb2 rfl) (n := 323) rfl rfl) (show 0 ≤ v5 by omega) (by omega) rfl
        refine j_lald hx hG (zr (k := 0) (t2 := 57) hG hb2 rfl) (by decide) rfl (zlen hG (zr (k := 0) (t2 := 57) hG hb2 rfl) (n := 323) rfl rfl) (by omega) (by omega) (j := (v5).toNat) rfl rfl dX5_take_51 ?_
        refine j_last hx hG (zr (k := 2) (t2 := 57) hG ha rfl) (by decide) rfl (zlen hG (zr (k := 2) (t2 := 57) hG ha rfl) (n := 323) rfl rfl) (by omega) (by omega) (j := (v5).toNat) rfl dX5_take_52 ?_
        obtain ⟨s8, e_s8⟩ : ∃ z, z = zU s4 (gP G a 2) (v5).toNat ((s4 (gP G b2 0) (v5).toNat)) := ⟨_, rfl⟩
        rw [← e_s8]
        have hS_s8 : zSK G s8 := by rw [e_s8]; exact zSK_A hS_s4 (zr (k := 2) (t2 := 57) hG ha rfl) rfl rfl rfl (by omega)
        refine j_iinc hx 2 [(4, .int (zI (v5 + 1))), (0, .ref a), (2, .ref b2)] dX5_take_53 rfl (by omega) (by decide) rfl ?_
        refine j_goto hx 19 dX5_take_56 rfl ?_
        exact j_sub [1, 2, 0] [(0, .ref a), (2, .ref b2), (4, .int (zI (v5 + 1)))] rfl (ih_c19_3 (v5 + 1) s8 (by omega) (by omega) hS_s8 (zFr_u (zFr_t zFr_rf hF_s4 (by decide)) e_s8 (zr (k := 2) (t2 := 57) hG ha rfl) (by decide)))
  exact j_sub [1, 3, 0] [(0, .ref a), (2, .ref b2), (4, .int (zI 0))] rfl (c19_3 (2147483648 * 4) 0 s2 (by omega) (by omega) hS_s2 zFr_rf)

theorem lk_RX11_322 : LkV RX11 322 RX11 yX11_imageOf cX11_imageOf 2 (some (.object "SnapHeaps$Image")) 1 := ⟨km_RX11_322, ki_yX11_imageOf, ks_RX11_yX11_imageOf, kn_RX11, kc_yX11_imageOf, rfl, by decide +kernel, by decide +kernel, by decide +kernel⟩
theorem lk_RX11_326 : LkV RX11 326 RX5 yX5_take cX5_take 5 none 3 := ⟨km_RX11_326, ki_yX5_take, ks_RX5_yX5_take, kn_RX5, kc_yX5_take, rfl, by decide +kernel, by decide +kernel, by decide +kernel⟩
set_option maxHeartbeats 4000000 in
set_option maxRecDepth 20000 in
theorem c_X11_image {E : zE} {l : Launch} (hst : l.stackTraces = false) (a : Nat) : Con E l yX11_image cX11_image 1 (some .int) { frames := 5, cells := 0, slots := 0, locals := 111 } (fun G s vs => vs = [.ref a] ∧ zGK G ∧ zSK G s ∧ (gT G a = 12)) (fun G s _ => pI (fun r G2 s2 => G2 = G ∧ zSK G s2 ∧ zFr [1, 4, 7, 10, 12, 41, 44, 45, 49, 50, 57] G s s2 ∧ ((-2147483648) ≤ r ∧ r ≤ 2147483647))) := by
  refine Con.mk hst (by decide) (fun G s vs h => by rw [h.1]; exact Nat.le_of_ble_eq_true rfl) ?_
  rintro X G s0 vs ⟨rfl, hG, hS0, ha⟩ rfl hx hq
  show JJ X E 1 G s0 0 0 [(0, .ref a)] 0 []
  refine j_aload_n hx 0 dX11_image_0 rfl ?_
  have f1 := zf hS0 ha (k := 13) rfl
  refine g12_13 hx hG ha kf_RX11_121 rfl dX11_image_1 ?_
  refine j_iconst hx dX11_image_4 ?_
  refine j_icmp_lt hx 10 dX11_image_5 rfl (by omega) ⟨by decide, by decide⟩ (fun h2 => ?_) (fun h2 => ?_)
  · skip
    refine j_aload_n hx 0 dX11_image_10 rfl ?_
    refine j_aload_n hx 0 dX11_image_11 rfl ?_
    refine g12_13 hx hG ha kf_RX11_121 rfl dX11_image_12 ?_
    refine j_callV hx hG (c_X11_imageOf hst a ((s0 a 13))) lk_RX11_322 ha (by decide) rfl rfl rfl rfl [.int (zI ((s0 a 13)))] ⟨rfl, hG, hS0, ha, (by omega)⟩ rfl rfl ⟨by decide, by decide⟩ ⟨by decide, by decide⟩ (k2 := 0) (n2 := 0) rfl rfl (Nat.le_of_ble_eq_true rfl) dX11_image_15 (kRP (fun r3 q4 => ?_))
    refine j_aload_n hx 0 dX11_image_18 rfl ?_
    refine g12_6 hx hG ha kf_RX11_48 dX11_image_19 ?_
    refine j_aload_n hx 0 dX11_image_22 rfl ?_
    refine g12_9 hx hG ha kf_RX11_69 dX11_image_23 ?_
    refine j_aload_n hx 0 dX11_image_26 rfl ?_
    refine g12_0 hx hG ha kf_RX11_10 dX11_image_27 ?_
    refine j_callV hx hG (c_X5_take hst r3 (gP G a 6) (gP G a 9) (gP G a 0)) lk_RX11_326 q4 (by decide) rfl rfl rfl rfl [.ref (gP G a 6), .ref (gP G a 9), .ref (gP G a 0)] ⟨rfl, hG, hS0, q4, (zr (k := 6) (t2 := 4) hG ha rfl), (zr (k := 9) (t2 := 5) hG ha rfl), (zr (k := 0) (t2 := 10) hG ha rfl)⟩ rfl rfl ⟨by decide, by decide⟩ ⟨by decide, by decide⟩ (k2 := 0) (n2 := 0) rfl rfl (Nat.le_of_ble_eq_true rfl) dX11_image_30 (kVM (fun s1 hS_s1 hF_s1 q6 => ?_))
    refine j_aload_n hx 0 dX11_image_33 rfl ?_
    refine j_dup hx dX11_image_34 rfl ?_
    refine g12_13 hx hG ha kf_RX11_121 (v := (s0 a 13)) (by rw [(zFr_g hF_s1 ha (by decide))]) dX11_image_35 ?_
    refine j_iconst hx dX11_image_38 ?_
    refine j_iadd hx (r := (s0 a 13) + 1) dX11_image_39 (by omega) ?_
    refine p12_13 hx hG ha kf_RX11_121 dX11_image_40 ?_
    obtain ⟨s2, e_s2⟩ : ∃ z, z = zU s1 a 13 ((s0 a 13) + 1) := ⟨_, rfl⟩
    rw [← e_s2]
    have hS_s2 : zSK G s2 := by rw [e_s2]; exact zSK_F hS_s1 ha rfl rfl rfl (by omega)
    refine j_aload_n hx 0 dX11_image_43 rfl ?_
    refine g12_13 hx hG ha kf_RX11_121 (v := (s0 a 13) + 1) (by rw [e_s2, zU_eq]) dX11_image_44 ?_
    exact j_iret hx hq rfl (by decide) (by decide) dX11_image_47 ⟨(s0 a 13) + 1, rfl, rfl, hS_s2, (zFr_u (zFr_t zFr_rf hF_s1 (by decide)) e_s2 ha (by decide)), (by omega)⟩
  · skip
    refine j_iconst hx dX11_image_8 ?_
    exact j_iret hx hq rfl (by decide) (by decide) dX11_image_9 ⟨(-1), rfl, rfl, hS0, zFr_rf, (by omega)⟩

set_option maxHeartbeats 4000000 in
set_option maxRecDepth 20000 in
theorem c_X4_keepWinners {E : zE} {l : Launch} (hst : l.stackTraces = false) (a : Nat) (b1 : Nat) : Con E l yX4_keepWinners cX4_keepWinners 3 none { frames := 0, cells := 0, slots := 0, locals := 0 } (fun G s vs => vs = [.ref a, .ref b1] ∧ zGK G ∧ zSK G s ∧ (gT G a = 5) ∧ (gT G b1 = 57)) (fun G s _ => pV (fun G2 s2 => G2 = G ∧ zSK G s2 ∧ zFr [57] G s s2 ∧ True)) := by
  refine Con.mk hst (by decide) (fun G s vs h => by rw [h.1]; exact Nat.le_of_ble_eq_true rfl) ?_
  rintro X G s0 vs ⟨rfl, hG, hS0, ha, hb1⟩ rfl hx hq
  show JJ X E 3 G s0 0 0 [(0, .ref a), (1, .ref b1)] 0 []
  refine j_iconst hx dX4_keepWinners_0 ?_
  refine j_istore_n hx [(2, .int (zI 0)), (0, .ref a), (1, .ref b1)] dX4_keepWinners_1 (by decide) rfl ?_
  have c2_1 : ∀ (m_c2_1 : Nat) (v1 : Int) (s2 : zS), 2147483648 - v1 < m_c2_1 → (0 ≤ v1 ∧ v1 ≤ 323) → (zSK G s2) → (zFr [57] G s0 s2) → JJ X E 3 G s2 0 0 [(0, .ref a), (1, .ref b1), (2, .int (zI v1))] 2 [] := by
    intro m_c2_1
    induction m_c2_1 with
    | zero => intro v1 s2 hm_c2_1 fA3 hS_s2 hF_s2; exfalso; omega
    | succ m_c2_1 ih_c2_1 => 
      intro v1 s2 hm_c2_1 fA3 hS_s2 hF_s2
      refine j_iload_n hx 2 dX4_keepWinners_2 rfl ?_
      refine j_aload_n hx 0 dX4_keepWinners_3 rfl ?_
      refine g5_0 hx hG ha kf_RX4_11 dX4_keepWinners_4 ?_
      refine j_alen hx hG (zr (k := 0) (t2 := 57) hG ha rfl) (by decide) (by decide) (zlen hG (zr (k := 0) (t2 := 57) hG ha rfl) (n := 323) rfl rfl) dX4_keepWinners_7 ?_
      refine j_icmp_ge hx 32 dX4_keepWinners_8 rfl (by omega) ⟨by decide, by decide⟩ (fun h2 => ?_) (fun h2 => ?_)
      · skip
        exact j_vret hx hq rfl (by decide) (by decide) dX4_keepWinners_32 ⟨rfl, rfl, hS_s2, (zFr_t zFr_rf hF_s2 (by decide)), trivial⟩
      · skip
        refine j_iload_n hx 2 dX4_keepWinners_11 rfl ?_
        refine j_aload_n hx 1 dX4_keepWinners_12 rfl ?_
        refine j_alen hx hG hb1 (by decide) (by decide) (zlen hG hb1 (n := 323) rfl rfl) dX4_keepWinners_13 ?_
        refine j_icmp_ge hx 32 dX4_keepWinners_14 rfl (by omega) ⟨by decide, by decide⟩ (fun h3 => absurd h3 (by omega)) (fun h3 => ?_)
        refine j_aload_n hx 0 dX4_keepWinners_17 rfl ?_
        refine g5_0 hx hG ha kf_RX4_11 dX4_keepWinners_18 ?_
        refine j_iload_n hx 2 dX4_keepWinners_21 rfl ?_
        refine j_aload_n hx 1 dX4_keepWinners_22 rfl ?_
        refine j_iload_n hx 2 dX4_keepWinners_23 rfl ?_
        have f4 := zaI (j := (v1).toNat) hS_s2 hb1 rfl (zlen hG hb1 (n := 323) rfl rfl) (show 0 ≤ v1 by omega) (by omega) rfl
        refine j_lald hx hG hb1 (by decide) rfl (zlen hG hb1 (n := 323) rfl rfl) (by omega) (by omega) (j := (v1).toNat) rfl rfl dX4_keepWinners_24 ?_
        refine j_last hx hG (zr (k := 0) (t2 := 57) hG ha rfl) (by decide) rfl (zlen hG (zr (k := 0) (t2 := 57) hG ha rfl) (n := 323) rfl rfl) (by omega) (by omega) (j := (v1).toNat) rfl dX4_keepWinners_25 ?_
        obtain ⟨s6, e_s6⟩ : ∃ z, z = zU s2 (gP G a 0) (v1).toNat ((s2 b1 (v1).toNat)) := ⟨_, rfl⟩
        rw [← e_s6]
        have hS_s6 : zSK G s6 := by rw [e_s6]; exact zSK_A hS_s2 (zr (k := 0) (t2 := 57) hG ha rfl) rfl rfl rfl (by omega)
        refine j_iinc hx 2 [(2, .int (zI (v1 + 1))), (0, .ref a), (1, .ref b1)] dX4_keepWinners_26 rfl (by omega) (by decide) rfl ?_
        refine j_goto hx 2 dX4_keepWinners_29 rfl ?_
        exact j_sub [1, 2, 0] [(0, .ref a), (1, .ref b1), (2, .int (zI (v1 + 1)))] rfl (ih_c2_1 (v1 + 1) s6 (by omega) (by omega) hS_s6 (zFr_u (zFr_t zFr_rf hF_s2 (by decide)) e_s6 (zr (k := 0) (t2 := 57) hG ha rfl) (by decide)))
  exact j_sub [1, 2, 0] [(0, .ref a), (1, .ref b1), (2, .int (zI 0))] rfl (c2_1 (2147483648 * 4) 0 s0 (by omega) (by omega) hS0 zFr_rf)

theorem lk_RX5_39 : LkV RX5 39 RX4 yX4_keepWinners cX4_keepWinners 3 none 1 := ⟨km_RX5_39, ki_yX4_keepWinners, ks_RX4_yX4_keepWinners, kn_RX4, kc_yX4_keepWinners, rfl, by decide +kernel, by decide +kernel, by decide +kernel⟩
theorem lk_RX5_47 : LkV RX5 47 RX4 yX4_settle cX4_settle 2 none 1 := ⟨km_RX5_47, ki_yX4_settle, ks_RX4_yX4_settle, kn_RX4, kc_yX4_settle, rfl, by decide +kernel, by decide +kernel, by decide +kernel⟩
set_option maxHeartbeats 4000000 in
set_option maxRecDepth 20000 in
theorem c_X5_bring {E : zE} {l : Launch} (hst : l.stackTraces = false) (a : Nat) (b1 : Nat) (b2 : Nat) (b3 : Nat) : Con E l yX5_bring cX5_bring 4 none { frames := 4, cells := 0, slots := 0, locals := 87 } (fun G s vs => vs = [.ref a, .ref b1, .ref b2, .ref b3] ∧ zGK G ∧ zSK G s ∧ (gT G a = 6) ∧ (gT G b1 = 4) ∧ (gT G b2 = 5) ∧ (gT G b3 = 10)) (fun G s _ => pV (fun G2 s2 => G2 = G ∧ zSK G s2 ∧ zFr [1, 4, 5, 7, 10, 41, 44, 45, 49, 50, 57] G s s2 ∧ True)) := by
  refine Con.mk hst (by decide) (fun G s vs h => by rw [h.1]; exact Nat.le_of_ble_eq_true rfl) ?_
  rintro X G s0 vs ⟨rfl, hG, hS0, ha, hb1, hb2, hb3⟩ rfl hx hq
  show JJ X E 4 G s0 0 0 [(0, .ref a), (1, .ref b1), (2, .ref b2), (3, .ref b3)] 0 []
  refine j_aload_n hx 1 dX5_bring_0 rfl ?_
  refine j_aload_n hx 0 dX5_bring_1 rfl ?_
  refine g6_0 hx hG ha kf_RX5_27 dX5_bring_2 ?_
  refine j_callV hx hG (c_X3_become hst b1 (gP G a 0)) lk_RX5_31 hb1 (by decide) rfl rfl rfl rfl [.ref (gP G a 0)] ⟨rfl, hG, hS0, hb1, (zr (k := 0) (t2 := 4) hG ha rfl)⟩ rfl rfl ⟨by decide, by decide⟩ ⟨by decide, by decide⟩ (k2 := 0) (n2 := 0) rfl rfl (Nat.le_of_ble_eq_true rfl) dX5_bring_5 (kVM (fun s1 hS_s1 hF_s1 q2 => ?_))
  refine j_aload_n hx 3 dX5_bring_8 rfl ?_
  refine j_aload_n hx 0 dX5_bring_9 rfl ?_
  refine g6_1 hx hG ha kf_RX5_10 dX5_bring_10 ?_
  refine j_callV hx hG (c_X9_become hst b3 (gP G a 1)) lk_RX5_35 hb3 (by decide) rfl rfl rfl rfl [.ref (gP G a 1)] ⟨rfl, hG, hS_s1, hb3, (zr (k := 1) (t2 := 10) hG ha rfl)⟩ rfl rfl ⟨by decide, by decide⟩ ⟨by decide, by decide⟩ (k2 := 0) (n2 := 0) rfl rfl (Nat.le_of_ble_eq_true rfl) dX5_bring_13 (kVM (fun s2 hS_s2 hF_s2 q4 => ?_))
  refine j_aload_n hx 2 dX5_bring_16 rfl ?_
  refine j_aload_n hx 0 dX5_bring_17 rfl ?_
  refine g6_2 hx hG ha kf_RX5_18 dX5_bring_18 ?_
  refine j_callV hx hG (c_X4_keepWinners hst b2 (gP G a 2)) lk_RX5_39 hb2 (by decide) rfl rfl rfl rfl [.ref (gP G a 2)] ⟨rfl, hG, hS_s2, hb2, (zr (k := 2) (t2 := 57) hG ha rfl)⟩ rfl rfl ⟨by decide, by decide⟩ ⟨by decide, by decide⟩ (k2 := 0) (n2 := 0) rfl rfl (Nat.le_of_ble_eq_true rfl) dX5_bring_21 (kVM (fun s3 hS_s3 hF_s3 q6 => ?_))
  refine j_aload_n hx 2 dX5_bring_24 rfl ?_
  refine j_aload_n hx 1 dX5_bring_25 rfl ?_
  have f7 := zf hS_s1 hb1 (k := 10) rfl
  refine gN4_10 hx hG hb1 kf_RX5_43 (v := (s1 b1 10)) (by rw [(zFr_g hF_s3 hb1 (by decide)), (zFr_g hF_s2 hb1 (by decide))]) dX5_bring_26 ?_
  refine j_callV hx hG (c_X4_settle hst b2 ((s1 b1 10))) lk_RX5_47 hb2 (by decide) rfl rfl rfl rfl [.int (zI ((s1 b1 10)))] ⟨rfl, hG, hS_s3, hb2, (by omega)⟩ rfl rfl ⟨by decide, by decide⟩ ⟨by decide, by decide⟩ (k2 := 0) (n2 := 0) rfl rfl (Nat.le_of_ble_eq_true rfl) dX5_bring_29 (kVM (fun s4 hS_s4 hF_s4 q9 => ?_))
  exact j_vret hx hq rfl (by decide) (by decide) dX5_bring_32 ⟨rfl, rfl, hS_s4, (zFr_t (zFr_t (zFr_t (zFr_t zFr_rf hF_s1 (by decide)) hF_s2 (by decide)) hF_s3 (by decide)) hF_s4 (by decide)), trivial⟩

theorem lk_RX11_330 : LkV RX11 330 RX5 yX5_bring cX5_bring 4 none 3 := ⟨km_RX11_330, ki_yX5_bring, ks_RX5_yX5_bring, kn_RX5, kc_yX5_bring, rfl, by decide +kernel, by decide +kernel, by decide +kernel⟩
set_option maxHeartbeats 4000000 in
set_option maxRecDepth 20000 in
theorem c_X11_restore {E : zE} {l : Launch} (hst : l.stackTraces = false) (a : Nat) : Con E l yX11_restore cX11_restore 1 (some .int) { frames := 5, cells := 0, slots := 0, locals := 110 } (fun G s vs => vs = [.ref a] ∧ zGK G ∧ zSK G s ∧ (gT G a = 12)) (fun G s _ => pI (fun r G2 s2 => G2 = G ∧ zSK G s2 ∧ zFr [1, 4, 5, 7, 10, 12, 41, 44, 45, 49, 50, 57] G s s2 ∧ ((-2147483648) ≤ r ∧ r ≤ 2147483647))) := by
  refine Con.mk hst (by decide) (fun G s vs h => by rw [h.1]; exact Nat.le_of_ble_eq_true rfl) ?_
  rintro X G s0 vs ⟨rfl, hG, hS0, ha⟩ rfl hx hq
  show JJ X E 1 G s0 0 0 [(0, .ref a)] 0 []
  refine j_aload_n hx 0 dX11_restore_0 rfl ?_
  have f1 := zf hS0 ha (k := 13) rfl
  refine g12_13 hx hG ha kf_RX11_121 rfl dX11_restore_1 ?_
  refine j_if_gt hx 9 dX11_restore_4 rfl (by omega) (fun h2 => ?_) (fun h2 => ?_)
  · skip
    refine j_aload_n hx 0 dX11_restore_9 rfl ?_
    refine j_dup hx dX11_restore_10 rfl ?_
    refine g12_13 hx hG ha kf_RX11_121 rfl dX11_restore_11 ?_
    refine j_iconst hx dX11_restore_14 ?_
    refine j_isub hx (r := (s0 a 13) - 1) dX11_restore_15 (by omega) ?_
    refine p12_13 hx hG ha kf_RX11_121 dX11_restore_16 ?_
    obtain ⟨s1, e_s1⟩ : ∃ z, z = zU s0 a 13 ((s0 a 13) - 1) := ⟨_, rfl⟩
    rw [← e_s1]
    have hS_s1 : zSK G s1 := by rw [e_s1]; exact zSK_F hS0 ha rfl rfl rfl (by omega)
    refine j_aload_n hx 0 dX11_restore_19 rfl ?_
    refine j_aload_n hx 0 dX11_restore_20 rfl ?_
    refine g12_13 hx hG ha kf_RX11_121 (v := (s0 a 13) - 1) (by rw [e_s1, zU_eq]) dX11_restore_21 ?_
    refine j_callV hx hG (c_X11_imageOf hst a ((s0 a 13) - 1)) lk_RX11_322 ha (by decide) rfl rfl rfl rfl [.int (zI ((s0 a 13) - 1))] ⟨rfl, hG, hS_s1, ha, (by omega)⟩ rfl rfl ⟨by decide, by decide⟩ ⟨by decide, by decide⟩ (k2 := 0) (n2 := 0) rfl rfl (Nat.le_of_ble_eq_true rfl) dX11_restore_24 (kRP (fun r3 q4 => ?_))
    refine j_aload_n hx 0 dX11_restore_27 rfl ?_
    refine g12_6 hx hG ha kf_RX11_48 dX11_restore_28 ?_
    refine j_aload_n hx 0 dX11_restore_31 rfl ?_
    refine g12_9 hx hG ha kf_RX11_69 dX11_restore_32 ?_
    refine j_aload_n hx 0 dX11_restore_35 rfl ?_
    refine g12_0 hx hG ha kf_RX11_10 dX11_restore_36 ?_
    refine j_callV hx hG (c_X5_bring hst r3 (gP G a 6) (gP G a 9) (gP G a 0)) lk_RX11_330 q4 (by decide) rfl rfl rfl rfl [.ref (gP G a 6), .ref (gP G a 9), .ref (gP G a 0)] ⟨rfl, hG, hS_s1, q4, (zr (k := 6) (t2 := 4) hG ha rfl), (zr (k := 9) (t2 := 5) hG ha rfl), (zr (k := 0) (t2 := 10) hG ha rfl)⟩ rfl rfl ⟨by decide, by decide⟩ ⟨by decide, by decide⟩ (k2 := 0) (n2 := 0) rfl rfl (Nat.le_of_ble_eq_true rfl) dX11_restore_39 (kVM (fun s2 hS_s2 hF_s2 q6 => ?_))
    refine j_aload_n hx 0 dX11_restore_42 rfl ?_
    refine g12_13 hx hG ha kf_RX11_121 (v := (s0 a 13) - 1) (by rw [(zFr_g hF_s2 ha (by decide)), e_s1, zU_eq]) dX11_restore_43 ?_
    exact j_iret hx hq rfl (by decide) (by decide) dX11_restore_46 ⟨(s0 a 13) - 1, rfl, rfl, hS_s2, (zFr_t (zFr_u zFr_rf e_s1 ha (by decide)) hF_s2 (by decide)), (by omega)⟩
  · skip
    refine j_iconst hx dX11_restore_7 ?_
    exact j_iret hx hq rfl (by decide) (by decide) dX11_restore_8 ⟨(-1), rfl, rfl, hS0, zFr_rf, (by omega)⟩

set_option maxHeartbeats 4000000 in
set_option maxRecDepth 20000 in
theorem c_X11_status {E : zE} {l : Launch} (hst : l.stackTraces = false) (a : Nat) (x1 : Int) : Con E l yX11_status cX11_status 2 (some .int) { frames := 0, cells := 0, slots := 0, locals := 0 } (fun G s vs => vs = [.ref a, .int (zI x1)] ∧ zGK G ∧ zSK G s ∧ (gT G a = 12) ∧ ((-2147483648) ≤ x1 ∧ x1 ≤ 2147483647)) (fun G s _ => pI (fun r G2 s2 => G2 = G ∧ s2 = s ∧ ((-2147483648) ≤ r ∧ r ≤ 2147483647))) := by
  refine Con.mk hst (by decide) (fun G s vs h => by rw [h.1]; exact Nat.le_of_ble_eq_true rfl) ?_
  rintro X G s0 vs ⟨rfl, hG, hS0, ha, hx1⟩ rfl hx hq
  show JJ X E 2 G s0 0 0 [(0, .ref a), (1, .int (zI x1))] 0 []
  refine j_iload_n hx 1 dX11_status_0 rfl ?_
  refine j_if_ne hx 9 dX11_status_1 rfl (by omega) (fun h1 => ?_) (fun h1 => ?_)
  · skip
    refine j_iload_n hx 1 dX11_status_9 rfl ?_
    refine j_iconst hx dX11_status_10 ?_
    refine j_icmp_ne hx 21 dX11_status_11 rfl (by omega) ⟨by decide, by decide⟩ (fun h2 => ?_) (fun h2 => ?_)
    · skip
      refine j_iconst hx dX11_status_21 ?_
      exact j_iret hx hq rfl (by decide) (by decide) dX11_status_22 ⟨(-1), rfl, rfl, rfl, (by omega)⟩
    · skip
      refine j_aload_n hx 0 dX11_status_14 rfl ?_
      have f3 := zf hS0 ha (k := 15) rfl
      refine g12_15 hx hG ha kf_RX11_336 rfl dX11_status_15 ?_
      refine j_goto hx 22 dX11_status_18 rfl ?_
      exact j_iret hx hq rfl (by decide) (by decide) dX11_status_22 ⟨(s0 a 15), rfl, rfl, rfl, (by omega)⟩
  · skip
    refine j_aload_n hx 0 dX11_status_4 rfl ?_
    have f4 := zf hS0 ha (k := 14) rfl
    refine g12_14 hx hG ha kf_RX11_333 rfl dX11_status_5 ?_
    exact j_iret hx hq rfl (by decide) (by decide) dX11_status_8 ⟨(s0 a 14), rfl, rfl, rfl, (by omega)⟩

set_option maxHeartbeats 4000000 in
set_option maxRecDepth 20000 in
theorem c_X11_count {E : zE} {l : Launch} (hst : l.stackTraces = false) (a : Nat) (x1 : Int) : Con E l yX11_count cX11_count 2 (some .int) { frames := 0, cells := 0, slots := 0, locals := 0 } (fun G s vs => vs = [.ref a, .int (zI x1)] ∧ zGK G ∧ zSK G s ∧ (gT G a = 12) ∧ ((-2147483648) ≤ x1 ∧ x1 ≤ 2147483647)) (fun G s _ => pI (fun r G2 s2 => G2 = G ∧ s2 = s ∧ ((-2147483648) ≤ r ∧ r ≤ 2147483647))) := by
  refine Con.mk hst (by decide) (fun G s vs h => by rw [h.1]; exact Nat.le_of_ble_eq_true rfl) ?_
  rintro X G s0 vs ⟨rfl, hG, hS0, ha, hx1⟩ rfl hx hq
  show JJ X E 2 G s0 0 0 [(0, .ref a), (1, .int (zI x1))] 0 []
  refine j_iload_n hx 1 dX11_count_0 rfl ?_
  have h1 : (x1 = 0) ∨ (x1 = 1) ∨ (x1 = 2) ∨ (x1 = 3) ∨ (x1 < 0 ∨ 3 < x1) := by omega
  rcases h1 with h1 | h1 | h1 | h1 | h1
  · skip
    refine j_switchIn hx 32 dX11_count_1 (by omega) (by omega) (by omega) (by rw [h1]; rfl) rfl ?_
    refine j_aload_n hx 0 dX11_count_32 rfl ?_
    have f2 := zf hS0 ha (k := 13) rfl
    refine g12_13 hx hG ha kf_RX11_121 rfl dX11_count_33 ?_
    exact j_iret hx hq rfl (by decide) (by decide) dX11_count_36 ⟨(s0 a 13), rfl, rfl, rfl, (by omega)⟩
  · skip
    refine j_switchIn hx 37 dX11_count_1 (by omega) (by omega) (by omega) (by rw [h1]; rfl) rfl ?_
    refine j_aload_n hx 0 dX11_count_37 rfl ?_
    refine g12_0 hx hG ha kf_RX11_10 dX11_count_38 ?_
    have f3 := zf hS0 (zr (k := 0) (t2 := 10) hG ha rfl) (k := 1) rfl
    refine gN10_1 hx hG (zr (k := 0) (t2 := 10) hG ha rfl) kf_RX11_94 rfl dX11_count_41 ?_
    exact j_iret hx hq rfl (by decide) (by decide) dX11_count_44 ⟨(s0 (gP G a 0) 1), rfl, rfl, rfl, (by omega)⟩
  · skip
    refine j_switchIn hx 45 dX11_count_1 (by omega) (by omega) (by omega) (by rw [h1]; rfl) rfl ?_
    refine j_aload_n hx 0 dX11_count_45 rfl ?_
    refine g12_4 hx hG ha kf_RX11_36 dX11_count_46 ?_
    have f4 := zf hS0 (zr (k := 4) (t2 := 2) hG ha rfl) (k := 2) rfl
    refine gN2_2 hx hG (zr (k := 4) (t2 := 2) hG ha rfl) kf_RX11_118 rfl dX11_count_49 ?_
    exact j_iret hx hq rfl (by decide) (by decide) dX11_count_52 ⟨(s0 (gP G a 4) 2), rfl, rfl, rfl, (by omega)⟩
  · skip
    refine j_switchIn hx 53 dX11_count_1 (by omega) (by omega) (by omega) (by rw [h1]; rfl) rfl ?_
    refine j_aload_n hx 0 dX11_count_53 rfl ?_
    refine g12_6 hx hG ha kf_RX11_48 dX11_count_54 ?_
    have f5 := zf hS0 (zr (k := 6) (t2 := 4) hG ha rfl) (k := 10) rfl
    refine gN4_10 hx hG (zr (k := 6) (t2 := 4) hG ha rfl) kf_RX11_165 rfl dX11_count_57 ?_
    refine j_aload_n hx 0 dX11_count_60 rfl ?_
    refine g12_9 hx hG ha kf_RX11_69 dX11_count_61 ?_
    have f6 := zf hS0 (zr (k := 9) (t2 := 5) hG ha rfl) (k := 5) rfl
    refine gN5_5 hx hG (zr (k := 9) (t2 := 5) hG ha rfl) kf_RX11_339 rfl dX11_count_64 ?_
    refine j_isub hx (r := (s0 (gP G a 6) 10) - (s0 (gP G a 9) 5)) dX11_count_67 (by omega) ?_
    refine j_norm (fun v7 f8 f9 f10 => ?_)
    exact j_iret hx hq rfl (by decide) (by decide) dX11_count_68 ⟨v7, rfl, rfl, rfl, (by omega)⟩
  · skip
    refine j_switchOut hx 69 dX11_count_1 (by omega) (by omega) rfl ?_
    refine j_iconst hx dX11_count_69 ?_
    exact j_iret hx hq rfl (by decide) (by decide) dX11_count_70 ⟨(-1), rfl, rfl, rfl, (by omega)⟩
