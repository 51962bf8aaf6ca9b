set_option maxHeartbeats 4000000 in
set_option maxRecDepth 20000 in
theorem c_X10_weigh_10 {E : zE} {l : Launch} (hst : l.stackTraces = false) (a : Nat) (x1 : Int) (y2 : Int) : Con E l yX10_weigh cX10_weigh 9 none { frames := 5, cells := 0, slots := 0, locals := 127 } (fun G s vs => vs = [.ref a, .int (zI x1), .long (zL y2)] ∧ zGK G ∧ zSK G s ∧ (gT G a = 11) ∧ (10 ≤ x1 ∧ x1 ≤ 10) ∧ ((-9223372036854775808) ≤ y2 ∧ y2 ≤ 9223372036854775807)) (fun G s _ => pV (fun G2 s2 => G2 = G ∧ zSK G s2 ∧ zFr [1, 7, 11, 41] G s s2 ∧ True)) := by
  refine Con.mk hst (by decide) (fun G s vs h => by rw [h.1]; exact Nat.le_of_ble_eq_true rfl) ?_
  rintro X G s0 vs ⟨rfl, hG, hS0, ha, hx1, hy2⟩ rfl hx hq
  obtain rfl : x1 = 10 := by omega
  show JJ X E 9 G s0 0 0 [(0, .ref a), (1, .int (zI 10)), (2, .long (zL y2))] 0 []
  refine j_aload_n hx 0 dX10_weigh_0 rfl ?_
  refine j_iload_n hx 1 dX10_weigh_1 rfl ?_
  refine j_callV hx hG (c_X10_boardAt hst a 10) lk_RX10_22 ha (by decide) rfl rfl rfl rfl [.int (zI 10)] ⟨rfl, hG, hS0, ha, (by omega)⟩ rfl rfl ⟨by decide, by decide⟩ ⟨by decide, by decide⟩ (k2 := 0) (n2 := 0) rfl rfl (Nat.le_of_ble_eq_true rfl) dX10_weigh_2 (kNP (fun _ => ?_) (fun r1 q2 => ?_))
  · skip
    refine j_astoreN hx [(4, .null), (0, .ref a), (1, .int (zI 10)), (2, .long (zL y2))] dX10_weigh_5 (by decide) rfl ?_
    refine j_aload_n hx 1 dX10_weigh_7 rfl ?_
    refine j_iload_n hx 2 dX10_weigh_8 rfl ?_
    refine j_iconst hx dX10_weigh_9 ?_
    refine j_iadd hx (r := 11) dX10_weigh_10 (by omega) ?_
    refine j_callV hx hG (c_X10_boardAt hst a 11) lk_RX10_22 ha (by decide) rfl rfl rfl rfl [.int (zI 11)] ⟨rfl, hG, hS0, ha, (by omega)⟩ rfl rfl ⟨by decide, by decide⟩ ⟨by decide, by decide⟩ (k2 := 0) (n2 := 0) rfl rfl (Nat.le_of_ble_eq_true rfl) dX10_weigh_11 (kNP (fun _ => ?_) (fun r3 q4 => ?_))
    · skip
      refine j_astoreN hx [(5, .null), (4, .null), (0, .ref a), (1, .int (zI 10)), (2, .long (zL y2))] dX10_weigh_14 (by decide) rfl ?_
      refine j_aloadN hx 1 dX10_weigh_16 rfl ?_
      refine j_ifnonnullN hx dX10_weigh_18 ?_
      exact j_vret hx hq rfl (by decide) (by decide) dX10_weigh_21 ⟨rfl, rfl, hS0, zFr_rf, trivial⟩
    · skip
      refine j_astore hx [(5, .ref r3), (4, .null), (0, .ref a), (1, .int (zI 10)), (2, .long (zL y2))] dX10_weigh_14 (by decide) rfl ?_
      refine j_aloadN hx 1 dX10_weigh_16 rfl ?_
      refine j_ifnonnullN hx dX10_weigh_18 ?_
      exact j_vret hx hq rfl (by decide) (by decide) dX10_weigh_21 ⟨rfl, rfl, hS0, zFr_rf, trivial⟩
  · skip
    refine j_astore hx [(4, .ref r1), (0, .ref a), (1, .int (zI 10)), (2, .long (zL y2))] dX10_weigh_5 (by decide) rfl ?_
    refine j_aload_n hx 1 dX10_weigh_7 rfl ?_
    refine j_iload_n hx 2 dX10_weigh_8 rfl ?_
    refine j_iconst hx dX10_weigh_9 ?_
    refine j_iadd hx (r := 11) dX10_weigh_10 (by omega) ?_
    refine j_callV hx hG (c_X10_boardAt hst a 11) lk_RX10_22 ha (by decide) rfl rfl rfl rfl [.int (zI 11)] ⟨rfl, hG, hS0, ha, (by omega)⟩ rfl rfl ⟨by decide, by decide⟩ ⟨by decide, by decide⟩ (k2 := 0) (n2 := 0) rfl rfl (Nat.le_of_ble_eq_true rfl) dX10_weigh_11 (kNP (fun _ => ?_) (fun r5 q6 => ?_))
    · skip
      refine j_astoreN hx [(5, .null), (4, .ref r1), (0, .ref a), (1, .int (zI 10)), (2, .long (zL y2))] dX10_weigh_14 (by decide) rfl ?_
      refine j_aload hx 1 dX10_weigh_16 rfl ?_
      refine j_ifnonnull hx 22 dX10_weigh_18 rfl ?_
      refine j_iload_n hx 3 dX10_weigh_22 rfl ?_
      refine j_aload_n hx 2 dX10_weigh_23 rfl ?_
      have f7 := zf hS0 ha (k := 4) rfl
      refine g11_4 hx hG ha kf_RX10_77 rfl dX10_weigh_24 ?_
      have c43_1 : ∀ (s2 : zS), (zSK G s2) → (zFr [1, 7, 41] G s0 s2) → JJ X E 9 G s2 0 0 [(0, .ref a), (1, .int (zI 10)), (2, .long (zL y2)), (4, .ref r1)] 43 [] := by
        intro s2 hS_s2 hF_s2
        refine j_aload_n hx 0 dX10_weigh_43 rfl ?_
        refine j_dup hx dX10_weigh_44 rfl ?_
        have f8 := zf hS0 ha (k := 7) rfl
        refine g11_7 hx hG ha kf_RX10_80 (v := (s0 a 7)) (by rw [(zFr_g hF_s2 ha (by decide))]) dX10_weigh_45 ?_
        refine j_aload_n hx 0 dX10_weigh_48 rfl ?_
        refine j_aload hx 3 dX10_weigh_49 rfl ?_
        refine j_callV hx hG (c_X10_leads hst a r1) lk_RX10_96 ha (by decide) rfl rfl rfl rfl [.ref r1] ⟨rfl, hG, hS_s2, ha, q2.1⟩ rfl rfl ⟨by decide, by decide⟩ ⟨by decide, by decide⟩ (k2 := 0) (n2 := 0) rfl rfl (Nat.le_of_ble_eq_true rfl) dX10_weigh_51 (kIP (fun v9 q10 => ?_))
        refine j_if_eq hx 66 dX10_weigh_54 rfl (by omega) (fun h11 => ?_) (fun h11 => ?_)
        · skip
          refine j_lconst hx dX10_weigh_66 ?_
          show JJ X E 9 G s2 0 0 [(0, .ref a), (1, .int (zI 10)), (2, .long (zL y2)), (4, .ref r1)] 67 [.long (zL 0), .long (zL ((s0 a 7))), .ref a]
          refine j_ladd hx dX10_weigh_67 (fun w12 f13 f14 => ?_)
          refine p11_7 hx hG ha kf_RX10_80 dX10_weigh_68 ?_
          obtain ⟨s5, e_s5⟩ : ∃ z, z = zU s2 a 7 w12 := ⟨_, rfl⟩
          rw [← e_s5]
          have hS_s5 : zSK G s5 := by rw [e_s5]; exact zSK_F hS_s2 ha rfl rfl rfl (by omega)
          exact j_vret hx hq rfl (by decide) (by decide) dX10_weigh_71 ⟨rfl, rfl, hS_s5, (zFr_u (zFr_t zFr_rf hF_s2 (by decide)) e_s5 ha (by decide)), trivial⟩
        · skip
          refine j_aload_n hx 0 dX10_weigh_57 rfl ?_
          refine j_iload_n hx 1 dX10_weigh_58 rfl ?_
          refine j_lload_n hx 2 dX10_weigh_59 rfl ?_
          refine j_callV hx hG (c_X10_allWays hst a 10 y2) lk_RX10_100 ha (by decide) rfl rfl rfl rfl [.int (zI 10), .long (zL y2)] ⟨rfl, hG, hS_s2, ha, (by omega), (by omega)⟩ rfl rfl ⟨by decide, by decide⟩ ⟨by decide, by decide⟩ (k2 := 0) (n2 := 0) rfl rfl (Nat.le_of_ble_eq_true rfl) dX10_weigh_60 (kLP (fun v15 q16 => ?_))
          refine j_goto hx 67 dX10_weigh_63 rfl ?_
          refine j_ladd hx dX10_weigh_67 (fun w17 f18 f19 => ?_)
          refine p11_7 hx hG ha kf_RX10_80 dX10_weigh_68 ?_
          obtain ⟨s6, e_s6⟩ : ∃ z, z = zU s2 a 7 w17 := ⟨_, rfl⟩
          rw [← e_s6]
          have hS_s6 : zSK G s6 := by rw [e_s6]; exact zSK_F hS_s2 ha rfl rfl rfl (by omega)
          exact j_vret hx hq rfl (by decide) (by decide) dX10_weigh_71 ⟨rfl, rfl, hS_s6, (zFr_u (zFr_t zFr_rf hF_s2 (by decide)) e_s6 ha (by decide)), trivial⟩
      refine j_icmp_ge hx 43 dX10_weigh_27 rfl ⟨by decide, by decide⟩ (by omega) (fun h20 => ?_) (fun h20 => ?_)
      · skip
        exact j_sub [2, 3, 4, 1] [(0, .ref a), (1, .int (zI 10)), (2, .long (zL y2)), (4, .ref r1)] rfl (c43_1 s0 hS0 zFr_rf)
      · skip
        refine j_aloadN hx 0 dX10_weigh_30 rfl ?_
        refine j_ifnullN hx 43 dX10_weigh_32 rfl ?_
        exact j_sub [2, 3, 4, 1] [(0, .ref a), (1, .int (zI 10)), (2, .long (zL y2)), (4, .ref r1)] rfl (c43_1 s0 hS0 zFr_rf)
    · skip
      refine j_astore hx [(5, .ref r5), (4, .ref r1), (0, .ref a), (1, .int (zI 10)), (2, .long (zL y2))] dX10_weigh_14 (by decide) rfl ?_
      refine j_aload hx 1 dX10_weigh_16 rfl ?_
      refine j_ifnonnull hx 22 dX10_weigh_18 rfl ?_
      refine j_iload_n hx 3 dX10_weigh_22 rfl ?_
      refine j_aload_n hx 2 dX10_weigh_23 rfl ?_
      have f21 := zf hS0 ha (k := 4) rfl
      refine g11_4 hx hG ha kf_RX10_77 rfl dX10_weigh_24 ?_
      have c43_7 : ∀ (s8 : zS), (zSK G s8) → (zFr [1, 7, 41] G s0 s8) → JJ X E 9 G s8 0 0 [(0, .ref a), (1, .int (zI 10)), (2, .long (zL y2)), (4, .ref r1)] 43 [] := by
        intro s8 hS_s8 hF_s8
        refine j_aload_n hx 0 dX10_weigh_43 rfl ?_
        refine j_dup hx dX10_weigh_44 rfl ?_
        have f22 := zf hS0 ha (k := 7) rfl
        refine g11_7 hx hG ha kf_RX10_80 (v := (s0 a 7)) (by rw [(zFr_g hF_s8 ha (by decide))]) dX10_weigh_45 ?_
        refine j_aload_n hx 0 dX10_weigh_48 rfl ?_
        refine j_aload hx 3 dX10_weigh_49 rfl ?_
        refine j_callV hx hG (c_X10_leads hst a r1) lk_RX10_96 ha (by decide) rfl rfl rfl rfl [.ref r1] ⟨rfl, hG, hS_s8, ha, q2.1⟩ rfl rfl ⟨by decide, by decide⟩ ⟨by decide, by decide⟩ (k2 := 0) (n2 := 0) rfl rfl (Nat.le_of_ble_eq_true rfl) dX10_weigh_51 (kIP (fun v23 q24 => ?_))
        refine j_if_eq hx 66 dX10_weigh_54 rfl (by omega) (fun h25 => ?_) (fun h25 => ?_)
        · skip
          refine j_lconst hx dX10_weigh_66 ?_
          show JJ X E 9 G s8 0 0 [(0, .ref a), (1, .int (zI 10)), (2, .long (zL y2)), (4, .ref r1)] 67 [.long (zL 0), .long (zL ((s0 a 7))), .ref a]
          refine j_ladd hx dX10_weigh_67 (fun w26 f27 f28 => ?_)
          refine p11_7 hx hG ha kf_RX10_80 dX10_weigh_68 ?_
          obtain ⟨s11, e_s11⟩ : ∃ z, z = zU s8 a 7 w26 := ⟨_, rfl⟩
          rw [← e_s11]
          have hS_s11 : zSK G s11 := by rw [e_s11]; exact zSK_F hS_s8 ha rfl rfl rfl (by omega)
          exact j_vret hx hq rfl (by decide) (by decide) dX10_weigh_71 ⟨rfl, rfl, hS_s11, (zFr_u (zFr_t zFr_rf hF_s8 (by decide)) e_s11 ha (by decide)), trivial⟩
        · skip
          refine j_aload_n hx 0 dX10_weigh_57 rfl ?_
          refine j_iload_n hx 1 dX10_weigh_58 rfl ?_
          refine j_lload_n hx 2 dX10_weigh_59 rfl ?_
          refine j_callV hx hG (c_X10_allWays hst a 10 y2) lk_RX10_100 ha (by decide) rfl rfl rfl rfl [.int (zI 10), .long (zL y2)] ⟨rfl, hG, hS_s8, ha, (by omega), (by omega)⟩ rfl rfl ⟨by decide, by decide⟩ ⟨by decide, by decide⟩ (k2 := 0) (n2 := 0) rfl rfl (Nat.le_of_ble_eq_true rfl) dX10_weigh_60 (kLP (fun v29 q30 => ?_))
          refine j_goto hx 67 dX10_weigh_63 rfl ?_
          refine j_ladd hx dX10_weigh_67 (fun w31 f32 f33 => ?_)
          refine p11_7 hx hG ha kf_RX10_80 dX10_weigh_68 ?_
          obtain ⟨s12, e_s12⟩ : ∃ z, z = zU s8 a 7 w31 := ⟨_, rfl⟩
          rw [← e_s12]
          have hS_s12 : zSK G s12 := by rw [e_s12]; exact zSK_F hS_s8 ha rfl rfl rfl (by omega)
          exact j_vret hx hq rfl (by decide) (by decide) dX10_weigh_71 ⟨rfl, rfl, hS_s12, (zFr_u (zFr_t zFr_rf hF_s8 (by decide)) e_s12 ha (by decide)), trivial⟩
      refine j_icmp_ge hx 43 dX10_weigh_27 rfl ⟨by decide, by decide⟩ (by omega) (fun h34 => ?_) (fun h34 => ?_)
      · skip
        exact j_sub [2, 3, 4, 1] [(0, .ref a), (1, .int (zI 10)), (2, .long (zL y2)), (4, .ref r1)] rfl (c43_7 s0 hS0 zFr_rf)
      · skip
        refine j_aload hx 0 dX10_weigh_30 rfl ?_
        refine j_ifnull hx dX10_weigh_32 ?_
        refine j_aload hx 1 dX10_weigh_35 rfl ?_
        refine j_callV hx hG (c_X0_step hst r1) lk_RX10_33 q2.1 (by decide) rfl rfl rfl rfl [] ⟨rfl, hG, hS0, q2.1⟩ rfl rfl ⟨by decide, by decide⟩ ⟨by decide, by decide⟩ (k2 := 0) (n2 := 0) rfl rfl (Nat.le_of_ble_eq_true rfl) dX10_weigh_37 (kIM (fun v35 s13 hS_s13 hF_s13 q36 => ?_))
        refine j_if_ne hx 72 dX10_weigh_40 rfl (by omega) (fun h37 => ?_) (fun h37 => ?_)
        · skip
          refine j_aload hx 1 dX10_weigh_72 rfl ?_
          refine j_callV hx hG (c_X0_likeTops hst r1) lk_RX10_37 q2.1 (by decide) rfl rfl rfl rfl [] ⟨rfl, hG, hS_s13, q2.1⟩ rfl rfl ⟨by decide, by decide⟩ ⟨by decide, by decide⟩ (k2 := 0) (n2 := 0) rfl rfl (Nat.le_of_ble_eq_true rfl) dX10_weigh_74 (kIP (fun v38 q39 => ?_))
          refine j_istore hx [(6, .int (zI v38)), (5, .ref r5), (4, .ref r1), (0, .ref a), (1, .int (zI 10)), (2, .long (zL y2))] dX10_weigh_77 (by decide) rfl ?_
          refine j_iconst hx dX10_weigh_79 ?_
          refine j_istore hx [(7, .int (zI 0)), (6, .int (zI v38)), (5, .ref r5), (4, .ref r1), (0, .ref a), (1, .int (zI 10)), (2, .long (zL y2))] dX10_weigh_80 (by decide) rfl ?_
          refine j_iconst hx dX10_weigh_82 ?_
          refine j_istore hx [(8, .int (zI 0)), (7, .int (zI 0)), (6, .int (zI v38)), (5, .ref r5), (4, .ref r1), (0, .ref a), (1, .int (zI 10)), (2, .long (zL y2))] dX10_weigh_83 (by decide) rfl ?_
          have c85_14 : ∀ (m_c85_14 : Nat) (v40 : Int) (v41 : Int) (s15 : zS), 2147483648 - v41 < m_c85_14 → ((-2147483648) ≤ v40 ∧ v40 ≤ 2147483647) → (0 ≤ v41 ∧ v41 ≤ 3) → (zSK G s15) → (zFr [1, 7, 11, 41] G s13 s15) → JJ X E 9 G s15 0 0 [(0, .ref a), (1, .int (zI 10)), (2, .long (zL y2)), (4, .ref r1), (5, .ref r5), (6, .int (zI v38)), (7, .int (zI v40)), (8, .int (zI v41))] 85 [] := by
            intro m_c85_14
            induction m_c85_14 with
            | zero => intro v40 v41 s15 hm_c85_14 fA16 fA17 hS_s15 hF_s15; exfalso; omega
            | succ m_c85_14 ih_c85_14 => 
              intro v40 v41 s15 hm_c85_14 fA16 fA17 hS_s15 hF_s15
              refine j_iload hx 7 dX10_weigh_85 rfl ?_
              refine j_aload_n hx 0 dX10_weigh_87 rfl ?_
              refine g11_0 hx hG ha kf_RX10_17 dX10_weigh_88 ?_
              have f42 := zf hS0 (zr (k := 0) (t2 := 9) hG ha rfl) (k := 4) rfl
              refine gN9_4 hx hG (zr (k := 0) (t2 := 9) hG ha rfl) kf_RX10_104 (v := (s0 (gP G a 0) 4)) (by rw [(zFr_g hF_s15 (zr (k := 0) (t2 := 9) hG ha rfl) (by decide)), (zFr_g hF_s13 (zr (k := 0) (t2 := 9) hG ha rfl) (by decide))]) dX10_weigh_91 ?_
              refine j_icmp_ge hx 178 dX10_weigh_94 rfl (by omega) (by omega) (fun h43 => ?_) (fun h43 => ?_)
              · skip
                refine j_iload hx 6 dX10_weigh_178 rfl ?_
                refine j_if_le hx 202 dX10_weigh_180 rfl (by omega) (fun h44 => ?_) (fun h44 => ?_)
                · skip
                  exact j_vret hx hq rfl (by decide) (by decide) dX10_weigh_202 ⟨rfl, rfl, hS_s15, (zFr_t (zFr_t zFr_rf hF_s13 (by decide)) hF_s15 (by decide)), trivial⟩
                · skip
                  refine j_aload hx 4 dX10_weigh_183 rfl ?_
                  refine j_aload hx 3 dX10_weigh_185 rfl ?_
                  refine j_callV hx hG (c_X0_become hst r5 r1) lk_RX10_26 q6.1 (by decide) rfl rfl rfl rfl [.ref r1] ⟨rfl, hG, hS_s15, q6.1, q2.1⟩ rfl rfl ⟨by decide, by decide⟩ ⟨by decide, by decide⟩ (k2 := 0) (n2 := 0) rfl rfl (Nat.le_of_ble_eq_true rfl) dX10_weigh_187 (kVM (fun s20 hS_s20 hF_s20 q46 => ?_))
                  refine j_aload_n hx 0 dX10_weigh_190 rfl ?_
                  refine j_iload_n hx 1 dX10_weigh_191 rfl ?_
                  refine j_iconst hx dX10_weigh_192 ?_
                  refine j_iadd hx (r := 11) dX10_weigh_193 (by omega) ?_
                  refine j_lload_n hx 2 dX10_weigh_194 rfl ?_
                  refine j_iload hx 6 dX10_weigh_195 rfl ?_
                  refine j_i2l hx dX10_weigh_197 (by omega) ?_
                  refine j_lmul hx dX10_weigh_198 (fun w47 f48 f49 => ?_)
                  refine j_callV hx hG (c_X10_weigh_11 hst a 11 w47) lk_RX10_92 ha (by decide) rfl rfl rfl rfl [.int (zI 11), .long (zL w47)] ⟨rfl, hG, hS_s20, ha, (by omega), (by omega)⟩ rfl rfl ⟨by decide, by decide⟩ ⟨by decide, by decide⟩ (k2 := 0) (n2 := 0) rfl rfl (Nat.le_of_ble_eq_true rfl) dX10_weigh_199 (kVM (fun s21 hS_s21 hF_s21 q51 => ?_))
                  exact j_vret hx hq rfl (by decide) (by decide) dX10_weigh_202 ⟨rfl, rfl, hS_s21, (zFr_t (zFr_t (zFr_t (zFr_t zFr_rf hF_s13 (by decide)) hF_s15 (by decide)) hF_s20 (by decide)) hF_s21 (by decide)), trivial⟩
              · skip
                refine j_iload hx 5 dX10_weigh_97 rfl ?_
                refine j_iconst hx dX10_weigh_99 ?_
                have c172_22 : ∀ (v52 : Int) (s23 : zS), ((-2147483648) ≤ v52 ∧ v52 ≤ 2147483647) → (zSK G s23) → (zFr [1, 7, 11, 41] G s15 s23) → JJ X E 9 G s23 0 0 [(0, .ref a), (1, .int (zI 10)), (2, .long (zL y2)), (4, .ref r1), (5, .ref r5), (6, .int (zI v38)), (7, .int (zI v52)), (8, .int (zI v41))] 172 [] := by
                  intro v52 s23 fA24 hS_s23 hF_s23
                  refine j_iinc hx 7 [(8, .int (zI (v41 + 1))), (0, .ref a), (1, .int (zI 10)), (2, .long (zL y2)), (4, .ref r1), (5, .ref r5), (6, .int (zI v38)), (7, .int (zI v52))] dX10_weigh_172 rfl (by omega) (by decide) rfl ?_
                  refine j_goto hx 85 dX10_weigh_175 rfl ?_
                  exact j_sub [1, 2, 3, 4, 5, 6, 7, 0] [(0, .ref a), (1, .int (zI 10)), (2, .long (zL y2)), (4, .ref r1), (5, .ref r5), (6, .int (zI v38)), (7, .int (zI v52)), (8, .int (zI (v41 + 1)))] rfl (ih_c85_14 v52 (v41 + 1) s23 (by omega) (by omega) (by omega) hS_s23 (zFr_t (zFr_t zFr_rf hF_s15 (by decide)) hF_s23 (by decide)))
                have c113_27 : JJ X E 9 G s15 0 0 [(0, .ref a), (1, .int (zI 10)), (2, .long (zL y2)), (4, .ref r1), (5, .ref r5), (6, .int (zI v38)), (7, .int (zI v40)), (8, .int (zI v41))] 113 [] := by
                  refine j_iload hx 6 dX10_weigh_113 rfl ?_
                  refine j_aload_n hx 0 dX10_weigh_115 rfl ?_
                  refine g11_0 hx hG ha kf_RX10_17 dX10_weigh_116 ?_
                  refine j_iload hx 7 dX10_weigh_119 rfl ?_
                  refine j_iconst hx dX10_weigh_121 ?_
                  refine j_callV hx hG (c_X8_trait hst (gP G a 0) v41 0) lk_RX10_107 (zr (k := 0) (t2 := 9) hG ha rfl) (by decide) rfl rfl rfl rfl [.int (zI v41), .int (zI 0)] ⟨rfl, hG, hS_s15, (zr (k := 0) (t2 := 9) hG ha rfl), (by omega), (by omega)⟩ rfl rfl ⟨by decide, by decide⟩ ⟨by decide, by decide⟩ (k2 := 0) (n2 := 0) rfl rfl (Nat.le_of_ble_eq_true rfl) dX10_weigh_122 (kIP (fun v53 q54 => ?_))
                  refine j_iadd hx (r := v40 + v53) dX10_weigh_125 rfl ?_
                  refine j_norm (fun v55 f56 f57 f58 => ?_)
                  refine j_istore hx [(7, .int (zI v55)), (0, .ref a), (1, .int (zI 10)), (2, .long (zL y2)), (4, .ref r1), (5, .ref r5), (6, .int (zI v38)), (8, .int (zI v41))] dX10_weigh_126 (by decide) rfl ?_
                  refine j_goto hx 172 dX10_weigh_128 rfl ?_
                  exact j_sub [1, 2, 3, 4, 5, 6, 0, 7] [(0, .ref a), (1, .int (zI 10)), (2, .long (zL y2)), (4, .ref r1), (5, .ref r5), (6, .int (zI v38)), (7, .int (zI v55)), (8, .int (zI v41))] rfl (c172_22 v55 s15 (by omega) hS_s15 zFr_rf)
                refine j_icmp_eq hx 113 dX10_weigh_100 rfl (by omega) ⟨by decide, by decide⟩ (fun h59 => ?_) (fun h59 => ?_)
                · skip
                  exact j_sub [0, 1, 2, 3, 4, 5, 6, 7] [(0, .ref a), (1, .int (zI 10)), (2, .long (zL y2)), (4, .ref r1), (5, .ref r5), (6, .int (zI v38)), (7, .int (zI v40)), (8, .int (zI v41))] rfl (c113_27  )
                · skip
                  refine j_aload hx 3 dX10_weigh_103 rfl ?_
                  refine j_iload hx 7 dX10_weigh_105 rfl ?_
                  refine j_callV hx hG (c_X0_isOut hst r1 v41) lk_RX10_73 q2.1 (by decide) rfl rfl rfl rfl [.int (zI v41)] ⟨rfl, hG, hS_s15, q2.1, (by omega)⟩ rfl rfl ⟨by decide, by decide⟩ ⟨by decide, by decide⟩ (k2 := 0) (n2 := 0) rfl rfl (Nat.le_of_ble_eq_true rfl) dX10_weigh_107 (kIP (fun v60 q61 => ?_))
                  refine j_if_eq hx 131 dX10_weigh_110 rfl (by omega) (fun h62 => ?_) (fun h62 => ?_)
                  · skip
                    refine j_aload hx 4 dX10_weigh_131 rfl ?_
                    refine j_aload hx 3 dX10_weigh_133 rfl ?_
                    refine j_callV hx hG (c_X0_become hst r5 r1) lk_RX10_26 q6.1 (by decide) rfl rfl rfl rfl [.ref r1] ⟨rfl, hG, hS_s15, q6.1, q2.1⟩ rfl rfl ⟨by decide, by decide⟩ ⟨by decide, by decide⟩ (k2 := 0) (n2 := 0) rfl rfl (Nat.le_of_ble_eq_true rfl) dX10_weigh_135 (kVM (fun s28 hS_s28 hF_s28 q64 => ?_))
                    refine j_aload hx 4 dX10_weigh_138 rfl ?_
                    refine j_iload hx 7 dX10_weigh_140 rfl ?_
                    refine j_iload hx 5 dX10_weigh_142 rfl ?_
                    refine j_aload_n hx 0 dX10_weigh_144 rfl ?_
                    have f65 := zf hS_s15 ha (k := 3) rfl
                    refine g11_3 hx hG ha kf_RX10_45 (v := (s15 a 3)) (by rw [(zFr_g hF_s28 ha (by decide))]) dX10_weigh_145 ?_
                    refine j_callV hx hG (c_X0_win hst r5 v41 v38 ((s15 a 3))) lk_RX10_69 q6.1 (by decide) rfl rfl rfl rfl [.int (zI v41), .int (zI v38), .int (zI ((s15 a 3)))] ⟨rfl, hG, hS_s28, q6.1, (by omega), (by omega), (by omega)⟩ rfl rfl ⟨by decide, by decide⟩ ⟨by decide, by decide⟩ (k2 := 0) (n2 := 0) rfl rfl (Nat.le_of_ble_eq_true rfl) dX10_weigh_148 (kIM (fun v66 s29 hS_s29 hF_s29 q67 => ?_))
                    refine j_pop hx dX10_weigh_151 rfl ?_
                    refine j_aload_n hx 0 dX10_weigh_152 rfl ?_
                    refine j_iload_n hx 1 dX10_weigh_153 rfl ?_
                    refine j_iconst hx dX10_weigh_154 ?_
                    refine j_iadd hx (r := 11) dX10_weigh_155 (by omega) ?_
                    refine j_lload_n hx 2 dX10_weigh_156 rfl ?_
                    refine j_aload_n hx 0 dX10_weigh_157 rfl ?_
                    refine g11_0 hx hG ha kf_RX10_17 dX10_weigh_158 ?_
                    refine j_iload hx 7 dX10_weigh_161 rfl ?_
                    refine j_iconst hx dX10_weigh_163 ?_
                    refine j_callV hx hG (c_X8_trait hst (gP G a 0) v41 0) lk_RX10_107 (zr (k := 0) (t2 := 9) hG ha rfl) (by decide) rfl rfl rfl rfl [.int (zI v41), .int (zI 0)] ⟨rfl, hG, hS_s29, (zr (k := 0) (t2 := 9) hG ha rfl), (by omega), (by omega)⟩ rfl rfl ⟨by decide, by decide⟩ ⟨by decide, by decide⟩ (k2 := 0) (n2 := 0) rfl rfl (Nat.le_of_ble_eq_true rfl) dX10_weigh_164 (kIP (fun v68 q69 => ?_))
                    refine j_i2l hx dX10_weigh_167 (by omega) ?_
                    refine j_lmul hx dX10_weigh_168 (fun w70 f71 f72 => ?_)
                    refine j_callV hx hG (c_X10_weigh_11 hst a 11 w70) lk_RX10_92 ha (by decide) rfl rfl rfl rfl [.int (zI 11), .long (zL w70)] ⟨rfl, hG, hS_s29, ha, (by omega), (by omega)⟩ rfl rfl ⟨by decide, by decide⟩ ⟨by decide, by decide⟩ (k2 := 0) (n2 := 0) rfl rfl (Nat.le_of_ble_eq_true rfl) dX10_weigh_169 (kVM (fun s30 hS_s30 hF_s30 q74 => ?_))
                    exact j_sub [0, 1, 2, 3, 4, 5, 6, 7] [(0, .ref a), (1, .int (zI 10)), (2, .long (zL y2)), (4, .ref r1), (5, .ref r5), (6, .int (zI v38)), (7, .int (zI v40)), (8, .int (zI v41))] rfl (c172_22 v40 s30 (by omega) hS_s30 (zFr_t (zFr_t (zFr_t zFr_rf hF_s28 (by decide)) hF_s29 (by decide)) hF_s30 (by decide)))
                  · skip
                    exact j_sub [0, 1, 2, 3, 4, 5, 6, 7] [(0, .ref a), (1, .int (zI 10)), (2, .long (zL y2)), (4, .ref r1), (5, .ref r5), (6, .int (zI v38)), (7, .int (zI v40)), (8, .int (zI v41))] rfl (c113_27  )
          exact j_sub [5, 6, 7, 4, 3, 2, 1, 0] [(0, .ref a), (1, .int (zI 10)), (2, .long (zL y2)), (4, .ref r1), (5, .ref r5), (6, .int (zI v38)), (7, .int (zI 0)), (8, .int (zI 0))] rfl (c85_14 (2147483648 * 4) 0 0 s13 (by omega) (by omega) (by omega) hS_s13 zFr_rf)
        · skip
          exact j_sub [2, 3, 4, 1] [(0, .ref a), (1, .int (zI 10)), (2, .long (zL y2)), (4, .ref r1)] rfl (c43_7 s13 hS_s13 (zFr_t zFr_rf hF_s13 (by decide)))

set_option maxHeartbeats 4000000 in
set_option maxRecDepth 20000 in
theorem c_X10_weigh_9 {E : zE} {l : Launch} (hst : l.stackTraces = false) (a : Nat) (x1 : Int) (y2 : Int) : Con E l yX10_weigh cX10_weigh 9 none { frames := 6, cells := 0, slots := 0, locals := 155 } (fun G s vs => vs = [.ref a, .int (zI x1), .long (zL y2)] ∧ zGK G ∧ zSK G s ∧ (gT G a = 11) ∧ (9 ≤ x1 ∧ x1 ≤ 9) ∧ ((-9223372036854775808) ≤ y2 ∧ y2 ≤ 9223372036854775807)) (fun G s _ => pV (fun G2 s2 => G2 = G ∧ zSK G s2 ∧ zFr [1, 7, 11, 41] G s s2 ∧ True)) := by
  refine Con.mk hst (by decide) (fun G s vs h => by rw [h.1]; exact Nat.le_of_ble_eq_true rfl) ?_
  rintro X G s0 vs ⟨rfl, hG, hS0, ha, hx1, hy2⟩ rfl hx hq
  obtain rfl : x1 = 9 := by omega
  show JJ X E 9 G s0 0 0 [(0, .ref a), (1, .int (zI 9)), (2, .long (zL y2))] 0 []
  refine j_aload_n hx 0 dX10_weigh_0 rfl ?_
  refine j_iload_n hx 1 dX10_weigh_1 rfl ?_
  refine j_callV hx hG (c_X10_boardAt hst a 9) lk_RX10_22 ha (by decide) rfl rfl rfl rfl [.int (zI 9)] ⟨rfl, hG, hS0, ha, (by omega)⟩ rfl rfl ⟨by decide, by decide⟩ ⟨by decide, by decide⟩ (k2 := 0) (n2 := 0) rfl rfl (Nat.le_of_ble_eq_true rfl) dX10_weigh_2 (kNP (fun _ => ?_) (fun r1 q2 => ?_))
  · skip
    refine j_astoreN hx [(4, .null), (0, .ref a), (1, .int (zI 9)), (2, .long (zL y2))] dX10_weigh_5 (by decide) rfl ?_
    refine j_aload_n hx 1 dX10_weigh_7 rfl ?_
    refine j_iload_n hx 2 dX10_weigh_8 rfl ?_
    refine j_iconst hx dX10_weigh_9 ?_
    refine j_iadd hx (r := 10) dX10_weigh_10 (by omega) ?_
    refine j_callV hx hG (c_X10_boardAt hst a 10) lk_RX10_22 ha (by decide) rfl rfl rfl rfl [.int (zI 10)] ⟨rfl, hG, hS0, ha, (by omega)⟩ rfl rfl ⟨by decide, by decide⟩ ⟨by decide, by decide⟩ (k2 := 0) (n2 := 0) rfl rfl (Nat.le_of_ble_eq_true rfl) dX10_weigh_11 (kNP (fun _ => ?_) (fun r3 q4 => ?_))
    · skip
      refine j_astoreN hx [(5, .null), (4, .null), (0, .ref a), (1, .int (zI 9)), (2, .long (zL y2))] dX10_weigh_14 (by decide) rfl ?_
      refine j_aloadN hx 1 dX10_weigh_16 rfl ?_
      refine j_ifnonnullN hx dX10_weigh_18 ?_
      exact j_vret hx hq rfl (by decide) (by decide) dX10_weigh_21 ⟨rfl, rfl, hS0, zFr_rf, trivial⟩
    · skip
      refine j_astore hx [(5, .ref r3), (4, .null), (0, .ref a), (1, .int (zI 9)), (2, .long (zL y2))] dX10_weigh_14 (by decide) rfl ?_
      refine j_aloadN hx 1 dX10_weigh_16 rfl ?_
      refine j_ifnonnullN hx dX10_weigh_18 ?_
      exact j_vret hx hq rfl (by decide) (by decide) dX10_weigh_21 ⟨rfl, rfl, hS0, zFr_rf, trivial⟩
  · skip
    refine j_astore hx [(4, .ref r1), (0, .ref a), (1, .int (zI 9)), (2, .long (zL y2))] dX10_weigh_5 (by decide) rfl ?_
    refine j_aload_n hx 1 dX10_weigh_7 rfl ?_
    refine j_iload_n hx 2 dX10_weigh_8 rfl ?_
    refine j_iconst hx dX10_weigh_9 ?_
    refine j_iadd hx (r := 10) dX10_weigh_10 (by omega) ?_
    refine j_callV hx hG (c_X10_boardAt hst a 10) lk_RX10_22 ha (by decide) rfl rfl rfl rfl [.int (zI 10)] ⟨rfl, hG, hS0, ha, (by omega)⟩ rfl rfl ⟨by decide, by decide⟩ ⟨by decide, by decide⟩ (k2 := 0) (n2 := 0) rfl rfl (Nat.le_of_ble_eq_true rfl) dX10_weigh_11 (kNP (fun _ => ?_) (fun r5 q6 => ?_))
    · skip
      refine j_astoreN hx [(5, .null), (4, .ref r1), (0, .ref a), (1, .int (zI 9)), (2, .long (zL y2))] dX10_weigh_14 (by decide) rfl ?_
      refine j_aload hx 1 dX10_weigh_16 rfl ?_
      refine j_ifnonnull hx 22 dX10_weigh_18 rfl ?_
      refine j_iload_n hx 3 dX10_weigh_22 rfl ?_
      refine j_aload_n hx 2 dX10_weigh_23 rfl ?_
      have f7 := zf hS0 ha (k := 4) rfl
      refine g11_4 hx hG ha kf_RX10_77 rfl dX10_weigh_24 ?_
      have c43_1 : ∀ (s2 : zS), (zSK G s2) → (zFr [1, 7, 41] G s0 s2) → JJ X E 9 G s2 0 0 [(0, .ref a), (1, .int (zI 9)), (2, .long (zL y2)), (4, .ref r1)] 43 [] := by
        intro s2 hS_s2 hF_s2
        refine j_aload_n hx 0 dX10_weigh_43 rfl ?_
        refine j_dup hx dX10_weigh_44 rfl ?_
        have f8 := zf hS0 ha (k := 7) rfl
        refine g11_7 hx hG ha kf_RX10_80 (v := (s0 a 7)) (by rw [(zFr_g hF_s2 ha (by decide))]) dX10_weigh_45 ?_
        refine j_aload_n hx 0 dX10_weigh_48 rfl ?_
        refine j_aload hx 3 dX10_weigh_49 rfl ?_
        refine j_callV hx hG (c_X10_leads hst a r1) lk_RX10_96 ha (by decide) rfl rfl rfl rfl [.ref r1] ⟨rfl, hG, hS_s2, ha, q2.1⟩ rfl rfl ⟨by decide, by decide⟩ ⟨by decide, by decide⟩ (k2 := 0) (n2 := 0) rfl rfl (Nat.le_of_ble_eq_true rfl) dX10_weigh_51 (kIP (fun v9 q10 => ?_))
        refine j_if_eq hx 66 dX10_weigh_54 rfl (by omega) (fun h11 => ?_) (fun h11 => ?_)
        · skip
          refine j_lconst hx dX10_weigh_66 ?_
          show JJ X E 9 G s2 0 0 [(0, .ref a), (1, .int (zI 9)), (2, .long (zL y2)), (4, .ref r1)] 67 [.long (zL 0), .long (zL ((s0 a 7))), .ref a]
          refine j_ladd hx dX10_weigh_67 (fun w12 f13 f14 => ?_)
          refine p11_7 hx hG ha kf_RX10_80 dX10_weigh_68 ?_
          obtain ⟨s5, e_s5⟩ : ∃ z, z = zU s2 a 7 w12 := ⟨_, rfl⟩
          rw [← e_s5]
          have hS_s5 : zSK G s5 := by rw [e_s5]; exact zSK_F hS_s2 ha rfl rfl rfl (by omega)
          exact j_vret hx hq rfl (by decide) (by decide) dX10_weigh_71 ⟨rfl, rfl, hS_s5, (zFr_u (zFr_t zFr_rf hF_s2 (by decide)) e_s5 ha (by decide)), trivial⟩
        · skip
          refine j_aload_n hx 0 dX10_weigh_57 rfl ?_
          refine j_iload_n hx 1 dX10_weigh_58 rfl ?_
          refine j_lload_n hx 2 dX10_weigh_59 rfl ?_
          refine j_callV hx hG (c_X10_allWays hst a 9 y2) lk_RX10_100 ha (by decide) rfl rfl rfl rfl [.int (zI 9), .long (zL y2)] ⟨rfl, hG, hS_s2, ha, (by omega), (by omega)⟩ rfl rfl ⟨by decide, by decide⟩ ⟨by decide, by decide⟩ (k2 := 0) (n2 := 0) rfl rfl (Nat.le_of_ble_eq_true rfl) dX10_weigh_60 (kLP (fun v15 q16 => ?_))
          refine j_goto hx 67 dX10_weigh_63 rfl ?_
          refine j_ladd hx dX10_weigh_67 (fun w17 f18 f19 => ?_)
          refine p11_7 hx hG ha kf_RX10_80 dX10_weigh_68 ?_
          obtain ⟨s6, e_s6⟩ : ∃ z, z = zU s2 a 7 w17 := ⟨_, rfl⟩
          rw [← e_s6]
          have hS_s6 : zSK G s6 := by rw [e_s6]; exact zSK_F hS_s2 ha rfl rfl rfl (by omega)
          exact j_vret hx hq rfl (by decide) (by decide) dX10_weigh_71 ⟨rfl, rfl, hS_s6, (zFr_u (zFr_t zFr_rf hF_s2 (by decide)) e_s6 ha (by decide)), trivial⟩
      refine j_icmp_ge hx 43 dX10_weigh_27 rfl ⟨by decide, by decide⟩ (by omega) (fun h20 => ?_) (fun h20 => ?_)
      · skip
        exact j_sub [2, 3, 4, 1] [(0, .ref a), (1, .int (zI 9)), (2, .long (zL y2)), (4, .ref r1)] rfl (c43_1 s0 hS0 zFr_rf)
      · skip
        refine j_aloadN hx 0 dX10_weigh_30 rfl ?_
        refine j_ifnullN hx 43 dX10_weigh_32 rfl ?_
        exact j_sub [2, 3, 4, 1] [(0, .ref a), (1, .int (zI 9)), (2, .long (zL y2)), (4, .ref r1)] rfl (c43_1 s0 hS0 zFr_rf)
    · skip
      refine j_astore hx [(5, .ref r5), (4, .ref r1), (0, .ref a), (1, .int (zI 9)), (2, .long (zL y2))] dX10_weigh_14 (by decide) rfl ?_
      refine j_aload hx 1 dX10_weigh_16 rfl ?_
      refine j_ifnonnull hx 22 dX10_weigh_18 rfl ?_
      refine j_iload_n hx 3 dX10_weigh_22 rfl ?_
      refine j_aload_n hx 2 dX10_weigh_23 rfl ?_
      have f21 := zf hS0 ha (k := 4) rfl
      refine g11_4 hx hG ha kf_RX10_77 rfl dX10_weigh_24 ?_
      have c43_7 : ∀ (s8 : zS), (zSK G s8) → (zFr [1, 7, 41] G s0 s8) → JJ X E 9 G s8 0 0 [(0, .ref a), (1, .int (zI 9)), (2, .long (zL y2)), (4, .ref r1)] 43 [] := by
        intro s8 hS_s8 hF_s8
        refine j_aload_n hx 0 dX10_weigh_43 rfl ?_
        refine j_dup hx dX10_weigh_44 rfl ?_
        have f22 := zf hS0 ha (k := 7) rfl
        refine g11_7 hx hG ha kf_RX10_80 (v := (s0 a 7)) (by rw [(zFr_g hF_s8 ha (by decide))]) dX10_weigh_45 ?_
        refine j_aload_n hx 0 dX10_weigh_48 rfl ?_
        refine j_aload hx 3 dX10_weigh_49 rfl ?_
        refine j_callV hx hG (c_X10_leads hst a r1) lk_RX10_96 ha (by decide) rfl rfl rfl rfl [.ref r1] ⟨rfl, hG, hS_s8, ha, q2.1⟩ rfl rfl ⟨by decide, by decide⟩ ⟨by decide, by decide⟩ (k2 := 0) (n2 := 0) rfl rfl (Nat.le_of_ble_eq_true rfl) dX10_weigh_51 (kIP (fun v23 q24 => ?_))
        refine j_if_eq hx 66 dX10_weigh_54 rfl (by omega) (fun h25 => ?_) (fun h25 => ?_)
        · skip
          refine j_lconst hx dX10_weigh_66 ?_
          show JJ X E 9 G s8 0 0 [(0, .ref a), (1, .int (zI 9)), (2, .long (zL y2)), (4, .ref r1)] 67 [.long (zL 0), .long (zL ((s0 a 7))), .ref a]
          refine j_ladd hx dX10_weigh_67 (fun w26 f27 f28 => ?_)
          refine p11_7 hx hG ha kf_RX10_80 dX10_weigh_68 ?_
          obtain ⟨s11, e_s11⟩ : ∃ z, z = zU s8 a 7 w26 := ⟨_, rfl⟩
          rw [← e_s11]
          have hS_s11 : zSK G s11 := by rw [e_s11]; exact zSK_F hS_s8 ha rfl rfl rfl (by omega)
          exact j_vret hx hq rfl (by decide) (by decide) dX10_weigh_71 ⟨rfl, rfl, hS_s11, (zFr_u (zFr_t zFr_rf hF_s8 (by decide)) e_s11 ha (by decide)), trivial⟩
        · skip
          refine j_aload_n hx 0 dX10_weigh_57 rfl ?_
          refine j_iload_n hx 1 dX10_weigh_58 rfl ?_
          refine j_lload_n hx 2 dX10_weigh_59 rfl ?_
          refine j_callV hx hG (c_X10_allWays hst a 9 y2) lk_RX10_100 ha (by decide) rfl rfl rfl rfl [.int (zI 9), .long (zL y2)] ⟨rfl, hG, hS_s8, ha, (by omega), (by omega)⟩ rfl rfl ⟨by decide, by decide⟩ ⟨by decide, by decide⟩ (k2 := 0) (n2 := 0) rfl rfl (Nat.le_of_ble_eq_true rfl) dX10_weigh_60 (kLP (fun v29 q30 => ?_))
          refine j_goto hx 67 dX10_weigh_63 rfl ?_
          refine j_ladd hx dX10_weigh_67 (fun w31 f32 f33 => ?_)
          refine p11_7 hx hG ha kf_RX10_80 dX10_weigh_68 ?_
          obtain ⟨s12, e_s12⟩ : ∃ z, z = zU s8 a 7 w31 := ⟨_, rfl⟩
          rw [← e_s12]
          have hS_s12 : zSK G s12 := by rw [e_s12]; exact zSK_F hS_s8 ha rfl rfl rfl (by omega)
          exact j_vret hx hq rfl (by decide) (by decide) dX10_weigh_71 ⟨rfl, rfl, hS_s12, (zFr_u (zFr_t zFr_rf hF_s8 (by decide)) e_s12 ha (by decide)), trivial⟩
      refine j_icmp_ge hx 43 dX10_weigh_27 rfl ⟨by decide, by decide⟩ (by omega) (fun h34 => ?_) (fun h34 => ?_)
      · skip
        exact j_sub [2, 3, 4, 1] [(0, .ref a), (1, .int (zI 9)), (2, .long (zL y2)), (4, .ref r1)] rfl (c43_7 s0 hS0 zFr_rf)
      · skip
        refine j_aload hx 0 dX10_weigh_30 rfl ?_
        refine j_ifnull hx dX10_weigh_32 ?_
        refine j_aload hx 1 dX10_weigh_35 rfl ?_
        refine j_callV hx hG (c_X0_step hst r1) lk_RX10_33 q2.1 (by decide) rfl rfl rfl rfl [] ⟨rfl, hG, hS0, q2.1⟩ rfl rfl ⟨by decide, by decide⟩ ⟨by decide, by decide⟩ (k2 := 0) (n2 := 0) rfl rfl (Nat.le_of_ble_eq_true rfl) dX10_weigh_37 (kIM (fun v35 s13 hS_s13 hF_s13 q36 => ?_))
        refine j_if_ne hx 72 dX10_weigh_40 rfl (by omega) (fun h37 => ?_) (fun h37 => ?_)
        · skip
          refine j_aload hx 1 dX10_weigh_72 rfl ?_
          refine j_callV hx hG (c_X0_likeTops hst r1) lk_RX10_37 q2.1 (by decide) rfl rfl rfl rfl [] ⟨rfl, hG, hS_s13, q2.1⟩ rfl rfl ⟨by decide, by decide⟩ ⟨by decide, by decide⟩ (k2 := 0) (n2 := 0) rfl rfl (Nat.le_of_ble_eq_true rfl) dX10_weigh_74 (kIP (fun v38 q39 => ?_))
          refine j_istore hx [(6, .int (zI v38)), (5, .ref r5), (4, .ref r1), (0, .ref a), (1, .int (zI 9)), (2, .long (zL y2))] dX10_weigh_77 (by decide) rfl ?_
          refine j_iconst hx dX10_weigh_79 ?_
          refine j_istore hx [(7, .int (zI 0)), (6, .int (zI v38)), (5, .ref r5), (4, .ref r1), (0, .ref a), (1, .int (zI 9)), (2, .long (zL y2))] dX10_weigh_80 (by decide) rfl ?_
          refine j_iconst hx dX10_weigh_82 ?_
          refine j_istore hx [(8, .int (zI 0)), (7, .int (zI 0)), (6, .int (zI v38)), (5, .ref r5), (4, .ref r1), (0, .ref a), (1, .int (zI 9)), (2, .long (zL y2))] dX10_weigh_83 (by decide) rfl ?_
          have c85_14 : ∀ (m_c85_14 : Nat) (v40 : Int) (v41 : Int) (s15 : zS), 2147483648 - v41 < m_c85_14 → ((-2147483648) ≤ v40 ∧ v40 ≤ 2147483647) → (0 ≤ v41 ∧ v41 ≤ 3) → (zSK G s15) → (zFr [1, 7, 11, 41] G s13 s15) → JJ X E 9 G s15 0 0 [(0, .ref a), (1, .int (zI 9)), (2, .long (zL y2)), (4, .ref r1), (5, .ref r5), (6, .int (zI v38)), (7, .int (zI v40)), (8, .int (zI v41))] 85 [] := by
            intro m_c85_14
            induction m_c85_14 with
            | zero => intro v40 v41 s15 hm_c85_14 fA16 fA17 hS_s15 hF_s15; exfalso; omega
            | succ m_c85_14 ih_c85_14 => 
              intro v40 v41 s15 hm_c85_14 fA16 fA17 hS_s15 hF_s15
              refine j_iload hx 7 dX10_weigh_85 rfl ?_
              refine j_aload_n hx 0 dX10_weigh_87 rfl ?_
              refine g11_0 hx hG ha kf_RX10_17 dX10_weigh_88 ?_
              have f42 := zf hS0 (zr (k := 0) (t2 := 9) hG ha rfl) (k := 4) rfl
              refine gN9_4 hx hG (zr (k := 0) (t2 := 9) hG ha rfl) kf_RX10_104 (v := (s0 (gP G a 0) 4)) (by rw [(zFr_g hF_s15 (zr (k := 0) (t2 := 9) hG ha rfl) (by decide)), (zFr_g hF_s13 (zr (k := 0) (t2 := 9) hG ha rfl) (by decide))]) dX10_weigh_91 ?_
              refine j_icmp_ge hx 178 dX10_weigh_94 rfl (by omega) (by omega) (fun h43 => ?_) (fun h43 => ?_)
              · skip
                refine j_iload hx 6 dX10_weigh_178 rfl ?_
                refine j_if_le hx 202 dX10_weigh_180 rfl (by omega) (fun h44 => ?_) (fun h44 => ?_)
                · skip
                  exact j_vret hx hq rfl (by decide) (by decide) dX10_weigh_202 ⟨rfl, rfl, hS_s15, (zFr_t (zFr_t zFr_rf hF_s13 (by decide)) hF_s15 (by decide)), trivial⟩
                · skip
                  refine j_aload hx 4 dX10_weigh_183 rfl ?_
                  refine j_aload hx 3 dX10_weigh_185 rfl ?_
                  refine j_callV hx hG (c_X0_become hst r5 r1) lk_RX10_26 q6.1 (by decide) rfl rfl rfl rfl [.ref r1] ⟨rfl, hG, hS_s15, q6.1, q2.1⟩ rfl rfl ⟨by decide, by decide⟩ ⟨by decide, by decide⟩ (k2 := 0) (n2 := 0) rfl rfl (Nat.le_of_ble_eq_true rfl) dX10_weigh_187 (kVM (fun s20 hS_s20 hF_s20 q46 => ?_))
                  refine j_aload_n hx 0 dX10_weigh_190 rfl ?_
                  refine j_iload_n hx 1 dX10_weigh_191 rfl ?_
                  refine j_iconst hx dX10_weigh_192 ?_
                  refine j_iadd hx (r := 10) dX10_weigh_193 (by omega) ?_
                  refine j_lload_n hx 2 dX10_weigh_194 rfl ?_
                  refine j_iload hx 6 dX10_weigh_195 rfl ?_
                  refine j_i2l hx dX10_weigh_197 (by omega) ?_
                  refine j_lmul hx dX10_weigh_198 (fun w47 f48 f49 => ?_)
                  refine j_callV hx hG (c_X10_weigh_10 hst a 10 w47) lk_RX10_92 ha (by decide) rfl rfl rfl rfl [.int (zI 10), .long (zL w47)] ⟨rfl, hG, hS_s20, ha, (by omega), (by omega)⟩ rfl rfl ⟨by decide, by decide⟩ ⟨by decide, by decide⟩ (k2 := 0) (n2 := 0) rfl rfl (Nat.le_of_ble_eq_true rfl) dX10_weigh_199 (kVM (fun s21 hS_s21 hF_s21 q51 => ?_))
                  exact j_vret hx hq rfl (by decide) (by decide) dX10_weigh_202 ⟨rfl, rfl, hS_s21, (zFr_t (zFr_t (zFr_t (zFr_t zFr_rf hF_s13 (by decide)) hF_s15 (by decide)) hF_s20 (by decide)) hF_s21 (by decide)), trivial⟩
              · skip
                refine j_iload hx 5 dX10_weigh_97 rfl ?_
                refine j_iconst hx dX10_weigh_99 ?_
                have c172_22 : ∀ (v52 : Int) (s23 : zS), ((-2147483648) ≤ v52 ∧ v52 ≤ 2147483647) → (zSK G s23) → (zFr [1, 7, 11, 41] G s15 s23) → JJ X E 9 G s23 0 0 [(0, .ref a), (1, .int (zI 9)), (2, .long (zL y2)), (4, .ref r1), (5, .ref r5), (6, .int (zI v38)), (7, .int (zI v52)), (8, .int (zI v41))] 172 [] := by
                  intro v52 s23 fA24 hS_s23 hF_s23
                  refine j_iinc hx 7 [(8, .int (zI (v41 + 1))), (0, .ref a), (1, .int (zI 9)), (2, .long (zL y2)), (4, .ref r1), (5, .ref r5), (6, .int (zI v38)), (7, .int (zI v52))] dX10_weigh_172 rfl (by omega) (by decide) rfl ?_
                  refine j_goto hx 85 dX10_weigh_175 rfl ?_
                  exact j_sub [1, 2, 3, 4, 5, 6, 7, 0] [(0, .ref a), (1, .int (zI 9)), (2, .long (zL y2)), (4, .ref r1), (5, .ref r5), (6, .int (zI v38)), (7, .int (zI v52)), (8, .int (zI (v41 + 1)))] rfl (ih_c85_14 v52 (v41 + 1) s23 (by omega) (by omega) (by omega) hS_s23 (zFr_t (zFr_t zFr_rf hF_s15 (by decide)) hF_s23 (by decide)))
                have c113_27 : JJ X E 9 G s15 0 0 [(0, .ref a), (1, .int (zI 9)), (2, .long (zL y2)), (4, .ref r1), (5, .ref r5), (6, .int (zI v38)), (7, .int (zI v40)), (8, .int (zI v41))] 113 [] := by
                  refine j_iload hx 6 dX10_weigh_113 rfl ?_
                  refine j_aload_n hx 0 dX10_weigh_115 rfl ?_
                  refine g11_0 hx hG ha kf_RX10_17 dX10_weigh_116 ?_
                  refine j_iload hx 7 dX10_weigh_119 rfl ?_
                  refine j_iconst hx dX10_weigh_121 ?_
                  refine j_callV hx hG (c_X8_trait hst (gP G a 0) v41 0) lk_RX10_107 (zr (k := 0) (t2 := 9) hG ha rfl) (by decide) rfl rfl rfl rfl [.int (zI v41), .int (zI 0)] ⟨rfl, hG, hS_s15, (zr (k := 0) (t2 := 9) hG ha rfl), (by omega), (by omega)⟩ rfl rfl ⟨by decide, by decide⟩ ⟨by decide, by decide⟩ (k2 := 0) (n2 := 0) rfl rfl (Nat.le_of_ble_eq_true rfl) dX10_weigh_122 (kIP (fun v53 q54 => ?_))
                  refine j_iadd hx (r := v40 + v53) dX10_weigh_125 rfl ?_
                  refine j_norm (fun v55 f56 f57 f58 => ?_)
                  refine j_istore hx [(7, .int (zI v55)), (0, .ref a), (1, .int (zI 9)), (2, .long (zL y2)), (4, .ref r1), (5, .ref r5), (6, .int (zI v38)), (8, .int (zI v41))] dX10_weigh_126 (by decide) rfl ?_
                  refine j_goto hx 172 dX10_weigh_128 rfl ?_
                  exact j_sub [1, 2, 3, 4, 5, 6, 0, 7] [(0, .ref a), (1, .int (zI 9)), (2, .long (zL y2)), (4, .ref r1), (5, .ref r5), (6, .int (zI v38)), (7, .int (zI v55)), (8, .int (zI v41))] rfl (c172_22 v55 s15 (by omega) hS_s15 zFr_rf)
                refine j_icmp_eq hx 113 dX10_weigh_100 rfl (by omega) ⟨by decide, by decide⟩ (fun h59 => ?_) (fun h59 => ?_)
                · skip
                  exact j_sub [0, 1, 2, 3, 4, 5, 6, 7] [(0, .ref a), (1, .int (zI 9)), (2, .long (zL y2)), (4, .ref r1), (5, .ref r5), (6, .int (zI v38)), (7, .int (zI v40)), (8, .int (zI v41))] rfl (c113_27  )
                · skip
                  refine j_aload hx 3 dX10_weigh_103 rfl ?_
                  refine j_iload hx 7 dX10_weigh_105 rfl ?_
                  refine j_callV hx hG (c_X0_isOut hst r1 v41) lk_RX10_73 q2.1 (by decide) rfl rfl rfl rfl [.int (zI v41)] ⟨rfl, hG, hS_s15, q2.1, (by omega)⟩ rfl rfl ⟨by decide, by decide⟩ ⟨by decide, by decide⟩ (k2 := 0) (n2 := 0) rfl rfl (Nat.le_of_ble_eq_true rfl) dX10_weigh_107 (kIP (fun v60 q61 => ?_))
                  refine j_if_eq hx 131 dX10_weigh_110 rfl (by omega) (fun h62 => ?_) (fun h62 => ?_)
                  · skip
                    refine j_aload hx 4 dX10_weigh_131 rfl ?_
                    refine j_aload hx 3 dX10_weigh_133 rfl ?_
                    refine j_callV hx hG (c_X0_become hst r5 r1) lk_RX10_26 q6.1 (by decide) rfl rfl rfl rfl [.ref r1] ⟨rfl, hG, hS_s15, q6.1, q2.1⟩ rfl rfl ⟨by decide, by decide⟩ ⟨by decide, by decide⟩ (k2 := 0) (n2 := 0) rfl rfl (Nat.le_of_ble_eq_true rfl) dX10_weigh_135 (kVM (fun s28 hS_s28 hF_s28 q64 => ?_))
                    refine j_aload hx 4 dX10_weigh_138 rfl ?_
                    refine j_iload hx 7 dX10_weigh_140 rfl ?_
                    refine j_iload hx 5 dX10_weigh_142 rfl ?_
                    refine j_aload_n hx 0 dX10_weigh_144 rfl ?_
                    have f65 := zf hS_s15 ha (k := 3) rfl
                    refine g11_3 hx hG ha kf_RX10_45 (v := (s15 a 3)) (by rw [(zFr_g hF_s28 ha (by decide))]) dX10_weigh_145 ?_
                    refine j_callV hx hG (c_X0_win hst r5 v41 v38 ((s15 a 3))) lk_RX10_69 q6.1 (by decide) rfl rfl rfl rfl [.int (zI v41), .int (zI v38), .int (zI ((s15 a 3)))] ⟨rfl, hG, hS_s28, q6.1, (by omega), (by omega), (by omega)⟩ rfl rfl ⟨by decide, by decide⟩ ⟨by decide, by decide⟩ (k2 := 0) (n2 := 0) rfl rfl (Nat.le_of_ble_eq_true rfl) dX10_weigh_148 (kIM (fun v66 s29 hS_s29 hF_s29 q67 => ?_))
                    refine j_pop hx dX10_weigh_151 rfl ?_
                    refine j_aload_n hx 0 dX10_weigh_152 rfl ?_
                    refine j_iload_n hx 1 dX10_weigh_153 rfl ?_
                    refine j_iconst hx dX10_weigh_154 ?_
                    refine j_iadd hx (r := 10) dX10_weigh_155 (by omega) ?_
                    refine j_lload_n hx 2 dX10_weigh_156 rfl ?_
                    refine j_aload_n hx 0 dX10_weigh_157 rfl ?_
                    refine g11_0 hx hG ha kf_RX10_17 dX10_weigh_158 ?_
                    refine j_iload hx 7 dX10_weigh_161 rfl ?_
                    refine j_iconst hx dX10_weigh_163 ?_
                    refine j_callV hx hG (c_X8_trait hst (gP G a 0) v41 0) lk_RX10_107 (zr (k := 0) (t2 := 9) hG ha rfl) (by decide) rfl rfl rfl rfl [.int (zI v41), .int (zI 0)] ⟨rfl, hG, hS_s29, (zr (k := 0) (t2 := 9) hG ha rfl), (by omega), (by omega)⟩ rfl rfl ⟨by decide, by decide⟩ ⟨by decide, by decide⟩ (k2 := 0) (n2 := 0) rfl rfl (Nat.le_of_ble_eq_true rfl) dX10_weigh_164 (kIP (fun v68 q69 => ?_))
                    refine j_i2l hx dX10_weigh_167 (by omega) ?_
                    refine j_lmul hx dX10_weigh_168 (fun w70 f71 f72 => ?_)
                    refine j_callV hx hG (c_X10_weigh_10 hst a 10 w70) lk_RX10_92 ha (by decide) rfl rfl rfl rfl [.int (zI 10), .long (zL w70)] ⟨rfl, hG, hS_s29, ha, (by omega), (by omega)⟩ rfl rfl ⟨by decide, by decide⟩ ⟨by decide, by decide⟩ (k2 := 0) (n2 := 0) rfl rfl (Nat.le_of_ble_eq_true rfl) dX10_weigh_169 (kVM (fun s30 hS_s30 hF_s30 q74 => ?_))
                    exact j_sub [0, 1, 2, 3, 4, 5, 6, 7] [(0, .ref a), (1, .int (zI 9)), (2, .long (zL y2)), (4, .ref r1), (5, .ref r5), (6, .int (zI v38)), (7, .int (zI v40)), (8, .int (zI v41))] rfl (c172_22 v40 s30 (by omega) hS_s30 (zFr_t (zFr_t (zFr_t zFr_rf hF_s28 (by decide)) hF_s29 (by decide)) hF_s30 (by decide)))
                  · skip
                    exact j_sub [0, 1, 2, 3, 4, 5, 6, 7] [(0, .ref a), (1, .int (zI 9)), (2, .long (zL y2)), (4, .ref r1), (5, .ref r5), (6, .int (zI v38)), (7, .int (zI v40)), (8, .int (zI v41))] rfl (c113_27  )
          exact j_sub [5, 6, 7, 4, 3, 2, 1, 0] [(0, .ref a), (1, .int (zI 9)), (2, .long (zL y2)), (4, .ref r1), (5, .ref r5), (6, .int (zI v38)), (7, .int (zI 0)), (8, .int (zI 0))] rfl (c85_14 (2147483648 * 4) 0 0 s13 (by omega) (by omega) (by omega) hS_s13 zFr_rf)
        · skip
          exact j_sub [2, 3, 4, 1] [(0, .ref a), (1, .int (zI 9)), (2, .long (zL y2)), (4, .ref r1)] rfl (c43_7 s13 hS_s13 (zFr_t zFr_rf hF_s13 (by decide)))

set_option maxHeartbeats 4000000 in
set_option maxRecDepth 20000 in
theorem c_X10_weigh_8 {E : zE} {l : Launch} (hst : l.stackTraces = false) (a : Nat) (x1 : Int) (y2 : Int) : Con E l yX10_weigh cX10_weigh 9 none { frames := 7, cells := 0, slots := 0, locals := 183 } (fun G s vs => vs = [.ref a, .int (zI x1), .long (zL y2)] ∧ zGK G ∧ zSK G s ∧ (gT G a = 11) ∧ (8 ≤ x1 ∧ x1 ≤ 8) ∧ ((-9223372036854775808) ≤ y2 ∧ y2 ≤ 9223372036854775807)) (fun G s _ => pV (fun G2 s2 => G2 = G ∧ zSK G s2 ∧ zFr [1, 7, 11, 41] G s s2 ∧ True)) := by
  refine Con.mk hst (by decide) (fun G s vs h => by rw [h.1]; exact Nat.le_of_ble_eq_true rfl) ?_
  rintro X G s0 vs ⟨rfl, hG, hS0, ha, hx1, hy2⟩ rfl hx hq
  obtain rfl : x1 = 8 := by omega
  show JJ X E 9 G s0 0 0 [(0, .ref a), (1, .int (zI 8)), (2, .long (zL y2))] 0 []
  refine j_aload_n hx 0 dX10_weigh_0 rfl ?_
  refine j_iload_n hx 1 dX10_weigh_1 rfl ?_
  refine j_callV hx hG (c_X10_boardAt hst a 8) lk_RX10_22 ha (by decide) rfl rfl rfl rfl [.int (zI 8)] ⟨rfl, hG, hS0, ha, (by omega)⟩ rfl rfl ⟨by decide, by decide⟩ ⟨by decide, by decide⟩ (k2 := 0) (n2 := 0) rfl rfl (Nat.le_of_ble_eq_true rfl) dX10_weigh_2 (kNP (fun _ => ?_) (fun r1 q2 => ?_))
  · skip
    refine j_astoreN hx [(4, .null), (0, .ref a), (1, .int (zI 8)), (2, .long (zL y2))] dX10_weigh_5 (by decide) rfl ?_
    refine j_aload_n hx 1 dX10_weigh_7 rfl ?_
    refine j_iload_n hx 2 dX10_weigh_8 rfl ?_
    refine j_iconst hx dX10_weigh_9 ?_
    refine j_iadd hx (r := 9) dX10_weigh_10 (by omega) ?_
    refine j_callV hx hG (c_X10_boardAt hst a 9) lk_RX10_22 ha (by decide) rfl rfl rfl rfl [.int (zI 9)] ⟨rfl, hG, hS0, ha, (by omega)⟩ rfl rfl ⟨by decide, by decide⟩ ⟨by decide, by decide⟩ (k2 := 0) (n2 := 0) rfl rfl (Nat.le_of_ble_eq_true rfl) dX10_weigh_11 (kNP (fun _ => ?_) (fun r3 q4 => ?_))
    · skip
      refine j_astoreN hx [(5, .null), (4, .null), (0, .ref a), (1, .int (zI 8)), (2, .long (zL y2))] dX10_weigh_14 (by decide) rfl ?_
      refine j_aloadN hx 1 dX10_weigh_16 rfl ?_
      refine j_ifnonnullN hx dX10_weigh_18 ?_
      exact j_vret hx hq rfl (by decide) (by decide) dX10_weigh_21 ⟨rfl, rfl, hS0, zFr_rf, trivial⟩
    · skip
      refine j_astore hx [(5, .ref r3), (4, .null), (0, .ref a), (1, .int (zI 8)), (2, .long (zL y2))] dX10_weigh_14 (by decide) rfl ?_
      refine j_aloadN hx 1 dX10_weigh_16 rfl ?_
      refine j_ifnonnullN hx dX10_weigh_18 ?_
      exact j_vret hx hq rfl (by decide) (by decide) dX10_weigh_21 ⟨rfl, rfl, hS0, zFr_rf, trivial⟩
  · skip
    refine j_astore hx [(4, .ref r1), (0, .ref a), (1, .int (zI 8)), (2, .long (zL y2))] dX10_weigh_5 (by decide) rfl ?_
    refine j_aload_n hx 1 dX10_weigh_7 rfl ?_
    refine j_iload_n hx 2 dX10_weigh_8 rfl ?_
    refine j_iconst hx dX10_weigh_9 ?_
    refine j_iadd hx (r := 9) dX10_weigh_10 (by omega) ?_
    refine j_callV hx hG (c_X10_boardAt hst a 9) lk_RX10_22 ha (by decide) rfl rfl rfl rfl [.int (zI 9)] ⟨rfl, hG, hS0, ha, (by omega)⟩ rfl rfl ⟨by decide, by decide⟩ ⟨by decide, by decide⟩ (k2 := 0) (n2 := 0) rfl rfl (Nat.le_of_ble_eq_true rfl) dX10_weigh_11 (kNP (fun _ => ?_) (fun r5 q6 => ?_))
    · skip
      refine j_astoreN hx [(5, .null), (4, .ref r1), (0, .ref a), (1, .int (zI 8)), (2, .long (zL y2))] dX10_weigh_14 (by decide) rfl ?_
      refine j_aload hx 1 dX10_weigh_16 rfl ?_
      refine j_ifnonnull hx 22 dX10_weigh_18 rfl ?_
      refine j_iload_n hx 3 dX10_weigh_22 rfl ?_
      refine j_aload_n hx 2 dX10_weigh_23 rfl ?_
      have f7 := zf hS0 ha (k := 4) rfl
      refine g11_4 hx hG ha kf_RX10_77 rfl dX10_weigh_24 ?_
      have c43_1 : ∀ (s2 : zS), (zSK G s2) → (zFr [1, 7, 41] G s0 s2) → JJ X E 9 G s2 0 0 [(0, .ref a), (1, .int (zI 8)), (2, .long (zL y2)), (4, .ref r1)] 43 [] := by
        intro s2 hS_s2 hF_s2
        refine j_aload_n hx 0 dX10_weigh_43 rfl ?_
        refine j_dup hx dX10_weigh_44 rfl ?_
        have f8 := zf hS0 ha (k := 7) rfl
        refine g11_7 hx hG ha kf_RX10_80 (v := (s0 a 7)) (by rw [(zFr_g hF_s2 ha (by decide))]) dX10_weigh_45 ?_
        refine j_aload_n hx 0 dX10_weigh_48 rfl ?_
        refine j_aload hx 3 dX10_weigh_49 rfl ?_
        refine j_callV hx hG (c_X10_leads hst a r1) lk_RX10_96 ha (by decide) rfl rfl rfl rfl [.ref r1] ⟨rfl, hG, hS_s2, ha, q2.1⟩ rfl rfl ⟨by decide, by decide⟩ ⟨by decide, by decide⟩ (k2 := 0) (n2 := 0) rfl rfl (Nat.le_of_ble_eq_true rfl) dX10_weigh_51 (kIP (fun v9 q10 => ?_))
        refine j_if_eq hx 66 dX10_weigh_54 rfl (by omega) (fun h11 => ?_) (fun h11 => ?_)
        · skip
          refine j_lconst hx dX10_weigh_66 ?_
          show JJ X E 9 G s2 0 0 [(0, .ref a), (1, .int (zI 8)), (2, .long (zL y2)), (4, .ref r1)] 67 [.long (zL 0), .long (zL ((s0 a 7))), .ref a]
          refine j_ladd hx dX10_weigh_67 (fun w12 f13 f14 => ?_)
          refine p11_7 hx hG ha kf_RX10_80 dX10_weigh_68 ?_
          obtain ⟨s5, e_s5⟩ : ∃ z, z = zU s2 a 7 w12 := ⟨_, rfl⟩
          rw [← e_s5]
          have hS_s5 : zSK G s5 := by rw [e_s5]; exact zSK_F hS_s2 ha rfl rfl rfl (by omega)
          exact j_vret hx hq rfl (by decide) (by decide) dX10_weigh_71 ⟨rfl, rfl, hS_s5, (zFr_u (zFr_t zFr_rf hF_s2 (by decide)) e_s5 ha (by decide)), trivial⟩
        · skip
          refine j_aload_n hx 0 dX10_weigh_57 rfl ?_
          refine j_iload_n hx 1 dX10_weigh_58 rfl ?_
          refine j_lload_n hx 2 dX10_weigh_59 rfl ?_
          refine j_callV hx hG (c_X10_allWays hst a 8 y2) lk_RX10_100 ha (by decide) rfl rfl rfl rfl [.int (zI 8), .long (zL y2)] ⟨rfl, hG, hS_s2, ha, (by omega), (by omega)⟩ rfl rfl ⟨by decide, by decide⟩ ⟨by decide, by decide⟩ (k2 := 0) (n2 := 0) rfl rfl (Nat.le_of_ble_eq_true rfl) dX10_weigh_60 (kLP (fun v15 q16 => ?_))
          refine j_goto hx 67 dX10_weigh_63 rfl ?_
          refine j_ladd hx dX10_weigh_67 (fun w17 f18 f19 => ?_)
          refine p11_7 hx hG ha kf_RX10_80 dX10_weigh_68 ?_
          obtain ⟨s6, e_s6⟩ : ∃ z, z = zU s2 a 7 w17 := ⟨_, rfl⟩
          rw [← e_s6]
          have hS_s6 : zSK G s6 := by rw [e_s6]; exact zSK_F hS_s2 ha rfl rfl rfl (by omega)
          exact j_vret hx hq rfl (by decide) (by decide) dX10_weigh_71 ⟨rfl, rfl, hS_s6, (zFr_u (zFr_t zFr_rf hF_s2 (by decide)) e_s6 ha (by decide)), trivial⟩
      refine j_icmp_ge hx 43 dX10_weigh_27 rfl ⟨by decide, by decide⟩ (by omega) (fun h20 => ?_) (fun h20 => ?_)
      · skip
        exact j_sub [2, 3, 4, 1] [(0, .ref a), (1, .int (zI 8)), (2, .long (zL y2)), (4, .ref r1)] rfl (c43_1 s0 hS0 zFr_rf)
      · skip
        refine j_aloadN hx 0 dX10_weigh_30 rfl ?_
        refine j_ifnullN hx 43 dX10_weigh_32 rfl ?_
        exact j_sub [2, 3, 4, 1] [(0, .ref a), (1, .int (zI 8)), (2, .long (zL y2)), (4, .ref r1)] rfl (c43_1 s0 hS0 zFr_rf)
    · skip
      refine j_astore hx [(5, .ref r5), (4, .ref r1), (0, .ref a), (1, .int (zI 8)), (2, .long (zL y2))] dX10_weigh_14 (by decide) rfl ?_
      refine j_aload hx 1 dX10_weigh_16 rfl ?_
      refine j_ifnonnull hx 22 dX10_weigh_18 rfl ?_
      refine j_iload_n hx 3 dX10_weigh_22 rfl ?_
      refine j_aload_n hx 2 dX10_weigh_23 rfl ?_
      have f21 := zf hS0 ha (k := 4) rfl
      refine g11_4 hx hG ha kf_RX10_77 rfl dX10_weigh_24 ?_
      have c43_7 : ∀ (s8 : zS), (zSK G s8) → (zFr [1, 7, 41] G s0 s8) → JJ X E 9 G s8 0 0 [(0, .ref a), (1, .int (zI 8)), (2, .long (zL y2)), (4, .ref r1)] 43 [] := by
        intro s8 hS_s8 hF_s8
        refine j_aload_n hx 0 dX10_weigh_43 rfl ?_
        refine j_dup hx dX10_weigh_44 rfl ?_
        have f22 := zf hS0 ha (k := 7) rfl
        refine g11_7 hx hG ha kf_RX10_80 (v := (s0 a 7)) (by rw [(zFr_g hF_s8 ha (by decide))]) dX10_weigh_45 ?_
        refine j_aload_n hx 0 dX10_weigh_48 rfl ?_
        refine j_aload hx 3 dX10_weigh_49 rfl ?_
        refine j_callV hx hG (c_X10_leads hst a r1) lk_RX10_96 ha (by decide) rfl rfl rfl rfl [.ref r1] ⟨rfl, hG, hS_s8, ha, q2.1⟩ rfl rfl ⟨by decide, by decide⟩ ⟨by decide, by decide⟩ (k2 := 0) (n2 := 0) rfl rfl (Nat.le_of_ble_eq_true rfl) dX10_weigh_51 (kIP (fun v23 q24 => ?_))
        refine j_if_eq hx 66 dX10_weigh_54 rfl (by omega) (fun h25 => ?_) (fun h25 => ?_)
        · skip
          refine j_lconst hx dX10_weigh_66 ?_
          show JJ X E 9 G s8 0 0 [(0, .ref a), (1, .int (zI 8)), (2, .long (zL y2)), (4, .ref r1)] 67 [.long (zL 0), .long (zL ((s0 a 7))), .ref a]
          refine j_ladd hx dX10_weigh_67 (fun w26 f27 f28 => ?_)
          refine p11_7 hx hG ha kf_RX10_80 dX10_weigh_68 ?_
          obtain ⟨s11, e_s11⟩ : ∃ z, z = zU s8 a 7 w26 := ⟨_, rfl⟩
          rw [← e_s11]
          have hS_s11 : zSK G s11 := by rw [e_s11]; exact zSK_F hS_s8 ha rfl rfl rfl (by omega)
          exact j_vret hx hq rfl (by decide) (by decide) dX10_weigh_71 ⟨rfl, rfl, hS_s11, (zFr_u (zFr_t zFr_rf hF_s8 (by decide)) e_s11 ha (by decide)), trivial⟩
        · skip
          refine j_aload_n hx 0 dX10_weigh_57 rfl ?_
          refine j_iload_n hx 1 dX10_weigh_58 rfl ?_
          refine j_lload_n hx 2 dX10_weigh_59 rfl ?_
          refine j_callV hx hG (c_X10_allWays hst a 8 y2) lk_RX10_100 ha (by decide) rfl rfl rfl rfl [.int (zI 8), .long (zL y2)] ⟨rfl, hG, hS_s8, ha, (by omega), (by omega)⟩ rfl rfl ⟨by decide, by decide⟩ ⟨by decide, by decide⟩ (k2 := 0) (n2 := 0) rfl rfl (Nat.le_of_ble_eq_true rfl) dX10_weigh_60 (kLP (fun v29 q30 => ?_))
          refine j_goto hx 67 dX10_weigh_63 rfl ?_
          refine j_ladd hx dX10_weigh_67 (fun w31 f32 f33 => ?_)
          refine p11_7 hx hG ha kf_RX10_80 dX10_weigh_68 ?_
          obtain ⟨s12, e_s12⟩ : ∃ z, z = zU s8 a 7 w31 := ⟨_, rfl⟩
          rw [← e_s12]
          have hS_s12 : zSK G s12 := by rw [e_s12]; exact zSK_F hS_s8 ha rfl rfl rfl (by omega)
          exact j_vret hx hq rfl (by decide) (by decide) dX10_weigh_71 ⟨rfl, rfl, hS_s12, (zFr_u (zFr_t zFr_rf hF_s8 (by decide)) e_s12 ha (by decide)), trivial⟩
      refine j_icmp_ge hx 43 dX10_weigh_27 rfl ⟨by decide, by decide⟩ (by omega) (fun h34 => ?_) (fun h34 => ?_)
      · skip
        exact j_sub [2, 3, 4, 1] [(0, .ref a), (1, .int (zI 8)), (2, .long (zL y2)), (4, .ref r1)] rfl (c43_7 s0 hS0 zFr_rf)
      · skip
        refine j_aload hx 0 dX10_weigh_30 rfl ?_
        refine j_ifnull hx dX10_weigh_32 ?_
        refine j_aload hx 1 dX10_weigh_35 rfl ?_
        refine j_callV hx hG (c_X0_step hst r1) lk_RX10_33 q2.1 (by decide) rfl rfl rfl rfl [] ⟨rfl, hG, hS0, q2.1⟩ rfl rfl ⟨by decide, by decide⟩ ⟨by decide, by decide⟩ (k2 := 0) (n2 := 0) rfl rfl (Nat.le_of_ble_eq_true rfl) dX10_weigh_37 (kIM (fun v35 s13 hS_s13 hF_s13 q36 => ?_))
        refine j_if_ne hx 72 dX10_weigh_40 rfl (by omega) (fun h37 => ?_) (fun h37 => ?_)
        · skip
          refine j_aload hx 1 dX10_weigh_72 rfl ?_
          refine j_callV hx hG (c_X0_likeTops hst r1) lk_RX10_37 q2.1 (by decide) rfl rfl rfl rfl [] ⟨rfl, hG, hS_s13, q2.1⟩ rfl rfl ⟨by decide, by decide⟩ ⟨by decide, by decide⟩ (k2 := 0) (n2 := 0) rfl rfl (Nat.le_of_ble_eq_true rfl) dX10_weigh_74 (kIP (fun v38 q39 => ?_))
          refine j_istore hx [(6, .int (zI v38)), (5, .ref r5), (4, .ref r1), (0, .ref a), (1, .int (zI 8)), (2, .long (zL y2))] dX10_weigh_77 (by decide) rfl ?_
          refine j_iconst hx dX10_weigh_79 ?_
          refine j_istore hx [(7, .int (zI 0)), (6, .int (zI v38)), (5, .ref r5), (4, .ref r1), (0, .ref a), (1, .int (zI 8)), (2, .long (zL y2))] dX10_weigh_80 (by decide) rfl ?_
          refine j_iconst hx dX10_weigh_82 ?_
          refine j_istore hx [(8, .int (zI 0)), (7, .int (zI 0)), (6, .int (zI v38)), (5, .ref r5), (4, .ref r1), (0, .ref a), (1, .int (zI 8)), (2, .long (zL y2))] dX10_weigh_83 (by decide) rfl ?_
          have c85_14 : ∀ (m_c85_14 : Nat) (v40 : Int) (v41 : Int) (s15 : zS), 2147483648 - v41 < m_c85_14 → ((-2147483648) ≤ v40 ∧ v40 ≤ 2147483647) → (0 ≤ v41 ∧ v41 ≤ 3) → (zSK G s15) → (zFr [1, 7, 11, 41] G s13 s15) → JJ X E 9 G s15 0 0 [(0, .ref a), (1, .int (zI 8)), (2, .long (zL y2)), (4, .ref r1), (5, .ref r5), (6, .int (zI v38)), (7, .int (zI v40)), (8, .int (zI v41))] 85 [] := by
            intro m_c85_14
            induction m_c85_14 with
            | zero => intro v40 v41 s15 hm_c85_14 fA16 fA17 hS_s15 hF_s15; exfalso; omega
            | succ m_c85_14 ih_c85_14 => 
              intro v40 v41 s15 hm_c85_14 fA16 fA17 hS_s15 hF_s15
              refine j_iload hx 7 dX10_weigh_85 rfl ?_
              refine j_aload_n hx 0 dX10_weigh_87 rfl ?_
              refine g11_0 hx hG ha kf_RX10_17 dX10_weigh_88 ?_
              have f42 := zf hS0 (zr (k := 0) (t2 := 9) hG ha rfl) (k := 4) rfl
              refine gN9_4 hx hG (zr (k := 0) (t2 := 9) hG ha rfl) kf_RX10_104 (v := (s0 (gP G a 0) 4)) (by rw [(zFr_g hF_s15 (zr (k := 0) (t2 := 9) hG ha rfl) (by decide)), (zFr_g hF_s13 (zr (k := 0) (t2 := 9) hG ha rfl) (by decide))]) dX10_weigh_91 ?_
              refine j_icmp_ge hx 178 dX10_weigh_94 rfl (by omega) (by omega) (fun h43 => ?_) (fun h43 => ?_)
              · skip
                refine j_iload hx 6 dX10_weigh_178 rfl ?_
                refine j_if_le hx 202 dX10_weigh_180 rfl (by omega) (fun h44 => ?_) (fun h44 => ?_)
                · skip
                  exact j_vret hx hq rfl (by decide) (by decide) dX10_weigh_202 ⟨rfl, rfl, hS_s15, (zFr_t (zFr_t zFr_rf hF_s13 (by decide)) hF_s15 (by decide)), trivial⟩
                · skip
                  refine j_aload hx 4 dX10_weigh_183 rfl ?_
                  refine j_aload hx 3 dX10_weigh_185 rfl ?_
                  refine j_callV hx hG (c_X0_become hst r5 r1) lk_RX10_26 q6.1 (by decide) rfl rfl rfl rfl [.ref r1] ⟨rfl, hG, hS_s15, q6.1, q2.1⟩ rfl rfl ⟨by decide, by decide⟩ ⟨by decide, by decide⟩ (k2 := 0) (n2 := 0) rfl rfl (Nat.le_of_ble_eq_true rfl) dX10_weigh_187 (kVM (fun s20 hS_s20 hF_s20 q46 => ?_))
                  refine j_aload_n hx 0 dX10_weigh_190 rfl ?_
                  refine j_iload_n hx 1 dX10_weigh_191 rfl ?_
                  refine j_iconst hx dX10_weigh_192 ?_
                  refine j_iadd hx (r := 9) dX10_weigh_193 (by omega) ?_
                  refine j_lload_n hx 2 dX10_weigh_194 rfl ?_
                  refine j_iload hx 6 dX10_weigh_195 rfl ?_
                  refine j_i2l hx dX10_weigh_197 (by omega) ?_
                  refine j_lmul hx dX10_weigh_198 (fun w47 f48 f49 => ?_)
                  refine j_callV hx hG (c_X10_weigh_9 hst a 9 w47) lk_RX10_92 ha (by decide) rfl rfl rfl rfl [.int (zI 9), .long (zL w47)] ⟨rfl, hG, hS_s20, ha, (by omega), (by omega)⟩ rfl rfl ⟨by decide, by decide⟩ ⟨by decide, by decide⟩ (k2 := 0) (n2 := 0) rfl rfl (Nat.le_of_ble_eq_true rfl) dX10_weigh_199 (kVM (fun s21 hS_s21 hF_s21 q51 => ?_))
                  exact j_vret hx hq rfl (by decide) (by decide) dX10_weigh_202 ⟨rfl, rfl, hS_s21, (zFr_t (zFr_t (zFr_t (zFr_t zFr_rf hF_s13 (by decide)) hF_s15 (by decide)) hF_s20 (by decide)) hF_s21 (by decide)), trivial⟩
              · skip
                refine j_iload hx 5 dX10_weigh_97 rfl ?_
                refine j_iconst hx dX10_weigh_99 ?_
                have c172_22 : ∀ (v52 : Int) (s23 : zS), ((-2147483648) ≤ v52 ∧ v52 ≤ 2147483647) → (zSK G s23) → (zFr [1, 7, 11, 41] G s15 s23) → JJ X E 9 G s23 0 0 [(0, .ref a), (1, .int (zI 8)), (2, .long (zL y2)), (4, .ref r1), (5, .ref r5), (6, .int (zI v38)), (7, .int (zI v52)), (8, .int (zI v41))] 172 [] := by
                  intro v52 s23 fA24 hS_s23 hF_s23
                  refine j_iinc hx 7 [(8, .int (zI (v41 + 1))), (0, .ref a), (1, .int (zI 8)), (2, .long (zL y2)), (4, .ref r1), (5, .ref r5), (6, .int (zI v38)), (7, .int (zI v52))] dX10_weigh_172 rfl (by omega) (by decide) rfl ?_
                  refine j_goto hx 85 dX10_weigh_175 rfl ?_
                  exact j_sub [1, 2, 3, 4, 5, 6, 7, 0] [(0, .ref a), (1, .int (zI 8)), (2, .long (zL y2)), (4, .ref r1), (5, .ref r5), (6, .int (zI v38)), (7, .int (zI v52)), (8, .int (zI (v41 + 1)))] rfl (ih_c85_14 v52 (v41 + 1) s23 (by omega) (by omega) (by omega) hS_s23 (zFr_t (zFr_t zFr_rf hF_s15 (by decide)) hF_s23 (by decide)))
                have c113_27 : JJ X E 9 G s15 0 0 [(0, .ref a), (1, .int (zI 8)), (2, .long (zL y2)), (4, .ref r1), (5, .ref r5), (6, .int (zI v38)), (7, .int (zI v40)), (8, .int (zI v41))] 113 [] := by
                  refine j_iload hx 6 dX10_weigh_113 rfl ?_
                  refine j_aload_n hx 0 dX10_weigh_115 rfl ?_
                  refine g11_0 hx hG ha kf_RX10_17 dX10_weigh_116 ?_
                  refine j_iload hx 7 dX10_weigh_119 rfl ?_
                  refine j_iconst hx dX10_weigh_121 ?_
                  refine j_callV hx hG (c_X8_trait hst (gP G a 0) v41 0) lk_RX10_107 (zr (k := 0) (t2 := 9) hG ha rfl) (by decide) rfl rfl rfl rfl [.int (zI v41), .int (zI 0)] ⟨rfl, hG, hS_s15, (zr (k := 0) (t2 := 9) hG ha rfl), (by omega), (by omega)⟩ rfl rfl ⟨by decide, by decide⟩ ⟨by decide, by decide⟩ (k2 := 0) (n2 := 0) rfl rfl (Nat.le_of_ble_eq_true rfl) dX10_weigh_122 (kIP (fun v53 q54 => ?_))
                  refine j_iadd hx (r := v40 + v53) dX10_weigh_125 rfl ?_
                  refine j_norm (fun v55 f56 f57 f58 => ?_)
                  refine j_istore hx [(7, .int (zI v55)), (0, .ref a), (1, .int (zI 8)), (2, .long (zL y2)), (4, .ref r1), (5, .ref r5), (6, .int (zI v38)), (8, .int (zI v41))] dX10_weigh_126 (by decide) rfl ?_
                  refine j_goto hx 172 dX10_weigh_128 rfl ?_
                  exact j_sub [1, 2, 3, 4, 5, 6, 0, 7] [(0, .ref a), (1, .int (zI 8)), (2, .long (zL y2)), (4, .ref r1), (5, .ref r5), (6, .int (zI v38)), (7, .int (zI v55)), (8, .int (zI v41))] rfl (c172_22 v55 s15 (by omega) hS_s15 zFr_rf)
                refine j_icmp_eq hx 113 dX10_weigh_100 rfl (by omega) ⟨by decide, by decide⟩ (fun h59 => ?_) (fun h59 => ?_)
                · skip
                  exact j_sub [0, 1, 2, 3, 4, 5, 6, 7] [(0, .ref a), (1, .int (zI 8)), (2, .long (zL y2)), (4, .ref r1), (5, .ref r5), (6, .int (zI v38)), (7, .int (zI v40)), (8, .int (zI v41))] rfl (c113_27  )
                · skip
                  refine j_aload hx 3 dX10_weigh_103 rfl ?_
                  refine j_iload hx 7 dX10_weigh_105 rfl ?_
                  refine j_callV hx hG (c_X0_isOut hst r1 v41) lk_RX10_73 q2.1 (by decide) rfl rfl rfl rfl [.int (zI v41)] ⟨rfl, hG, hS_s15, q2.1, (by omega)⟩ rfl rfl ⟨by decide, by decide⟩ ⟨by decide, by decide⟩ (k2 := 0) (n2 := 0) rfl rfl (Nat.le_of_ble_eq_true rfl) dX10_weigh_107 (kIP (fun v60 q61 => ?_))
                  refine j_if_eq hx 131 dX10_weigh_110 rfl (by omega) (fun h62 => ?_) (fun h62 => ?_)
                  · skip
                    refine j_aload hx 4 dX10_weigh_131 rfl ?_
                    refine j_aload hx 3 dX10_weigh_133 rfl ?_
                    refine j_callV hx hG (c_X0_become hst r5 r1) lk_RX10_26 q6.1 (by decide) rfl rfl rfl rfl [.ref r1] ⟨rfl, hG, hS_s15, q6.1, q2.1⟩ rfl rfl ⟨by decide, by decide⟩ ⟨by decide, by decide⟩ (k2 := 0) (n2 := 0) rfl rfl (Nat.le_of_ble_eq_true rfl) dX10_weigh_135 (kVM (fun s28 hS_s28 hF_s28 q64 => ?_))
                    refine j_aload hx 4 dX10_weigh_138 rfl ?_
                    refine j_iload hx 7 dX10_weigh_140 rfl ?_
                    refine j_iload hx 5 dX10_weigh_142 rfl ?_
                    refine j_aload_n hx 0 dX10_weigh_144 rfl ?_
                    have f65 := zf hS_s15 ha (k := 3) rfl
                    refine g11_3 hx hG ha kf_RX10_45 (v := (s15 a 3)) (by rw [(zFr_g hF_s28 ha (by decide))]) dX10_weigh_145 ?_
                    refine j_callV hx hG (c_X0_win hst r5 v41 v38 ((s15 a 3))) lk_RX10_69 q6.1 (by decide) rfl rfl rfl rfl [.int (zI v41), .int (zI v38), .int (zI ((s15 a 3)))] ⟨rfl, hG, hS_s28, q6.1, (by omega), (by omega), (by omega)⟩ rfl rfl ⟨by decide, by decide⟩ ⟨by decide, by decide⟩ (k2 := 0) (n2 := 0) rfl rfl (Nat.le_of_ble_eq_true rfl) dX10_weigh_148 (kIM (fun v66 s29 hS_s29 hF_s29 q67 => ?_))
                    refine j_pop hx dX10_weigh_151 rfl ?_
                    refine j_aload_n hx 0 dX10_weigh_152 rfl ?_
                    refine j_iload_n hx 1 dX10_weigh_153 rfl ?_
                    refine j_iconst hx dX10_weigh_154 ?_
                    refine j_iadd hx (r := 9) dX10_weigh_155 (by omega) ?_
                    refine j_lload_n hx 2 dX10_weigh_156 rfl ?_
                    refine j_aload_n hx 0 dX10_weigh_157 rfl ?_
                    refine g11_0 hx hG ha kf_RX10_17 dX10_weigh_158 ?_
                    refine j_iload hx 7 dX10_weigh_161 rfl ?_
                    refine j_iconst hx dX10_weigh_163 ?_
                    refine j_callV hx hG (c_X8_trait hst (gP G a 0) v41 0) lk_RX10_107 (zr (k := 0) (t2 := 9) hG ha rfl) (by decide) rfl rfl rfl rfl [.int (zI v41), .int (zI 0)] ⟨rfl, hG, hS_s29, (zr (k := 0) (t2 := 9) hG ha rfl), (by omega), (by omega)⟩ rfl rfl ⟨by decide, by decide⟩ ⟨by decide, by decide⟩ (k2 := 0) (n2 := 0) rfl rfl (Nat.le_of_ble_eq_true rfl) dX10_weigh_164 (kIP (fun v68 q69 => ?_))
                    refine j_i2l hx dX10_weigh_167 (by omega) ?_
                    refine j_lmul hx dX10_weigh_168 (fun w70 f71 f72 => ?_)
                    refine j_callV hx hG (c_X10_weigh_9 hst a 9 w70) lk_RX10_92 ha (by decide) rfl rfl rfl rfl [.int (zI 9), .long (zL w70)] ⟨rfl, hG, hS_s29, ha, (by omega), (by omega)⟩ rfl rfl ⟨by decide, by decide⟩ ⟨by decide, by decide⟩ (k2 := 0) (n2 := 0) rfl rfl (Nat.le_of_ble_eq_true rfl) dX10_weigh_169 (kVM (fun s30 hS_s30 hF_s30 q74 => ?_))
                    exact j_sub [0, 1, 2, 3, 4, 5, 6, 7] [(0, .ref a), (1, .int (zI 8)), (2, .long (zL y2)), (4, .ref r1), (5, .ref r5), (6, .int (zI v38)), (7, .int (zI v40)), (8, .int (zI v41))] rfl (c172_22 v40 s30 (by omega) hS_s30 (zFr_t (zFr_t (zFr_t zFr_rf hF_s28 (by decide)) hF_s29 (by decide)) hF_s30 (by decide)))
                  · skip
                    exact j_sub [0, 1, 2, 3, 4, 5, 6, 7] [(0, .ref a), (1, .int (zI 8)), (2, .long (zL y2)), (4, .ref r1), (5, .ref r5), (6, .int (zI v38)), (7, .int (zI v40)), (8, .int (zI v41))] rfl (c113_27  )
          exact j_sub [5, 6, 7, 4, 3, 2, 1, 0] [(0, .ref a), (1, .int (zI 8)), (2, .long (zL y2)), (4, .ref r1), (5, .ref r5), (6, .int (zI v38)), (7, .int (zI 0)), (8, .int (zI 0))] rfl (c85_14 (2147483648 * 4) 0 0 s13 (by omega) (by omega) (by omega) hS_s13 zFr_rf)
        · skip
          exact j_sub [2, 3, 4, 1] [(0, .ref a), (1, .int (zI 8)), (2, .long (zL y2)), (4, .ref r1)] rfl (c43_7 s13 hS_s13 (zFr_t zFr_rf hF_s13 (by decide)))

set_option maxHeartbeats 4000000 in
set_option maxRecDepth 20000 in
theorem c_X10_weigh_7 {E : zE} {l : Launch} (hst : l.stackTraces = false) (a : Nat) (x1 : Int) (y2 : Int) : Con E l yX10_weigh cX10_weigh 9 none { frames := 8, cells := 0, slots := 0, locals := 211 } (fun G s vs => vs = [.ref a, .int (zI x1), .long (zL y2)] ∧ zGK G ∧ zSK G s ∧ (gT G a = 11) ∧ (7 ≤ x1 ∧ x1 ≤ 7) ∧ ((-9223372036854775808) ≤ y2 ∧ y2 ≤ 9223372036854775807)) (fun G s _ => pV (fun G2 s2 => G2 = G ∧ zSK G s2 ∧ zFr [1, 7, 11, 41] G s s2 ∧ True)) := by
  refine Con.mk hst (by decide) (fun G s vs h => by rw [h.1]; exact Nat.le_of_ble_eq_true rfl) ?_
  rintro X G s0 vs ⟨rfl, hG, hS0, ha, hx1, hy2⟩ rfl hx hq
  obtain rfl : x1 = 7 := by omega
  show JJ X E 9 G s0 0 0 [(0, .ref a), (1, .int (zI 7)), (2, .long (zL y2))] 0 []
  refine j_aload_n hx 0 dX10_weigh_0 rfl ?_
  refine j_iload_n hx 1 dX10_weigh_1 rfl ?_
  refine j_callV hx hG (c_X10_boardAt hst a 7) lk_RX10_22 ha (by decide) rfl rfl rfl rfl [.int (zI 7)] ⟨rfl, hG, hS0, ha, (by omega)⟩ rfl rfl ⟨by decide, by decide⟩ ⟨by decide, by decide⟩ (k2 := 0) (n2 := 0) rfl rfl (Nat.le_of_ble_eq_true rfl) dX10_weigh_2 (kNP (fun _ => ?_) (fun r1 q2 => ?_))
  · skip
    refine j_astoreN hx [(4, .null), (0, .ref a), (1, .int (zI 7)), (2, .long (zL y2))] dX10_weigh_5 (by decide) rfl ?_
    refine j_aload_n hx 1 dX10_weigh_7 rfl ?_
    refine j_iload_n hx 2 dX10_weigh_8 rfl ?_
    refine j_iconst hx dX10_weigh_9 ?_
    refine j_iadd hx (r := 8) dX10_weigh_10 (by omega) ?_
    refine j_callV hx hG (c_X10_boardAt hst a 8) lk_RX10_22 ha (by decide) rfl rfl rfl rfl [.int (zI 8)] ⟨rfl, hG, hS0, ha, (by omega)⟩ rfl rfl ⟨by decide, by decide⟩ ⟨by decide, by decide⟩ (k2 := 0) (n2 := 0) rfl rfl (Nat.le_of_ble_eq_true rfl) dX10_weigh_11 (kNP (fun _ => ?_) (fun r3 q4 => ?_))
    · skip
      refine j_astoreN hx [(5, .null), (4, .null), (0, .ref a), (1, .int (zI 7)), (2, .long (zL y2))] dX10_weigh_14 (by decide) rfl ?_
      refine j_aloadN hx 1 dX10_weigh_16 rfl ?_
      refine j_ifnonnullN hx dX10_weigh_18 ?_
      exact j_vret hx hq rfl (by decide) (by decide) dX10_weigh_21 ⟨rfl, rfl, hS0, zFr_rf, trivial⟩
    · skip
      refine j_astore hx [(5, .ref r3), (4, .null), (0, .ref a), (1, .int (zI 7)), (2, .long (zL y2))] dX10_weigh_14 (by decide) rfl ?_
      refine j_aloadN hx 1 dX10_weigh_16 rfl ?_
      refine j_ifnonnullN hx dX10_weigh_18 ?_
      exact j_vret hx hq rfl (by decide) (by decide) dX10_weigh_21 ⟨rfl, rfl, hS0, zFr_rf, trivial⟩
  · skip
    refine j_astore hx [(4, .ref r1), (0, .ref a), (1, .int (zI 7)), (2, .long (zL y2))] dX10_weigh_5 (by decide) rfl ?_
    refine j_aload_n hx 1 dX10_weigh_7 rfl ?_
    refine j_iload_n hx 2 dX10_weigh_8 rfl ?_
    refine j_iconst hx dX10_weigh_9 ?_
    refine j_iadd hx (r := 8) dX10_weigh_10 (by omega) ?_
    refine j_callV hx hG (c_X10_boardAt hst a 8) lk_RX10_22 ha (by decide) rfl rfl rfl rfl [.int (zI 8)] ⟨rfl, hG, hS0, ha, (by omega)⟩ rfl rfl ⟨by decide, by decide⟩ ⟨by decide, by decide⟩ (k2 := 0) (n2 := 0) rfl rfl (Nat.le_of_ble_eq_true rfl) dX10_weigh_11 (kNP (fun _ => ?_) (fun r5 q6 => ?_))
    · skip
      refine j_astoreN hx [(5, .null), (4, .ref r1), (0, .ref a), (1, .int (zI 7)), (2, .long (zL y2))] dX10_weigh_14 (by decide) rfl ?_
      refine j_aload hx 1 dX10_weigh_16 rfl ?_
      refine j_ifnonnull hx 22 dX10_weigh_18 rfl ?_
      refine j_iload_n hx 3 dX10_weigh_22 rfl ?_
      refine j_aload_n hx 2 dX10_weigh_23 rfl ?_
      have f7 := zf hS0 ha (k := 4) rfl
      refine g11_4 hx hG ha kf_RX10_77 rfl dX10_weigh_24 ?_
      have c43_1 : ∀ (s2 : zS), (zSK G s2) → (zFr [1, 7, 41] G s0 s2) → JJ X E 9 G s2 0 0 [(0, .ref a), (1, .int (zI 7)), (2, .long (zL y2)), (4, .ref r1)] 43 [] := by
        intro s2 hS_s2 hF_s2
        refine j_aload_n hx 0 dX10_weigh_43 rfl ?_
        refine j_dup hx dX10_weigh_44 rfl ?_
        have f8 := zf hS0 ha (k := 7) rfl
        refine g11_7 hx hG ha kf_RX10_80 (v := (s0 a 7)) (by rw [(zFr_g hF_s2 ha (by decide))]) dX10_weigh_45 ?_
        refine j_aload_n hx 0 dX10_weigh_48 rfl ?_
        refine j_aload hx 3 dX10_weigh_49 rfl ?_
        refine j_callV hx hG (c_X10_leads hst a r1) lk_RX10_96 ha (by decide) rfl rfl rfl rfl [.ref r1] ⟨rfl, hG, hS_s2, ha, q2.1⟩ rfl rfl ⟨by decide, by decide⟩ ⟨by decide, by decide⟩ (k2 := 0) (n2 := 0) rfl rfl (Nat.le_of_ble_eq_true rfl) dX10_weigh_51 (kIP (fun v9 q10 => ?_))
        refine j_if_eq hx 66 dX10_weigh_54 rfl (by omega) (fun h11 => ?_) (fun h11 => ?_)
        · skip
          refine j_lconst hx dX10_weigh_66 ?_
          show JJ X E 9 G s2 0 0 [(0, .ref a), (1, .int (zI 7)), (2, .long (zL y2)), (4, .ref r1)] 67 [.long (zL 0), .long (zL ((s0 a 7))), .ref a]
          refine j_ladd hx dX10_weigh_67 (fun w12 f13 f14 => ?_)
          refine p11_7 hx hG ha kf_RX10_80 dX10_weigh_68 ?_
          obtain ⟨s5, e_s5⟩ : ∃ z, z = zU s2 a 7 w12 := ⟨_, rfl⟩
          rw [← e_s5]
          have hS_s5 : zSK G s5 := by rw [e_s5]; exact zSK_F hS_s2 ha rfl rfl rfl (by omega)
          exact j_vret hx hq rfl (by decide) (by decide) dX10_weigh_71 ⟨rfl, rfl, hS_s5, (zFr_u (zFr_t zFr_rf hF_s2 (by decide)) e_s5 ha (by decide)), trivial⟩
        · skip
          refine j_aload_n hx 0 dX10_weigh_57 rfl ?_
          refine j_iload_n hx 1 dX10_weigh_58 rfl ?_
          refine j_lload_n hx 2 dX10_weigh_59 rfl ?_
          refine j_callV hx hG (c_X10_allWays hst a 7 y2) lk_RX10_100 ha (by decide) rfl rfl rfl rfl [.int (zI 7), .long (zL y2)] ⟨rfl, hG, hS_s2, ha, (by omega), (by omega)⟩ rfl rfl ⟨by decide, by decide⟩ ⟨by decide, by decide⟩ (k2 := 0) (n2 := 0) rfl rfl (Nat.le_of_ble_eq_true rfl) dX10_weigh_60 (kLP (fun v15 q16 => ?_))
          refine j_goto hx 67 dX10_weigh_63 rfl ?_
          refine j_ladd hx dX10_weigh_67 (fun w17 f18 f19 => ?_)
          refine p11_7 hx hG ha kf_RX10_80 dX10_weigh_68 ?_
          obtain ⟨s6, e_s6⟩ : ∃ z, z = zU s2 a 7 w17 := ⟨_, rfl⟩
          rw [← e_s6]
          have hS_s6 : zSK G s6 := by rw [e_s6]; exact zSK_F hS_s2 ha rfl rfl rfl (by omega)
          exact j_vret hx hq rfl (by decide) (by decide) dX10_weigh_71 ⟨rfl, rfl, hS_s6, (zFr_u (zFr_t zFr_rf hF_s2 (by decide)) e_s6 ha (by decide)), trivial⟩
      refine j_icmp_ge hx 43 dX10_weigh_27 rfl ⟨by decide, by decide⟩ (by omega) (fun h20 => ?_) (fun h20 => ?_)
      · skip
        exact j_sub [2, 3, 4, 1] [(0, .ref a), (1, .int (zI 7)), (2, .long (zL y2)), (4, .ref r1)] rfl (c43_1 s0 hS0 zFr_rf)
      · skip
        refine j_aloadN hx 0 dX10_weigh_30 rfl ?_
        refine j_ifnullN hx 43 dX10_weigh_32 rfl ?_
        exact j_sub [2, 3, 4, 1] [(0, .ref a), (1, .int (zI 7)), (2, .long (zL y2)), (4, .ref r1)] rfl (c43_1 s0 hS0 zFr_rf)
    · skip
      refine j_astore hx [(5, .ref r5), (4, .ref r1), (0, .ref a), (1, .int (zI 7)), (2, .long (zL y2))] dX10_weigh_14 (by decide) rfl ?_
      refine j_aload hx 1 dX10_weigh_16 rfl ?_
      refine j_ifnonnull hx 22 dX10_weigh_18 rfl ?_
      refine j_iload_n hx 3 dX10_weigh_22 rfl ?_
      refine j_aload_n hx 2 dX10_weigh_23 rfl ?_
      have f21 := zf hS0 ha (k := 4) rfl
      refine g11_4 hx hG ha kf_RX10_77 rfl dX10_weigh_24 ?_
      have c43_7 : ∀ (s8 : zS), (zSK G s8) → (zFr [1, 7, 41] G s0 s8) → JJ X E 9 G s8 0 0 [(0, .ref a), (1, .int (zI 7)), (2, .long (zL y2)), (4, .ref r1)] 43 [] := by
        intro s8 hS_s8 hF_s8
        refine j_aload_n hx 0 dX10_weigh_43 rfl ?_
        refine j_dup hx dX10_weigh_44 rfl ?_
        have f22 := zf hS0 ha (k := 7) rfl
        refine g11_7 hx hG ha kf_RX10_80 (v := (s0 a 7)) (by rw [(zFr_g hF_s8 ha (by decide))]) dX10_weigh_45 ?_
        refine j_aload_n hx 0 dX10_weigh_48 rfl ?_
        refine j_aload hx 3 dX10_weigh_49 rfl ?_
        refine j_callV hx hG (c_X10_leads hst a r1) lk_RX10_96 ha (by decide) rfl rfl rfl rfl [.ref r1] ⟨rfl, hG, hS_s8, ha, q2.1⟩ rfl rfl ⟨by decide, by decide⟩ ⟨by decide, by decide⟩ (k2 := 0) (n2 := 0) rfl rfl (Nat.le_of_ble_eq_true rfl) dX10_weigh_51 (kIP (fun v23 q24 => ?_))
        refine j_if_eq hx 66 dX10_weigh_54 rfl (by omega) (fun h25 => ?_) (fun h25 => ?_)
        · skip
          refine j_lconst hx dX10_weigh_66 ?_
          show JJ X E 9 G s8 0 0 [(0, .ref a), (1, .int (zI 7)), (2, .long (zL y2)), (4, .ref r1)] 67 [.long (zL 0), .long (zL ((s0 a 7))), .ref a]
          refine j_ladd hx dX10_weigh_67 (fun w26 f27 f28 => ?_)
          refine p11_7 hx hG ha kf_RX10_80 dX10_weigh_68 ?_
          obtain ⟨s11, e_s11⟩ : ∃ z, z = zU s8 a 7 w26 := ⟨_, rfl⟩
          rw [← e_s11]
          have hS_s11 : zSK G s11 := by rw [e_s11]; exact zSK_F hS_s8 ha rfl rfl rfl (by omega)
          exact j_vret hx hq rfl (by decide) (by decide) dX10_weigh_71 ⟨rfl, rfl, hS_s11, (zFr_u (zFr_t zFr_rf hF_s8 (by decide)) e_s11 ha (by decide)), trivial⟩
        · skip
          refine j_aload_n hx 0 dX10_weigh_57 rfl ?_
          refine j_iload_n hx 1 dX10_weigh_58 rfl ?_
          refine j_lload_n hx 2 dX10_weigh_59 rfl ?_
          refine j_callV hx hG (c_X10_allWays hst a 7 y2) lk_RX10_100 ha (by decide) rfl rfl rfl rfl [.int (zI 7), .long (zL y2)] ⟨rfl, hG, hS_s8, ha, (by omega), (by omega)⟩ rfl rfl ⟨by decide, by decide⟩ ⟨by decide, by decide⟩ (k2 := 0) (n2 := 0) rfl rfl (Nat.le_of_ble_eq_true rfl) dX10_weigh_60 (kLP (fun v29 q30 => ?_))
          refine j_goto hx 67 dX10_weigh_63 rfl ?_
          refine j_ladd hx dX10_weigh_67 (fun w31 f32 f33 => ?_)
          refine p11_7 hx hG ha kf_RX10_80 dX10_weigh_68 ?_
          obtain ⟨s12, e_s12⟩ : ∃ z, z = zU s8 a 7 w31 := ⟨_, rfl⟩
          rw [← e_s12]
          have hS_s12 : zSK G s12 := by rw [e_s12]; exact zSK_F hS_s8 ha rfl rfl rfl (by omega)
          exact j_vret hx hq rfl (by decide) (by decide) dX10_weigh_71 ⟨rfl, rfl, hS_s12, (zFr_u (zFr_t zFr_rf hF_s8 (by decide)) e_s12 ha (by decide)), trivial⟩
      refine j_icmp_ge hx 43 dX10_weigh_27 rfl ⟨by decide, by decide⟩ (by omega) (fun h34 => ?_) (fun h34 => ?_)
      · skip
        exact j_sub [2, 3, 4, 1] [(0, .ref a), (1, .int (zI 7)), (2, .long (zL y2)), (4, .ref r1)] rfl (c43_7 s0 hS0 zFr_rf)
      · skip
        refine j_aload hx 0 dX10_weigh_30 rfl ?_
        refine j_ifnull hx dX10_weigh_32 ?_
        refine j_aload hx 1 dX10_weigh_35 rfl ?_
        refine j_callV hx hG (c_X0_step hst r1) lk_RX10_33 q2.1 (by decide) rfl rfl rfl rfl [] ⟨rfl, hG, hS0, q2.1⟩ rfl rfl ⟨by decide, by decide⟩ ⟨by decide, by decide⟩ (k2 := 0) (n2 := 0) rfl rfl (Nat.le_of_ble_eq_true rfl) dX10_weigh_37 (kIM (fun v35 s13 hS_s13 hF_s13 q36 => ?_))
        refine j_if_ne hx 72 dX10_weigh_40 rfl (by omega) (fun h37 => ?_) (fun h37 => ?_)
        · skip
          refine j_aload hx 1 dX10_weigh_72 rfl ?_
          refine j_callV hx hG (c_X0_likeTops hst r1) lk_RX10_37 q2.1 (by decide) rfl rfl rfl rfl [] ⟨rfl, hG, hS_s13, q2.1⟩ rfl rfl ⟨by decide, by decide⟩ ⟨by decide, by decide⟩ (k2 := 0) (n2 := 0) rfl rfl (Nat.le_of_ble_eq_true rfl) dX10_weigh_74 (kIP (fun v38 q39 => ?_))
          refine j_istore hx [(6, .int (zI v38)), (5, .ref r5), (4, .ref r1), (0, .ref a), (1, .int (zI 7)), (2, .long (zL y2))] dX10_weigh_77 (by decide) rfl ?_
          refine j_iconst hx dX10_weigh_79 ?_
          refine j_istore hx [(7, .int (zI 0)), (6, .int (zI v38)), (5, .ref r5), (4, .ref r1), (0, .ref a), (1, .int (zI 7)), (2, .long (zL y2))] dX10_weigh_80 (by decide) rfl ?_
          refine j_iconst hx dX10_weigh_82 ?_
          refine j_istore hx [(8, .int (zI 0)), (7, .int (zI 0)), (6, .int (zI v38)), (5, .ref r5), (4, .ref r1), (0, .ref a), (1, .int (zI 7)), (2, .long (zL y2))] dX10_weigh_83 (by decide) rfl ?_
          have c85_14 : ∀ (m_c85_14 : Nat) (v40 : Int) (v41 : Int) (s15 : zS), 2147483648 - v41 < m_c85_14 → ((-2147483648) ≤ v40 ∧ v40 ≤ 2147483647) → (0 ≤ v41 ∧ v41 ≤ 3) → (zSK G s15) → (zFr [1, 7, 11, 41] G s13 s15) → JJ X E 9 G s15 0 0 [(0, .ref a), (1, .int (zI 7)), (2, .long (zL y2)), (4, .ref r1), (5, .ref r5), (6, .int (zI v38)), (7, .int (zI v40)), (8, .int (zI v41))] 85 [] := by
            intro m_c85_14
            induction m_c85_14 with
            | zero => intro v40 v41 s15 hm_c85_14 fA16 fA17 hS_s15 hF_s15; exfalso; omega
            | succ m_c85_14 ih_c85_14 => 
              intro v40 v41 s15 hm_c85_14 fA16 fA17 hS_s15 hF_s15
              refine j_iload hx 7 dX10_weigh_85 rfl ?_
              refine j_aload_n hx 0 dX10_weigh_87 rfl ?_
              refine g11_0 hx hG ha kf_RX10_17 dX10_weigh_88 ?_
              have f42 := zf hS0 (zr (k := 0) (t2 := 9) hG ha rfl) (k := 4) rfl
              refine gN9_4 hx hG (zr (k := 0) (t2 := 9) hG ha rfl) kf_RX10_104 (v := (s0 (gP G a 0) 4)) (by rw [(zFr_g hF_s15 (zr (k := 0) (t2 := 9) hG ha rfl) (by decide)), (zFr_g hF_s13 (zr (k := 0) (t2 := 9) hG ha rfl) (by decide))]) dX10_weigh_91 ?_
              refine j_icmp_ge hx 178 dX10_weigh_94 rfl (by omega) (by omega) (fun h43 => ?_) (fun h43 => ?_)
              · skip
                refine j_iload hx 6 dX10_weigh_178 rfl ?_
                refine j_if_le hx 202 dX10_weigh_180 rfl (by omega) (fun h44 => ?_) (fun h44 => ?_)
                · skip
                  exact j_vret hx hq rfl (by decide) (by decide) dX10_weigh_202 ⟨rfl, rfl, hS_s15, (zFr_t (zFr_t zFr_rf hF_s13 (by decide)) hF_s15 (by decide)), trivial⟩
                · skip
                  refine j_aload hx 4 dX10_weigh_183 rfl ?_
                  refine j_aload hx 3 dX10_weigh_185 rfl ?_
                  refine j_callV hx hG (c_X0_become hst r5 r1) lk_RX10_26 q6.1 (by decide) rfl rfl rfl rfl [.ref r1] ⟨rfl, hG, hS_s15, q6.1, q2.1⟩ rfl rfl ⟨by decide, by decide⟩ ⟨by decide, by decide⟩ (k2 := 0) (n2 := 0) rfl rfl (Nat.le_of_ble_eq_true rfl) dX10_weigh_187 (kVM (fun s20 hS_s20 hF_s20 q46 => ?_))
                  refine j_aload_n hx 0 dX10_weigh_190 rfl ?_
                  refine j_iload_n hx 1 dX10_weigh_191 rfl ?_
                  refine j_iconst hx dX10_weigh_192 ?_
                  refine j_iadd hx (r := 8) dX10_weigh_193 (by omega) ?_
                  refine j_lload_n hx 2 dX10_weigh_194 rfl ?_
                  refine j_iload hx 6 dX10_weigh_195 rfl ?_
                  refine j_i2l hx dX10_weigh_197 (by omega) ?_
                  refine j_lmul hx dX10_weigh_198 (fun w47 f48 f49 => ?_)
                  refine j_callV hx hG (c_X10_weigh_8 hst a 8 w47) lk_RX10_92 ha (by decide) rfl rfl rfl rfl [.int (zI 8), .long (zL w47)] ⟨rfl, hG, hS_s20, ha, (by omega), (by omega)⟩ rfl rfl ⟨by decide, by decide⟩ ⟨by decide, by decide⟩ (k2 := 0) (n2 := 0) rfl rfl (Nat.le_of_ble_eq_true rfl) dX10_weigh_199 (kVM (fun s21 hS_s21 hF_s21 q51 => ?_))
                  exact j_vret hx hq rfl (by decide) (by decide) dX10_weigh_202 ⟨rfl, rfl, hS_s21, (zFr_t (zFr_t (zFr_t (zFr_t zFr_rf hF_s13 (by decide)) hF_s15 (by decide)) hF_s20 (by decide)) hF_s21 (by decide)), trivial⟩
              · skip
                refine j_iload hx 5 dX10_weigh_97 rfl ?_
                refine j_iconst hx dX10_weigh_99 ?_
                have c172_22 : ∀ (v52 : Int) (s23 : zS), ((-2147483648) ≤ v52 ∧ v52 ≤ 2147483647) → (zSK G s23) → (zFr [1, 7, 11, 41] G s15 s23) → JJ X E 9 G s23 0 0 [(0, .ref a), (1, .int (zI 7)), (2, .long (zL y2)), (4, .ref r1), (5, .ref r5), (6, .int (zI v38)), (7, .int (zI v52)), (8, .int (zI v41))] 172 [] := by
                  intro v52 s23 fA24 hS_s23 hF_s23
                  refine j_iinc hx 7 [(8, .int (zI (v41 + 1))), (0, .ref a), (1, .int (zI 7)), (2, .long (zL y2)), (4, .ref r1), (5, .ref r5), (6, .int (zI v38)), (7, .int (zI v52))] dX10_weigh_172 rfl (by omega) (by decide) rfl ?_
                  refine j_goto hx 85 dX10_weigh_175 rfl ?_
                  exact j_sub [1, 2, 3, 4, 5, 6, 7, 0] [(0, .ref a), (1, .int (zI 7)), (2, .long (zL y2)), (4, .ref r1), (5, .ref r5), (6, .int (zI v38)), (7, .int (zI v52)), (8, .int (zI (v41 + 1)))] rfl (ih_c85_14 v52 (v41 + 1) s23 (by omega) (by omega) (by omega) hS_s23 (zFr_t (zFr_t zFr_rf hF_s15 (by decide)) hF_s23 (by decide)))
                have c113_27 : JJ X E 9 G s15 0 0 [(0, .ref a), (1, .int (zI 7)), (2, .long (zL y2)), (4, .ref r1), (5, .ref r5), (6, .int (zI v38)), (7, .int (zI v40)), (8, .int (zI v41))] 113 [] := by
                  refine j_iload hx 6 dX10_weigh_113 rfl ?_
                  refine j_aload_n hx 0 dX10_weigh_115 rfl ?_
                  refine g11_0 hx hG ha kf_RX10_17 dX10_weigh_116 ?_
                  refine j_iload hx 7 dX10_weigh_119 rfl ?_
                  refine j_iconst hx dX10_weigh_121 ?_
                  refine j_callV hx hG (c_X8_trait hst (gP G a 0) v41 0) lk_RX10_107 (zr (k := 0) (t2 := 9) hG ha rfl) (by decide) rfl rfl rfl rfl [.int (zI v41), .int (zI 0)] ⟨rfl, hG, hS_s15, (zr (k := 0) (t2 := 9) hG ha rfl), (by omega), (by omega)⟩ rfl rfl ⟨by decide, by decide⟩ ⟨by decide, by decide⟩ (k2 := 0) (n2 := 0) rfl rfl (Nat.le_of_ble_eq_true rfl) dX10_weigh_122 (kIP (fun v53 q54 => ?_))
                  refine j_iadd hx (r := v40 + v53) dX10_weigh_125 rfl ?_
                  refine j_norm (fun v55 f56 f57 f58 => ?_)
                  refine j_istore hx [(7, .int (zI v55)), (0, .ref a), (1, .int (zI 7)), (2, .long (zL y2)), (4, .ref r1), (5, .ref r5), (6, .int (zI v38)), (8, .int (zI v41))] dX10_weigh_126 (by decide) rfl ?_
                  refine j_goto hx 172 dX10_weigh_128 rfl ?_
                  exact j_sub [1, 2, 3, 4, 5, 6, 0, 7] [(0, .ref a), (1, .int (zI 7)), (2, .long (zL y2)), (4, .ref r1), (5, .ref r5), (6, .int (zI v38)), (7, .int (zI v55)), (8, .int (zI v41))] rfl (c172_22 v55 s15 (by omega) hS_s15 zFr_rf)
                refine j_icmp_eq hx 113 dX10_weigh_100 rfl (by omega) ⟨by decide, by decide⟩ (fun h59 => ?_) (fun h59 => ?_)
                · skip
                  exact j_sub [0, 1, 2, 3, 4, 5, 6, 7] [(0, .ref a), (1, .int (zI 7)), (2, .long (zL y2)), (4, .ref r1), (5, .ref r5), (6, .int (zI v38)), (7, .int (zI v40)), (8, .int (zI v41))] rfl (c113_27  )
                · skip
                  refine j_aload hx 3 dX10_weigh_103 rfl ?_
                  refine j_iload hx 7 dX10_weigh_105 rfl ?_
                  refine j_callV hx hG (c_X0_isOut hst r1 v41) lk_RX10_73 q2.1 (by decide) rfl rfl rfl rfl [.int (zI v41)] ⟨rfl, hG, hS_s15, q2.1, (by omega)⟩ rfl rfl ⟨by decide, by decide⟩ ⟨by decide, by decide⟩ (k2 := 0) (n2 := 0) rfl rfl (Nat.le_of_ble_eq_true rfl) dX10_weigh_107 (kIP (fun v60 q61 => ?_))
                  refine j_if_eq hx 131 dX10_weigh_110 rfl (by omega) (fun h62 => ?_) (fun h62 => ?_)
                  · skip
                    refine j_aload hx 4 dX10_weigh_131 rfl ?_
                    refine j_aload hx 3 dX10_weigh_133 rfl ?_
                    refine j_callV hx hG (c_X0_become hst r5 r1) lk_RX10_26 q6.1 (by decide) rfl rfl rfl rfl [.ref r1] ⟨rfl, hG, hS_s15, q6.1, q2.1⟩ rfl rfl ⟨by decide, by decide⟩ ⟨by decide, by decide⟩ (k2 := 0) (n2 := 0) rfl rfl (Nat.le_of_ble_eq_true rfl) dX10_weigh_135 (kVM (fun s28 hS_s28 hF_s28 q64 => ?_))
                    refine j_aload hx 4 dX10_weigh_138 rfl ?_
                    refine j_iload hx 7 dX10_weigh_140 rfl ?_
                    refine j_iload hx 5 dX10_weigh_142 rfl ?_
                    refine j_aload_n hx 0 dX10_weigh_144 rfl ?_
                    have f65 := zf hS_s15 ha (k := 3) rfl
                    refine g11_3 hx hG ha kf_RX10_45 (v := (s15 a 3)) (by rw [(zFr_g hF_s28 ha (by decide))]) dX10_weigh_145 ?_
                    refine j_callV hx hG (c_X0_win hst r5 v41 v38 ((s15 a 3))) lk_RX10_69 q6.1 (by decide) rfl rfl rfl rfl [.int (zI v41), .int (zI v38), .int (zI ((s15 a 3)))] ⟨rfl, hG, hS_s28, q6.1, (by omega), (by omega), (by omega)⟩ rfl rfl ⟨by decide, by decide⟩ ⟨by decide, by decide⟩ (k2 := 0) (n2 := 0) rfl rfl (Nat.le_of_ble_eq_true rfl) dX10_weigh_148 (kIM (fun v66 s29 hS_s29 hF_s29 q67 => ?_))
                    refine j_pop hx dX10_weigh_151 rfl ?_
                    refine j_aload_n hx 0 dX10_weigh_152 rfl ?_
                    refine j_iload_n hx 1 dX10_weigh_153 rfl ?_
                    refine j_iconst hx dX10_weigh_154 ?_
                    refine j_iadd hx (r := 8) dX10_weigh_155 (by omega) ?_
                    refine j_lload_n hx 2 dX10_weigh_156 rfl ?_
                    refine j_aload_n hx 0 dX10_weigh_157 rfl ?_
                    refine g11_0 hx hG ha kf_RX10_17 dX10_weigh_158 ?_
                    refine j_iload hx 7 dX10_weigh_161 rfl ?_
                    refine j_iconst hx dX10_weigh_163 ?_
                    refine j_callV hx hG (c_X8_trait hst (gP G a 0) v41 0) lk_RX10_107 (zr (k := 0) (t2 := 9) hG ha rfl) (by decide) rfl rfl rfl rfl [.int (zI v41), .int (zI 0)] ⟨rfl, hG, hS_s29, (zr (k := 0) (t2 := 9) hG ha rfl), (by omega), (by omega)⟩ rfl rfl ⟨by decide, by decide⟩ ⟨by decide, by decide⟩ (k2 := 0) (n2 := 0) rfl rfl (Nat.le_of_ble_eq_true rfl) dX10_weigh_164 (kIP (fun v68 q69 => ?_))
                    refine j_i2l hx dX10_weigh_167 (by omega) ?_
                    refine j_lmul hx dX10_weigh_168 (fun w70 f71 f72 => ?_)
                    refine j_callV hx hG (c_X10_weigh_8 hst a 8 w70) lk_RX10_92 ha (by decide) rfl rfl rfl rfl [.int (zI 8), .long (zL w70)] ⟨rfl, hG, hS_s29, ha, (by omega), (by omega)⟩ rfl rfl ⟨by decide, by decide⟩ ⟨by decide, by decide⟩ (k2 := 0) (n2 := 0) rfl rfl (Nat.le_of_ble_eq_true rfl) dX10_weigh_169 (kVM (fun s30 hS_s30 hF_s30 q74 => ?_))
                    exact j_sub [0, 1, 2, 3, 4, 5, 6, 7] [(0, .ref a), (1, .int (zI 7)), (2, .long (zL y2)), (4, .ref r1), (5, .ref r5), (6, .int (zI v38)), (7, .int (zI v40)), (8, .int (zI v41))] rfl (c172_22 v40 s30 (by omega) hS_s30 (zFr_t (zFr_t (zFr_t zFr_rf hF_s28 (by decide)) hF_s29 (by decide)) hF_s30 (by decide)))
                  · skip
                    exact j_sub [0, 1, 2, 3, 4, 5, 6, 7] [(0, .ref a), (1, .int (zI 7)), (2, .long (zL y2)), (4, .ref r1), (5, .ref r5), (6, .int (zI v38)), (7, .int (zI v40)), (8, .int (zI v41))] rfl (c113_27  )
          exact j_sub [5, 6, 7, 4, 3, 2, 1, 0] [(0, .ref a), (1, .int (zI 7)), (2, .long (zL y2)), (4, .ref r1), (5, .ref r5), (6, .int (zI v38)), (7, .int (zI 0)), (8, .int (zI 0))] rfl (c85_14 (2147483648 * 4) 0 0 s13 (by omega) (by omega) (by omega) hS_s13 zFr_rf)
        · skip
          exact j_sub [2, 3, 4, 1] [(0, .ref a), (1, .int (zI 7)), (2, .long (zL y2)), (4, .ref r1)] rfl (c43_7 s13 hS_s13 (zFr_t zFr_rf hF_s13 (by decide)))

set_option maxHeartbeats 4000000 in
set_option maxRecDepth 20000 in
theorem c_X10_weigh_6 {E : zE} {l : Launch} (hst : l.stackTraces = false) (a : Nat) (x1 : Int) (y2 : Int) : Con E l yX10_weigh cX10_weigh 9 none { frames := 9, cells := 0, slots := 0, locals := 239 } (fun G s vs => vs = [.ref a, .int (zI x1), .long (zL y2)] ∧ zGK G ∧ zSK G s ∧ (gT G a = 11) ∧ (6 ≤ x1 ∧ x1 ≤ 6) ∧ ((-9223372036854775808) ≤ y2 ∧ y2 ≤ 9223372036854775807)) (fun G s _ => pV (fun G2 s2 => G2 = G ∧ zSK G s2 ∧ zFr [1, 7, 11, 41] G s s2 ∧ True)) := by
  refine Con.mk hst (by decide) (fun G s vs h => by rw [h.1]; exact Nat.le_of_ble_eq_true rfl) ?_
  rintro X G s0 vs ⟨rfl, hG, hS0, ha, hx1, hy2⟩ rfl hx hq
  obtain rfl : x1 = 6 := by omega
  show JJ X E 9 G s0 0 0 [(0, .ref a), (1, .int (zI 6)), (2, .long (zL y2))] 0 []
  refine j_aload_n hx 0 dX10_weigh_0 rfl ?_
  refine j_iload_n hx 1 dX10_weigh_1 rfl ?_
  refine j_callV hx hG (c_X10_boardAt hst a 6) lk_RX10_22 ha (by decide) rfl rfl rfl rfl [.int (zI 6)] ⟨rfl, hG, hS0, ha, (by omega)⟩ rfl rfl ⟨by decide, by decide⟩ ⟨by decide, by decide⟩ (k2 := 0) (n2 := 0) rfl rfl (Nat.le_of_ble_eq_true rfl) dX10_weigh_2 (kNP (fun _ => ?_) (fun r1 q2 => ?_))
  · skip
    refine j_astoreN hx [(4, .null), (0, .ref a), (1, .int (zI 6)), (2, .long (zL y2))] dX10_weigh_5 (by decide) rfl ?_
    refine j_aload_n hx 1 dX10_weigh_7 rfl ?_
    refine j_iload_n hx 2 dX10_weigh_8 rfl ?_
    refine j_iconst hx dX10_weigh_9 ?_
    refine j_iadd hx (r := 7) dX10_weigh_10 (by omega) ?_
    refine j_callV hx hG (c_X10_boardAt hst a 7) lk_RX10_22 ha (by decide) rfl rfl rfl rfl [.int (zI 7)] ⟨rfl, hG, hS0, ha, (by omega)⟩ rfl rfl ⟨by decide, by decide⟩ ⟨by decide, by decide⟩ (k2 := 0) (n2 := 0) rfl rfl (Nat.le_of_ble_eq_true rfl) dX10_weigh_11 (kNP (fun _ => ?_) (fun r3 q4 => ?_))
    · skip
      refine j_astoreN hx [(5, .null), (4, .null), (0, .ref a), (1, .int (zI 6)), (2, .long (zL y2))] dX10_weigh_14 (by decide) rfl ?_
      refine j_aloadN hx 1 dX10_weigh_16 rfl ?_
      refine j_ifnonnullN hx dX10_weigh_18 ?_
      exact j_vret hx hq rfl (by decide) (by decide) dX10_weigh_21 ⟨rfl, rfl, hS0, zFr_rf, trivial⟩
    · skip
      refine j_astore hx [(5, .ref r3), (4, .null), (0, .ref a), (1, .int (zI 6)), (2, .long (zL y2))] dX10_weigh_14 (by decide) rfl ?_
      refine j_aloadN hx 1 dX10_weigh_16 rfl ?_
      refine j_ifnonnullN hx dX10_weigh_18 ?_
      exact j_vret hx hq rfl (by decide) (by decide) dX10_weigh_21 ⟨rfl, rfl, hS0, zFr_rf, trivial⟩
  · skip
    refine j_astore hx [(4, .ref r1), (0, .ref a), (1, .int (zI 6)), (2, .long (zL y2))] dX10_weigh_5 (by decide) rfl ?_
    refine j_aload_n hx 1 dX10_weigh_7 rfl ?_
    refine j_iload_n hx 2 dX10_weigh_8 rfl ?_
    refine j_iconst hx dX10_weigh_9 ?_
    refine j_iadd hx (r := 7) dX10_weigh_10 (by omega) ?_
    refine j_callV hx hG (c_X10_boardAt hst a 7) lk_RX10_22 ha (by decide) rfl rfl rfl rfl [.int (zI 7)] ⟨rfl, hG, hS0, ha, (by omega)⟩ rfl rfl ⟨by decide, by decide⟩ ⟨by decide, by decide⟩ (k2 := 0) (n2 := 0) rfl rfl (Nat.le_of_ble_eq_true rfl) dX10_weigh_11 (kNP (fun _ => ?_) (fun r5 q6 => ?_))
    · skip
      refine j_astoreN hx [(5, .null), (4, .ref r1), (0, .ref a), (1, .int (zI 6)), (2, .long (zL y2))] dX10_weigh_14 (by decide) rfl ?_
      refine j_aload hx 1 dX10_weigh_16 rfl ?_
      refine j_ifnonnull hx 22 dX10_weigh_18 rfl ?_
      refine j_iload_n hx 3 dX10_weigh_22 rfl ?_
      refine j_aload_n hx 2 dX10_weigh_23 rfl ?_
      have f7 := zf hS0 ha (k := 4) rfl
      refine g11_4 hx hG ha kf_RX10_77 rfl dX10_weigh_24 ?_
      have c43_1 : ∀ (s2 : zS), (zSK G s2) → (zFr [1, 7, 41] G s0 s2) → JJ X E 9 G s2 0 0 [(0, .ref a), (1, .int (zI 6)), (2, .long (zL y2)), (4, .ref r1)] 43 [] := by
        intro s2 hS_s2 hF_s2
        refine j_aload_n hx 0 dX10_weigh_43 rfl ?_
        refine j_dup hx dX10_weigh_44 rfl ?_
        have f8 := zf hS0 ha (k := 7) rfl
        refine g11_7 hx hG ha kf_RX10_80 (v := (s0 a 7)) (by rw [(zFr_g hF_s2 ha (by decide))]) dX10_weigh_45 ?_
        refine j_aload_n hx 0 dX10_weigh_48 rfl ?_
        refine j_aload hx 3 dX10_weigh_49 rfl ?_
        refine j_callV hx hG (c_X10_leads hst a r1) lk_RX10_96 ha (by decide) rfl rfl rfl rfl [.ref r1] ⟨rfl, hG, hS_s2, ha, q2.1⟩ rfl rfl ⟨by decide, by decide⟩ ⟨by decide, by decide⟩ (k2 := 0) (n2 := 0) rfl rfl (Nat.le_of_ble_eq_true rfl) dX10_weigh_51 (kIP (fun v9 q10 => ?_))
        refine j_if_eq hx 66 dX10_weigh_54 rfl (by omega) (fun h11 => ?_) (fun h11 => ?_)
        · skip
          refine j_lconst hx dX10_weigh_66 ?_
          show JJ X E 9 G s2 0 0 [(0, .ref a), (1, .int (zI 6)), (2, .long (zL y2)), (4, .ref r1)] 67 [.long (zL 0), .long (zL ((s0 a 7))), .ref a]
          refine j_ladd hx dX10_weigh_67 (fun w12 f13 f14 => ?_)
          refine p11_7 hx hG ha kf_RX10_80 dX10_weigh_68 ?_
          obtain ⟨s5, e_s5⟩ : ∃ z, z = zU s2 a 7 w12 := ⟨_, rfl⟩
          rw [← e_s5]
          have hS_s5 : zSK G s5 := by rw [e_s5]; exact zSK_F hS_s2 ha rfl rfl rfl (by omega)
          exact j_vret hx hq rfl (by decide) (by decide) dX10_weigh_71 ⟨rfl, rfl, hS_s5, (zFr_u (zFr_t zFr_rf hF_s2 (by decide)) e_s5 ha (by decide)), trivial⟩
        · skip
          refine j_aload_n hx 0 dX10_weigh_57 rfl ?_
          refine j_iload_n hx 1 dX10_weigh_58 rfl ?_
          refine j_lload_n hx 2 dX10_weigh_59 rfl ?_
          refine j_callV hx hG (c_X10_allWays hst a 6 y2) lk_RX10_100 ha (by decide) rfl rfl rfl rfl [.int (zI 6), .long (zL y2)] ⟨rfl, hG, hS_s2, ha, (by omega), (by omega)⟩ rfl rfl ⟨by decide, by decide⟩ ⟨by decide, by decide⟩ (k2 := 0) (n2 := 0) rfl rfl (Nat.le_of_ble_eq_true rfl) dX10_weigh_60 (kLP (fun v15 q16 => ?_))
          refine j_goto hx 67 dX10_weigh_63 rfl ?_
          refine j_ladd hx dX10_weigh_67 (fun w17 f18 f19 => ?_)
          refine p11_7 hx hG ha kf_RX10_80 dX10_weigh_68 ?_
          obtain ⟨s6, e_s6⟩ : ∃ z, z = zU s2 a 7 w17 := ⟨_, rfl⟩
          rw [← e_s6]
          have hS_s6 : zSK G s6 := by rw [e_s6]; exact zSK_F hS_s2 ha rfl rfl rfl (by omega)
          exact j_vret hx hq rfl (by decide) (by decide) dX10_weigh_71 ⟨rfl, rfl, hS_s6, (zFr_u (zFr_t zFr_rf hF_s2 (by decide)) e_s6 ha (by decide)), trivial⟩
      refine j_icmp_ge hx 43 dX10_weigh_27 rfl ⟨by decide, by decide⟩ (by omega) (fun h20 => ?_) (fun h20 => ?_)
      · skip
        exact j_sub [2, 3, 4, 1] [(0, .ref a), (1, .int (zI 6)), (2, .long (zL y2)), (4, .ref r1)] rfl (c43_1 s0 hS0 zFr_rf)
      · skip
        refine j_aloadN hx 0 dX10_weigh_30 rfl ?_
        refine j_ifnullN hx 43 dX10_weigh_32 rfl ?_
        exact j_sub [2, 3, 4, 1] [(0, .ref a), (1, .int (zI 6)), (2, .long (zL y2)), (4, .ref r1)] rfl (c43_1 s0 hS0 zFr_rf)
    · skip
      refine j_astore hx [(5, .ref r5), (4, .ref r1), (0, .ref a), (1, .int (zI 6)), (2, .long (zL y2))] dX10_weigh_14 (by decide) rfl ?_
      refine j_aload hx 1 dX10_weigh_16 rfl ?_
      refine j_ifnonnull hx 22 dX10_weigh_18 rfl ?_
      refine j_iload_n hx 3 dX10_weigh_22 rfl ?_
      refine j_aload_n hx 2 dX10_weigh_23 rfl ?_
      have f21 := zf hS0 ha (k := 4) rfl
      refine g11_4 hx hG ha kf_RX10_77 rfl dX10_weigh_24 ?_
      have c43_7 : ∀ (s8 : zS), (zSK G s8) → (zFr [1, 7, 41] G s0 s8) → JJ X E 9 G s8 0 0 [(0, .ref a), (1, .int (zI 6)), (2, .long (zL y2)), (4, .ref r1)] 43 [] := by
        intro s8 hS_s8 hF_s8
        refine j_aload_n hx 0 dX10_weigh_43 rfl ?_
        refine j_dup hx dX10_weigh_44 rfl ?_
        have f22 := zf hS0 ha (k := 7) rfl
        refine g11_7 hx hG ha kf_RX10_80 (v := (s0 a 7)) (by rw [(zFr_g hF_s8 ha (by decide))]) dX10_weigh_45 ?_
        refine j_aload_n hx 0 dX10_weigh_48 rfl ?_
        refine j_aload hx 3 dX10_weigh_49 rfl ?_
        refine j_callV hx hG (c_X10_leads hst a r1) lk_RX10_96 ha (by decide) rfl rfl rfl rfl [.ref r1] ⟨rfl, hG, hS_s8, ha, q2.1⟩ rfl rfl ⟨by decide, by decide⟩ ⟨by decide, by decide⟩ (k2 := 0) (n2 := 0) rfl rfl (Nat.le_of_ble_eq_true rfl) dX10_weigh_51 (kIP (fun v23 q24 => ?_))
        refine j_if_eq hx 66 dX10_weigh_54 rfl (by omega) (fun h25 => ?_) (fun h25 => ?_)
        · skip
          refine j_lconst hx dX10_weigh_66 ?_
          show JJ X E 9 G s8 0 0 [(0, .ref a), (1, .int (zI 6)), (2, .long (zL y2)), (4, .ref r1)] 67 [.long (zL 0), .long (zL ((s0 a 7))), .ref a]
          refine j_ladd hx dX10_weigh_67 (fun w26 f27 f28 => ?_)
          refine p11_7 hx hG ha kf_RX10_80 dX10_weigh_68 ?_
          obtain ⟨s11, e_s11⟩ : ∃ z, z = zU s8 a 7 w26 := ⟨_, rfl⟩
          rw [← e_s11]
          have hS_s11 : zSK G s11 := by rw [e_s11]; exact zSK_F hS_s8 ha rfl rfl rfl (by omega)
          exact j_vret hx hq rfl (by decide) (by decide) dX10_weigh_71 ⟨rfl, rfl, hS_s11, (zFr_u (zFr_t zFr_rf hF_s8 (by decide)) e_s11 ha (by decide)), trivial⟩
        · skip
          refine j_aload_n hx 0 dX10_weigh_57 rfl ?_
          refine j_iload_n hx 1 dX10_weigh_58 rfl ?_
          refine j_lload_n hx 2 dX10_weigh_59 rfl ?_
          refine j_callV hx hG (c_X10_allWays hst a 6 y2) lk_RX10_100 ha (by decide) rfl rfl rfl rfl [.int (zI 6), .long (zL y2)] ⟨rfl, hG, hS_s8, ha, (by omega), (by omega)⟩ rfl rfl ⟨by decide, by decide⟩ ⟨by decide, by decide⟩ (k2 := 0) (n2 := 0) rfl rfl (Nat.le_of_ble_eq_true rfl) dX10_weigh_60 (kLP (fun v29 q30 => ?_))
          refine j_goto hx 67 dX10_weigh_63 rfl ?_
          refine j_ladd hx dX10_weigh_67 (fun w31 f32 f33 => ?_)
          refine p11_7 hx hG ha kf_RX10_80 dX10_weigh_68 ?_
          obtain ⟨s12, e_s12⟩ : ∃ z, z = zU s8 a 7 w31 := ⟨_, rfl⟩
          rw [← e_s12]
          have hS_s12 : zSK G s12 := by rw [e_s12]; exact zSK_F hS_s8 ha rfl rfl rfl (by omega)
          exact j_vret hx hq rfl (by decide) (by decide) dX10_weigh_71 ⟨rfl, rfl, hS_s12, (zFr_u (zFr_t zFr_rf hF_s8 (by decide)) e_s12 ha (by decide)), trivial⟩
      refine j_icmp_ge hx 43 dX10_weigh_27 rfl ⟨by decide, by decide⟩ (by omega) (fun h34 => ?_) (fun h34 => ?_)
      · skip
        exact j_sub [2, 3, 4, 1] [(0, .ref a), (1, .int (zI 6)), (2, .long (zL y2)), (4, .ref r1)] rfl (c43_7 s0 hS0 zFr_rf)
      · skip
        refine j_aload hx 0 dX10_weigh_30 rfl ?_
        refine j_ifnull hx dX10_weigh_32 ?_
        refine j_aload hx 1 dX10_weigh_35 rfl ?_
        refine j_callV hx hG (c_X0_step hst r1) lk_RX10_33 q2.1 (by decide) rfl rfl rfl rfl [] ⟨rfl, hG, hS0, q2.1⟩ rfl rfl ⟨by decide, by decide⟩ ⟨by decide, by decide⟩ (k2 := 0) (n2 := 0) rfl rfl (Nat.le_of_ble_eq_true rfl) dX10_weigh_37 (kIM (fun v35 s13 hS_s13 hF_s13 q36 => ?_))
        refine j_if_ne hx 72 dX10_weigh_40 rfl (by omega) (fun h37 => ?_) (fun h37 => ?_)
        · skip
          refine j_aload hx 1 dX10_weigh_72 rfl ?_
          refine j_callV hx hG (c_X0_likeTops hst r1) lk_RX10_37 q2.1 (by decide) rfl rfl rfl rfl [] ⟨rfl, hG, hS_s13, q2.1⟩ rfl rfl ⟨by decide, by decide⟩ ⟨by decide, by decide⟩ (k2 := 0) (n2 := 0) rfl rfl (Nat.le_of_ble_eq_true rfl) dX10_weigh_74 (kIP (fun v38 q39 => ?_))
          refine j_istore hx [(6, .int (zI v38)), (5, .ref r5), (4, .ref r1), (0, .ref a), (1, .int (zI 6)), (2, .long (zL y2))] dX10_weigh_77 (by decide) rfl ?_
          refine j_iconst hx dX10_weigh_79 ?_
          refine j_istore hx [(7, .int (zI 0)), (6, .int (zI v38)), (5, .ref r5), (4, .ref r1), (0, .ref a), (1, .int (zI 6)), (2, .long (zL y2))] dX10_weigh_80 (by decide) rfl ?_
          refine j_iconst hx dX10_weigh_82 ?_
          refine j_istore hx [(8, .int (zI 0)), (7, .int (zI 0)), (6, .int (zI v38)), (5, .ref r5), (4, .ref r1), (0, .ref a), (1, .int (zI 6)), (2, .long (zL y2))] dX10_weigh_83 (by decide) rfl ?_
          have c85_14 : ∀ (m_c85_14 : Nat) (v40 : Int) (v41 : Int) (s15 : zS), 2147483648 - v41 < m_c85_14 → ((-2147483648) ≤ v40 ∧ v40 ≤ 2147483647) → (0 ≤ v41 ∧ v41 ≤ 3) → (zSK G s15) → (zFr [1, 7, 11, 41] G s13 s15) → JJ X E 9 G s15 0 0 [(0, .ref a), (1, .int (zI 6)), (2, .long (zL y2)), (4, .ref r1), (5, .ref r5), (6, .int (zI v38)), (7, .int (zI v40)), (8, .int (zI v41))] 85 [] := by
            intro m_c85_14
            induction m_c85_14 with
            | zero => intro v40 v41 s15 hm_c85_14 fA16 fA17 hS_s15 hF_s15; exfalso; omega
            | succ m_c85_14 ih_c85_14 => 
              intro v40 v41 s15 hm_c85_14 fA16 fA17 hS_s15 hF_s15
              refine j_iload hx 7 dX10_weigh_85 rfl ?_
              refine j_aload_n hx 0 dX10_weigh_87 rfl ?_
              refine g11_0 hx hG ha kf_RX10_17 dX10_weigh_88 ?_
              have f42 := zf hS0 (zr (k := 0) (t2 := 9) hG ha rfl) (k := 4) rfl
              refine gN9_4 hx hG (zr (k := 0) (t2 := 9) hG ha rfl) kf_RX10_104 (v := (s0 (gP G a 0) 4)) (by rw [(zFr_g hF_s15 (zr (k := 0) (t2 := 9) hG ha rfl) (by decide)), (zFr_g hF_s13 (zr (k := 0) (t2 := 9) hG ha rfl) (by decide))]) dX10_weigh_91 ?_
              refine j_icmp_ge hx 178 dX10_weigh_94 rfl (by omega) (by omega) (fun h43 => ?_) (fun h43 => ?_)
              · skip
                refine j_iload hx 6 dX10_weigh_178 rfl ?_
                refine j_if_le hx 202 dX10_weigh_180 rfl (by omega) (fun h44 => ?_) (fun h44 => ?_)
                · skip
                  exact j_vret hx hq rfl (by decide) (by decide) dX10_weigh_202 ⟨rfl, rfl, hS_s15, (zFr_t (zFr_t zFr_rf hF_s13 (by decide)) hF_s15 (by decide)), trivial⟩
                · skip
                  refine j_aload hx 4 dX10_weigh_183 rfl ?_
                  refine j_aload hx 3 dX10_weigh_185 rfl ?_
                  refine j_callV hx hG (c_X0_become hst r5 r1) lk_RX10_26 q6.1 (by decide) rfl rfl rfl rfl [.ref r1] ⟨rfl, hG, hS_s15, q6.1, q2.1⟩ rfl rfl ⟨by decide, by decide⟩ ⟨by decide, by decide⟩ (k2 := 0) (n2 := 0) rfl rfl (Nat.le_of_ble_eq_true rfl) dX10_weigh_187 (kVM (fun s20 hS_s20 hF_s20 q46 => ?_))
                  refine j_aload_n hx 0 dX10_weigh_190 rfl ?_
                  refine j_iload_n hx 1 dX10_weigh_191 rfl ?_
                  refine j_iconst hx dX10_weigh_192 ?_
                  refine j_iadd hx (r := 7) dX10_weigh_193 (by omega) ?_
                  refine j_lload_n hx 2 dX10_weigh_194 rfl ?_
                  refine j_iload hx 6 dX10_weigh_195 rfl ?_
                  refine j_i2l hx dX10_weigh_197 (by omega) ?_
                  refine j_lmul hx dX10_weigh_198 (fun w47 f48 f49 => ?_)
                  refine j_callV hx hG (c_X10_weigh_7 hst a 7 w47) lk_RX10_92 ha (by decide) rfl rfl rfl rfl [.int (zI 7), .long (zL w47)] ⟨rfl, hG, hS_s20, ha, (by omega), (by omega)⟩ rfl rfl ⟨by decide, by decide⟩ ⟨by decide, by decide⟩ (k2 := 0) (n2 := 0) rfl rfl (Nat.le_of_ble_eq_true rfl) dX10_weigh_199 (kVM (fun s21 hS_s21 hF_s21 q51 => ?_))
                  exact j_vret hx hq rfl (by decide) (by decide) dX10_weigh_202 ⟨rfl, rfl, hS_s21, (zFr_t (zFr_t (zFr_t (zFr_t zFr_rf hF_s13 (by decide)) hF_s15 (by decide)) hF_s20 (by decide)) hF_s21 (by decide)), trivial⟩
              · skip
                refine j_iload hx 5 dX10_weigh_97 rfl ?_
                refine j_iconst hx dX10_weigh_99 ?_
                have c172_22 : ∀ (v52 : Int) (s23 : zS), ((-2147483648) ≤ v52 ∧ v52 ≤ 2147483647) → (zSK G s23) → (zFr [1, 7, 11, 41] G s15 s23) → JJ X E 9 G s23 0 0 [(0, .ref a), (1, .int (zI 6)), (2, .long (zL y2)), (4, .ref r1), (5, .ref r5), (6, .int (zI v38)), (7, .int (zI v52)), (8, .int (zI v41))] 172 [] := by
                  intro v52 s23 fA24 hS_s23 hF_s23
                  refine j_iinc hx 7 [(8, .int (zI (v41 + 1))), (0, .ref a), (1, .int (zI 6)), (2, .long (zL y2)), (4, .ref r1), (5, .ref r5), (6, .int (zI v38)), (7, .int (zI v52))] dX10_weigh_172 rfl (by omega) (by decide) rfl ?_
                  refine j_goto hx 85 dX10_weigh_175 rfl ?_
                  exact j_sub [1, 2, 3, 4, 5, 6, 7, 0] [(0, .ref a), (1, .int (zI 6)), (2, .long (zL y2)), (4, .ref r1), (5, .ref r5), (6, .int (zI v38)), (7, .int (zI v52)), (8, .int (zI (v41 + 1)))] rfl (ih_c85_14 v52 (v41 + 1) s23 (by omega) (by omega) (by omega) hS_s23 (zFr_t (zFr_t zFr_rf hF_s15 (by decide)) hF_s23 (by decide)))
                have c113_27 : JJ X E 9 G s15 0 0 [(0, .ref a), (1, .int (zI 6)), (2, .long (zL y2)), (4, .ref r1), (5, .ref r5), (6, .int (zI v38)), (7, .int (zI v40)), (8, .int (zI v41))] 113 [] := by
                  refine j_iload hx 6 dX10_weigh_113 rfl ?_
                  refine j_aload_n hx 0 dX10_weigh_115 rfl ?_
                  refine g11_0 hx hG ha kf_RX10_17 dX10_weigh_116 ?_
                  refine j_iload hx 7 dX10_weigh_119 rfl ?_
                  refine j_iconst hx dX10_weigh_121 ?_
                  refine j_callV hx hG (c_X8_trait hst (gP G a 0) v41 0) lk_RX10_107 (zr (k := 0) (t2 := 9) hG ha rfl) (by decide) rfl rfl rfl rfl [.int (zI v41), .int (zI 0)] ⟨rfl, hG, hS_s15, (zr (k := 0) (t2 := 9) hG ha rfl), (by omega), (by omega)⟩ rfl rfl ⟨by decide, by decide⟩ ⟨by decide, by decide⟩ (k2 := 0) (n2 := 0) rfl rfl (Nat.le_of_ble_eq_true rfl) dX10_weigh_122 (kIP (fun v53 q54 => ?_))
                  refine j_iadd hx (r := v40 + v53) dX10_weigh_125 rfl ?_
                  refine j_norm (fun v55 f56 f57 f58 => ?_)
                  refine j_istore hx [(7, .int (zI v55)), (0, .ref a), (1, .int (zI 6)), (2, .long (zL y2)), (4, .ref r1), (5, .ref r5), (6, .int (zI v38)), (8, .int (zI v41))] dX10_weigh_126 (by decide) rfl ?_
                  refine j_goto hx 172 dX10_weigh_128 rfl ?_
                  exact j_sub [1, 2, 3, 4, 5, 6, 0, 7] [(0, .ref a), (1, .int (zI 6)), (2, .long (zL y2)), (4, .ref r1), (5, .ref r5), (6, .int (zI v38)), (7, .int (zI v55)), (8, .int (zI v41))] rfl (c172_22 v55 s15 (by omega) hS_s15 zFr_rf)
                refine j_icmp_eq hx 113 dX10_weigh_100 rfl (by omega) ⟨by decide, by decide⟩ (fun h59 => ?_) (fun h59 => ?_)
                · skip
                  exact j_sub [0, 1, 2, 3, 4, 5, 6, 7] [(0, .ref a), (1, .int (zI 6)), (2, .long (zL y2)), (4, .ref r1), (5, .ref r5), (6, .int (zI v38)), (7, .int (zI v40)), (8, .int (zI v41))] rfl (c113_27  )
                · skip
                  refine j_aload hx 3 dX10_weigh_103 rfl ?_
                  refine j_iload hx 7 dX10_weigh_105 rfl ?_
                  refine j_callV hx hG (c_X0_isOut hst r1 v41) lk_RX10_73 q2.1 (by decide) rfl rfl rfl rfl [.int (zI v41)] ⟨rfl, hG, hS_s15, q2.1, (by omega)⟩ rfl rfl ⟨by decide, by decide⟩ ⟨by decide, by decide⟩ (k2 := 0) (n2 := 0) rfl rfl (Nat.le_of_ble_eq_true rfl) dX10_weigh_107 (kIP (fun v60 q61 => ?_))
                  refine j_if_eq hx 131 dX10_weigh_110 rfl (by omega) (fun h62 => ?_) (fun h62 => ?_)
                  · skip
                    refine j_aload hx 4 dX10_weigh_131 rfl ?_
                    refine j_aload hx 3 dX10_weigh_133 rfl ?_
                    refine j_callV hx hG (c_X0_become hst r5 r1) lk_RX10_26 q6.1 (by decide) rfl rfl rfl rfl [.ref r1] ⟨rfl, hG, hS_s15, q6.1, q2.1⟩ rfl rfl ⟨by decide, by decide⟩ ⟨by decide, by decide⟩ (k2 := 0) (n2 := 0) rfl rfl (Nat.le_of_ble_eq_true rfl) dX10_weigh_135 (kVM (fun s28 hS_s28 hF_s28 q64 => ?_))
                    refine j_aload hx 4 dX10_weigh_138 rfl ?_
                    refine j_iload hx 7 dX10_weigh_140 rfl ?_
                    refine j_iload hx 5 dX10_weigh_142 rfl ?_
                    refine j_aload_n hx 0 dX10_weigh_144 rfl ?_
                    have f65 := zf hS_s15 ha (k := 3) rfl
                    refine g11_3 hx hG ha kf_RX10_45 (v := (s15 a 3)) (by rw [(zFr_g hF_s28 ha (by decide))]) dX10_weigh_145 ?_
                    refine j_callV hx hG (c_X0_win hst r5 v41 v38 ((s15 a 3))) lk_RX10_69 q6.1 (by decide) rfl rfl rfl rfl [.int (zI v41), .int (zI v38), .int (zI ((s15 a 3)))] ⟨rfl, hG, hS_s28, q6.1, (by omega), (by omega), (by omega)⟩ rfl rfl ⟨by decide, by decide⟩ ⟨by decide, by decide⟩ (k2 := 0) (n2 := 0) rfl rfl (Nat.le_of_ble_eq_true rfl) dX10_weigh_148 (kIM (fun v66 s29 hS_s29 hF_s29 q67 => ?_))
                    refine j_pop hx dX10_weigh_151 rfl ?_
                    refine j_aload_n hx 0 dX10_weigh_152 rfl ?_
                    refine j_iload_n hx 1 dX10_weigh_153 rfl ?_
                    refine j_iconst hx dX10_weigh_154 ?_
                    refine j_iadd hx (r := 7) dX10_weigh_155 (by omega) ?_
                    refine j_lload_n hx 2 dX10_weigh_156 rfl ?_
                    refine j_aload_n hx 0 dX10_weigh_157 rfl ?_
                    refine g11_0 hx hG ha kf_RX10_17 dX10_weigh_158 ?_
                    refine j_iload hx 7 dX10_weigh_161 rfl ?_
                    refine j_iconst hx dX10_weigh_163 ?_
                    refine j_callV hx hG (c_X8_trait hst (gP G a 0) v41 0) lk_RX10_107 (zr (k := 0) (t2 := 9) hG ha rfl) (by decide) rfl rfl rfl rfl [.int (zI v41), .int (zI 0)] ⟨rfl, hG, hS_s29, (zr (k := 0) (t2 := 9) hG ha rfl), (by omega), (by omega)⟩ rfl rfl ⟨by decide, by decide⟩ ⟨by decide, by decide⟩ (k2 := 0) (n2 := 0) rfl rfl (Nat.le_of_ble_eq_true rfl) dX10_weigh_164 (kIP (fun v68 q69 => ?_))
                    refine j_i2l hx dX10_weigh_167 (by omega) ?_
                    refine j_lmul hx dX10_weigh_168 (fun w70 f71 f72 => ?_)
                    refine j_callV hx hG (c_X10_weigh_7 hst a 7 w70) lk_RX10_92 ha (by decide) rfl rfl rfl rfl [.int (zI 7), .long (zL w70)] ⟨rfl, hG, hS_s29, ha, (by omega), (by omega)⟩ rfl rfl ⟨by decide, by decide⟩ ⟨by decide, by decide⟩ (k2 := 0) (n2 := 0) rfl rfl (Nat.le_of_ble_eq_true rfl) dX10_weigh_169 (kVM (fun s30 hS_s30 hF_s30 q74 => ?_))
                    exact j_sub [0, 1, 2, 3, 4, 5, 6, 7] [(0, .ref a), (1, .int (zI 6)), (2, .long (zL y2)), (4, .ref r1), (5, .ref r5), (6, .int (zI v38)), (7, .int (zI v40)), (8, .int (zI v41))] rfl (c172_22 v40 s30 (by omega) hS_s30 (zFr_t (zFr_t (zFr_t zFr_rf hF_s28 (by decide)) hF_s29 (by decide)) hF_s30 (by decide)))
                  · skip
                    exact j_sub [0, 1, 2, 3, 4, 5, 6, 7] [(0, .ref a), (1, .int (zI 6)), (2, .long (zL y2)), (4, .ref r1), (5, .ref r5), (6, .int (zI v38)), (7, .int (zI v40)), (8, .int (zI v41))] rfl (c113_27  )
          exact j_sub [5, 6, 7, 4, 3, 2, 1, 0] [(0, .ref a), (1, .int (zI 6)), (2, .long (zL y2)), (4, .ref r1), (5, .ref r5), (6, .int (zI v38)), (7, .int (zI 0)), (8, .int (zI 0))] rfl (c85_14 (2147483648 * 4) 0 0 s13 (by omega) (by omega) (by omega) hS_s13 zFr_rf)
        · skip
          exact j_sub [2, 3, 4, 1] [(0, .ref a), (1, .int (zI 6)), (2, .long (zL y2)), (4, .ref r1)] rfl (c43_7 s13 hS_s13 (zFr_t zFr_rf hF_s13 (by decide)))

set_option maxHeartbeats 4000000 in
set_option maxRecDepth 20000 in
theorem c_X10_weigh_5 {E : zE} {l : Launch} (hst : l.stackTraces = false) (a : Nat) (x1 : Int) (y2 : Int) : Con E l yX10_weigh cX10_weigh 9 none { frames := 10, cells := 0, slots := 0, locals := 267 } (fun G s vs => vs = [.ref a, .int (zI x1), .long (zL y2)] ∧ zGK G ∧ zSK G s ∧ (gT G a = 11) ∧ (5 ≤ x1 ∧ x1 ≤ 5) ∧ ((-9223372036854775808) ≤ y2 ∧ y2 ≤ 9223372036854775807)) (fun G s _ => pV (fun G2 s2 => G2 = G ∧ zSK G s2 ∧ zFr [1, 7, 11, 41] G s s2 ∧ True)) := by
  refine Con.mk hst (by decide) (fun G s vs h => by rw [h.1]; exact Nat.le_of_ble_eq_true rfl) ?_
  rintro X G s0 vs ⟨rfl, hG, hS0, ha, hx1, hy2⟩ rfl hx hq
  obtain rfl : x1 = 5 := by omega
  show JJ X E 9 G s0 0 0 [(0, .ref a), (1, .int (zI 5)), (2, .long (zL y2))] 0 []
  refine j_aload_n hx 0 dX10_weigh_0 rfl ?_
  refine j_iload_n hx 1 dX10_weigh_1 rfl ?_
  refine j_callV hx hG (c_X10_boardAt hst a 5) lk_RX10_22 ha (by decide) rfl rfl rfl rfl [.int (zI 5)] ⟨rfl, hG, hS0, ha, (by omega)⟩ rfl rfl ⟨by decide, by decide⟩ ⟨by decide, by decide⟩ (k2 := 0) (n2 := 0) rfl rfl (Nat.le_of_ble_eq_true rfl) dX10_weigh_2 (kNP (fun _ => ?_) (fun r1 q2 => ?_))
  · skip
    refine j_astoreN hx [(4, .null), (0, .ref a), (1, .int (zI 5)), (2, .long (zL y2))] dX10_weigh_5 (by decide) rfl ?_
    refine j_aload_n hx 1 dX10_weigh_7 rfl ?_
    refine j_iload_n hx 2 dX10_weigh_8 rfl ?_
    refine j_iconst hx dX10_weigh_9 ?_
    refine j_iadd hx (r := 6) dX10_weigh_10 (by omega) ?_
    refine j_callV hx hG (c_X10_boardAt hst a 6) lk_RX10_22 ha (by decide) rfl rfl rfl rfl [.int (zI 6)] ⟨rfl, hG, hS0, ha, (by omega)⟩ rfl rfl ⟨by decide, by decide⟩ ⟨by decide, by decide⟩ (k2 := 0) (n2 := 0) rfl rfl (Nat.le_of_ble_eq_true rfl) dX10_weigh_11 (kNP (fun _ => ?_) (fun r3 q4 => ?_))
    · skip
      refine j_astoreN hx [(5, .null), (4, .null), (0, .ref a), (1, .int (zI 5)), (2, .long (zL y2))] dX10_weigh_14 (by decide) rfl ?_
      refine j_aloadN hx 1 dX10_weigh_16 rfl ?_
      refine j_ifnonnullN hx dX10_weigh_18 ?_
      exact j_vret hx hq rfl (by decide) (by decide) dX10_weigh_21 ⟨rfl, rfl, hS0, zFr_rf, trivial⟩
    · skip
      refine j_astore hx [(5, .ref r3), (4, .null), (0, .ref a), (1, .int (zI 5)), (2, .long (zL y2))] dX10_weigh_14 (by decide) rfl ?_
      refine j_aloadN hx 1 dX10_weigh_16 rfl ?_
      refine j_ifnonnullN hx dX10_weigh_18 ?_
      exact j_vret hx hq rfl (by decide) (by decide) dX10_weigh_21 ⟨rfl, rfl, hS0, zFr_rf, trivial⟩
  · skip
    refine j_astore hx [(4, .ref r1), (0, .ref a), (1, .int (zI 5)), (2, .long (zL y2))] dX10_weigh_5 (by decide) rfl ?_
    refine j_aload_n hx 1 dX10_weigh_7 rfl ?_
    refine j_iload_n hx 2 dX10_weigh_8 rfl ?_
    refine j_iconst hx dX10_weigh_9 ?_
    refine j_iadd hx (r := 6) dX10_weigh_10 (by omega) ?_
    refine j_callV hx hG (c_X10_boardAt hst a 6) lk_RX10_22 ha (by decide) rfl rfl rfl rfl [.int (zI 6)] ⟨rfl, hG, hS0, ha, (by omega)⟩ rfl rfl ⟨by decide, by decide⟩ ⟨by decide, by decide⟩ (k2 := 0) (n2 := 0) rfl rfl (Nat.le_of_ble_eq_true rfl) dX10_weigh_11 (kNP (fun _ => ?_) (fun r5 q6 => ?_))
    · skip
      refine j_astoreN hx [(5, .null), (4, .ref r1), (0, .ref a), (1, .int (zI 5)), (2, .long (zL y2))] dX10_weigh_14 (by decide) rfl ?_
      refine j_aload hx 1 dX10_weigh_16 rfl ?_
      refine j_ifnonnull hx 22 dX10_weigh_18 rfl ?_
      refine j_iload_n hx 3 dX10_weigh_22 rfl ?_
      refine j_aload_n hx 2 dX10_weigh_23 rfl ?_
      have f7 := zf hS0 ha (k := 4) rfl
      refine g11_4 hx hG ha kf_RX10_77 rfl dX10_weigh_24 ?_
      have c43_1 : ∀ (s2 : zS), (zSK G s2) → (zFr [1, 7, 41] G s0 s2) → JJ X E 9 G s2 0 0 [(0, .ref a), (1, .int (zI 5)), (2, .long (zL y2)), (4, .ref r1)] 43 [] := by
        intro s2 hS_s2 hF_s2
        refine j_aload_n hx 0 dX10_weigh_43 rfl ?_
        refine j_dup hx dX10_weigh_44 rfl ?_
        have f8 := zf hS0 ha (k := 7) rfl
        refine g11_7 hx hG ha kf_RX10_80 (v := (s0 a 7)) (by rw [(zFr_g hF_s2 ha (by decide))]) dX10_weigh_45 ?_
        refine j_aload_n hx 0 dX10_weigh_48 rfl ?_
        refine j_aload hx 3 dX10_weigh_49 rfl ?_
        refine j_callV hx hG (c_X10_leads hst a r1) lk_RX10_96 ha (by decide) rfl rfl rfl rfl [.ref r1] ⟨rfl, hG, hS_s2, ha, q2.1⟩ rfl rfl ⟨by decide, by decide⟩ ⟨by decide, by decide⟩ (k2 := 0) (n2 := 0) rfl rfl (Nat.le_of_ble_eq_true rfl) dX10_weigh_51 (kIP (fun v9 q10 => ?_))
        refine j_if_eq hx 66 dX10_weigh_54 rfl (by omega) (fun h11 => ?_) (fun h11 => ?_)
        · skip
          refine j_lconst hx dX10_weigh_66 ?_
          show JJ X E 9 G s2 0 0 [(0, .ref a), (1, .int (zI 5)), (2, .long (zL y2)), (4, .ref r1)] 67 [.long (zL 0), .long (zL ((s0 a 7))), .ref a]
          refine j_ladd hx dX10_weigh_67 (fun w12 f13 f14 => ?_)
          refine p11_7 hx hG ha kf_RX10_80 dX10_weigh_68 ?_
          obtain ⟨s5, e_s5⟩ : ∃ z, z = zU s2 a 7 w12 := ⟨_, rfl⟩
          rw [← e_s5]
          have hS_s5 : zSK G s5 := by rw [e_s5]; exact zSK_F hS_s2 ha rfl rfl rfl (by omega)
          exact j_vret hx hq rfl (by decide) (by decide) dX10_weigh_71 ⟨rfl, rfl, hS_s5, (zFr_u (zFr_t zFr_rf hF_s2 (by decide)) e_s5 ha (by decide)), trivial⟩
        · skip
          refine j_aload_n hx 0 dX10_weigh_57 rfl ?_
          refine j_iload_n hx 1 dX10_weigh_58 rfl ?_
          refine j_lload_n hx 2 dX10_weigh_59 rfl ?_
          refine j_callV hx hG (c_X10_allWays hst a 5 y2) lk_RX10_100 ha (by decide) rfl rfl rfl rfl [.int (zI 5), .long (zL y2)] ⟨rfl, hG, hS_s2, ha, (by omega), (by omega)⟩ rfl rfl ⟨by decide, by decide⟩ ⟨by decide, by decide⟩ (k2 := 0) (n2 := 0) rfl rfl (Nat.le_of_ble_eq_true rfl) dX10_weigh_60 (kLP (fun v15 q16 => ?_))
          refine j_goto hx 67 dX10_weigh_63 rfl ?_
          refine j_ladd hx dX10_weigh_67 (fun w17 f18 f19 => ?_)
          refine p11_7 hx hG ha kf_RX10_80 dX10_weigh_68 ?_
          obtain ⟨s6, e_s6⟩ : ∃ z, z = zU s2 a 7 w17 := ⟨_, rfl⟩
          rw [← e_s6]
          have hS_s6 : zSK G s6 := by rw [e_s6]; exact zSK_F hS_s2 ha rfl rfl rfl (by omega)
          exact j_vret hx hq rfl (by decide) (by decide) dX10_weigh_71 ⟨rfl, rfl, hS_s6, (zFr_u (zFr_t zFr_rf hF_s2 (by decide)) e_s6 ha (by decide)), trivial⟩
      refine j_icmp_ge hx 43 dX10_weigh_27 rfl ⟨by decide, by decide⟩ (by omega) (fun h20 => ?_) (fun h20 => ?_)
      · skip
        exact j_sub [2, 3, 4, 1] [(0, .ref a), (1, .int (zI 5)), (2, .long (zL y2)), (4, .ref r1)] rfl (c43_1 s0 hS0 zFr_rf)
      · skip
        refine j_aloadN hx 0 dX10_weigh_30 rfl ?_
        refine j_ifnullN hx 43 dX10_weigh_32 rfl ?_
        exact j_sub [2, 3, 4, 1] [(0, .ref a), (1, .int (zI 5)), (2, .long (zL y2)), (4, .ref r1)] rfl (c43_1 s0 hS0 zFr_rf)
    · skip
      refine j_astore hx [(5, .ref r5), (4, .ref r1), (0, .ref a), (1, .int (zI 5)), (2, .long (zL y2))] dX10_weigh_14 (by decide) rfl ?_
      refine j_aload hx 1 dX10_weigh_16 rfl ?_
      refine j_ifnonnull hx 22 dX10_weigh_18 rfl ?_
      refine j_iload_n hx 3 dX10_weigh_22 rfl ?_
      refine j_aload_n hx 2 dX10_weigh_23 rfl ?_
      have f21 := zf hS0 ha (k := 4) rfl
      refine g11_4 hx hG ha kf_RX10_77 rfl dX10_weigh_24 ?_
      have c43_7 : ∀ (s8 : zS), (zSK G s8) → (zFr [1, 7, 41] G s0 s8) → JJ X E 9 G s8 0 0 [(0, .ref a), (1, .int (zI 5)), (2, .long (zL y2)), (4, .ref r1)] 43 [] := by
        intro s8 hS_s8 hF_s8
        refine j_aload_n hx 0 dX10_weigh_43 rfl ?_
        refine j_dup hx dX10_weigh_44 rfl ?_
        have f22 := zf hS0 ha (k := 7) rfl
        refine g11_7 hx hG ha kf_RX10_80 (v := (s0 a 7)) (by rw [(zFr_g hF_s8 ha (by decide))]) dX10_weigh_45 ?_
        refine j_aload_n hx 0 dX10_weigh_48 rfl ?_
        refine j_aload hx 3 dX10_weigh_49 rfl ?_
        refine j_callV hx hG (c_X10_leads hst a r1) lk_RX10_96 ha (by decide) rfl rfl rfl rfl [.ref r1] ⟨rfl, hG, hS_s8, ha, q2.1⟩ rfl rfl ⟨by decide, by decide⟩ ⟨by decide, by decide⟩ (k2 := 0) (n2 := 0) rfl rfl (Nat.le_of_ble_eq_true rfl) dX10_weigh_51 (kIP (fun v23 q24 => ?_))
        refine j_if_eq hx 66 dX10_weigh_54 rfl (by omega) (fun h25 => ?_) (fun h25 => ?_)
        · skip
          refine j_lconst hx dX10_weigh_66 ?_
          show JJ X E 9 G s8 0 0 [(0, .ref a), (1, .int (zI 5)), (2, .long (zL y2)), (4, .ref r1)] 67 [.long (zL 0), .long (zL ((s0 a 7))), .ref a]
          refine j_ladd hx dX10_weigh_67 (fun w26 f27 f28 => ?_)
          refine p11_7 hx hG ha kf_RX10_80 dX10_weigh_68 ?_
          obtain ⟨s11, e_s11⟩ : ∃ z, z = zU s8 a 7 w26 := ⟨_, rfl⟩
          rw [← e_s11]
          have hS_s11 : zSK G s11 := by rw [e_s11]; exact zSK_F hS_s8 ha rfl rfl rfl (by omega)
          exact j_vret hx hq rfl (by decide) (by decide) dX10_weigh_71 ⟨rfl, rfl, hS_s11, (zFr_u (zFr_t zFr_rf hF_s8 (by decide)) e_s11 ha (by decide)), trivial⟩
        · skip
          refine j_aload_n hx 0 dX10_weigh_57 rfl ?_
          refine j_iload_n hx 1 dX10_weigh_58 rfl ?_
          refine j_lload_n hx 2 dX10_weigh_59 rfl ?_
          refine j_callV hx hG (c_X10_allWays hst a 5 y2) lk_RX10_100 ha (by decide) rfl rfl rfl rfl [.int (zI 5), .long (zL y2)] ⟨rfl, hG, hS_s8, ha, (by omega), (by omega)⟩ rfl rfl ⟨by decide, by decide⟩ ⟨by decide, by decide⟩ (k2 := 0) (n2 := 0) rfl rfl (Nat.le_of_ble_eq_true rfl) dX10_weigh_60 (kLP (fun v29 q30 => ?_))
          refine j_goto hx 67 dX10_weigh_63 rfl ?_
          refine j_ladd hx dX10_weigh_67 (fun w31 f32 f33 => ?_)
          refine p11_7 hx hG ha kf_RX10_80 dX10_weigh_68 ?_
          obtain ⟨s12, e_s12⟩ : ∃ z, z = zU s8 a 7 w31 := ⟨_, rfl⟩
          rw [← e_s12]
          have hS_s12 : zSK G s12 := by rw [e_s12]; exact zSK_F hS_s8 ha rfl rfl rfl (by omega)
          exact j_vret hx hq rfl (by decide) (by decide) dX10_weigh_71 ⟨rfl, rfl, hS_s12, (zFr_u (zFr_t zFr_rf hF_s8 (by decide)) e_s12 ha (by decide)), trivial⟩
      refine j_icmp_ge hx 43 dX10_weigh_27 rfl ⟨by decide, by decide⟩ (by omega) (fun h34 => ?_) (fun h34 => ?_)
      · skip
        exact j_sub [2, 3, 4, 1] [(0, .ref a), (1, .int (zI 5)), (2, .long (zL y2)), (4, .ref r1)] rfl (c43_7 s0 hS0 zFr_rf)
      · skip
        refine j_aload hx 0 dX10_weigh_30 rfl ?_
        refine j_ifnull hx dX10_weigh_32 ?_
        refine j_aload hx 1 dX10_weigh_35 rfl ?_
        refine j_callV hx hG (c_X0_step hst r1) lk_RX10_33 q2.1 (by decide) rfl rfl rfl rfl [] ⟨rfl, hG, hS0, q2.1⟩ rfl rfl ⟨by decide, by decide⟩ ⟨by decide, by decide⟩ (k2 := 0) (n2 := 0) rfl rfl (Nat.le_of_ble_eq_true rfl) dX10_weigh_37 (kIM (fun v35 s13 hS_s13 hF_s13 q36 => ?_))
        refine j_if_ne hx 72 dX10_weigh_40 rfl (by omega) (fun h37 => ?_) (fun h37 => ?_)
        · skip
          refine j_aload hx 1 dX10_weigh_72 rfl ?_
          refine j_callV hx hG (c_X0_likeTops hst r1) lk_RX10_37 q2.1 (by decide) rfl rfl rfl rfl [] ⟨rfl, hG, hS_s13, q2.1⟩ rfl rfl ⟨by decide, by decide⟩ ⟨by decide, by decide⟩ (k2 := 0) (n2 := 0) rfl rfl (Nat.le_of_ble_eq_true rfl) dX10_weigh_74 (kIP (fun v38 q39 => ?_))
          refine j_istore hx [(6, .int (zI v38)), (5, .ref r5), (4, .ref r1), (0, .ref a), (1, .int (zI 5)), (2, .long (zL y2))] dX10_weigh_77 (by decide) rfl ?_
          refine j_iconst hx dX10_weigh_79 ?_
          refine j_istore hx [(7, .int (zI 0)), (6, .int (zI v38)), (5, .ref r5), (4, .ref r1), (0, .ref a), (1, .int (zI 5)), (2, .long (zL y2))] dX10_weigh_80 (by decide) rfl ?_
          refine j_iconst hx dX10_weigh_82 ?_
          refine j_istore hx [(8, .int (zI 0)), (7, .int (zI 0)), (6, .int (zI v38)), (5, .ref r5), (4, .ref r1), (0, .ref a), (1, .int (zI 5)), (2, .long (zL y2))] dX10_weigh_83 (by decide) rfl ?_
          have c85_14 : ∀ (m_c85_14 : Nat) (v40 : Int) (v41 : Int) (s15 : zS), 2147483648 - v41 < m_c85_14 → ((-2147483648) ≤ v40 ∧ v40 ≤ 2147483647) → (0 ≤ v41 ∧ v41 ≤ 3) → (zSK G s15) → (zFr [1, 7, 11, 41] G s13 s15) → JJ X E 9 G s15 0 0 [(0, .ref a), (1, .int (zI 5)), (2, .long (zL y2)), (4, .ref r1), (5, .ref r5), (6, .int (zI v38)), (7, .int (zI v40)), (8, .int (zI v41))] 85 [] := by
            intro m_c85_14
            induction m_c85_14 with
            | zero => intro v40 v41 s15 hm_c85_14 fA16 fA17 hS_s15 hF_s15; exfalso; omega
            | succ m_c85_14 ih_c85_14 => 
              intro v40 v41 s15 hm_c85_14 fA16 fA17 hS_s15 hF_s15
              refine j_iload hx 7 dX10_weigh_85 rfl ?_
              refine j_aload_n hx 0 dX10_weigh_87 rfl ?_
              refine g11_0 hx hG ha kf_RX10_17 dX10_weigh_88 ?_
              have f42 := zf hS0 (zr (k := 0) (t2 := 9) hG ha rfl) (k := 4) rfl
              refine gN9_4 hx hG (zr (k := 0) (t2 := 9) hG ha rfl) kf_RX10_104 (v := (s0 (gP G a 0) 4)) (by rw [(zFr_g hF_s15 (zr (k := 0) (t2 := 9) hG ha rfl) (by decide)), (zFr_g hF_s13 (zr (k := 0) (t2 := 9) hG ha rfl) (by decide))]) dX10_weigh_91 ?_
              refine j_icmp_ge hx 178 dX10_weigh_94 rfl (by omega) (by omega) (fun h43 => ?_) (fun h43 => ?_)
              · skip
                refine j_iload hx 6 dX10_weigh_178 rfl ?_
                refine j_if_le hx 202 dX10_weigh_180 rfl (by omega) (fun h44 => ?_) (fun h44 => ?_)
                · skip
                  exact j_vret hx hq rfl (by decide) (by decide) dX10_weigh_202 ⟨rfl, rfl, hS_s15, (zFr_t (zFr_t zFr_rf hF_s13 (by decide)) hF_s15 (by decide)), trivial⟩
                · skip
                  refine j_aload hx 4 dX10_weigh_183 rfl ?_
                  refine j_aload hx 3 dX10_weigh_185 rfl ?_
                  refine j_callV hx hG (c_X0_become hst r5 r1) lk_RX10_26 q6.1 (by decide) rfl rfl rfl rfl [.ref r1] ⟨rfl, hG, hS_s15, q6.1, q2.1⟩ rfl rfl ⟨by decide, by decide⟩ ⟨by decide, by decide⟩ (k2 := 0) (n2 := 0) rfl rfl (Nat.le_of_ble_eq_true rfl) dX10_weigh_187 (kVM (fun s20 hS_s20 hF_s20 q46 => ?_))
                  refine j_aload_n hx 0 dX10_weigh_190 rfl ?_
                  refine j_iload_n hx 1 dX10_weigh_191 rfl ?_
                  refine j_iconst hx dX10_weigh_192 ?_
                  refine j_iadd hx (r := 6) dX10_weigh_193 (by omega) ?_
                  refine j_lload_n hx 2 dX10_weigh_194 rfl ?_
                  refine j_iload hx 6 dX10_weigh_195 rfl ?_
                  refine j_i2l hx dX10_weigh_197 (by omega) ?_
                  refine j_lmul hx dX10_weigh_198 (fun w47 f48 f49 => ?_)
                  refine j_callV hx hG (c_X10_weigh_6 hst a 6 w47) lk_RX10_92 ha (by decide) rfl rfl rfl rfl [.int (zI 6), .long (zL w47)] ⟨rfl, hG, hS_s20, ha, (by omega), (by omega)⟩ rfl rfl ⟨by decide, by decide⟩ ⟨by decide, by decide⟩ (k2 := 0) (n2 := 0) rfl rfl (Nat.le_of_ble_eq_true rfl) dX10_weigh_199 (kVM (fun s21 hS_s21 hF_s21 q51 => ?_))
                  exact j_vret hx hq rfl (by decide) (by decide) dX10_weigh_202 ⟨rfl, rfl, hS_s21, (zFr_t (zFr_t (zFr_t (zFr_t zFr_rf hF_s13 (by decide)) hF_s15 (by decide)) hF_s20 (by decide)) hF_s21 (by decide)), trivial⟩
              · skip
                refine j_iload hx 5 dX10_weigh_97 rfl ?_
                refine j_iconst hx dX10_weigh_99 ?_
                have c172_22 : ∀ (v52 : Int) (s23 : zS), ((-2147483648) ≤ v52 ∧ v52 ≤ 2147483647) → (zSK G s23) → (zFr [1, 7, 11, 41] G s15 s23) → JJ X E 9 G s23 0 0 [(0, .ref a), (1, .int (zI 5)), (2, .long (zL y2)), (4, .ref r1), (5, .ref r5), (6, .int (zI v38)), (7, .int (zI v52)), (8, .int (zI v41))] 172 [] := by
                  intro v52 s23 fA24 hS_s23 hF_s23
                  refine j_iinc hx 7 [(8, .int (zI (v41 + 1))), (0, .ref a), (1, .int (zI 5)), (2, .long (zL y2)), (4, .ref r1), (5, .ref r5), (6, .int (zI v38)), (7, .int (zI v52))] dX10_weigh_172 rfl (by omega) (by decide) rfl ?_
                  refine j_goto hx 85 dX10_weigh_175 rfl ?_
                  exact j_sub [1, 2, 3, 4, 5, 6, 7, 0] [(0, .ref a), (1, .int (zI 5)), (2, .long (zL y2)), (4, .ref r1), (5, .ref r5), (6, .int (zI v38)), (7, .int (zI v52)), (8, .int (zI (v41 + 1)))] rfl (ih_c85_14 v52 (v41 + 1) s23 (by omega) (by omega) (by omega) hS_s23 (zFr_t (zFr_t zFr_rf hF_s15 (by decide)) hF_s23 (by decide)))
                have c113_27 : JJ X E 9 G s15 0 0 [(0, .ref a), (1, .int (zI 5)), (2, .long (zL y2)), (4, .ref r1), (5, .ref r5), (6, .int (zI v38)), (7, .int (zI v40)), (8, .int (zI v41))] 113 [] := by
                  refine j_iload hx 6 dX10_weigh_113 rfl ?_
                  refine j_aload_n hx 0 dX10_weigh_115 rfl ?_
                  refine g11_0 hx hG ha kf_RX10_17 dX10_weigh_116 ?_
                  refine j_iload hx 7 dX10_weigh_119 rfl ?_
                  refine j_iconst hx dX10_weigh_121 ?_
                  refine j_callV hx hG (c_X8_trait hst (gP G a 0) v41 0) lk_RX10_107 (zr (k := 0) (t2 := 9) hG ha rfl) (by decide) rfl rfl rfl rfl [.int (zI v41), .int (zI 0)] ⟨rfl, hG, hS_s15, (zr (k := 0) (t2 := 9) hG ha rfl), (by omega), (by omega)⟩ rfl rfl ⟨by decide, by decide⟩ ⟨by decide, by decide⟩ (k2 := 0) (n2 := 0) rfl rfl (Nat.le_of_ble_eq_true rfl) dX10_weigh_122 (kIP (fun v53 q54 => ?_))
                  refine j_iadd hx (r := v40 + v53) dX10_weigh_125 rfl ?_
                  refine j_norm (fun v55 f56 f57 f58 => ?_)
                  refine j_istore hx [(7, .int (zI v55)), (0, .ref a), (1, .int (zI 5)), (2, .long (zL y2)), (4, .ref r1), (5, .ref r5), (6, .int (zI v38)), (8, .int (zI v41))] dX10_weigh_126 (by decide) rfl ?_
                  refine j_goto hx 172 dX10_weigh_128 rfl ?_
                  exact j_sub [1, 2, 3, 4, 5, 6, 0, 7] [(0, .ref a), (1, .int (zI 5)), (2, .long (zL y2)), (4, .ref r1), (5, .ref r5), (6, .int (zI v38)), (7, .int (zI v55)), (8, .int (zI v41))] rfl (c172_22 v55 s15 (by omega) hS_s15 zFr_rf)
                refine j_icmp_eq hx 113 dX10_weigh_100 rfl (by omega) ⟨by decide, by decide⟩ (fun h59 => ?_) (fun h59 => ?_)
                · skip
                  exact j_sub [0, 1, 2, 3, 4, 5, 6, 7] [(0, .ref a), (1, .int (zI 5)), (2, .long (zL y2)), (4, .ref r1), (5, .ref r5), (6, .int (zI v38)), (7, .int (zI v40)), (8, .int (zI v41))] rfl (c113_27  )
                · skip
                  refine j_aload hx 3 dX10_weigh_103 rfl ?_
                  refine j_iload hx 7 dX10_weigh_105 rfl ?_
                  refine j_callV hx hG (c_X0_isOut hst r1 v41) lk_RX10_73 q2.1 (by decide) rfl rfl rfl rfl [.int (zI v41)] ⟨rfl, hG, hS_s15, q2.1, (by omega)⟩ rfl rfl ⟨by decide, by decide⟩ ⟨by decide, by decide⟩ (k2 := 0) (n2 := 0) rfl rfl (Nat.le_of_ble_eq_true rfl) dX10_weigh_107 (kIP (fun v60 q61 => ?_))
                  refine j_if_eq hx 131 dX10_weigh_110 rfl (by omega) (fun h62 => ?_) (fun h62 => ?_)
                  · skip
                    refine j_aload hx 4 dX10_weigh_131 rfl ?_
                    refine j_aload hx 3 dX10_weigh_133 rfl ?_
                    refine j_callV hx hG (c_X0_become hst r5 r1) lk_RX10_26 q6.1 (by decide) rfl rfl rfl rfl [.ref r1] ⟨rfl, hG, hS_s15, q6.1, q2.1⟩ rfl rfl ⟨by decide, by decide⟩ ⟨by decide, by decide⟩ (k2 := 0) (n2 := 0) rfl rfl (Nat.le_of_ble_eq_true rfl) dX10_weigh_135 (kVM (fun s28 hS_s28 hF_s28 q64 => ?_))
                    refine j_aload hx 4 dX10_weigh_138 rfl ?_
                    refine j_iload hx 7 dX10_weigh_140 rfl ?_
                    refine j_iload hx 5 dX10_weigh_142 rfl ?_
                    refine j_aload_n hx 0 dX10_weigh_144 rfl ?_
                    have f65 := zf hS_s15 ha (k := 3) rfl
                    refine g11_3 hx hG ha kf_RX10_45 (v := (s15 a 3)) (by rw [(zFr_g hF_s28 ha (by decide))]) dX10_weigh_145 ?_
                    refine j_callV hx hG (c_X0_win hst r5 v41 v38 ((s15 a 3))) lk_RX10_69 q6.1 (by decide) rfl rfl rfl rfl [.int (zI v41), .int (zI v38), .int (zI ((s15 a 3)))] ⟨rfl, hG, hS_s28, q6.1, (by omega), (by omega), (by omega)⟩ rfl rfl ⟨by decide, by decide⟩ ⟨by decide, by decide⟩ (k2 := 0) (n2 := 0) rfl rfl (Nat.le_of_ble_eq_true rfl) dX10_weigh_148 (kIM (fun v66 s29 hS_s29 hF_s29 q67 => ?_))
                    refine j_pop hx dX10_weigh_151 rfl ?_
                    refine j_aload_n hx 0 dX10_weigh_152 rfl ?_
                    refine j_iload_n hx 1 dX10_weigh_153 rfl ?_
                    refine j_iconst hx dX10_weigh_154 ?_
                    refine j_iadd hx (r := 6) dX10_weigh_155 (by omega) ?_
                    refine j_lload_n hx 2 dX10_weigh_156 rfl ?_
                    refine j_aload_n hx 0 dX10_weigh_157 rfl ?_
                    refine g11_0 hx hG ha kf_RX10_17 dX10_weigh_158 ?_
                    refine j_iload hx 7 dX10_weigh_161 rfl ?_
                    refine j_iconst hx dX10_weigh_163 ?_
                    refine j_callV hx hG (c_X8_trait hst (gP G a 0) v41 0) lk_RX10_107 (zr (k := 0) (t2 := 9) hG ha rfl) (by decide) rfl rfl rfl rfl [.int (zI v41), .int (zI 0)] ⟨rfl, hG, hS_s29, (zr (k := 0) (t2 := 9) hG ha rfl), (by omega), (by omega)⟩ rfl rfl ⟨by decide, by decide⟩ ⟨by decide, by decide⟩ (k2 := 0) (n2 := 0) rfl rfl (Nat.le_of_ble_eq_true rfl) dX10_weigh_164 (kIP (fun v68 q69 => ?_))
                    refine j_i2l hx dX10_weigh_167 (by omega) ?_
                    refine j_lmul hx dX10_weigh_168 (fun w70 f71 f72 => ?_)
                    refine j_callV hx hG (c_X10_weigh_6 hst a 6 w70) lk_RX10_92 ha (by decide) rfl rfl rfl rfl [.int (zI 6), .long (zL w70)] ⟨rfl, hG, hS_s29, ha, (by omega), (by omega)⟩ rfl rfl ⟨by decide, by decide⟩ ⟨by decide, by decide⟩ (k2 := 0) (n2 := 0) rfl rfl (Nat.le_of_ble_eq_true rfl) dX10_weigh_169 (kVM (fun s30 hS_s30 hF_s30 q74 => ?_))
                    exact j_sub [0, 1, 2, 3, 4, 5, 6, 7] [(0, .ref a), (1, .int (zI 5)), (2, .long (zL y2)), (4, .ref r1), (5, .ref r5), (6, .int (zI v38)), (7, .int (zI v40)), (8, .int (zI v41))] rfl (c172_22 v40 s30 (by omega) hS_s30 (zFr_t (zFr_t (zFr_t zFr_rf hF_s28 (by decide)) hF_s29 (by decide)) hF_s30 (by decide)))
                  · skip
                    exact j_sub [0, 1, 2, 3, 4, 5, 6, 7] [(0, .ref a), (1, .int (zI 5)), (2, .long (zL y2)), (4, .ref r1), (5, .ref r5), (6, .int (zI v38)), (7, .int (zI v40)), (8, .int (zI v41))] rfl (c113_27  )
          exact j_sub [5, 6, 7, 4, 3, 2, 1, 0] [(0, .ref a), (1, .int (zI 5)), (2, .long (zL y2)), (4, .ref r1), (5, .ref r5), (6, .int (zI v38)), (7, .int (zI 0)), (8, .int (zI 0))] rfl (c85_14 (2147483648 * 4) 0 0 s13 (by omega) (by omega) (by omega) hS_s13 zFr_rf)
        · skip
          exact j_sub [2, 3, 4, 1] [(0, .ref a), (1, .int (zI 5)), (2, .long (zL y2)), (4, .ref r1)] rfl (c43_7 s13 hS_s13 (zFr_t zFr_rf hF_s13 (by decide)))
