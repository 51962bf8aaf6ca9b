set_option maxHeartbeats 4000000 in
set_option maxRecDepth 20000 in
theorem c_X10_weigh_4 {E : zE} {l : Launch} (hst : l.stackTraces = false) (a : Nat) (x1 : Int) (y2 : Int) : Con E l yX10_weigh cX10_weigh 9 none { frames := 11, cells := 0, slots := 0, locals := 295 } (fun G s vs => vs = [.ref a, .int (zI x1), .long (zL y2)] ∧ zGK G ∧ zSK G s ∧ (gT G a = 11) ∧ (4 ≤ x1 ∧ x1 ≤ 4) ∧ ((-9223372036854775808) ≤ y2 ∧ y2 ≤ 9223372036854775807)) (fun G s _ => pV (fun G2 s2 => G2 = G ∧ zSK G s2 ∧ zFr [1, 7, 11, 41] G s s2 ∧ True)) := by
  refine Con.mk hst (by decide) (fun G s vs h => by rw [h.1]; exact Nat.le_of_ble_eq_true rfl) ?_
  rintro X G s0 vs ⟨rfl, hG, hS0, ha, hx1, hy2⟩ rfl hx hq
  obtain rfl : x1 = 4 := by omega
  show JJ X E 9 G s0 0 0 [(0, .ref a), (1, .int (zI 4)), (2, .long (zL y2))] 0 []
  refine j_aload_n hx 0 dX10_weigh_0 rfl ?_
  refine j_iload_n hx 1 dX10_weigh_1 rfl ?_
  refine j_callV hx hG (c_X10_boardAt hst a 4) lk_RX10_22 ha (by decide) rfl rfl rfl rfl [.int (zI 4)] ⟨rfl, hG, hS0, ha, (by omega)⟩ rfl rfl ⟨by decide, by decide⟩ ⟨by decide, by decide⟩ (k2 := 0) (n2 := 0) rfl rfl (Nat.le_of_ble_eq_true rfl) dX10_weigh_2 (kNP (fun _ => ?_) (fun r1 q2 => ?_))
  · skip
    refine j_astoreN hx [(4, .null), (0, .ref a), (1, .int (zI 4)), (2, .long (zL y2))] dX10_weigh_5 (by decide) rfl ?_
    refine j_aload_n hx 1 dX10_weigh_7 rfl ?_
    refine j_iload_n hx 2 dX10_weigh_8 rfl ?_
    refine j_iconst hx dX10_weigh_9 ?_
    refine j_iadd hx (r := 5) dX10_weigh_10 (by omega) ?_
    refine j_callV hx hG (c_X10_boardAt hst a 5) lk_RX10_22 ha (by decide) rfl rfl rfl rfl [.int (zI 5)] ⟨rfl, hG, hS0, ha, (by omega)⟩ rfl rfl ⟨by decide, by decide⟩ ⟨by decide, by decide⟩ (k2 := 0) (n2 := 0) rfl rfl (Nat.le_of_ble_eq_true rfl) dX10_weigh_11 (kNP (fun _ => ?_) (fun r3 q4 => ?_))
    · skip
      refine j_astoreN hx [(5, .null), (4, .null), (0, .ref a), (1, .int (zI 4)), (2, .long (zL y2))] dX10_weigh_14 (by decide) rfl ?_
      refine j_aloadN hx 1 dX10_weigh_16 rfl ?_
      refine j_ifnonnullN hx dX10_weigh_18 ?_
      exact j_vret hx hq rfl (by decide) (by decide) dX10_weigh_21 ⟨rfl, rfl, hS0, zFr_rf, trivial⟩
    · skip
      refine j_astore hx [(5, .ref r3), (4, .null), (0, .ref a), (1, .int (zI 4)), (2, .long (zL y2))] dX10_weigh_14 (by decide) rfl ?_
      refine j_aloadN hx 1 dX10_weigh_16 rfl ?_
      refine j_ifnonnullN hx dX10_weigh_18 ?_
      exact j_vret hx hq rfl (by decide) (by decide) dX10_weigh_21 ⟨rfl, rfl, hS0, zFr_rf, trivial⟩
  · skip
    refine j_astore hx [(4, .ref r1), (0, .ref a), (1, .int (zI 4)), (2, .long (zL y2))] dX10_weigh_5 (by decide) rfl ?_
    refine j_aload_n hx 1 dX10_weigh_7 rfl ?_
    refine j_iload_n hx 2 dX10_weigh_8 rfl ?_
    refine j_iconst hx dX10_weigh_9 ?_
    refine j_iadd hx (r := 5) dX10_weigh_10 (by omega) ?_
    refine j_callV hx hG (c_X10_boardAt hst a 5) lk_RX10_22 ha (by decide) rfl rfl rfl rfl [.int (zI 5)] ⟨rfl, hG, hS0, ha, (by omega)⟩ rfl rfl ⟨by decide, by decide⟩ ⟨by decide, by decide⟩ (k2 := 0) (n2 := 0) rfl rfl (Nat.le_of_ble_eq_true rfl) dX10_weigh_11 (kNP (fun _ => ?_) (fun r5 q6 => ?_))
    · skip
      refine j_astoreN hx [(5, .null), (4, .ref r1), (0, .ref a), (1, .int (zI 4)), (2, .long (zL y2))] dX10_weigh_14 (by decide) rfl ?_
      refine j_aload hx 1 dX10_weigh_16 rfl ?_
      refine j_ifnonnull hx 22 dX10_weigh_18 rfl ?_
      refine j_iload_n hx 3 dX10_weigh_22 rfl ?_
      refine j_aload_n hx 2 dX10_weigh_23 rfl ?_
      have f7 := zf hS0 ha (k := 4) rfl
      refine g11_4 hx hG ha kf_RX10_77 rfl dX10_weigh_24 ?_
      have c43_1 : ∀ (s2 : zS), (zSK G s2) → (zFr [1, 7, 41] G s0 s2) → JJ X E 9 G s2 0 0 [(0, .ref a), (1, .int (zI 4)), (2, .long (zL y2)), (4, .ref r1)] 43 [] := by
        intro s2 hS_s2 hF_s2
        refine j_aload_n hx 0 dX10_weigh_43 rfl ?_
        refine j_dup hx dX10_weigh_44 rfl ?_
        have f8 := zf hS0 ha (k := 7) rfl
        refine g11_7 hx hG ha kf_RX10_80 (v := (s0 a 7)) (by rw [(zFr_g hF_s2 ha (by decide))]) dX10_weigh_45 ?_
        refine j_aload_n hx 0 dX10_weigh_48 rfl ?_
        refine j_aload hx 3 dX10_weigh_49 rfl ?_
        refine j_callV hx hG (c_X10_leads hst a r1) lk_RX10_96 ha (by decide) rfl rfl rfl rfl [.ref r1] ⟨rfl, hG, hS_s2, ha, q2.1⟩ rfl rfl ⟨by decide, by decide⟩ ⟨by decide, by decide⟩ (k2 := 0) (n2 := 0) rfl rfl (Nat.le_of_ble_eq_true rfl) dX10_weigh_51 (kIP (fun v9 q10 => ?_))
        refine j_if_eq hx 66 dX10_weigh_54 rfl (by omega) (fun h11 => ?_) (fun h11 => ?_)
        · skip
          refine j_lconst hx dX10_weigh_66 ?_
          show JJ X E 9 G s2 0 0 [(0, .ref a), (1, .int (zI 4)), (2, .long (zL y2)), (4, .ref r1)] 67 [.long (zL 0), .long (zL ((s0 a 7))), .ref a]
          refine j_ladd hx dX10_weigh_67 (fun w12 f13 f14 => ?_)
          refine p11_7 hx hG ha kf_RX10_80 dX10_weigh_68 ?_
          obtain ⟨s5, e_s5⟩ : ∃ z, z = zU s2 a 7 w12 := ⟨_, rfl⟩
          rw [← e_s5]
          have hS_s5 : zSK G s5 := by rw [e_s5]; exact zSK_F hS_s2 ha rfl rfl rfl (by omega)
          exact j_vret hx hq rfl (by decide) (by decide) dX10_weigh_71 ⟨rfl, rfl, hS_s5, (zFr_u (zFr_t zFr_rf hF_s2 (by decide)) e_s5 ha (by decide)), trivial⟩
        · skip
          refine j_aload_n hx 0 dX10_weigh_57 rfl ?_
          refine j_iload_n hx 1 dX10_weigh_58 rfl ?_
          refine j_lload_n hx 2 dX10_weigh_59 rfl ?_
          refine j_callV hx hG (c_X10_allWays hst a 4 y2) lk_RX10_100 ha (by decide) rfl rfl rfl rfl [.int (zI 4), .long (zL y2)] ⟨rfl, hG, hS_s2, ha, (by omega), (by omega)⟩ rfl rfl ⟨by decide, by decide⟩ ⟨by decide, by decide⟩ (k2 := 0) (n2 := 0) rfl rfl (Nat.le_of_ble_eq_true rfl) dX10_weigh_60 (kLP (fun v15 q16 => ?_))
          refine j_goto hx 67 dX10_weigh_63 rfl ?_
          refine j_ladd hx dX10_weigh_67 (fun w17 f18 f19 => ?_)
          refine p11_7 hx hG ha kf_RX10_80 dX10_weigh_68 ?_
          obtain ⟨s6, e_s6⟩ : ∃ z, z = zU s2 a 7 w17 := ⟨_, rfl⟩
          rw [← e_s6]
          have hS_s6 : zSK G s6 := by rw [e_s6]; exact zSK_F hS_s2 ha rfl rfl rfl (by omega)
          exact j_vret hx hq rfl (by decide) (by decide) dX10_weigh_71 ⟨rfl, rfl, hS_s6, (zFr_u (zFr_t zFr_rf hF_s2 (by decide)) e_s6 ha (by decide)), trivial⟩
      refine j_icmp_ge hx 43 dX10_weigh_27 rfl ⟨by decide, by decide⟩ (by omega) (fun h20 => ?_) (fun h20 => ?_)
      · skip
        exact j_sub [2, 3, 4, 1] [(0, .ref a), (1, .int (zI 4)), (2, .long (zL y2)), (4, .ref r1)] rfl (c43_1 s0 hS0 zFr_rf)
      · skip
        refine j_aloadN hx 0 dX10_weigh_30 rfl ?_
        refine j_ifnullN hx 43 dX10_weigh_32 rfl ?_
        exact j_sub [2, 3, 4, 1] [(0, .ref a), (1, .int (zI 4)), (2, .long (zL y2)), (4, .ref r1)] rfl (c43_1 s0 hS0 zFr_rf)
    · skip
      refine j_astore hx [(5, .ref r5), (4, .ref r1), (0, .ref a), (1, .int (zI 4)), (2, .long (zL y2))] dX10_weigh_14 (by decide) rfl ?_
      refine j_aload hx 1 dX10_weigh_16 rfl ?_
      refine j_ifnonnull hx 22 dX10_weigh_18 rfl ?_
      refine j_iload_n hx 3 dX10_weigh_22 rfl ?_
      refine j_aload_n hx 2 dX10_weigh_23 rfl ?_
      have f21 := zf hS0 ha (k := 4) rfl
      refine g11_4 hx hG ha kf_RX10_77 rfl dX10_weigh_24 ?_
      have c43_7 : ∀ (s8 : zS), (zSK G s8) → (zFr [1, 7, 41] G s0 s8) → JJ X E 9 G s8 0 0 [(0, .ref a), (1, .int (zI 4)), (2, .long (zL y2)), (4, .ref r1)] 43 [] := by
        intro s8 hS_s8 hF_s8
        refine j_aload_n hx 0 dX10_weigh_43 rfl ?_
        refine j_dup hx dX10_weigh_44 rfl ?_
        have f22 := zf hS0 ha (k := 7) rfl
        refine g11_7 hx hG ha kf_RX10_80 (v := (s0 a 7)) (by rw [(zFr_g hF_s8 ha (by decide))]) dX10_weigh_45 ?_
        refine j_aload_n hx 0 dX10_weigh_48 rfl ?_
        refine j_aload hx 3 dX10_weigh_49 rfl ?_
        refine j_callV hx hG (c_X10_leads hst a r1) lk_RX10_96 ha (by decide) rfl rfl rfl rfl [.ref r1] ⟨rfl, hG, hS_s8, ha, q2.1⟩ rfl rfl ⟨by decide, by decide⟩ ⟨by decide, by decide⟩ (k2 := 0) (n2 := 0) rfl rfl (Nat.le_of_ble_eq_true rfl) dX10_weigh_51 (kIP (fun v23 q24 => ?_))
        refine j_if_eq hx 66 dX10_weigh_54 rfl (by omega) (fun h25 => ?_) (fun h25 => ?_)
        · skip
          refine j_lconst hx dX10_weigh_66 ?_
          show JJ X E 9 G s8 0 0 [(0, .ref a), (1, .int (zI 4)), (2, .long (zL y2)), (4, .ref r1)] 67 [.long (zL 0), .long (zL ((s0 a 7))), .ref a]
          refine j_ladd hx dX10_weigh_67 (fun w26 f27 f28 => ?_)
          refine p11_7 hx hG ha kf_RX10_80 dX10_weigh_68 ?_
          obtain ⟨s11, e_s11⟩ : ∃ z, z = zU s8 a 7 w26 := ⟨_, rfl⟩
          rw [← e_s11]
          have hS_s11 : zSK G s11 := by rw [e_s11]; exact zSK_F hS_s8 ha rfl rfl rfl (by omega)
          exact j_vret hx hq rfl (by decide) (by decide) dX10_weigh_71 ⟨rfl, rfl, hS_s11, (zFr_u (zFr_t zFr_rf hF_s8 (by decide)) e_s11 ha (by decide)), trivial⟩
        · skip
          refine j_aload_n hx 0 dX10_weigh_57 rfl ?_
          refine j_iload_n hx 1 dX10_weigh_58 rfl ?_
          refine j_lload_n hx 2 dX10_weigh_59 rfl ?_
          refine j_callV hx hG (c_X10_allWays hst a 4 y2) lk_RX10_100 ha (by decide) rfl rfl rfl rfl [.int (zI 4), .long (zL y2)] ⟨rfl, hG, hS_s8, ha, (by omega), (by omega)⟩ rfl rfl ⟨by decide, by decide⟩ ⟨by decide, by decide⟩ (k2 := 0) (n2 := 0) rfl rfl (Nat.le_of_ble_eq_true rfl) dX10_weigh_60 (kLP (fun v29 q30 => ?_))
          refine j_goto hx 67 dX10_weigh_63 rfl ?_
          refine j_ladd hx dX10_weigh_67 (fun w31 f32 f33 => ?_)
          refine p11_7 hx hG ha kf_RX10_80 dX10_weigh_68 ?_
          obtain ⟨s12, e_s12⟩ : ∃ z, z = zU s8 a 7 w31 := ⟨_, rfl⟩
          rw [← e_s12]
          have hS_s12 : zSK G s12 := by rw [e_s12]; exact zSK_F hS_s8 ha rfl rfl rfl (by omega)
          exact j_vret hx hq rfl (by decide) (by decide) dX10_weigh_71 ⟨rfl, rfl, hS_s12, (zFr_u (zFr_t zFr_rf hF_s8 (by decide)) e_s12 ha (by decide)), trivial⟩
      refine j_icmp_ge hx 43 dX10_weigh_27 rfl ⟨by decide, by decide⟩ (by omega) (fun h34 => ?_) (fun h34 => ?_)
      · skip
        exact j_sub [2, 3, 4, 1] [(0, .ref a), (1, .int (zI 4)), (2, .long (zL y2)), (4, .ref r1)] rfl (c43_7 s0 hS0 zFr_rf)
      · skip
        refine j_aload hx 0 dX10_weigh_30 rfl ?_
        refine j_ifnull hx dX10_weigh_32 ?_
        refine j_aload hx 1 dX10_weigh_35 rfl ?_
        refine j_callV hx hG (c_X0_step hst r1) lk_RX10_33 q2.1 (by decide) rfl rfl rfl rfl [] ⟨rfl, hG, hS0, q2.1⟩ rfl rfl ⟨by decide, by decide⟩ ⟨by decide, by decide⟩ (k2 := 0) (n2 := 0) rfl rfl (Nat.le_of_ble_eq_true rfl) dX10_weigh_37 (kIM (fun v35 s13 hS_s13 hF_s13 q36 => ?_))
        refine j_if_ne hx 72 dX10_weigh_40 rfl (by omega) (fun h37 => ?_) (fun h37 => ?_)
        · skip
          refine j_aload hx 1 dX10_weigh_72 rfl ?_
          refine j_callV hx hG (c_X0_likeTops hst r1) lk_RX10_37 q2.1 (by decide) rfl rfl rfl rfl [] ⟨rfl, hG, hS_s13, q2.1⟩ rfl rfl ⟨by decide, by decide⟩ ⟨by decide, by decide⟩ (k2 := 0) (n2 := 0) rfl rfl (Nat.le_of_ble_eq_true rfl) dX10_weigh_74 (kIP (fun v38 q39 => ?_))
          refine j_istore hx [(6, .int (zI v38)), (5, .ref r5), (4, .ref r1), (0, .ref a), (1, .int (zI 4)), (2, .long (zL y2))] dX10_weigh_77 (by decide) rfl ?_
          refine j_iconst hx dX10_weigh_79 ?_
          refine j_istore hx [(7, .int (zI 0)), (6, .int (zI v38)), (5, .ref r5), (4, .ref r1), (0, .ref a), (1, .int (zI 4)), (2, .long (zL y2))] dX10_weigh_80 (by decide) rfl ?_
          refine j_iconst hx dX10_weigh_82 ?_
          refine j_istore hx [(8, .int (zI 0)), (7, .int (zI 0)), (6, .int (zI v38)), (5, .ref r5), (4, .ref r1), (0, .ref a), (1, .int (zI 4)), (2, .long (zL y2))] dX10_weigh_83 (by decide) rfl ?_
          have c85_14 : ∀ (m_c85_14 : Nat) (v40 : Int) (v41 : Int) (s15 : zS), 2147483648 - v41 < m_c85_14 → ((-2147483648) ≤ v40 ∧ v40 ≤ 2147483647) → (0 ≤ v41 ∧ v41 ≤ 3) → (zSK G s15) → (zFr [1, 7, 11, 41] G s13 s15) → JJ X E 9 G s15 0 0 [(0, .ref a), (1, .int (zI 4)), (2, .long (zL y2)), (4, .ref r1), (5, .ref r5), (6, .int (zI v38)), (7, .int (zI v40)), (8, .int (zI v41))] 85 [] := by
            intro m_c85_14
            induction m_c85_14 with
            | zero => intro v40 v41 s15 hm_c85_14 fA16 fA17 hS_s15 hF_s15; exfalso; omega
            | succ m_c85_14 ih_c85_14 => 
              intro v40 v41 s15 hm_c85_14 fA16 fA17 hS_s15 hF_s15
              refine j_iload hx 7 dX10_weigh_85 rfl ?_
              refine j_aload_n hx 0 dX10_weigh_87 rfl ?_
              refine g11_0 hx hG ha kf_RX10_17 dX10_weigh_88 ?_
              have f42 := zf hS0 (zr (k := 0) (t2 := 9) hG ha rfl) (k := 4) rfl
              refine gN9_4 hx hG (zr (k := 0) (t2 := 9) hG ha rfl) kf_RX10_104 (v := (s0 (gP G a 0) 4)) (by rw [(zFr_g hF_s15 (zr (k := 0) (t2 := 9) hG ha rfl) (by decide)), (zFr_g hF_s13 (zr (k := 0) (t2 := 9) hG ha rfl) (by decide))]) dX10_weigh_91 ?_
              refine j_icmp_ge hx 178 dX10_weigh_94 rfl (by omega) (by omega) (fun h43 => ?_) (fun h43 => ?_)
              · skip
                refine j_iload hx 6 dX10_weigh_178 rfl ?_
                refine j_if_le hx 202 dX10_weigh_180 rfl (by omega) (fun h44 => ?_) (fun h44 => ?_)
                · skip
                  exact j_vret hx hq rfl (by decide) (by decide) dX10_weigh_202 ⟨rfl, rfl, hS_s15, (zFr_t (zFr_t zFr_rf hF_s13 (by decide)) hF_s15 (by decide)), trivial⟩
                · skip
                  refine j_aload hx 4 dX10_weigh_183 rfl ?_
                  refine j_aload hx 3 dX10_weigh_185 rfl ?_
                  refine j_callV hx hG (c_X0_become hst r5 r1) lk_RX10_26 q6.1 (by decide) rfl rfl rfl rfl [.ref r1] ⟨rfl, hG, hS_s15, q6.1, q2.1⟩ rfl rfl ⟨by decide, by decide⟩ ⟨by decide, by decide⟩ (k2 := 0) (n2 := 0) rfl rfl (Nat.le_of_ble_eq_true rfl) dX10_weigh_187 (kVM (fun s20 hS_s20 hF_s20 q46 => ?_))
                  refine j_aload_n hx 0 dX10_weigh_190 rfl ?_
                  refine j_iload_n hx 1 dX10_weigh_191 rfl ?_
                  refine j_iconst hx dX10_weigh_192 ?_
                  refine j_iadd hx (r := 5) dX10_weigh_193 (by omega) ?_
                  refine j_lload_n hx 2 dX10_weigh_194 rfl ?_
                  refine j_iload hx 6 dX10_weigh_195 rfl ?_
                  refine j_i2l hx dX10_weigh_197 (by omega) ?_
                  refine j_lmul hx dX10_weigh_198 (fun w47 f48 f49 => ?_)
                  refine j_callV hx hG (c_X10_weigh_5 hst a 5 w47) lk_RX10_92 ha (by decide) rfl rfl rfl rfl [.int (zI 5), .long (zL w47)] ⟨rfl, hG, hS_s20, ha, (by omega), (by omega)⟩ rfl rfl ⟨by decide, by decide⟩ ⟨by decide, by decide⟩ (k2 := 0) (n2 := 0) rfl rfl (Nat.le_of_ble_eq_true rfl) dX10_weigh_199 (kVM (fun s21 hS_s21 hF_s21 q51 => ?_))
                  exact j_vret hx hq rfl (by decide) (by decide) dX10_weigh_202 ⟨rfl, rfl, hS_s21, (zFr_t (zFr_t (zFr_t (zFr_t zFr_rf hF_s13 (by decide)) hF_s15 (by decide)) hF_s20 (by decide)) hF_s21 (by decide)), trivial⟩
              · skip
                refine j_iload hx 5 dX10_weigh_97 rfl ?_
                refine j_iconst hx dX10_weigh_99 ?_
                have c172_22 : ∀ (v52 : Int) (s23 : zS), ((-2147483648) ≤ v52 ∧ v52 ≤ 2147483647) → (zSK G s23) → (zFr [1, 7, 11, 41] G s15 s23) → JJ X E 9 G s23 0 0 [(0, .ref a), (1, .int (zI 4)), (2, .long (zL y2)), (4, .ref r1), (5, .ref r5), (6, .int (zI v38)), (7, .int (zI v52)), (8, .int (zI v41))] 172 [] := by
                  intro v52 s23 fA24 hS_s23 hF_s23
                  refine j_iinc hx 7 [(8, .int (zI (v41 + 1))), (0, .ref a), (1, .int (zI 4)), (2, .long (zL y2)), (4, .ref r1), (5, .ref r5), (6, .int (zI v38)), (7, .int (zI v52))] dX10_weigh_172 rfl (by omega) (by decide) rfl ?_
                  refine j_goto hx 85 dX10_weigh_175 rfl ?_
                  exact j_sub [1, 2, 3, 4, 5, 6, 7, 0] [(0, .ref a), (1, .int (zI 4)), (2, .long (zL y2)), (4, .ref r1), (5, .ref r5), (6, .int (zI v38)), (7, .int (zI v52)), (8, .int (zI (v41 + 1)))] rfl (ih_c85_14 v52 (v41 + 1) s23 (by omega) (by omega) (by omega) hS_s23 (zFr_t (zFr_t zFr_rf hF_s15 (by decide)) hF_s23 (by decide)))
                have c113_27 : JJ X E 9 G s15 0 0 [(0, .ref a), (1, .int (zI 4)), (2, .long (zL y2)), (4, .ref r1), (5, .ref r5), (6, .int (zI v38)), (7, .int (zI v40)), (8, .int (zI v41))] 113 [] := by
                  refine j_iload hx 6 dX10_weigh_113 rfl ?_
                  refine j_aload_n hx 0 dX10_weigh_115 rfl ?_
                  refine g11_0 hx hG ha kf_RX10_17 dX10_weigh_116 ?_
                  refine j_iload hx 7 dX10_weigh_119 rfl ?_
                  refine j_iconst hx dX10_weigh_121 ?_
                  refine j_callV hx hG (c_X8_trait hst (gP G a 0) v41 0) lk_RX10_107 (zr (k := 0) (t2 := 9) hG ha rfl) (by decide) rfl rfl rfl rfl [.int (zI v41), .int (zI 0)] ⟨rfl, hG, hS_s15, (zr (k := 0) (t2 := 9) hG ha rfl), (by omega), (by omega)⟩ rfl rfl ⟨by decide, by decide⟩ ⟨by decide, by decide⟩ (k2 := 0) (n2 := 0) rfl rfl (Nat.le_of_ble_eq_true rfl) dX10_weigh_122 (kIP (fun v53 q54 => ?_))
                  refine j_iadd hx (r := v40 + v53) dX10_weigh_125 rfl ?_
                  refine j_norm (fun v55 f56 f57 f58 => ?_)
                  refine j_istore hx [(7, .int (zI v55)), (0, .ref a), (1, .int (zI 4)), (2, .long (zL y2)), (4, .ref r1), (5, .ref r5), (6, .int (zI v38)), (8, .int (zI v41))] dX10_weigh_126 (by decide) rfl ?_
                  refine j_goto hx 172 dX10_weigh_128 rfl ?_
                  exact j_sub [1, 2, 3, 4, 5, 6, 0, 7] [(0, .ref a), (1, .int (zI 4)), (2, .long (zL y2)), (4, .ref r1), (5, .ref r5), (6, .int (zI v38)), (7, .int (zI v55)), (8, .int (zI v41))] rfl (c172_22 v55 s15 (by omega) hS_s15 zFr_rf)
                refine j_icmp_eq hx 113 dX10_weigh_100 rfl (by omega) ⟨by decide, by decide⟩ (fun h59 => ?_) (fun h59 => ?_)
                · skip
                  exact j_sub [0, 1, 2, 3, 4, 5, 6, 7] [(0, .ref a), (1, .int (zI 4)), (2, .long (zL y2)), (4, .ref r1), (5, .ref r5), (6, .int (zI v38)), (7, .int (zI v40)), (8, .int (zI v41))] rfl (c113_27  )
                · skip
                  refine j_aload hx 3 dX10_weigh_103 rfl ?_
                  refine j_iload hx 7 dX10_weigh_105 rfl ?_
                  refine j_callV hx hG (c_X0_isOut hst r1 v41) lk_RX10_73 q2.1 (by decide) rfl rfl rfl rfl [.int (zI v41)] ⟨rfl, hG, hS_s15, q2.1, (by omega)⟩ rfl rfl ⟨by decide, by decide⟩ ⟨by decide, by decide⟩ (k2 := 0) (n2 := 0) rfl rfl (Nat.le_of_ble_eq_true rfl) dX10_weigh_107 (kIP (fun v60 q61 => ?_))
                  refine j_if_eq hx 131 dX10_weigh_110 rfl (by omega) (fun h62 => ?_) (fun h62 => ?_)
                  · skip
                    refine j_aload hx 4 dX10_weigh_131 rfl ?_
                    refine j_aload hx 3 dX10_weigh_133 rfl ?_
                    refine j_callV hx hG (c_X0_become hst r5 r1) lk_RX10_26 q6.1 (by decide) rfl rfl rfl rfl [.ref r1] ⟨rfl, hG, hS_s15, q6.1, q2.1⟩ rfl rfl ⟨by decide, by decide⟩ ⟨by decide, by decide⟩ (k2 := 0) (n2 := 0) rfl rfl (Nat.le_of_ble_eq_true rfl) dX10_weigh_135 (kVM (fun s28 hS_s28 hF_s28 q64 => ?_))
                    refine j_aload hx 4 dX10_weigh_138 rfl ?_
                    refine j_iload hx 7 dX10_weigh_140 rfl ?_
                    refine j_iload hx 5 dX10_weigh_142 rfl ?_
                    refine j_aload_n hx 0 dX10_weigh_144 rfl ?_
                    have f65 := zf hS_s15 ha (k := 3) rfl
                    refine g11_3 hx hG ha kf_RX10_45 (v := (s15 a 3)) (by rw [(zFr_g hF_s28 ha (by decide))]) dX10_weigh_145 ?_
                    refine j_callV hx hG (c_X0_win hst r5 v41 v38 ((s15 a 3))) lk_RX10_69 q6.1 (by decide) rfl rfl rfl rfl [.int (zI v41), .int (zI v38), .int (zI ((s15 a 3)))] ⟨rfl, hG, hS_s28, q6.1, (by omega), (by omega), (by omega)⟩ rfl rfl ⟨by decide, by decide⟩ ⟨by decide, by decide⟩ (k2 := 0) (n2 := 0) rfl rfl (Nat.le_of_ble_eq_true rfl) dX10_weigh_148 (kIM (fun v66 s29 hS_s29 hF_s29 q67 => ?_))
                    refine j_pop hx dX10_weigh_151 rfl ?_
                    refine j_aload_n hx 0 dX10_weigh_152 rfl ?_
                    refine j_iload_n hx 1 dX10_weigh_153 rfl ?_
                    refine j_iconst hx dX10_weigh_154 ?_
                    refine j_iadd hx (r := 5) dX10_weigh_155 (by omega) ?_
                    refine j_lload_n hx 2 dX10_weigh_156 rfl ?_
                    refine j_aload_n hx 0 dX10_weigh_157 rfl ?_
                    refine g11_0 hx hG ha kf_RX10_17 dX10_weigh_158 ?_
                    refine j_iload hx 7 dX10_weigh_161 rfl ?_
                    refine j_iconst hx dX10_weigh_163 ?_
                    refine j_callV hx hG (c_X8_trait hst (gP G a 0) v41 0) lk_RX10_107 (zr (k := 0) (t2 := 9) hG ha rfl) (by decide) rfl rfl rfl rfl [.int (zI v41), .int (zI 0)] ⟨rfl, hG, hS_s29, (zr (k := 0) (t2 := 9) hG ha rfl), (by omega), (by omega)⟩ rfl rfl ⟨by decide, by decide⟩ ⟨by decide, by decide⟩ (k2 := 0) (n2 := 0) rfl rfl (Nat.le_of_ble_eq_true rfl) dX10_weigh_164 (kIP (fun v68 q69 => ?_))
                    refine j_i2l hx dX10_weigh_167 (by omega) ?_
                    refine j_lmul hx dX10_weigh_168 (fun w70 f71 f72 => ?_)
                    refine j_callV hx hG (c_X10_weigh_5 hst a 5 w70) lk_RX10_92 ha (by decide) rfl rfl rfl rfl [.int (zI 5), .long (zL w70)] ⟨rfl, hG, hS_s29, ha, (by omega), (by omega)⟩ rfl rfl ⟨by decide, by decide⟩ ⟨by decide, by decide⟩ (k2 := 0) (n2 := 0) rfl rfl (Nat.le_of_ble_eq_true rfl) dX10_weigh_169 (kVM (fun s30 hS_s30 hF_s30 q74 => ?_))
                    exact j_sub [0, 1, 2, 3, 4, 5, 6, 7] [(0, .ref a), (1, .int (zI 4)), (2, .long (zL y2)), (4, .ref r1), (5, .ref r5), (6, .int (zI v38)), (7, .int (zI v40)), (8, .int (zI v41))] rfl (c172_22 v40 s30 (by omega) hS_s30 (zFr_t (zFr_t (zFr_t zFr_rf hF_s28 (by decide)) hF_s29 (by decide)) hF_s30 (by decide)))
                  · skip
                    exact j_sub [0, 1, 2, 3, 4, 5, 6, 7] [(0, .ref a), (1, .int (zI 4)), (2, .long (zL y2)), (4, .ref r1), (5, .ref r5), (6, .int (zI v38)), (7, .int (zI v40)), (8, .int (zI v41))] rfl (c113_27  )
          exact j_sub [5, 6, 7, 4, 3, 2, 1, 0] [(0, .ref a), (1, .int (zI 4)), (2, .long (zL y2)), (4, .ref r1), (5, .ref r5), (6, .int (zI v38)), (7, .int (zI 0)), (8, .int (zI 0))] rfl (c85_14 (2147483648 * 4) 0 0 s13 (by omega) (by omega) (by omega) hS_s13 zFr_rf)
        · skip
          exact j_sub [2, 3, 4, 1] [(0, .ref a), (1, .int (zI 4)), (2, .long (zL y2)), (4, .ref r1)] rfl (c43_7 s13 hS_s13 (zFr_t zFr_rf hF_s13 (by decide)))

set_option maxHeartbeats 4000000 in
set_option maxRecDepth 20000 in
theorem c_X10_weigh_3 {E : zE} {l : Launch} (hst : l.stackTraces = false) (a : Nat) (x1 : Int) (y2 : Int) : Con E l yX10_weigh cX10_weigh 9 none { frames := 12, cells := 0, slots := 0, locals := 323 } (fun G s vs => vs = [.ref a, .int (zI x1), .long (zL y2)] ∧ zGK G ∧ zSK G s ∧ (gT G a = 11) ∧ (3 ≤ x1 ∧ x1 ≤ 3) ∧ ((-9223372036854775808) ≤ y2 ∧ y2 ≤ 9223372036854775807)) (fun G s _ => pV (fun G2 s2 => G2 = G ∧ zSK G s2 ∧ zFr [1, 7, 11, 41] G s s2 ∧ True)) := by
  refine Con.mk hst (by decide) (fun G s vs h => by rw [h.1]; exact Nat.le_of_ble_eq_true rfl) ?_
  rintro X G s0 vs ⟨rfl, hG, hS0, ha, hx1, hy2⟩ rfl hx hq
  obtain rfl : x1 = 3 := by omega
  show JJ X E 9 G s0 0 0 [(0, .ref a), (1, .int (zI 3)), (2, .long (zL y2))] 0 []
  refine j_aload_n hx 0 dX10_weigh_0 rfl ?_
  refine j_iload_n hx 1 dX10_weigh_1 rfl ?_
  refine j_callV hx hG (c_X10_boardAt hst a 3) lk_RX10_22 ha (by decide) rfl rfl rfl rfl [.int (zI 3)] ⟨rfl, hG, hS0, ha, (by omega)⟩ rfl rfl ⟨by decide, by decide⟩ ⟨by decide, by decide⟩ (k2 := 0) (n2 := 0) rfl rfl (Nat.le_of_ble_eq_true rfl) dX10_weigh_2 (kNP (fun _ => ?_) (fun r1 q2 => ?_))
  · skip
    refine j_astoreN hx [(4, .null), (0, .ref a), (1, .int (zI 3)), (2, .long (zL y2))] dX10_weigh_5 (by decide) rfl ?_
    refine j_aload_n hx 1 dX10_weigh_7 rfl ?_
    refine j_iload_n hx 2 dX10_weigh_8 rfl ?_
    refine j_iconst hx dX10_weigh_9 ?_
    refine j_iadd hx (r := 4) dX10_weigh_10 (by omega) ?_
    refine j_callV hx hG (c_X10_boardAt hst a 4) lk_RX10_22 ha (by decide) rfl rfl rfl rfl [.int (zI 4)] ⟨rfl, hG, hS0, ha, (by omega)⟩ rfl rfl ⟨by decide, by decide⟩ ⟨by decide, by decide⟩ (k2 := 0) (n2 := 0) rfl rfl (Nat.le_of_ble_eq_true rfl) dX10_weigh_11 (kNP (fun _ => ?_) (fun r3 q4 => ?_))
    · skip
      refine j_astoreN hx [(5, .null), (4, .null), (0, .ref a), (1, .int (zI 3)), (2, .long (zL y2))] dX10_weigh_14 (by decide) rfl ?_
      refine j_aloadN hx 1 dX10_weigh_16 rfl ?_
      refine j_ifnonnullN hx dX10_weigh_18 ?_
      exact j_vret hx hq rfl (by decide) (by decide) dX10_weigh_21 ⟨rfl, rfl, hS0, zFr_rf, trivial⟩
    · skip
      refine j_astore hx [(5, .ref r3), (4, .null), (0, .ref a), (1, .int (zI 3)), (2, .long (zL y2))] dX10_weigh_14 (by decide) rfl ?_
      refine j_aloadN hx 1 dX10_weigh_16 rfl ?_
      refine j_ifnonnullN hx dX10_weigh_18 ?_
      exact j_vret hx hq rfl (by decide) (by decide) dX10_weigh_21 ⟨rfl, rfl, hS0, zFr_rf, trivial⟩
  · skip
    refine j_astore hx [(4, .ref r1), (0, .ref a), (1, .int (zI 3)), (2, .long (zL y2))] dX10_weigh_5 (by decide) rfl ?_
    refine j_aload_n hx 1 dX10_weigh_7 rfl ?_
    refine j_iload_n hx 2 dX10_weigh_8 rfl ?_
    refine j_iconst hx dX10_weigh_9 ?_
    refine j_iadd hx (r := 4) dX10_weigh_10 (by omega) ?_
    refine j_callV hx hG (c_X10_boardAt hst a 4) lk_RX10_22 ha (by decide) rfl rfl rfl rfl [.int (zI 4)] ⟨rfl, hG, hS0, ha, (by omega)⟩ rfl rfl ⟨by decide, by decide⟩ ⟨by decide, by decide⟩ (k2 := 0) (n2 := 0) rfl rfl (Nat.le_of_ble_eq_true rfl) dX10_weigh_11 (kNP (fun _ => ?_) (fun r5 q6 => ?_))
    · skip
      refine j_astoreN hx [(5, .null), (4, .ref r1), (0, .ref a), (1, .int (zI 3)), (2, .long (zL y2))] dX10_weigh_14 (by decide) rfl ?_
      refine j_aload hx 1 dX10_weigh_16 rfl ?_
      refine j_ifnonnull hx 22 dX10_weigh_18 rfl ?_
      refine j_iload_n hx 3 dX10_weigh_22 rfl ?_
      refine j_aload_n hx 2 dX10_weigh_23 rfl ?_
      have f7 := zf hS0 ha (k := 4) rfl
      refine g11_4 hx hG ha kf_RX10_77 rfl dX10_weigh_24 ?_
      have c43_1 : ∀ (s2 : zS), (zSK G s2) → (zFr [1, 7, 41] G s0 s2) → JJ X E 9 G s2 0 0 [(0, .ref a), (1, .int (zI 3)), (2, .long (zL y2)), (4, .ref r1)] 43 [] := by
        intro s2 hS_s2 hF_s2
        refine j_aload_n hx 0 dX10_weigh_43 rfl ?_
        refine j_dup hx dX10_weigh_44 rfl ?_
        have f8 := zf hS0 ha (k := 7) rfl
        refine g11_7 hx hG ha kf_RX10_80 (v := (s0 a 7)) (by rw [(zFr_g hF_s2 ha (by decide))]) dX10_weigh_45 ?_
        refine j_aload_n hx 0 dX10_weigh_48 rfl ?_
        refine j_aload hx 3 dX10_weigh_49 rfl ?_
        refine j_callV hx hG (c_X10_leads hst a r1) lk_RX10_96 ha (by decide) rfl rfl rfl rfl [.ref r1] ⟨rfl, hG, hS_s2, ha, q2.1⟩ rfl rfl ⟨by decide, by decide⟩ ⟨by decide, by decide⟩ (k2 := 0) (n2 := 0) rfl rfl (Nat.le_of_ble_eq_true rfl) dX10_weigh_51 (kIP (fun v9 q10 => ?_))
        refine j_if_eq hx 66 dX10_weigh_54 rfl (by omega) (fun h11 => ?_) (fun h11 => ?_)
        · skip
          refine j_lconst hx dX10_weigh_66 ?_
          show JJ X E 9 G s2 0 0 [(0, .ref a), (1, .int (zI 3)), (2, .long (zL y2)), (4, .ref r1)] 67 [.long (zL 0), .long (zL ((s0 a 7))), .ref a]
          refine j_ladd hx dX10_weigh_67 (fun w12 f13 f14 => ?_)
          refine p11_7 hx hG ha kf_RX10_80 dX10_weigh_68 ?_
          obtain ⟨s5, e_s5⟩ : ∃ z, z = zU s2 a 7 w12 := ⟨_, rfl⟩
          rw [← e_s5]
          have hS_s5 : zSK G s5 := by rw [e_s5]; exact zSK_F hS_s2 ha rfl rfl rfl (by omega)
          exact j_vret hx hq rfl (by decide) (by decide) dX10_weigh_71 ⟨rfl, rfl, hS_s5, (zFr_u (zFr_t zFr_rf hF_s2 (by decide)) e_s5 ha (by decide)), trivial⟩
        · skip
          refine j_aload_n hx 0 dX10_weigh_57 rfl ?_
          refine j_iload_n hx 1 dX10_weigh_58 rfl ?_
          refine j_lload_n hx 2 dX10_weigh_59 rfl ?_
          refine j_callV hx hG (c_X10_allWays hst a 3 y2) lk_RX10_100 ha (by decide) rfl rfl rfl rfl [.int (zI 3), .long (zL y2)] ⟨rfl, hG, hS_s2, ha, (by omega), (by omega)⟩ rfl rfl ⟨by decide, by decide⟩ ⟨by decide, by decide⟩ (k2 := 0) (n2 := 0) rfl rfl (Nat.le_of_ble_eq_true rfl) dX10_weigh_60 (kLP (fun v15 q16 => ?_))
          refine j_goto hx 67 dX10_weigh_63 rfl ?_
          refine j_ladd hx dX10_weigh_67 (fun w17 f18 f19 => ?_)
          refine p11_7 hx hG ha kf_RX10_80 dX10_weigh_68 ?_
          obtain ⟨s6, e_s6⟩ : ∃ z, z = zU s2 a 7 w17 := ⟨_, rfl⟩
          rw [← e_s6]
          have hS_s6 : zSK G s6 := by rw [e_s6]; exact zSK_F hS_s2 ha rfl rfl rfl (by omega)
          exact j_vret hx hq rfl (by decide) (by decide) dX10_weigh_71 ⟨rfl, rfl, hS_s6, (zFr_u (zFr_t zFr_rf hF_s2 (by decide)) e_s6 ha (by decide)), trivial⟩
      refine j_icmp_ge hx 43 dX10_weigh_27 rfl ⟨by decide, by decide⟩ (by omega) (fun h20 => ?_) (fun h20 => ?_)
      · skip
        exact j_sub [2, 3, 4, 1] [(0, .ref a), (1, .int (zI 3)), (2, .long (zL y2)), (4, .ref r1)] rfl (c43_1 s0 hS0 zFr_rf)
      · skip
        refine j_aloadN hx 0 dX10_weigh_30 rfl ?_
        refine j_ifnullN hx 43 dX10_weigh_32 rfl ?_
        exact j_sub [2, 3, 4, 1] [(0, .ref a), (1, .int (zI 3)), (2, .long (zL y2)), (4, .ref r1)] rfl (c43_1 s0 hS0 zFr_rf)
    · skip
      refine j_astore hx [(5, .ref r5), (4, .ref r1), (0, .ref a), (1, .int (zI 3)), (2, .long (zL y2))] dX10_weigh_14 (by decide) rfl ?_
      refine j_aload hx 1 dX10_weigh_16 rfl ?_
      refine j_ifnonnull hx 22 dX10_weigh_18 rfl ?_
      refine j_iload_n hx 3 dX10_weigh_22 rfl ?_
      refine j_aload_n hx 2 dX10_weigh_23 rfl ?_
      have f21 := zf hS0 ha (k := 4) rfl
      refine g11_4 hx hG ha kf_RX10_77 rfl dX10_weigh_24 ?_
      have c43_7 : ∀ (s8 : zS), (zSK G s8) → (zFr [1, 7, 41] G s0 s8) → JJ X E 9 G s8 0 0 [(0, .ref a), (1, .int (zI 3)), (2, .long (zL y2)), (4, .ref r1)] 43 [] := by
        intro s8 hS_s8 hF_s8
        refine j_aload_n hx 0 dX10_weigh_43 rfl ?_
        refine j_dup hx dX10_weigh_44 rfl ?_
        have f22 := zf hS0 ha (k := 7) rfl
        refine g11_7 hx hG ha kf_RX10_80 (v := (s0 a 7)) (by rw [(zFr_g hF_s8 ha (by decide))]) dX10_weigh_45 ?_
        refine j_aload_n hx 0 dX10_weigh_48 rfl ?_
        refine j_aload hx 3 dX10_weigh_49 rfl ?_
        refine j_callV hx hG (c_X10_leads hst a r1) lk_RX10_96 ha (by decide) rfl rfl rfl rfl [.ref r1] ⟨rfl, hG, hS_s8, ha, q2.1⟩ rfl rfl ⟨by decide, by decide⟩ ⟨by decide, by decide⟩ (k2 := 0) (n2 := 0) rfl rfl (Nat.le_of_ble_eq_true rfl) dX10_weigh_51 (kIP (fun v23 q24 => ?_))
        refine j_if_eq hx 66 dX10_weigh_54 rfl (by omega) (fun h25 => ?_) (fun h25 => ?_)
        · skip
          refine j_lconst hx dX10_weigh_66 ?_
          show JJ X E 9 G s8 0 0 [(0, .ref a), (1, .int (zI 3)), (2, .long (zL y2)), (4, .ref r1)] 67 [.long (zL 0), .long (zL ((s0 a 7))), .ref a]
          refine j_ladd hx dX10_weigh_67 (fun w26 f27 f28 => ?_)
          refine p11_7 hx hG ha kf_RX10_80 dX10_weigh_68 ?_
          obtain ⟨s11, e_s11⟩ : ∃ z, z = zU s8 a 7 w26 := ⟨_, rfl⟩
          rw [← e_s11]
          have hS_s11 : zSK G s11 := by rw [e_s11]; exact zSK_F hS_s8 ha rfl rfl rfl (by omega)
          exact j_vret hx hq rfl (by decide) (by decide) dX10_weigh_71 ⟨rfl, rfl, hS_s11, (zFr_u (zFr_t zFr_rf hF_s8 (by decide)) e_s11 ha (by decide)), trivial⟩
        · skip
          refine j_aload_n hx 0 dX10_weigh_57 rfl ?_
          refine j_iload_n hx 1 dX10_weigh_58 rfl ?_
          refine j_lload_n hx 2 dX10_weigh_59 rfl ?_
          refine j_callV hx hG (c_X10_allWays hst a 3 y2) lk_RX10_100 ha (by decide) rfl rfl rfl rfl [.int (zI 3), .long (zL y2)] ⟨rfl, hG, hS_s8, ha, (by omega), (by omega)⟩ rfl rfl ⟨by decide, by decide⟩ ⟨by decide, by decide⟩ (k2 := 0) (n2 := 0) rfl rfl (Nat.le_of_ble_eq_true rfl) dX10_weigh_60 (kLP (fun v29 q30 => ?_))
          refine j_goto hx 67 dX10_weigh_63 rfl ?_
          refine j_ladd hx dX10_weigh_67 (fun w31 f32 f33 => ?_)
          refine p11_7 hx hG ha kf_RX10_80 dX10_weigh_68 ?_
          obtain ⟨s12, e_s12⟩ : ∃ z, z = zU s8 a 7 w31 := ⟨_, rfl⟩
          rw [← e_s12]
          have hS_s12 : zSK G s12 := by rw [e_s12]; exact zSK_F hS_s8 ha rfl rfl rfl (by omega)
          exact j_vret hx hq rfl (by decide) (by decide) dX10_weigh_71 ⟨rfl, rfl, hS_s12, (zFr_u (zFr_t zFr_rf hF_s8 (by decide)) e_s12 ha (by decide)), trivial⟩
      refine j_icmp_ge hx 43 dX10_weigh_27 rfl ⟨by decide, by decide⟩ (by omega) (fun h34 => ?_) (fun h34 => ?_)
      · skip
        exact j_sub [2, 3, 4, 1] [(0, .ref a), (1, .int (zI 3)), (2, .long (zL y2)), (4, .ref r1)] rfl (c43_7 s0 hS0 zFr_rf)
      · skip
        refine j_aload hx 0 dX10_weigh_30 rfl ?_
        refine j_ifnull hx dX10_weigh_32 ?_
        refine j_aload hx 1 dX10_weigh_35 rfl ?_
        refine j_callV hx hG (c_X0_step hst r1) lk_RX10_33 q2.1 (by decide) rfl rfl rfl rfl [] ⟨rfl, hG, hS0, q2.1⟩ rfl rfl ⟨by decide, by decide⟩ ⟨by decide, by decide⟩ (k2 := 0) (n2 := 0) rfl rfl (Nat.le_of_ble_eq_true rfl) dX10_weigh_37 (kIM (fun v35 s13 hS_s13 hF_s13 q36 => ?_))
        refine j_if_ne hx 72 dX10_weigh_40 rfl (by omega) (fun h37 => ?_) (fun h37 => ?_)
        · skip
          refine j_aload hx 1 dX10_weigh_72 rfl ?_
          refine j_callV hx hG (c_X0_likeTops hst r1) lk_RX10_37 q2.1 (by decide) rfl rfl rfl rfl [] ⟨rfl, hG, hS_s13, q2.1⟩ rfl rfl ⟨by decide, by decide⟩ ⟨by decide, by decide⟩ (k2 := 0) (n2 := 0) rfl rfl (Nat.le_of_ble_eq_true rfl) dX10_weigh_74 (kIP (fun v38 q39 => ?_))
          refine j_istore hx [(6, .int (zI v38)), (5, .ref r5), (4, .ref r1), (0, .ref a), (1, .int (zI 3)), (2, .long (zL y2))] dX10_weigh_77 (by decide) rfl ?_
          refine j_iconst hx dX10_weigh_79 ?_
          refine j_istore hx [(7, .int (zI 0)), (6, .int (zI v38)), (5, .ref r5), (4, .ref r1), (0, .ref a), (1, .int (zI 3)), (2, .long (zL y2))] dX10_weigh_80 (by decide) rfl ?_
          refine j_iconst hx dX10_weigh_82 ?_
          refine j_istore hx [(8, .int (zI 0)), (7, .int (zI 0)), (6, .int (zI v38)), (5, .ref r5), (4, .ref r1), (0, .ref a), (1, .int (zI 3)), (2, .long (zL y2))] dX10_weigh_83 (by decide) rfl ?_
          have c85_14 : ∀ (m_c85_14 : Nat) (v40 : Int) (v41 : Int) (s15 : zS), 2147483648 - v41 < m_c85_14 → ((-2147483648) ≤ v40 ∧ v40 ≤ 2147483647) → (0 ≤ v41 ∧ v41 ≤ 3) → (zSK G s15) → (zFr [1, 7, 11, 41] G s13 s15) → JJ X E 9 G s15 0 0 [(0, .ref a), (1, .int (zI 3)), (2, .long (zL y2)), (4, .ref r1), (5, .ref r5), (6, .int (zI v38)), (7, .int (zI v40)), (8, .int (zI v41))] 85 [] := by
            intro m_c85_14
            induction m_c85_14 with
            | zero => intro v40 v41 s15 hm_c85_14 fA16 fA17 hS_s15 hF_s15; exfalso; omega
            | succ m_c85_14 ih_c85_14 => 
              intro v40 v41 s15 hm_c85_14 fA16 fA17 hS_s15 hF_s15
              refine j_iload hx 7 dX10_weigh_85 rfl ?_
              refine j_aload_n hx 0 dX10_weigh_87 rfl ?_
              refine g11_0 hx hG ha kf_RX10_17 dX10_weigh_88 ?_
              have f42 := zf hS0 (zr (k := 0) (t2 := 9) hG ha rfl) (k := 4) rfl
              refine gN9_4 hx hG (zr (k := 0) (t2 := 9) hG ha rfl) kf_RX10_104 (v := (s0 (gP G a 0) 4)) (by rw [(zFr_g hF_s15 (zr (k := 0) (t2 := 9) hG ha rfl) (by decide)), (zFr_g hF_s13 (zr (k := 0) (t2 := 9) hG ha rfl) (by decide))]) dX10_weigh_91 ?_
              refine j_icmp_ge hx 178 dX10_weigh_94 rfl (by omega) (by omega) (fun h43 => ?_) (fun h43 => ?_)
              · skip
                refine j_iload hx 6 dX10_weigh_178 rfl ?_
                refine j_if_le hx 202 dX10_weigh_180 rfl (by omega) (fun h44 => ?_) (fun h44 => ?_)
                · skip
                  exact j_vret hx hq rfl (by decide) (by decide) dX10_weigh_202 ⟨rfl, rfl, hS_s15, (zFr_t (zFr_t zFr_rf hF_s13 (by decide)) hF_s15 (by decide)), trivial⟩
                · skip
                  refine j_aload hx 4 dX10_weigh_183 rfl ?_
                  refine j_aload hx 3 dX10_weigh_185 rfl ?_
                  refine j_callV hx hG (c_X0_become hst r5 r1) lk_RX10_26 q6.1 (by decide) rfl rfl rfl rfl [.ref r1] ⟨rfl, hG, hS_s15, q6.1, q2.1⟩ rfl rfl ⟨by decide, by decide⟩ ⟨by decide, by decide⟩ (k2 := 0) (n2 := 0) rfl rfl (Nat.le_of_ble_eq_true rfl) dX10_weigh_187 (kVM (fun s20 hS_s20 hF_s20 q46 => ?_))
                  refine j_aload_n hx 0 dX10_weigh_190 rfl ?_
                  refine j_iload_n hx 1 dX10_weigh_191 rfl ?_
                  refine j_iconst hx dX10_weigh_192 ?_
                  refine j_iadd hx (r := 4) dX10_weigh_193 (by omega) ?_
                  refine j_lload_n hx 2 dX10_weigh_194 rfl ?_
                  refine j_iload hx 6 dX10_weigh_195 rfl ?_
                  refine j_i2l hx dX10_weigh_197 (by omega) ?_
                  refine j_lmul hx dX10_weigh_198 (fun w47 f48 f49 => ?_)
                  refine j_callV hx hG (c_X10_weigh_4 hst a 4 w47) lk_RX10_92 ha (by decide) rfl rfl rfl rfl [.int (zI 4), .long (zL w47)] ⟨rfl, hG, hS_s20, ha, (by omega), (by omega)⟩ rfl rfl ⟨by decide, by decide⟩ ⟨by decide, by decide⟩ (k2 := 0) (n2 := 0) rfl rfl (Nat.le_of_ble_eq_true rfl) dX10_weigh_199 (kVM (fun s21 hS_s21 hF_s21 q51 => ?_))
                  exact j_vret hx hq rfl (by decide) (by decide) dX10_weigh_202 ⟨rfl, rfl, hS_s21, (zFr_t (zFr_t (zFr_t (zFr_t zFr_rf hF_s13 (by decide)) hF_s15 (by decide)) hF_s20 (by decide)) hF_s21 (by decide)), trivial⟩
              · skip
                refine j_iload hx 5 dX10_weigh_97 rfl ?_
                refine j_iconst hx dX10_weigh_99 ?_
                have c172_22 : ∀ (v52 : Int) (s23 : zS), ((-2147483648) ≤ v52 ∧ v52 ≤ 2147483647) → (zSK G s23) → (zFr [1, 7, 11, 41] G s15 s23) → JJ X E 9 G s23 0 0 [(0, .ref a), (1, .int (zI 3)), (2, .long (zL y2)), (4, .ref r1), (5, .ref r5), (6, .int (zI v38)), (7, .int (zI v52)), (8, .int (zI v41))] 172 [] := by
                  intro v52 s23 fA24 hS_s23 hF_s23
                  refine j_iinc hx 7 [(8, .int (zI (v41 + 1))), (0, .ref a), (1, .int (zI 3)), (2, .long (zL y2)), (4, .ref r1), (5, .ref r5), (6, .int (zI v38)), (7, .int (zI v52))] dX10_weigh_172 rfl (by omega) (by decide) rfl ?_
                  refine j_goto hx 85 dX10_weigh_175 rfl ?_
                  exact j_sub [1, 2, 3, 4, 5, 6, 7, 0] [(0, .ref a), (1, .int (zI 3)), (2, .long (zL y2)), (4, .ref r1), (5, .ref r5), (6, .int (zI v38)), (7, .int (zI v52)), (8, .int (zI (v41 + 1)))] rfl (ih_c85_14 v52 (v41 + 1) s23 (by omega) (by omega) (by omega) hS_s23 (zFr_t (zFr_t zFr_rf hF_s15 (by decide)) hF_s23 (by decide)))
                have c113_27 : JJ X E 9 G s15 0 0 [(0, .ref a), (1, .int (zI 3)), (2, .long (zL y2)), (4, .ref r1), (5, .ref r5), (6, .int (zI v38)), (7, .int (zI v40)), (8, .int (zI v41))] 113 [] := by
                  refine j_iload hx 6 dX10_weigh_113 rfl ?_
                  refine j_aload_n hx 0 dX10_weigh_115 rfl ?_
                  refine g11_0 hx hG ha kf_RX10_17 dX10_weigh_116 ?_
                  refine j_iload hx 7 dX10_weigh_119 rfl ?_
                  refine j_iconst hx dX10_weigh_121 ?_
                  refine j_callV hx hG (c_X8_trait hst (gP G a 0) v41 0) lk_RX10_107 (zr (k := 0) (t2 := 9) hG ha rfl) (by decide) rfl rfl rfl rfl [.int (zI v41), .int (zI 0)] ⟨rfl, hG, hS_s15, (zr (k := 0) (t2 := 9) hG ha rfl), (by omega), (by omega)⟩ rfl rfl ⟨by decide, by decide⟩ ⟨by decide, by decide⟩ (k2 := 0) (n2 := 0) rfl rfl (Nat.le_of_ble_eq_true rfl) dX10_weigh_122 (kIP (fun v53 q54 => ?_))
                  refine j_iadd hx (r := v40 + v53) dX10_weigh_125 rfl ?_
                  refine j_norm (fun v55 f56 f57 f58 => ?_)
                  refine j_istore hx [(7, .int (zI v55)), (0, .ref a), (1, .int (zI 3)), (2, .long (zL y2)), (4, .ref r1), (5, .ref r5), (6, .int (zI v38)), (8, .int (zI v41))] dX10_weigh_126 (by decide) rfl ?_
                  refine j_goto hx 172 dX10_weigh_128 rfl ?_
                  exact j_sub [1, 2, 3, 4, 5, 6, 0, 7] [(0, .ref a), (1, .int (zI 3)), (2, .long (zL y2)), (4, .ref r1), (5, .ref r5), (6, .int (zI v38)), (7, .int (zI v55)), (8, .int (zI v41))] rfl (c172_22 v55 s15 (by omega) hS_s15 zFr_rf)
                refine j_icmp_eq hx 113 dX10_weigh_100 rfl (by omega) ⟨by decide, by decide⟩ (fun h59 => ?_) (fun h59 => ?_)
                · skip
                  exact j_sub [0, 1, 2, 3, 4, 5, 6, 7] [(0, .ref a), (1, .int (zI 3)), (2, .long (zL y2)), (4, .ref r1), (5, .ref r5), (6, .int (zI v38)), (7, .int (zI v40)), (8, .int (zI v41))] rfl (c113_27  )
                · skip
                  refine j_aload hx 3 dX10_weigh_103 rfl ?_
                  refine j_iload hx 7 dX10_weigh_105 rfl ?_
                  refine j_callV hx hG (c_X0_isOut hst r1 v41) lk_RX10_73 q2.1 (by decide) rfl rfl rfl rfl [.int (zI v41)] ⟨rfl, hG, hS_s15, q2.1, (by omega)⟩ rfl rfl ⟨by decide, by decide⟩ ⟨by decide, by decide⟩ (k2 := 0) (n2 := 0) rfl rfl (Nat.le_of_ble_eq_true rfl) dX10_weigh_107 (kIP (fun v60 q61 => ?_))
                  refine j_if_eq hx 131 dX10_weigh_110 rfl (by omega) (fun h62 => ?_) (fun h62 => ?_)
                  · skip
                    refine j_aload hx 4 dX10_weigh_131 rfl ?_
                    refine j_aload hx 3 dX10_weigh_133 rfl ?_
                    refine j_callV hx hG (c_X0_become hst r5 r1) lk_RX10_26 q6.1 (by decide) rfl rfl rfl rfl [.ref r1] ⟨rfl, hG, hS_s15, q6.1, q2.1⟩ rfl rfl ⟨by decide, by decide⟩ ⟨by decide, by decide⟩ (k2 := 0) (n2 := 0) rfl rfl (Nat.le_of_ble_eq_true rfl) dX10_weigh_135 (kVM (fun s28 hS_s28 hF_s28 q64 => ?_))
                    refine j_aload hx 4 dX10_weigh_138 rfl ?_
                    refine j_iload hx 7 dX10_weigh_140 rfl ?_
                    refine j_iload hx 5 dX10_weigh_142 rfl ?_
                    refine j_aload_n hx 0 dX10_weigh_144 rfl ?_
                    have f65 := zf hS_s15 ha (k := 3) rfl
                    refine g11_3 hx hG ha kf_RX10_45 (v := (s15 a 3)) (by rw [(zFr_g hF_s28 ha (by decide))]) dX10_weigh_145 ?_
                    refine j_callV hx hG (c_X0_win hst r5 v41 v38 ((s15 a 3))) lk_RX10_69 q6.1 (by decide) rfl rfl rfl rfl [.int (zI v41), .int (zI v38), .int (zI ((s15 a 3)))] ⟨rfl, hG, hS_s28, q6.1, (by omega), (by omega), (by omega)⟩ rfl rfl ⟨by decide, by decide⟩ ⟨by decide, by decide⟩ (k2 := 0) (n2 := 0) rfl rfl (Nat.le_of_ble_eq_true rfl) dX10_weigh_148 (kIM (fun v66 s29 hS_s29 hF_s29 q67 => ?_))
                    refine j_pop hx dX10_weigh_151 rfl ?_
                    refine j_aload_n hx 0 dX10_weigh_152 rfl ?_
                    refine j_iload_n hx 1 dX10_weigh_153 rfl ?_
                    refine j_iconst hx dX10_weigh_154 ?_
                    refine j_iadd hx (r := 4) dX10_weigh_155 (by omega) ?_
                    refine j_lload_n hx 2 dX10_weigh_156 rfl ?_
                    refine j_aload_n hx 0 dX10_weigh_157 rfl ?_
                    refine g11_0 hx hG ha kf_RX10_17 dX10_weigh_158 ?_
                    refine j_iload hx 7 dX10_weigh_161 rfl ?_
                    refine j_iconst hx dX10_weigh_163 ?_
                    refine j_callV hx hG (c_X8_trait hst (gP G a 0) v41 0) lk_RX10_107 (zr (k := 0) (t2 := 9) hG ha rfl) (by decide) rfl rfl rfl rfl [.int (zI v41), .int (zI 0)] ⟨rfl, hG, hS_s29, (zr (k := 0) (t2 := 9) hG ha rfl), (by omega), (by omega)⟩ rfl rfl ⟨by decide, by decide⟩ ⟨by decide, by decide⟩ (k2 := 0) (n2 := 0) rfl rfl (Nat.le_of_ble_eq_true rfl) dX10_weigh_164 (kIP (fun v68 q69 => ?_))
                    refine j_i2l hx dX10_weigh_167 (by omega) ?_
                    refine j_lmul hx dX10_weigh_168 (fun w70 f71 f72 => ?_)
                    refine j_callV hx hG (c_X10_weigh_4 hst a 4 w70) lk_RX10_92 ha (by decide) rfl rfl rfl rfl [.int (zI 4), .long (zL w70)] ⟨rfl, hG, hS_s29, ha, (by omega), (by omega)⟩ rfl rfl ⟨by decide, by decide⟩ ⟨by decide, by decide⟩ (k2 := 0) (n2 := 0) rfl rfl (Nat.le_of_ble_eq_true rfl) dX10_weigh_169 (kVM (fun s30 hS_s30 hF_s30 q74 => ?_))
                    exact j_sub [0, 1, 2, 3, 4, 5, 6, 7] [(0, .ref a), (1, .int (zI 3)), (2, .long (zL y2)), (4, .ref r1), (5, .ref r5), (6, .int (zI v38)), (7, .int (zI v40)), (8, .int (zI v41))] rfl (c172_22 v40 s30 (by omega) hS_s30 (zFr_t (zFr_t (zFr_t zFr_rf hF_s28 (by decide)) hF_s29 (by decide)) hF_s30 (by decide)))
                  · skip
                    exact j_sub [0, 1, 2, 3, 4, 5, 6, 7] [(0, .ref a), (1, .int (zI 3)), (2, .long (zL y2)), (4, .ref r1), (5, .ref r5), (6, .int (zI v38)), (7, .int (zI v40)), (8, .int (zI v41))] rfl (c113_27  )
          exact j_sub [5, 6, 7, 4, 3, 2, 1, 0] [(0, .ref a), (1, .int (zI 3)), (2, .long (zL y2)), (4, .ref r1), (5, .ref r5), (6, .int (zI v38)), (7, .int (zI 0)), (8, .int (zI 0))] rfl (c85_14 (2147483648 * 4) 0 0 s13 (by omega) (by omega) (by omega) hS_s13 zFr_rf)
        · skip
          exact j_sub [2, 3, 4, 1] [(0, .ref a), (1, .int (zI 3)), (2, .long (zL y2)), (4, .ref r1)] rfl (c43_7 s13 hS_s13 (zFr_t zFr_rf hF_s13 (by decide)))

set_option maxHeartbeats 4000000 in
set_option maxRecDepth 20000 in
theorem c_X10_weigh_2 {E : zE} {l : Launch} (hst : l.stackTraces = false) (a : Nat) (x1 : Int) (y2 : Int) : Con E l yX10_weigh cX10_weigh 9 none { frames := 13, cells := 0, slots := 0, locals := 351 } (fun G s vs => vs = [.ref a, .int (zI x1), .long (zL y2)] ∧ zGK G ∧ zSK G s ∧ (gT G a = 11) ∧ (2 ≤ x1 ∧ x1 ≤ 2) ∧ ((-9223372036854775808) ≤ y2 ∧ y2 ≤ 9223372036854775807)) (fun G s _ => pV (fun G2 s2 => G2 = G ∧ zSK G s2 ∧ zFr [1, 7, 11, 41] G s s2 ∧ True)) := by
  refine Con.mk hst (by decide) (fun G s vs h => by rw [h.1]; exact Nat.le_of_ble_eq_true rfl) ?_
  rintro X G s0 vs ⟨rfl, hG, hS0, ha, hx1, hy2⟩ rfl hx hq
  obtain rfl : x1 = 2 := by omega
  show JJ X E 9 G s0 0 0 [(0, .ref a), (1, .int (zI 2)), (2, .long (zL y2))] 0 []
  refine j_aload_n hx 0 dX10_weigh_0 rfl ?_
  refine j_iload_n hx 1 dX10_weigh_1 rfl ?_
  refine j_callV hx hG (c_X10_boardAt hst a 2) lk_RX10_22 ha (by decide) rfl rfl rfl rfl [.int (zI 2)] ⟨rfl, hG, hS0, ha, (by omega)⟩ rfl rfl ⟨by decide, by decide⟩ ⟨by decide, by decide⟩ (k2 := 0) (n2 := 0) rfl rfl (Nat.le_of_ble_eq_true rfl) dX10_weigh_2 (kNP (fun _ => ?_) (fun r1 q2 => ?_))
  · skip
    refine j_astoreN hx [(4, .null), (0, .ref a), (1, .int (zI 2)), (2, .long (zL y2))] dX10_weigh_5 (by decide) rfl ?_
    refine j_aload_n hx 1 dX10_weigh_7 rfl ?_
    refine j_iload_n hx 2 dX10_weigh_8 rfl ?_
    refine j_iconst hx dX10_weigh_9 ?_
    refine j_iadd hx (r := 3) dX10_weigh_10 (by omega) ?_
    refine j_callV hx hG (c_X10_boardAt hst a 3) lk_RX10_22 ha (by decide) rfl rfl rfl rfl [.int (zI 3)] ⟨rfl, hG, hS0, ha, (by omega)⟩ rfl rfl ⟨by decide, by decide⟩ ⟨by decide, by decide⟩ (k2 := 0) (n2 := 0) rfl rfl (Nat.le_of_ble_eq_true rfl) dX10_weigh_11 (kNP (fun _ => ?_) (fun r3 q4 => ?_))
    · skip
      refine j_astoreN hx [(5, .null), (4, .null), (0, .ref a), (1, .int (zI 2)), (2, .long (zL y2))] dX10_weigh_14 (by decide) rfl ?_
      refine j_aloadN hx 1 dX10_weigh_16 rfl ?_
      refine j_ifnonnullN hx dX10_weigh_18 ?_
      exact j_vret hx hq rfl (by decide) (by decide) dX10_weigh_21 ⟨rfl, rfl, hS0, zFr_rf, trivial⟩
    · skip
      refine j_astore hx [(5, .ref r3), (4, .null), (0, .ref a), (1, .int (zI 2)), (2, .long (zL y2))] dX10_weigh_14 (by decide) rfl ?_
      refine j_aloadN hx 1 dX10_weigh_16 rfl ?_
      refine j_ifnonnullN hx dX10_weigh_18 ?_
      exact j_vret hx hq rfl (by decide) (by decide) dX10_weigh_21 ⟨rfl, rfl, hS0, zFr_rf, trivial⟩
  · skip
    refine j_astore hx [(4, .ref r1), (0, .ref a), (1, .int (zI 2)), (2, .long (zL y2))] dX10_weigh_5 (by decide) rfl ?_
    refine j_aload_n hx 1 dX10_weigh_7 rfl ?_
    refine j_iload_n hx 2 dX10_weigh_8 rfl ?_
    refine j_iconst hx dX10_weigh_9 ?_
    refine j_iadd hx (r := 3) dX10_weigh_10 (by omega) ?_
    refine j_callV hx hG (c_X10_boardAt hst a 3) lk_RX10_22 ha (by decide) rfl rfl rfl rfl [.int (zI 3)] ⟨rfl, hG, hS0, ha, (by omega)⟩ rfl rfl ⟨by decide, by decide⟩ ⟨by decide, by decide⟩ (k2 := 0) (n2 := 0) rfl rfl (Nat.le_of_ble_eq_true rfl) dX10_weigh_11 (kNP (fun _ => ?_) (fun r5 q6 => ?_))
    · skip
      refine j_astoreN hx [(5, .null), (4, .ref r1), (0, .ref a), (1, .int (zI 2)), (2, .long (zL y2))] dX10_weigh_14 (by decide) rfl ?_
      refine j_aload hx 1 dX10_weigh_16 rfl ?_
      refine j_ifnonnull hx 22 dX10_weigh_18 rfl ?_
      refine j_iload_n hx 3 dX10_weigh_22 rfl ?_
      refine j_aload_n hx 2 dX10_weigh_23 rfl ?_
      have f7 := zf hS0 ha (k := 4) rfl
      refine g11_4 hx hG ha kf_RX10_77 rfl dX10_weigh_24 ?_
      have c43_1 : ∀ (s2 : zS), (zSK G s2) → (zFr [1, 7, 41] G s0 s2) → JJ X E 9 G s2 0 0 [(0, .ref a), (1, .int (zI 2)), (2, .long (zL y2)), (4, .ref r1)] 43 [] := by
        intro s2 hS_s2 hF_s2
        refine j_aload_n hx 0 dX10_weigh_43 rfl ?_
        refine j_dup hx dX10_weigh_44 rfl ?_
        have f8 := zf hS0 ha (k := 7) rfl
        refine g11_7 hx hG ha kf_RX10_80 (v := (s0 a 7)) (by rw [(zFr_g hF_s2 ha (by decide))]) dX10_weigh_45 ?_
        refine j_aload_n hx 0 dX10_weigh_48 rfl ?_
        refine j_aload hx 3 dX10_weigh_49 rfl ?_
        refine j_callV hx hG (c_X10_leads hst a r1) lk_RX10_96 ha (by decide) rfl rfl rfl rfl [.ref r1] ⟨rfl, hG, hS_s2, ha, q2.1⟩ rfl rfl ⟨by decide, by decide⟩ ⟨by decide, by decide⟩ (k2 := 0) (n2 := 0) rfl rfl (Nat.le_of_ble_eq_true rfl) dX10_weigh_51 (kIP (fun v9 q10 => ?_))
        refine j_if_eq hx 66 dX10_weigh_54 rfl (by omega) (fun h11 => ?_) (fun h11 => ?_)
        · skip
          refine j_lconst hx dX10_weigh_66 ?_
          show JJ X E 9 G s2 0 0 [(0, .ref a), (1, .int (zI 2)), (2, .long (zL y2)), (4, .ref r1)] 67 [.long (zL 0), .long (zL ((s0 a 7))), .ref a]
          refine j_ladd hx dX10_weigh_67 (fun w12 f13 f14 => ?_)
          refine p11_7 hx hG ha kf_RX10_80 dX10_weigh_68 ?_
          obtain ⟨s5, e_s5⟩ : ∃ z, z = zU s2 a 7 w12 := ⟨_, rfl⟩
          rw [← e_s5]
          have hS_s5 : zSK G s5 := by rw [e_s5]; exact zSK_F hS_s2 ha rfl rfl rfl (by omega)
          exact j_vret hx hq rfl (by decide) (by decide) dX10_weigh_71 ⟨rfl, rfl, hS_s5, (zFr_u (zFr_t zFr_rf hF_s2 (by decide)) e_s5 ha (by decide)), trivial⟩
        · skip
          refine j_aload_n hx 0 dX10_weigh_57 rfl ?_
          refine j_iload_n hx 1 dX10_weigh_58 rfl ?_
          refine j_lload_n hx 2 dX10_weigh_59 rfl ?_
          refine j_callV hx hG (c_X10_allWays hst a 2 y2) lk_RX10_100 ha (by decide) rfl rfl rfl rfl [.int (zI 2), .long (zL y2)] ⟨rfl, hG, hS_s2, ha, (by omega), (by omega)⟩ rfl rfl ⟨by decide, by decide⟩ ⟨by decide, by decide⟩ (k2 := 0) (n2 := 0) rfl rfl (Nat.le_of_ble_eq_true rfl) dX10_weigh_60 (kLP (fun v15 q16 => ?_))
          refine j_goto hx 67 dX10_weigh_63 rfl ?_
          refine j_ladd hx dX10_weigh_67 (fun w17 f18 f19 => ?_)
          refine p11_7 hx hG ha kf_RX10_80 dX10_weigh_68 ?_
          obtain ⟨s6, e_s6⟩ : ∃ z, z = zU s2 a 7 w17 := ⟨_, rfl⟩
          rw [← e_s6]
          have hS_s6 : zSK G s6 := by rw [e_s6]; exact zSK_F hS_s2 ha rfl rfl rfl (by omega)
          exact j_vret hx hq rfl (by decide) (by decide) dX10_weigh_71 ⟨rfl, rfl, hS_s6, (zFr_u (zFr_t zFr_rf hF_s2 (by decide)) e_s6 ha (by decide)), trivial⟩
      refine j_icmp_ge hx 43 dX10_weigh_27 rfl ⟨by decide, by decide⟩ (by omega) (fun h20 => ?_) (fun h20 => ?_)
      · skip
        exact j_sub [2, 3, 4, 1] [(0, .ref a), (1, .int (zI 2)), (2, .long (zL y2)), (4, .ref r1)] rfl (c43_1 s0 hS0 zFr_rf)
      · skip
        refine j_aloadN hx 0 dX10_weigh_30 rfl ?_
        refine j_ifnullN hx 43 dX10_weigh_32 rfl ?_
        exact j_sub [2, 3, 4, 1] [(0, .ref a), (1, .int (zI 2)), (2, .long (zL y2)), (4, .ref r1)] rfl (c43_1 s0 hS0 zFr_rf)
    · skip
      refine j_astore hx [(5, .ref r5), (4, .ref r1), (0, .ref a), (1, .int (zI 2)), (2, .long (zL y2))] dX10_weigh_14 (by decide) rfl ?_
      refine j_aload hx 1 dX10_weigh_16 rfl ?_
      refine j_ifnonnull hx 22 dX10_weigh_18 rfl ?_
      refine j_iload_n hx 3 dX10_weigh_22 rfl ?_
      refine j_aload_n hx 2 dX10_weigh_23 rfl ?_
      have f21 := zf hS0 ha (k := 4) rfl
      refine g11_4 hx hG ha kf_RX10_77 rfl dX10_weigh_24 ?_
      have c43_7 : ∀ (s8 : zS), (zSK G s8) → (zFr [1, 7, 41] G s0 s8) → JJ X E 9 G s8 0 0 [(0, .ref a), (1, .int (zI 2)), (2, .long (zL y2)), (4, .ref r1)] 43 [] := by
        intro s8 hS_s8 hF_s8
        refine j_aload_n hx 0 dX10_weigh_43 rfl ?_
        refine j_dup hx dX10_weigh_44 rfl ?_
        have f22 := zf hS0 ha (k := 7) rfl
        refine g11_7 hx hG ha kf_RX10_80 (v := (s0 a 7)) (by rw [(zFr_g hF_s8 ha (by decide))]) dX10_weigh_45 ?_
        refine j_aload_n hx 0 dX10_weigh_48 rfl ?_
        refine j_aload hx 3 dX10_weigh_49 rfl ?_
        refine j_callV hx hG (c_X10_leads hst a r1) lk_RX10_96 ha (by decide) rfl rfl rfl rfl [.ref r1] ⟨rfl, hG, hS_s8, ha, q2.1⟩ rfl rfl ⟨by decide, by decide⟩ ⟨by decide, by decide⟩ (k2 := 0) (n2 := 0) rfl rfl (Nat.le_of_ble_eq_true rfl) dX10_weigh_51 (kIP (fun v23 q24 => ?_))
        refine j_if_eq hx 66 dX10_weigh_54 rfl (by omega) (fun h25 => ?_) (fun h25 => ?_)
        · skip
          refine j_lconst hx dX10_weigh_66 ?_
          show JJ X E 9 G s8 0 0 [(0, .ref a), (1, .int (zI 2)), (2, .long (zL y2)), (4, .ref r1)] 67 [.long (zL 0), .long (zL ((s0 a 7))), .ref a]
          refine j_ladd hx dX10_weigh_67 (fun w26 f27 f28 => ?_)
          refine p11_7 hx hG ha kf_RX10_80 dX10_weigh_68 ?_
          obtain ⟨s11, e_s11⟩ : ∃ z, z = zU s8 a 7 w26 := ⟨_, rfl⟩
          rw [← e_s11]
          have hS_s11 : zSK G s11 := by rw [e_s11]; exact zSK_F hS_s8 ha rfl rfl rfl (by omega)
          exact j_vret hx hq rfl (by decide) (by decide) dX10_weigh_71 ⟨rfl, rfl, hS_s11, (zFr_u (zFr_t zFr_rf hF_s8 (by decide)) e_s11 ha (by decide)), trivial⟩
        · skip
          refine j_aload_n hx 0 dX10_weigh_57 rfl ?_
          refine j_iload_n hx 1 dX10_weigh_58 rfl ?_
          refine j_lload_n hx 2 dX10_weigh_59 rfl ?_
          refine j_callV hx hG (c_X10_allWays hst a 2 y2) lk_RX10_100 ha (by decide) rfl rfl rfl rfl [.int (zI 2), .long (zL y2)] ⟨rfl, hG, hS_s8, ha, (by omega), (by omega)⟩ rfl rfl ⟨by decide, by decide⟩ ⟨by decide, by decide⟩ (k2 := 0) (n2 := 0) rfl rfl (Nat.le_of_ble_eq_true rfl) dX10_weigh_60 (kLP (fun v29 q30 => ?_))
          refine j_goto hx 67 dX10_weigh_63 rfl ?_
          refine j_ladd hx dX10_weigh_67 (fun w31 f32 f33 => ?_)
          refine p11_7 hx hG ha kf_RX10_80 dX10_weigh_68 ?_
          obtain ⟨s12, e_s12⟩ : ∃ z, z = zU s8 a 7 w31 := ⟨_, rfl⟩
          rw [← e_s12]
          have hS_s12 : zSK G s12 := by rw [e_s12]; exact zSK_F hS_s8 ha rfl rfl rfl (by omega)
          exact j_vret hx hq rfl (by decide) (by decide) dX10_weigh_71 ⟨rfl, rfl, hS_s12, (zFr_u (zFr_t zFr_rf hF_s8 (by decide)) e_s12 ha (by decide)), trivial⟩
      refine j_icmp_ge hx 43 dX10_weigh_27 rfl ⟨by decide, by decide⟩ (by omega) (fun h34 => ?_) (fun h34 => ?_)
      · skip
        exact j_sub [2, 3, 4, 1] [(0, .ref a), (1, .int (zI 2)), (2, .long (zL y2)), (4, .ref r1)] rfl (c43_7 s0 hS0 zFr_rf)
      · skip
        refine j_aload hx 0 dX10_weigh_30 rfl ?_
        refine j_ifnull hx dX10_weigh_32 ?_
        refine j_aload hx 1 dX10_weigh_35 rfl ?_
        refine j_callV hx hG (c_X0_step hst r1) lk_RX10_33 q2.1 (by decide) rfl rfl rfl rfl [] ⟨rfl, hG, hS0, q2.1⟩ rfl rfl ⟨by decide, by decide⟩ ⟨by decide, by decide⟩ (k2 := 0) (n2 := 0) rfl rfl (Nat.le_of_ble_eq_true rfl) dX10_weigh_37 (kIM (fun v35 s13 hS_s13 hF_s13 q36 => ?_))
        refine j_if_ne hx 72 dX10_weigh_40 rfl (by omega) (fun h37 => ?_) (fun h37 => ?_)
        · skip
          refine j_aload hx 1 dX10_weigh_72 rfl ?_
          refine j_callV hx hG (c_X0_likeTops hst r1) lk_RX10_37 q2.1 (by decide) rfl rfl rfl rfl [] ⟨rfl, hG, hS_s13, q2.1⟩ rfl rfl ⟨by decide, by decide⟩ ⟨by decide, by decide⟩ (k2 := 0) (n2 := 0) rfl rfl (Nat.le_of_ble_eq_true rfl) dX10_weigh_74 (kIP (fun v38 q39 => ?_))
          refine j_istore hx [(6, .int (zI v38)), (5, .ref r5), (4, .ref r1), (0, .ref a), (1, .int (zI 2)), (2, .long (zL y2))] dX10_weigh_77 (by decide) rfl ?_
          refine j_iconst hx dX10_weigh_79 ?_
          refine j_istore hx [(7, .int (zI 0)), (6, .int (zI v38)), (5, .ref r5), (4, .ref r1), (0, .ref a), (1, .int (zI 2)), (2, .long (zL y2))] dX10_weigh_80 (by decide) rfl ?_
          refine j_iconst hx dX10_weigh_82 ?_
          refine j_istore hx [(8, .int (zI 0)), (7, .int (zI 0)), (6, .int (zI v38)), (5, .ref r5), (4, .ref r1), (0, .ref a), (1, .int (zI 2)), (2, .long (zL y2))] dX10_weigh_83 (by decide) rfl ?_
          have c85_14 : ∀ (m_c85_14 : Nat) (v40 : Int) (v41 : Int) (s15 : zS), 2147483648 - v41 < m_c85_14 → ((-2147483648) ≤ v40 ∧ v40 ≤ 2147483647) → (0 ≤ v41 ∧ v41 ≤ 3) → (zSK G s15) → (zFr [1, 7, 11, 41] G s13 s15) → JJ X E 9 G s15 0 0 [(0, .ref a), (1, .int (zI 2)), (2, .long (zL y2)), (4, .ref r1), (5, .ref r5), (6, .int (zI v38)), (7, .int (zI v40)), (8, .int (zI v41))] 85 [] := by
            intro m_c85_14
            induction m_c85_14 with
            | zero => intro v40 v41 s15 hm_c85_14 fA16 fA17 hS_s15 hF_s15; exfalso; omega
            | succ m_c85_14 ih_c85_14 => 
              intro v40 v41 s15 hm_c85_14 fA16 fA17 hS_s15 hF_s15
              refine j_iload hx 7 dX10_weigh_85 rfl ?_
              refine j_aload_n hx 0 dX10_weigh_87 rfl ?_
              refine g11_0 hx hG ha kf_RX10_17 dX10_weigh_88 ?_
              have f42 := zf hS0 (zr (k := 0) (t2 := 9) hG ha rfl) (k := 4) rfl
              refine gN9_4 hx hG (zr (k := 0) (t2 := 9) hG ha rfl) kf_RX10_104 (v := (s0 (gP G a 0) 4)) (by rw [(zFr_g hF_s15 (zr (k := 0) (t2 := 9) hG ha rfl) (by decide)), (zFr_g hF_s13 (zr (k := 0) (t2 := 9) hG ha rfl) (by decide))]) dX10_weigh_91 ?_
              refine j_icmp_ge hx 178 dX10_weigh_94 rfl (by omega) (by omega) (fun h43 => ?_) (fun h43 => ?_)
              · skip
                refine j_iload hx 6 dX10_weigh_178 rfl ?_
                refine j_if_le hx 202 dX10_weigh_180 rfl (by omega) (fun h44 => ?_) (fun h44 => ?_)
                · skip
                  exact j_vret hx hq rfl (by decide) (by decide) dX10_weigh_202 ⟨rfl, rfl, hS_s15, (zFr_t (zFr_t zFr_rf hF_s13 (by decide)) hF_s15 (by decide)), trivial⟩
                · skip
                  refine j_aload hx 4 dX10_weigh_183 rfl ?_
                  refine j_aload hx 3 dX10_weigh_185 rfl ?_
                  refine j_callV hx hG (c_X0_become hst r5 r1) lk_RX10_26 q6.1 (by decide) rfl rfl rfl rfl [.ref r1] ⟨rfl, hG, hS_s15, q6.1, q2.1⟩ rfl rfl ⟨by decide, by decide⟩ ⟨by decide, by decide⟩ (k2 := 0) (n2 := 0) rfl rfl (Nat.le_of_ble_eq_true rfl) dX10_weigh_187 (kVM (fun s20 hS_s20 hF_s20 q46 => ?_))
                  refine j_aload_n hx 0 dX10_weigh_190 rfl ?_
                  refine j_iload_n hx 1 dX10_weigh_191 rfl ?_
                  refine j_iconst hx dX10_weigh_192 ?_
                  refine j_iadd hx (r := 3) dX10_weigh_193 (by omega) ?_
                  refine j_lload_n hx 2 dX10_weigh_194 rfl ?_
                  refine j_iload hx 6 dX10_weigh_195 rfl ?_
                  refine j_i2l hx dX10_weigh_197 (by omega) ?_
                  refine j_lmul hx dX10_weigh_198 (fun w47 f48 f49 => ?_)
                  refine j_callV hx hG (c_X10_weigh_3 hst a 3 w47) lk_RX10_92 ha (by decide) rfl rfl rfl rfl [.int (zI 3), .long (zL w47)] ⟨rfl, hG, hS_s20, ha, (by omega), (by omega)⟩ rfl rfl ⟨by decide, by decide⟩ ⟨by decide, by decide⟩ (k2 := 0) (n2 := 0) rfl rfl (Nat.le_of_ble_eq_true rfl) dX10_weigh_199 (kVM (fun s21 hS_s21 hF_s21 q51 => ?_))
                  exact j_vret hx hq rfl (by decide) (by decide) dX10_weigh_202 ⟨rfl, rfl, hS_s21, (zFr_t (zFr_t (zFr_t (zFr_t zFr_rf hF_s13 (by decide)) hF_s15 (by decide)) hF_s20 (by decide)) hF_s21 (by decide)), trivial⟩
              · skip
                refine j_iload hx 5 dX10_weigh_97 rfl ?_
                refine j_iconst hx dX10_weigh_99 ?_
                have c172_22 : ∀ (v52 : Int) (s23 : zS), ((-2147483648) ≤ v52 ∧ v52 ≤ 2147483647) → (zSK G s23) → (zFr [1, 7, 11, 41] G s15 s23) → JJ X E 9 G s23 0 0 [(0, .ref a), (1, .int (zI 2)), (2, .long (zL y2)), (4, .ref r1), (5, .ref r5), (6, .int (zI v38)), (7, .int (zI v52)), (8, .int (zI v41))] 172 [] := by
                  intro v52 s23 fA24 hS_s23 hF_s23
                  refine j_iinc hx 7 [(8, .int (zI (v41 + 1))), (0, .ref a), (1, .int (zI 2)), (2, .long (zL y2)), (4, .ref r1), (5, .ref r5), (6, .int (zI v38)), (7, .int (zI v52))] dX10_weigh_172 rfl (by omega) (by decide) rfl ?_
                  refine j_goto hx 85 dX10_weigh_175 rfl ?_
                  exact j_sub [1, 2, 3, 4, 5, 6, 7, 0] [(0, .ref a), (1, .int (zI 2)), (2, .long (zL y2)), (4, .ref r1), (5, .ref r5), (6, .int (zI v38)), (7, .int (zI v52)), (8, .int (zI (v41 + 1)))] rfl (ih_c85_14 v52 (v41 + 1) s23 (by omega) (by omega) (by omega) hS_s23 (zFr_t (zFr_t zFr_rf hF_s15 (by decide)) hF_s23 (by decide)))
                have c113_27 : JJ X E 9 G s15 0 0 [(0, .ref a), (1, .int (zI 2)), (2, .long (zL y2)), (4, .ref r1), (5, .ref r5), (6, .int (zI v38)), (7, .int (zI v40)), (8, .int (zI v41))] 113 [] := by
                  refine j_iload hx 6 dX10_weigh_113 rfl ?_
                  refine j_aload_n hx 0 dX10_weigh_115 rfl ?_
                  refine g11_0 hx hG ha kf_RX10_17 dX10_weigh_116 ?_
                  refine j_iload hx 7 dX10_weigh_119 rfl ?_
                  refine j_iconst hx dX10_weigh_121 ?_
                  refine j_callV hx hG (c_X8_trait hst (gP G a 0) v41 0) lk_RX10_107 (zr (k := 0) (t2 := 9) hG ha rfl) (by decide) rfl rfl rfl rfl [.int (zI v41), .int (zI 0)] ⟨rfl, hG, hS_s15, (zr (k := 0) (t2 := 9) hG ha rfl), (by omega), (by omega)⟩ rfl rfl ⟨by decide, by decide⟩ ⟨by decide, by decide⟩ (k2 := 0) (n2 := 0) rfl rfl (Nat.le_of_ble_eq_true rfl) dX10_weigh_122 (kIP (fun v53 q54 => ?_))
                  refine j_iadd hx (r := v40 + v53) dX10_weigh_125 rfl ?_
                  refine j_norm (fun v55 f56 f57 f58 => ?_)
                  refine j_istore hx [(7, .int (zI v55)), (0, .ref a), (1, .int (zI 2)), (2, .long (zL y2)), (4, .ref r1), (5, .ref r5), (6, .int (zI v38)), (8, .int (zI v41))] dX10_weigh_126 (by decide) rfl ?_
                  refine j_goto hx 172 dX10_weigh_128 rfl ?_
                  exact j_sub [1, 2, 3, 4, 5, 6, 0, 7] [(0, .ref a), (1, .int (zI 2)), (2, .long (zL y2)), (4, .ref r1), (5, .ref r5), (6, .int (zI v38)), (7, .int (zI v55)), (8, .int (zI v41))] rfl (c172_22 v55 s15 (by omega) hS_s15 zFr_rf)
                refine j_icmp_eq hx 113 dX10_weigh_100 rfl (by omega) ⟨by decide, by decide⟩ (fun h59 => ?_) (fun h59 => ?_)
                · skip
                  exact j_sub [0, 1, 2, 3, 4, 5, 6, 7] [(0, .ref a), (1, .int (zI 2)), (2, .long (zL y2)), (4, .ref r1), (5, .ref r5), (6, .int (zI v38)), (7, .int (zI v40)), (8, .int (zI v41))] rfl (c113_27  )
                · skip
                  refine j_aload hx 3 dX10_weigh_103 rfl ?_
                  refine j_iload hx 7 dX10_weigh_105 rfl ?_
                  refine j_callV hx hG (c_X0_isOut hst r1 v41) lk_RX10_73 q2.1 (by decide) rfl rfl rfl rfl [.int (zI v41)] ⟨rfl, hG, hS_s15, q2.1, (by omega)⟩ rfl rfl ⟨by decide, by decide⟩ ⟨by decide, by decide⟩ (k2 := 0) (n2 := 0) rfl rfl (Nat.le_of_ble_eq_true rfl) dX10_weigh_107 (kIP (fun v60 q61 => ?_))
                  refine j_if_eq hx 131 dX10_weigh_110 rfl (by omega) (fun h62 => ?_) (fun h62 => ?_)
                  · skip
                    refine j_aload hx 4 dX10_weigh_131 rfl ?_
                    refine j_aload hx 3 dX10_weigh_133 rfl ?_
                    refine j_callV hx hG (c_X0_become hst r5 r1) lk_RX10_26 q6.1 (by decide) rfl rfl rfl rfl [.ref r1] ⟨rfl, hG, hS_s15, q6.1, q2.1⟩ rfl rfl ⟨by decide, by decide⟩ ⟨by decide, by decide⟩ (k2 := 0) (n2 := 0) rfl rfl (Nat.le_of_ble_eq_true rfl) dX10_weigh_135 (kVM (fun s28 hS_s28 hF_s28 q64 => ?_))
                    refine j_aload hx 4 dX10_weigh_138 rfl ?_
                    refine j_iload hx 7 dX10_weigh_140 rfl ?_
                    refine j_iload hx 5 dX10_weigh_142 rfl ?_
                    refine j_aload_n hx 0 dX10_weigh_144 rfl ?_
                    have f65 := zf hS_s15 ha (k := 3) rfl
                    refine g11_3 hx hG ha kf_RX10_45 (v := (s15 a 3)) (by rw [(zFr_g hF_s28 ha (by decide))]) dX10_weigh_145 ?_
                    refine j_callV hx hG (c_X0_win hst r5 v41 v38 ((s15 a 3))) lk_RX10_69 q6.1 (by decide) rfl rfl rfl rfl [.int (zI v41), .int (zI v38), .int (zI ((s15 a 3)))] ⟨rfl, hG, hS_s28, q6.1, (by omega), (by omega), (by omega)⟩ rfl rfl ⟨by decide, by decide⟩ ⟨by decide, by decide⟩ (k2 := 0) (n2 := 0) rfl rfl (Nat.le_of_ble_eq_true rfl) dX10_weigh_148 (kIM (fun v66 s29 hS_s29 hF_s29 q67 => ?_))
                    refine j_pop hx dX10_weigh_151 rfl ?_
                    refine j_aload_n hx 0 dX10_weigh_152 rfl ?_
                    refine j_iload_n hx 1 dX10_weigh_153 rfl ?_
                    refine j_iconst hx dX10_weigh_154 ?_
                    refine j_iadd hx (r := 3) dX10_weigh_155 (by omega) ?_
                    refine j_lload_n hx 2 dX10_weigh_156 rfl ?_
                    refine j_aload_n hx 0 dX10_weigh_157 rfl ?_
                    refine g11_0 hx hG ha kf_RX10_17 dX10_weigh_158 ?_
                    refine j_iload hx 7 dX10_weigh_161 rfl ?_
                    refine j_iconst hx dX10_weigh_163 ?_
                    refine j_callV hx hG (c_X8_trait hst (gP G a 0) v41 0) lk_RX10_107 (zr (k := 0) (t2 := 9) hG ha rfl) (by decide) rfl rfl rfl rfl [.int (zI v41), .int (zI 0)] ⟨rfl, hG, hS_s29, (zr (k := 0) (t2 := 9) hG ha rfl), (by omega), (by omega)⟩ rfl rfl ⟨by decide, by decide⟩ ⟨by decide, by decide⟩ (k2 := 0) (n2 := 0) rfl rfl (Nat.le_of_ble_eq_true rfl) dX10_weigh_164 (kIP (fun v68 q69 => ?_))
                    refine j_i2l hx dX10_weigh_167 (by omega) ?_
                    refine j_lmul hx dX10_weigh_168 (fun w70 f71 f72 => ?_)
                    refine j_callV hx hG (c_X10_weigh_3 hst a 3 w70) lk_RX10_92 ha (by decide) rfl rfl rfl rfl [.int (zI 3), .long (zL w70)] ⟨rfl, hG, hS_s29, ha, (by omega), (by omega)⟩ rfl rfl ⟨by decide, by decide⟩ ⟨by decide, by decide⟩ (k2 := 0) (n2 := 0) rfl rfl (Nat.le_of_ble_eq_true rfl) dX10_weigh_169 (kVM (fun s30 hS_s30 hF_s30 q74 => ?_))
                    exact j_sub [0, 1, 2, 3, 4, 5, 6, 7] [(0, .ref a), (1, .int (zI 2)), (2, .long (zL y2)), (4, .ref r1), (5, .ref r5), (6, .int (zI v38)), (7, .int (zI v40)), (8, .int (zI v41))] rfl (c172_22 v40 s30 (by omega) hS_s30 (zFr_t (zFr_t (zFr_t zFr_rf hF_s28 (by decide)) hF_s29 (by decide)) hF_s30 (by decide)))
                  · skip
                    exact j_sub [0, 1, 2, 3, 4, 5, 6, 7] [(0, .ref a), (1, .int (zI 2)), (2, .long (zL y2)), (4, .ref r1), (5, .ref r5), (6, .int (zI v38)), (7, .int (zI v40)), (8, .int (zI v41))] rfl (c113_27  )
          exact j_sub [5, 6, 7, 4, 3, 2, 1, 0] [(0, .ref a), (1, .int (zI 2)), (2, .long (zL y2)), (4, .ref r1), (5, .ref r5), (6, .int (zI v38)), (7, .int (zI 0)), (8, .int (zI 0))] rfl (c85_14 (2147483648 * 4) 0 0 s13 (by omega) (by omega) (by omega) hS_s13 zFr_rf)
        · skip
          exact j_sub [2, 3, 4, 1] [(0, .ref a), (1, .int (zI 2)), (2, .long (zL y2)), (4, .ref r1)] rfl (c43_7 s13 hS_s13 (zFr_t zFr_rf hF_s13 (by decide)))

set_option maxHeartbeats 4000000 in
set_option maxRecDepth 20000 in
theorem c_X10_weigh_1 {E : zE} {l : Launch} (hst : l.stackTraces = false) (a : Nat) (x1 : Int) (y2 : Int) : Con E l yX10_weigh cX10_weigh 9 none { frames := 14, cells := 0, slots := 0, locals := 379 } (fun G s vs => vs = [.ref a, .int (zI x1), .long (zL y2)] ∧ zGK G ∧ zSK G s ∧ (gT G a = 11) ∧ (1 ≤ x1 ∧ x1 ≤ 1) ∧ ((-9223372036854775808) ≤ y2 ∧ y2 ≤ 9223372036854775807)) (fun G s _ => pV (fun G2 s2 => G2 = G ∧ zSK G s2 ∧ zFr [1, 7, 11, 41] G s s2 ∧ True)) := by
  refine Con.mk hst (by decide) (fun G s vs h => by rw [h.1]; exact Nat.le_of_ble_eq_true rfl) ?_
  rintro X G s0 vs ⟨rfl, hG, hS0, ha, hx1, hy2⟩ rfl hx hq
  obtain rfl : x1 = 1 := by omega
  show JJ X E 9 G s0 0 0 [(0, .ref a), (1, .int (zI 1)), (2, .long (zL y2))] 0 []
  refine j_aload_n hx 0 dX10_weigh_0 rfl ?_
  refine j_iload_n hx 1 dX10_weigh_1 rfl ?_
  refine j_callV hx hG (c_X10_boardAt hst a 1) lk_RX10_22 ha (by decide) rfl rfl rfl rfl [.int (zI 1)] ⟨rfl, hG, hS0, ha, (by omega)⟩ rfl rfl ⟨by decide, by decide⟩ ⟨by decide, by decide⟩ (k2 := 0) (n2 := 0) rfl rfl (Nat.le_of_ble_eq_true rfl) dX10_weigh_2 (kNP (fun _ => ?_) (fun r1 q2 => ?_))
  · skip
    refine j_astoreN hx [(4, .null), (0, .ref a), (1, .int (zI 1)), (2, .long (zL y2))] dX10_weigh_5 (by decide) rfl ?_
    refine j_aload_n hx 1 dX10_weigh_7 rfl ?_
    refine j_iload_n hx 2 dX10_weigh_8 rfl ?_
    refine j_iconst hx dX10_weigh_9 ?_
    refine j_iadd hx (r := 2) dX10_weigh_10 (by omega) ?_
    refine j_callV hx hG (c_X10_boardAt hst a 2) lk_RX10_22 ha (by decide) rfl rfl rfl rfl [.int (zI 2)] ⟨rfl, hG, hS0, ha, (by omega)⟩ rfl rfl ⟨by decide, by decide⟩ ⟨by decide, by decide⟩ (k2 := 0) (n2 := 0) rfl rfl (Nat.le_of_ble_eq_true rfl) dX10_weigh_11 (kNP (fun _ => ?_) (fun r3 q4 => ?_))
    · skip
      refine j_astoreN hx [(5, .null), (4, .null), (0, .ref a), (1, .int (zI 1)), (2, .long (zL y2))] dX10_weigh_14 (by decide) rfl ?_
      refine j_aloadN hx 1 dX10_weigh_16 rfl ?_
      refine j_ifnonnullN hx dX10_weigh_18 ?_
      exact j_vret hx hq rfl (by decide) (by decide) dX10_weigh_21 ⟨rfl, rfl, hS0, zFr_rf, trivial⟩
    · skip
      refine j_astore hx [(5, .ref r3), (4, .null), (0, .ref a), (1, .int (zI 1)), (2, .long (zL y2))] dX10_weigh_14 (by decide) rfl ?_
      refine j_aloadN hx 1 dX10_weigh_16 rfl ?_
      refine j_ifnonnullN hx dX10_weigh_18 ?_
      exact j_vret hx hq rfl (by decide) (by decide) dX10_weigh_21 ⟨rfl, rfl, hS0, zFr_rf, trivial⟩
  · skip
    refine j_astore hx [(4, .ref r1), (0, .ref a), (1, .int (zI 1)), (2, .long (zL y2))] dX10_weigh_5 (by decide) rfl ?_
    refine j_aload_n hx 1 dX10_weigh_7 rfl ?_
    refine j_iload_n hx 2 dX10_weigh_8 rfl ?_
    refine j_iconst hx dX10_weigh_9 ?_
    refine j_iadd hx (r := 2) dX10_weigh_10 (by omega) ?_
    refine j_callV hx hG (c_X10_boardAt hst a 2) lk_RX10_22 ha (by decide) rfl rfl rfl rfl [.int (zI 2)] ⟨rfl, hG, hS0, ha, (by omega)⟩ rfl rfl ⟨by decide, by decide⟩ ⟨by decide, by decide⟩ (k2 := 0) (n2 := 0) rfl rfl (Nat.le_of_ble_eq_true rfl) dX10_weigh_11 (kNP (fun _ => ?_) (fun r5 q6 => ?_))
    · skip
      refine j_astoreN hx [(5, .null), (4, .ref r1), (0, .ref a), (1, .int (zI 1)), (2, .long (zL y2))] dX10_weigh_14 (by decide) rfl ?_
      refine j_aload hx 1 dX10_weigh_16 rfl ?_
      refine j_ifnonnull hx 22 dX10_weigh_18 rfl ?_
      refine j_iload_n hx 3 dX10_weigh_22 rfl ?_
      refine j_aload_n hx 2 dX10_weigh_23 rfl ?_
      have f7 := zf hS0 ha (k := 4) rfl
      refine g11_4 hx hG ha kf_RX10_77 rfl dX10_weigh_24 ?_
      have c43_1 : ∀ (s2 : zS), (zSK G s2) → (zFr [1, 7, 41] G s0 s2) → JJ X E 9 G s2 0 0 [(0, .ref a), (1, .int (zI 1)), (2, .long (zL y2)), (4, .ref r1)] 43 [] := by
        intro s2 hS_s2 hF_s2
        refine j_aload_n hx 0 dX10_weigh_43 rfl ?_
        refine j_dup hx dX10_weigh_44 rfl ?_
        have f8 := zf hS0 ha (k := 7) rfl
        refine g11_7 hx hG ha kf_RX10_80 (v := (s0 a 7)) (by rw [(zFr_g hF_s2 ha (by decide))]) dX10_weigh_45 ?_
        refine j_aload_n hx 0 dX10_weigh_48 rfl ?_
        refine j_aload hx 3 dX10_weigh_49 rfl ?_
        refine j_callV hx hG (c_X10_leads hst a r1) lk_RX10_96 ha (by decide) rfl rfl rfl rfl [.ref r1] ⟨rfl, hG, hS_s2, ha, q2.1⟩ rfl rfl ⟨by decide, by decide⟩ ⟨by decide, by decide⟩ (k2 := 0) (n2 := 0) rfl rfl (Nat.le_of_ble_eq_true rfl) dX10_weigh_51 (kIP (fun v9 q10 => ?_))
        refine j_if_eq hx 66 dX10_weigh_54 rfl (by omega) (fun h11 => ?_) (fun h11 => ?_)
        · skip
          refine j_lconst hx dX10_weigh_66 ?_
          show JJ X E 9 G s2 0 0 [(0, .ref a), (1, .int (zI 1)), (2, .long (zL y2)), (4, .ref r1)] 67 [.long (zL 0), .long (zL ((s0 a 7))), .ref a]
          refine j_ladd hx dX10_weigh_67 (fun w12 f13 f14 => ?_)
          refine p11_7 hx hG ha kf_RX10_80 dX10_weigh_68 ?_
          obtain ⟨s5, e_s5⟩ : ∃ z, z = zU s2 a 7 w12 := ⟨_, rfl⟩
          rw [← e_s5]
          have hS_s5 : zSK G s5 := by rw [e_s5]; exact zSK_F hS_s2 ha rfl rfl rfl (by omega)
          exact j_vret hx hq rfl (by decide) (by decide) dX10_weigh_71 ⟨rfl, rfl, hS_s5, (zFr_u (zFr_t zFr_rf hF_s2 (by decide)) e_s5 ha (by decide)), trivial⟩
        · skip
          refine j_aload_n hx 0 dX10_weigh_57 rfl ?_
          refine j_iload_n hx 1 dX10_weigh_58 rfl ?_
          refine j_lload_n hx 2 dX10_weigh_59 rfl ?_
          refine j_callV hx hG (c_X10_allWays hst a 1 y2) lk_RX10_100 ha (by decide) rfl rfl rfl rfl [.int (zI 1), .long (zL y2)] ⟨rfl, hG, hS_s2, ha, (by omega), (by omega)⟩ rfl rfl ⟨by decide, by decide⟩ ⟨by decide, by decide⟩ (k2 := 0) (n2 := 0) rfl rfl (Nat.le_of_ble_eq_true rfl) dX10_weigh_60 (kLP (fun v15 q16 => ?_))
          refine j_goto hx 67 dX10_weigh_63 rfl ?_
          refine j_ladd hx dX10_weigh_67 (fun w17 f18 f19 => ?_)
          refine p11_7 hx hG ha kf_RX10_80 dX10_weigh_68 ?_
          obtain ⟨s6, e_s6⟩ : ∃ z, z = zU s2 a 7 w17 := ⟨_, rfl⟩
          rw [← e_s6]
          have hS_s6 : zSK G s6 := by rw [e_s6]; exact zSK_F hS_s2 ha rfl rfl rfl (by omega)
          exact j_vret hx hq rfl (by decide) (by decide) dX10_weigh_71 ⟨rfl, rfl, hS_s6, (zFr_u (zFr_t zFr_rf hF_s2 (by decide)) e_s6 ha (by decide)), trivial⟩
      refine j_icmp_ge hx 43 dX10_weigh_27 rfl ⟨by decide, by decide⟩ (by omega) (fun h20 => ?_) (fun h20 => ?_)
      · skip
        exact j_sub [2, 3, 4, 1] [(0, .ref a), (1, .int (zI 1)), (2, .long (zL y2)), (4, .ref r1)] rfl (c43_1 s0 hS0 zFr_rf)
      · skip
        refine j_aloadN hx 0 dX10_weigh_30 rfl ?_
        refine j_ifnullN hx 43 dX10_weigh_32 rfl ?_
        exact j_sub [2, 3, 4, 1] [(0, .ref a), (1, .int (zI 1)), (2, .long (zL y2)), (4, .ref r1)] rfl (c43_1 s0 hS0 zFr_rf)
    · skip
      refine j_astore hx [(5, .ref r5), (4, .ref r1), (0, .ref a), (1, .int (zI 1)), (2, .long (zL y2))] dX10_weigh_14 (by decide) rfl ?_
      refine j_aload hx 1 dX10_weigh_16 rfl ?_
      refine j_ifnonnull hx 22 dX10_weigh_18 rfl ?_
      refine j_iload_n hx 3 dX10_weigh_22 rfl ?_
      refine j_aload_n hx 2 dX10_weigh_23 rfl ?_
      have f21 := zf hS0 ha (k := 4) rfl
      refine g11_4 hx hG ha kf_RX10_77 rfl dX10_weigh_24 ?_
      have c43_7 : ∀ (s8 : zS), (zSK G s8) → (zFr [1, 7, 41] G s0 s8) → JJ X E 9 G s8 0 0 [(0, .ref a), (1, .int (zI 1)), (2, .long (zL y2)), (4, .ref r1)] 43 [] := by
        intro s8 hS_s8 hF_s8
        refine j_aload_n hx 0 dX10_weigh_43 rfl ?_
        refine j_dup hx dX10_weigh_44 rfl ?_
        have f22 := zf hS0 ha (k := 7) rfl
        refine g11_7 hx hG ha kf_RX10_80 (v := (s0 a 7)) (by rw [(zFr_g hF_s8 ha (by decide))]) dX10_weigh_45 ?_
        refine j_aload_n hx 0 dX10_weigh_48 rfl ?_
        refine j_aload hx 3 dX10_weigh_49 rfl ?_
        refine j_callV hx hG (c_X10_leads hst a r1) lk_RX10_96 ha (by decide) rfl rfl rfl rfl [.ref r1] ⟨rfl, hG, hS_s8, ha, q2.1⟩ rfl rfl ⟨by decide, by decide⟩ ⟨by decide, by decide⟩ (k2 := 0) (n2 := 0) rfl rfl (Nat.le_of_ble_eq_true rfl) dX10_weigh_51 (kIP (fun v23 q24 => ?_))
        refine j_if_eq hx 66 dX10_weigh_54 rfl (by omega) (fun h25 => ?_) (fun h25 => ?_)
        · skip
          refine j_lconst hx dX10_weigh_66 ?_
          show JJ X E 9 G s8 0 0 [(0, .ref a), (1, .int (zI 1)), (2, .long (zL y2)), (4, .ref r1)] 67 [.long (zL 0), .long (zL ((s0 a 7))), .ref a]
          refine j_ladd hx dX10_weigh_67 (fun w26 f27 f28 => ?_)
          refine p11_7 hx hG ha kf_RX10_80 dX10_weigh_68 ?_
          obtain ⟨s11, e_s11⟩ : ∃ z, z = zU s8 a 7 w26 := ⟨_, rfl⟩
          rw [← e_s11]
          have hS_s11 : zSK G s11 := by rw [e_s11]; exact zSK_F hS_s8 ha rfl rfl rfl (by omega)
          exact j_vret hx hq rfl (by decide) (by decide) dX10_weigh_71 ⟨rfl, rfl, hS_s11, (zFr_u (zFr_t zFr_rf hF_s8 (by decide)) e_s11 ha (by decide)), trivial⟩
        · skip
          refine j_aload_n hx 0 dX10_weigh_57 rfl ?_
          refine j_iload_n hx 1 dX10_weigh_58 rfl ?_
          refine j_lload_n hx 2 dX10_weigh_59 rfl ?_
          refine j_callV hx hG (c_X10_allWays hst a 1 y2) lk_RX10_100 ha (by decide) rfl rfl rfl rfl [.int (zI 1), .long (zL y2)] ⟨rfl, hG, hS_s8, ha, (by omega), (by omega)⟩ rfl rfl ⟨by decide, by decide⟩ ⟨by decide, by decide⟩ (k2 := 0) (n2 := 0) rfl rfl (Nat.le_of_ble_eq_true rfl) dX10_weigh_60 (kLP (fun v29 q30 => ?_))
          refine j_goto hx 67 dX10_weigh_63 rfl ?_
          refine j_ladd hx dX10_weigh_67 (fun w31 f32 f33 => ?_)
          refine p11_7 hx hG ha kf_RX10_80 dX10_weigh_68 ?_
          obtain ⟨s12, e_s12⟩ : ∃ z, z = zU s8 a 7 w31 := ⟨_, rfl⟩
          rw [← e_s12]
          have hS_s12 : zSK G s12 := by rw [e_s12]; exact zSK_F hS_s8 ha rfl rfl rfl (by omega)
          exact j_vret hx hq rfl (by decide) (by decide) dX10_weigh_71 ⟨rfl, rfl, hS_s12, (zFr_u (zFr_t zFr_rf hF_s8 (by decide)) e_s12 ha (by decide)), trivial⟩
      refine j_icmp_ge hx 43 dX10_weigh_27 rfl ⟨by decide, by decide⟩ (by omega) (fun h34 => ?_) (fun h34 => ?_)
      · skip
        exact j_sub [2, 3, 4, 1] [(0, .ref a), (1, .int (zI 1)), (2, .long (zL y2)), (4, .ref r1)] rfl (c43_7 s0 hS0 zFr_rf)
      · skip
        refine j_aload hx 0 dX10_weigh_30 rfl ?_
        refine j_ifnull hx dX10_weigh_32 ?_
        refine j_aload hx 1 dX10_weigh_35 rfl ?_
        refine j_callV hx hG (c_X0_step hst r1) lk_RX10_33 q2.1 (by decide) rfl rfl rfl rfl [] ⟨rfl, hG, hS0, q2.1⟩ rfl rfl ⟨by decide, by decide⟩ ⟨by decide, by decide⟩ (k2 := 0) (n2 := 0) rfl rfl (Nat.le_of_ble_eq_true rfl) dX10_weigh_37 (kIM (fun v35 s13 hS_s13 hF_s13 q36 => ?_))
        refine j_if_ne hx 72 dX10_weigh_40 rfl (by omega) (fun h37 => ?_) (fun h37 => ?_)
        · skip
          refine j_aload hx 1 dX10_weigh_72 rfl ?_
          refine j_callV hx hG (c_X0_likeTops hst r1) lk_RX10_37 q2.1 (by decide) rfl rfl rfl rfl [] ⟨rfl, hG, hS_s13, q2.1⟩ rfl rfl ⟨by decide, by decide⟩ ⟨by decide, by decide⟩ (k2 := 0) (n2 := 0) rfl rfl (Nat.le_of_ble_eq_true rfl) dX10_weigh_74 (kIP (fun v38 q39 => ?_))
          refine j_istore hx [(6, .int (zI v38)), (5, .ref r5), (4, .ref r1), (0, .ref a), (1, .int (zI 1)), (2, .long (zL y2))] dX10_weigh_77 (by decide) rfl ?_
          refine j_iconst hx dX10_weigh_79 ?_
          refine j_istore hx [(7, .int (zI 0)), (6, .int (zI v38)), (5, .ref r5), (4, .ref r1), (0, .ref a), (1, .int (zI 1)), (2, .long (zL y2))] dX10_weigh_80 (by decide) rfl ?_
          refine j_iconst hx dX10_weigh_82 ?_
          refine j_istore hx [(8, .int (zI 0)), (7, .int (zI 0)), (6, .int (zI v38)), (5, .ref r5), (4, .ref r1), (0, .ref a), (1, .int (zI 1)), (2, .long (zL y2))] dX10_weigh_83 (by decide) rfl ?_
          have c85_14 : ∀ (m_c85_14 : Nat) (v40 : Int) (v41 : Int) (s15 : zS), 2147483648 - v41 < m_c85_14 → ((-2147483648) ≤ v40 ∧ v40 ≤ 2147483647) → (0 ≤ v41 ∧ v41 ≤ 3) → (zSK G s15) → (zFr [1, 7, 11, 41] G s13 s15) → JJ X E 9 G s15 0 0 [(0, .ref a), (1, .int (zI 1)), (2, .long (zL y2)), (4, .ref r1), (5, .ref r5), (6, .int (zI v38)), (7, .int (zI v40)), (8, .int (zI v41))] 85 [] := by
            intro m_c85_14
            induction m_c85_14 with
            | zero => intro v40 v41 s15 hm_c85_14 fA16 fA17 hS_s15 hF_s15; exfalso; omega
            | succ m_c85_14 ih_c85_14 => 
              intro v40 v41 s15 hm_c85_14 fA16 fA17 hS_s15 hF_s15
              refine j_iload hx 7 dX10_weigh_85 rfl ?_
              refine j_aload_n hx 0 dX10_weigh_87 rfl ?_
              refine g11_0 hx hG ha kf_RX10_17 dX10_weigh_88 ?_
              have f42 := zf hS0 (zr (k := 0) (t2 := 9) hG ha rfl) (k := 4) rfl
              refine gN9_4 hx hG (zr (k := 0) (t2 := 9) hG ha rfl) kf_RX10_104 (v := (s0 (gP G a 0) 4)) (by rw [(zFr_g hF_s15 (zr (k := 0) (t2 := 9) hG ha rfl) (by decide)), (zFr_g hF_s13 (zr (k := 0) (t2 := 9) hG ha rfl) (by decide))]) dX10_weigh_91 ?_
              refine j_icmp_ge hx 178 dX10_weigh_94 rfl (by omega) (by omega) (fun h43 => ?_) (fun h43 => ?_)
              · skip
                refine j_iload hx 6 dX10_weigh_178 rfl ?_
                refine j_if_le hx 202 dX10_weigh_180 rfl (by omega) (fun h44 => ?_) (fun h44 => ?_)
                · skip
                  exact j_vret hx hq rfl (by decide) (by decide) dX10_weigh_202 ⟨rfl, rfl, hS_s15, (zFr_t (zFr_t zFr_rf hF_s13 (by decide)) hF_s15 (by decide)), trivial⟩
                · skip
                  refine j_aload hx 4 dX10_weigh_183 rfl ?_
                  refine j_aload hx 3 dX10_weigh_185 rfl ?_
                  refine j_callV hx hG (c_X0_become hst r5 r1) lk_RX10_26 q6.1 (by decide) rfl rfl rfl rfl [.ref r1] ⟨rfl, hG, hS_s15, q6.1, q2.1⟩ rfl rfl ⟨by decide, by decide⟩ ⟨by decide, by decide⟩ (k2 := 0) (n2 := 0) rfl rfl (Nat.le_of_ble_eq_true rfl) dX10_weigh_187 (kVM (fun s20 hS_s20 hF_s20 q46 => ?_))
                  refine j_aload_n hx 0 dX10_weigh_190 rfl ?_
                  refine j_iload_n hx 1 dX10_weigh_191 rfl ?_
                  refine j_iconst hx dX10_weigh_192 ?_
                  refine j_iadd hx (r := 2) dX10_weigh_193 (by omega) ?_
                  refine j_lload_n hx 2 dX10_weigh_194 rfl ?_
                  refine j_iload hx 6 dX10_weigh_195 rfl ?_
                  refine j_i2l hx dX10_weigh_197 (by omega) ?_
                  refine j_lmul hx dX10_weigh_198 (fun w47 f48 f49 => ?_)
                  refine j_callV hx hG (c_X10_weigh_2 hst a 2 w47) lk_RX10_92 ha (by decide) rfl rfl rfl rfl [.int (zI 2), .long (zL w47)] ⟨rfl, hG, hS_s20, ha, (by omega), (by omega)⟩ rfl rfl ⟨by decide, by decide⟩ ⟨by decide, by decide⟩ (k2 := 0) (n2 := 0) rfl rfl (Nat.le_of_ble_eq_true rfl) dX10_weigh_199 (kVM (fun s21 hS_s21 hF_s21 q51 => ?_))
                  exact j_vret hx hq rfl (by decide) (by decide) dX10_weigh_202 ⟨rfl, rfl, hS_s21, (zFr_t (zFr_t (zFr_t (zFr_t zFr_rf hF_s13 (by decide)) hF_s15 (by decide)) hF_s20 (by decide)) hF_s21 (by decide)), trivial⟩
              · skip
                refine j_iload hx 5 dX10_weigh_97 rfl ?_
                refine j_iconst hx dX10_weigh_99 ?_
                have c172_22 : ∀ (v52 : Int) (s23 : zS), ((-2147483648) ≤ v52 ∧ v52 ≤ 2147483647) → (zSK G s23) → (zFr [1, 7, 11, 41] G s15 s23) → JJ X E 9 G s23 0 0 [(0, .ref a), (1, .int (zI 1)), (2, .long (zL y2)), (4, .ref r1), (5, .ref r5), (6, .int (zI v38)), (7, .int (zI v52)), (8, .int (zI v41))] 172 [] := by
                  intro v52 s23 fA24 hS_s23 hF_s23
                  refine j_iinc hx 7 [(8, .int (zI (v41 + 1))), (0, .ref a), (1, .int (zI 1)), (2, .long (zL y2)), (4, .ref r1), (5, .ref r5), (6, .int (zI v38)), (7, .int (zI v52))] dX10_weigh_172 rfl (by omega) (by decide) rfl ?_
                  refine j_goto hx 85 dX10_weigh_175 rfl ?_
                  exact j_sub [1, 2, 3, 4, 5, 6, 7, 0] [(0, .ref a), (1, .int (zI 1)), (2, .long (zL y2)), (4, .ref r1), (5, .ref r5), (6, .int (zI v38)), (7, .int (zI v52)), (8, .int (zI (v41 + 1)))] rfl (ih_c85_14 v52 (v41 + 1) s23 (by omega) (by omega) (by omega) hS_s23 (zFr_t (zFr_t zFr_rf hF_s15 (by decide)) hF_s23 (by decide)))
                have c113_27 : JJ X E 9 G s15 0 0 [(0, .ref a), (1, .int (zI 1)), (2, .long (zL y2)), (4, .ref r1), (5, .ref r5), (6, .int (zI v38)), (7, .int (zI v40)), (8, .int (zI v41))] 113 [] := by
                  refine j_iload hx 6 dX10_weigh_113 rfl ?_
                  refine j_aload_n hx 0 dX10_weigh_115 rfl ?_
                  refine g11_0 hx hG ha kf_RX10_17 dX10_weigh_116 ?_
                  refine j_iload hx 7 dX10_weigh_119 rfl ?_
                  refine j_iconst hx dX10_weigh_121 ?_
                  refine j_callV hx hG (c_X8_trait hst (gP G a 0) v41 0) lk_RX10_107 (zr (k := 0) (t2 := 9) hG ha rfl) (by decide) rfl rfl rfl rfl [.int (zI v41), .int (zI 0)] ⟨rfl, hG, hS_s15, (zr (k := 0) (t2 := 9) hG ha rfl), (by omega), (by omega)⟩ rfl rfl ⟨by decide, by decide⟩ ⟨by decide, by decide⟩ (k2 := 0) (n2 := 0) rfl rfl (Nat.le_of_ble_eq_true rfl) dX10_weigh_122 (kIP (fun v53 q54 => ?_))
                  refine j_iadd hx (r := v40 + v53) dX10_weigh_125 rfl ?_
                  refine j_norm (fun v55 f56 f57 f58 => ?_)
                  refine j_istore hx [(7, .int (zI v55)), (0, .ref a), (1, .int (zI 1)), (2, .long (zL y2)), (4, .ref r1), (5, .ref r5), (6, .int (zI v38)), (8, .int (zI v41))] dX10_weigh_126 (by decide) rfl ?_
                  refine j_goto hx 172 dX10_weigh_128 rfl ?_
                  exact j_sub [1, 2, 3, 4, 5, 6, 0, 7] [(0, .ref a), (1, .int (zI 1)), (2, .long (zL y2)), (4, .ref r1), (5, .ref r5), (6, .int (zI v38)), (7, .int (zI v55)), (8, .int (zI v41))] rfl (c172_22 v55 s15 (by omega) hS_s15 zFr_rf)
                refine j_icmp_eq hx 113 dX10_weigh_100 rfl (by omega) ⟨by decide, by decide⟩ (fun h59 => ?_) (fun h59 => ?_)
                · skip
                  exact j_sub [0, 1, 2, 3, 4, 5, 6, 7] [(0, .ref a), (1, .int (zI 1)), (2, .long (zL y2)), (4, .ref r1), (5, .ref r5), (6, .int (zI v38)), (7, .int (zI v40)), (8, .int (zI v41))] rfl (c113_27  )
                · skip
                  refine j_aload hx 3 dX10_weigh_103 rfl ?_
                  refine j_iload hx 7 dX10_weigh_105 rfl ?_
                  refine j_callV hx hG (c_X0_isOut hst r1 v41) lk_RX10_73 q2.1 (by decide) rfl rfl rfl rfl [.int (zI v41)] ⟨rfl, hG, hS_s15, q2.1, (by omega)⟩ rfl rfl ⟨by decide, by decide⟩ ⟨by decide, by decide⟩ (k2 := 0) (n2 := 0) rfl rfl (Nat.le_of_ble_eq_true rfl) dX10_weigh_107 (kIP (fun v60 q61 => ?_))
                  refine j_if_eq hx 131 dX10_weigh_110 rfl (by omega) (fun h62 => ?_) (fun h62 => ?_)
                  · skip
                    refine j_aload hx 4 dX10_weigh_131 rfl ?_
                    refine j_aload hx 3 dX10_weigh_133 rfl ?_
                    refine j_callV hx hG (c_X0_become hst r5 r1) lk_RX10_26 q6.1 (by decide) rfl rfl rfl rfl [.ref r1] ⟨rfl, hG, hS_s15, q6.1, q2.1⟩ rfl rfl ⟨by decide, by decide⟩ ⟨by decide, by decide⟩ (k2 := 0) (n2 := 0) rfl rfl (Nat.le_of_ble_eq_true rfl) dX10_weigh_135 (kVM (fun s28 hS_s28 hF_s28 q64 => ?_))
                    refine j_aload hx 4 dX10_weigh_138 rfl ?_
                    refine j_iload hx 7 dX10_weigh_140 rfl ?_
                    refine j_iload hx 5 dX10_weigh_142 rfl ?_
                    refine j_aload_n hx 0 dX10_weigh_144 rfl ?_
                    have f65 := zf hS_s15 ha (k := 3) rfl
                    refine g11_3 hx hG ha kf_RX10_45 (v := (s15 a 3)) (by rw [(zFr_g hF_s28 ha (by decide))]) dX10_weigh_145 ?_
                    refine j_callV hx hG (c_X0_win hst r5 v41 v38 ((s15 a 3))) lk_RX10_69 q6.1 (by decide) rfl rfl rfl rfl [.int (zI v41), .int (zI v38), .int (zI ((s15 a 3)))] ⟨rfl, hG, hS_s28, q6.1, (by omega), (by omega), (by omega)⟩ rfl rfl ⟨by decide, by decide⟩ ⟨by decide, by decide⟩ (k2 := 0) (n2 := 0) rfl rfl (Nat.le_of_ble_eq_true rfl) dX10_weigh_148 (kIM (fun v66 s29 hS_s29 hF_s29 q67 => ?_))
                    refine j_pop hx dX10_weigh_151 rfl ?_
                    refine j_aload_n hx 0 dX10_weigh_152 rfl ?_
                    refine j_iload_n hx 1 dX10_weigh_153 rfl ?_
                    refine j_iconst hx dX10_weigh_154 ?_
                    refine j_iadd hx (r := 2) dX10_weigh_155 (by omega) ?_
                    refine j_lload_n hx 2 dX10_weigh_156 rfl ?_
                    refine j_aload_n hx 0 dX10_weigh_157 rfl ?_
                    refine g11_0 hx hG ha kf_RX10_17 dX10_weigh_158 ?_
                    refine j_iload hx 7 dX10_weigh_161 rfl ?_
                    refine j_iconst hx dX10_weigh_163 ?_
                    refine j_callV hx hG (c_X8_trait hst (gP G a 0) v41 0) lk_RX10_107 (zr (k := 0) (t2 := 9) hG ha rfl) (by decide) rfl rfl rfl rfl [.int (zI v41), .int (zI 0)] ⟨rfl, hG, hS_s29, (zr (k := 0) (t2 := 9) hG ha rfl), (by omega), (by omega)⟩ rfl rfl ⟨by decide, by decide⟩ ⟨by decide, by decide⟩ (k2 := 0) (n2 := 0) rfl rfl (Nat.le_of_ble_eq_true rfl) dX10_weigh_164 (kIP (fun v68 q69 => ?_))
                    refine j_i2l hx dX10_weigh_167 (by omega) ?_
                    refine j_lmul hx dX10_weigh_168 (fun w70 f71 f72 => ?_)
                    refine j_callV hx hG (c_X10_weigh_2 hst a 2 w70) lk_RX10_92 ha (by decide) rfl rfl rfl rfl [.int (zI 2), .long (zL w70)] ⟨rfl, hG, hS_s29, ha, (by omega), (by omega)⟩ rfl rfl ⟨by decide, by decide⟩ ⟨by decide, by decide⟩ (k2 := 0) (n2 := 0) rfl rfl (Nat.le_of_ble_eq_true rfl) dX10_weigh_169 (kVM (fun s30 hS_s30 hF_s30 q74 => ?_))
                    exact j_sub [0, 1, 2, 3, 4, 5, 6, 7] [(0, .ref a), (1, .int (zI 1)), (2, .long (zL y2)), (4, .ref r1), (5, .ref r5), (6, .int (zI v38)), (7, .int (zI v40)), (8, .int (zI v41))] rfl (c172_22 v40 s30 (by omega) hS_s30 (zFr_t (zFr_t (zFr_t zFr_rf hF_s28 (by decide)) hF_s29 (by decide)) hF_s30 (by decide)))
                  · skip
                    exact j_sub [0, 1, 2, 3, 4, 5, 6, 7] [(0, .ref a), (1, .int (zI 1)), (2, .long (zL y2)), (4, .ref r1), (5, .ref r5), (6, .int (zI v38)), (7, .int (zI v40)), (8, .int (zI v41))] rfl (c113_27  )
          exact j_sub [5, 6, 7, 4, 3, 2, 1, 0] [(0, .ref a), (1, .int (zI 1)), (2, .long (zL y2)), (4, .ref r1), (5, .ref r5), (6, .int (zI v38)), (7, .int (zI 0)), (8, .int (zI 0))] rfl (c85_14 (2147483648 * 4) 0 0 s13 (by omega) (by omega) (by omega) hS_s13 zFr_rf)
        · skip
          exact j_sub [2, 3, 4, 1] [(0, .ref a), (1, .int (zI 1)), (2, .long (zL y2)), (4, .ref r1)] rfl (c43_7 s13 hS_s13 (zFr_t zFr_rf hF_s13 (by decide)))

set_option maxHeartbeats 4000000 in
set_option maxRecDepth 20000 in
theorem c_X10_weigh_0 {E : zE} {l : Launch} (hst : l.stackTraces = false) (a : Nat) (x1 : Int) (y2 : Int) : Con E l yX10_weigh cX10_weigh 9 none { frames := 15, cells := 0, slots := 0, locals := 407 } (fun G s vs => vs = [.ref a, .int (zI x1), .long (zL y2)] ∧ zGK G ∧ zSK G s ∧ (gT G a = 11) ∧ (0 ≤ x1 ∧ x1 ≤ 0) ∧ ((-9223372036854775808) ≤ y2 ∧ y2 ≤ 9223372036854775807)) (fun G s _ => pV (fun G2 s2 => G2 = G ∧ zSK G s2 ∧ zFr [1, 7, 11, 41] G s s2 ∧ True)) := by
  refine Con.mk hst (by decide) (fun G s vs h => by rw [h.1]; exact Nat.le_of_ble_eq_true rfl) ?_
  rintro X G s0 vs ⟨rfl, hG, hS0, ha, hx1, hy2⟩ rfl hx hq
  obtain rfl : x1 = 0 := by omega
  show JJ X E 9 G s0 0 0 [(0, .ref a), (1, .int (zI 0)), (2, .long (zL y2))] 0 []
  refine j_aload_n hx 0 dX10_weigh_0 rfl ?_
  refine j_iload_n hx 1 dX10_weigh_1 rfl ?_
  refine j_callV hx hG (c_X10_boardAt hst a 0) lk_RX10_22 ha (by decide) rfl rfl rfl rfl [.int (zI 0)] ⟨rfl, hG, hS0, ha, (by omega)⟩ rfl rfl ⟨by decide, by decide⟩ ⟨by decide, by decide⟩ (k2 := 0) (n2 := 0) rfl rfl (Nat.le_of_ble_eq_true rfl) dX10_weigh_2 (kNP (fun _ => ?_) (fun r1 q2 => ?_))
  · skip
    refine j_astoreN hx [(4, .null), (0, .ref a), (1, .int (zI 0)), (2, .long (zL y2))] dX10_weigh_5 (by decide) rfl ?_
    refine j_aload_n hx 1 dX10_weigh_7 rfl ?_
    refine j_iload_n hx 2 dX10_weigh_8 rfl ?_
    refine j_iconst hx dX10_weigh_9 ?_
    refine j_iadd hx (r := 1) dX10_weigh_10 (by omega) ?_
    refine j_callV hx hG (c_X10_boardAt hst a 1) lk_RX10_22 ha (by decide) rfl rfl rfl rfl [.int (zI 1)] ⟨rfl, hG, hS0, ha, (by omega)⟩ rfl rfl ⟨by decide, by decide⟩ ⟨by decide, by decide⟩ (k2 := 0) (n2 := 0) rfl rfl (Nat.le_of_ble_eq_true rfl) dX10_weigh_11 (kNP (fun _ => ?_) (fun r3 q4 => ?_))
    · skip
      refine j_astoreN hx [(5, .null), (4, .null), (0, .ref a), (1, .int (zI 0)), (2, .long (zL y2))] dX10_weigh_14 (by decide) rfl ?_
      refine j_aloadN hx 1 dX10_weigh_16 rfl ?_
      refine j_ifnonnullN hx dX10_weigh_18 ?_
      exact j_vret hx hq rfl (by decide) (by decide) dX10_weigh_21 ⟨rfl, rfl, hS0, zFr_rf, trivial⟩
    · skip
      refine j_astore hx [(5, .ref r3), (4, .null), (0, .ref a), (1, .int (zI 0)), (2, .long (zL y2))] dX10_weigh_14 (by decide) rfl ?_
      refine j_aloadN hx 1 dX10_weigh_16 rfl ?_
      refine j_ifnonnullN hx dX10_weigh_18 ?_
      exact j_vret hx hq rfl (by decide) (by decide) dX10_weigh_21 ⟨rfl, rfl, hS0, zFr_rf, trivial⟩
  · skip
    refine j_astore hx [(4, .ref r1), (0, .ref a), (1, .int (zI 0)), (2, .long (zL y2))] dX10_weigh_5 (by decide) rfl ?_
    refine j_aload_n hx 1 dX10_weigh_7 rfl ?_
    refine j_iload_n hx 2 dX10_weigh_8 rfl ?_
    refine j_iconst hx dX10_weigh_9 ?_
    refine j_iadd hx (r := 1) dX10_weigh_10 (by omega) ?_
    refine j_callV hx hG (c_X10_boardAt hst a 1) lk_RX10_22 ha (by decide) rfl rfl rfl rfl [.int (zI 1)] ⟨rfl, hG, hS0, ha, (by omega)⟩ rfl rfl ⟨by decide, by decide⟩ ⟨by decide, by decide⟩ (k2 := 0) (n2 := 0) rfl rfl (Nat.le_of_ble_eq_true rfl) dX10_weigh_11 (kNP (fun _ => ?_) (fun r5 q6 => ?_))
    · skip
      refine j_astoreN hx [(5, .null), (4, .ref r1), (0, .ref a), (1, .int (zI 0)), (2, .long (zL y2))] dX10_weigh_14 (by decide) rfl ?_
      refine j_aload hx 1 dX10_weigh_16 rfl ?_
      refine j_ifnonnull hx 22 dX10_weigh_18 rfl ?_
      refine j_iload_n hx 3 dX10_weigh_22 rfl ?_
      refine j_aload_n hx 2 dX10_weigh_23 rfl ?_
      have f7 := zf hS0 ha (k := 4) rfl
      refine g11_4 hx hG ha kf_RX10_77 rfl dX10_weigh_24 ?_
      have c43_1 : ∀ (s2 : zS), (zSK G s2) → (zFr [1, 7, 41] G s0 s2) → JJ X E 9 G s2 0 0 [(0, .ref a), (1, .int (zI 0)), (2, .long (zL y2)), (4, .ref r1)] 43 [] := by
        intro s2 hS_s2 hF_s2
        refine j_aload_n hx 0 dX10_weigh_43 rfl ?_
        refine j_dup hx dX10_weigh_44 rfl ?_
        have f8 := zf hS0 ha (k := 7) rfl
        refine g11_7 hx hG ha kf_RX10_80 (v := (s0 a 7)) (by rw [(zFr_g hF_s2 ha (by decide))]) dX10_weigh_45 ?_
        refine j_aload_n hx 0 dX10_weigh_48 rfl ?_
        refine j_aload hx 3 dX10_weigh_49 rfl ?_
        refine j_callV hx hG (c_X10_leads hst a r1) lk_RX10_96 ha (by decide) rfl rfl rfl rfl [.ref r1] ⟨rfl, hG, hS_s2, ha, q2.1⟩ rfl rfl ⟨by decide, by decide⟩ ⟨by decide, by decide⟩ (k2 := 0) (n2 := 0) rfl rfl (Nat.le_of_ble_eq_true rfl) dX10_weigh_51 (kIP (fun v9 q10 => ?_))
        refine j_if_eq hx 66 dX10_weigh_54 rfl (by omega) (fun h11 => ?_) (fun h11 => ?_)
        · skip
          refine j_lconst hx dX10_weigh_66 ?_
          show JJ X E 9 G s2 0 0 [(0, .ref a), (1, .int (zI 0)), (2, .long (zL y2)), (4, .ref r1)] 67 [.long (zL 0), .long (zL ((s0 a 7))), .ref a]
          refine j_ladd hx dX10_weigh_67 (fun w12 f13 f14 => ?_)
          refine p11_7 hx hG ha kf_RX10_80 dX10_weigh_68 ?_
          obtain ⟨s5, e_s5⟩ : ∃ z, z = zU s2 a 7 w12 := ⟨_, rfl⟩
          rw [← e_s5]
          have hS_s5 : zSK G s5 := by rw [e_s5]; exact zSK_F hS_s2 ha rfl rfl rfl (by omega)
          exact j_vret hx hq rfl (by decide) (by decide) dX10_weigh_71 ⟨rfl, rfl, hS_s5, (zFr_u (zFr_t zFr_rf hF_s2 (by decide)) e_s5 ha (by decide)), trivial⟩
        · skip
          refine j_aload_n hx 0 dX10_weigh_57 rfl ?_
          refine j_iload_n hx 1 dX10_weigh_58 rfl ?_
          refine j_lload_n hx 2 dX10_weigh_59 rfl ?_
          refine j_callV hx hG (c_X10_allWays hst a 0 y2) lk_RX10_100 ha (by decide) rfl rfl rfl rfl [.int (zI 0), .long (zL y2)] ⟨rfl, hG, hS_s2, ha, (by omega), (by omega)⟩ rfl rfl ⟨by decide, by decide⟩ ⟨by decide, by decide⟩ (k2 := 0) (n2 := 0) rfl rfl (Nat.le_of_ble_eq_true rfl) dX10_weigh_60 (kLP (fun v15 q16 => ?_))
          refine j_goto hx 67 dX10_weigh_63 rfl ?_
          refine j_ladd hx dX10_weigh_67 (fun w17 f18 f19 => ?_)
          refine p11_7 hx hG ha kf_RX10_80 dX10_weigh_68 ?_
          obtain ⟨s6, e_s6⟩ : ∃ z, z = zU s2 a 7 w17 := ⟨_, rfl⟩
          rw [← e_s6]
          have hS_s6 : zSK G s6 := by rw [e_s6]; exact zSK_F hS_s2 ha rfl rfl rfl (by omega)
          exact j_vret hx hq rfl (by decide) (by decide) dX10_weigh_71 ⟨rfl, rfl, hS_s6, (zFr_u (zFr_t zFr_rf hF_s2 (by decide)) e_s6 ha (by decide)), trivial⟩
      refine j_icmp_ge hx 43 dX10_weigh_27 rfl ⟨by decide, by decide⟩ (by omega) (fun h20 => ?_) (fun h20 => ?_)
      · skip
        exact j_sub [2, 3, 4, 1] [(0, .ref a), (1, .int (zI 0)), (2, .long (zL y2)), (4, .ref r1)] rfl (c43_1 s0 hS0 zFr_rf)
      · skip
        refine j_aloadN hx 0 dX10_weigh_30 rfl ?_
        refine j_ifnullN hx 43 dX10_weigh_32 rfl ?_
        exact j_sub [2, 3, 4, 1] [(0, .ref a), (1, .int (zI 0)), (2, .long (zL y2)), (4, .ref r1)] rfl (c43_1 s0 hS0 zFr_rf)
    · skip
      refine j_astore hx [(5, .ref r5), (4, .ref r1), (0, .ref a), (1, .int (zI 0)), (2, .long (zL y2))] dX10_weigh_14 (by decide) rfl ?_
      refine j_aload hx 1 dX10_weigh_16 rfl ?_
      refine j_ifnonnull hx 22 dX10_weigh_18 rfl ?_
      refine j_iload_n hx 3 dX10_weigh_22 rfl ?_
      refine j_aload_n hx 2 dX10_weigh_23 rfl ?_
      have f21 := zf hS0 ha (k := 4) rfl
      refine g11_4 hx hG ha kf_RX10_77 rfl dX10_weigh_24 ?_
      have c43_7 : ∀ (s8 : zS), (zSK G s8) → (zFr [1, 7, 41] G s0 s8) → JJ X E 9 G s8 0 0 [(0, .ref a), (1, .int (zI 0)), (2, .long (zL y2)), (4, .ref r1)] 43 [] := by
        intro s8 hS_s8 hF_s8
        refine j_aload_n hx 0 dX10_weigh_43 rfl ?_
        refine j_dup hx dX10_weigh_44 rfl ?_
        have f22 := zf hS0 ha (k := 7) rfl
        refine g11_7 hx hG ha kf_RX10_80 (v := (s0 a 7)) (by rw [(zFr_g hF_s8 ha (by decide))]) dX10_weigh_45 ?_
        refine j_aload_n hx 0 dX10_weigh_48 rfl ?_
        refine j_aload hx 3 dX10_weigh_49 rfl ?_
        refine j_callV hx hG (c_X10_leads hst a r1) lk_RX10_96 ha (by decide) rfl rfl rfl rfl [.ref r1] ⟨rfl, hG, hS_s8, ha, q2.1⟩ rfl rfl ⟨by decide, by decide⟩ ⟨by decide, by decide⟩ (k2 := 0) (n2 := 0) rfl rfl (Nat.le_of_ble_eq_true rfl) dX10_weigh_51 (kIP (fun v23 q24 => ?_))
        refine j_if_eq hx 66 dX10_weigh_54 rfl (by omega) (fun h25 => ?_) (fun h25 => ?_)
        · skip
          refine j_lconst hx dX10_weigh_66 ?_
          show JJ X E 9 G s8 0 0 [(0, .ref a), (1, .int (zI 0)), (2, .long (zL y2)), (4, .ref r1)] 67 [.long (zL 0), .long (zL ((s0 a 7))), .ref a]
          refine j_ladd hx dX10_weigh_67 (fun w26 f27 f28 => ?_)
          refine p11_7 hx hG ha kf_RX10_80 dX10_weigh_68 ?_
          obtain ⟨s11, e_s11⟩ : ∃ z, z = zU s8 a 7 w26 := ⟨_, rfl⟩
          rw [← e_s11]
          have hS_s11 : zSK G s11 := by rw [e_s11]; exact zSK_F hS_s8 ha rfl rfl rfl (by omega)
          exact j_vret hx hq rfl (by decide) (by decide) dX10_weigh_71 ⟨rfl, rfl, hS_s11, (zFr_u (zFr_t zFr_rf hF_s8 (by decide)) e_s11 ha (by decide)), trivial⟩
        · skip
          refine j_aload_n hx 0 dX10_weigh_57 rfl ?_
          refine j_iload_n hx 1 dX10_weigh_58 rfl ?_
          refine j_lload_n hx 2 dX10_weigh_59 rfl ?_
          refine j_callV hx hG (c_X10_allWays hst a 0 y2) lk_RX10_100 ha (by decide) rfl rfl rfl rfl [.int (zI 0), .long (zL y2)] ⟨rfl, hG, hS_s8, ha, (by omega), (by omega)⟩ rfl rfl ⟨by decide, by decide⟩ ⟨by decide, by decide⟩ (k2 := 0) (n2 := 0) rfl rfl (Nat.le_of_ble_eq_true rfl) dX10_weigh_60 (kLP (fun v29 q30 => ?_))
          refine j_goto hx 67 dX10_weigh_63 rfl ?_
          refine j_ladd hx dX10_weigh_67 (fun w31 f32 f33 => ?_)
          refine p11_7 hx hG ha kf_RX10_80 dX10_weigh_68 ?_
          obtain ⟨s12, e_s12⟩ : ∃ z, z = zU s8 a 7 w31 := ⟨_, rfl⟩
          rw [← e_s12]
          have hS_s12 : zSK G s12 := by rw [e_s12]; exact zSK_F hS_s8 ha rfl rfl rfl (by omega)
          exact j_vret hx hq rfl (by decide) (by decide) dX10_weigh_71 ⟨rfl, rfl, hS_s12, (zFr_u (zFr_t zFr_rf hF_s8 (by decide)) e_s12 ha (by decide)), trivial⟩
      refine j_icmp_ge hx 43 dX10_weigh_27 rfl ⟨by decide, by decide⟩ (by omega) (fun h34 => ?_) (fun h34 => ?_)
      · skip
        exact j_sub [2, 3, 4, 1] [(0, .ref a), (1, .int (zI 0)), (2, .long (zL y2)), (4, .ref r1)] rfl (c43_7 s0 hS0 zFr_rf)
      · skip
        refine j_aload hx 0 dX10_weigh_30 rfl ?_
        refine j_ifnull hx dX10_weigh_32 ?_
        refine j_aload hx 1 dX10_weigh_35 rfl ?_
        refine j_callV hx hG (c_X0_step hst r1) lk_RX10_33 q2.1 (by decide) rfl rfl rfl rfl [] ⟨rfl, hG, hS0, q2.1⟩ rfl rfl ⟨by decide, by decide⟩ ⟨by decide, by decide⟩ (k2 := 0) (n2 := 0) rfl rfl (Nat.le_of_ble_eq_true rfl) dX10_weigh_37 (kIM (fun v35 s13 hS_s13 hF_s13 q36 => ?_))
        refine j_if_ne hx 72 dX10_weigh_40 rfl (by omega) (fun h37 => ?_) (fun h37 => ?_)
        · skip
          refine j_aload hx 1 dX10_weigh_72 rfl ?_
          refine j_callV hx hG (c_X0_likeTops hst r1) lk_RX10_37 q2.1 (by decide) rfl rfl rfl rfl [] ⟨rfl, hG, hS_s13, q2.1⟩ rfl rfl ⟨by decide, by decide⟩ ⟨by decide, by decide⟩ (k2 := 0) (n2 := 0) rfl rfl (Nat.le_of_ble_eq_true rfl) dX10_weigh_74 (kIP (fun v38 q39 => ?_))
          refine j_istore hx [(6, .int (zI v38)), (5, .ref r5), (4, .ref r1), (0, .ref a), (1, .int (zI 0)), (2, .long (zL y2))] dX10_weigh_77 (by decide) rfl ?_
          refine j_iconst hx dX10_weigh_79 ?_
          refine j_istore hx [(7, .int (zI 0)), (6, .int (zI v38)), (5, .ref r5), (4, .ref r1), (0, .ref a), (1, .int (zI 0)), (2, .long (zL y2))] dX10_weigh_80 (by decide) rfl ?_
          refine j_iconst hx dX10_weigh_82 ?_
          refine j_istore hx [(8, .int (zI 0)), (7, .int (zI 0)), (6, .int (zI v38)), (5, .ref r5), (4, .ref r1), (0, .ref a), (1, .int (zI 0)), (2, .long (zL y2))] dX10_weigh_83 (by decide) rfl ?_
          have c85_14 : ∀ (m_c85_14 : Nat) (v40 : Int) (v41 : Int) (s15 : zS), 2147483648 - v41 < m_c85_14 → ((-2147483648) ≤ v40 ∧ v40 ≤ 2147483647) → (0 ≤ v41 ∧ v41 ≤ 3) → (zSK G s15) → (zFr [1, 7, 11, 41] G s13 s15) → JJ X E 9 G s15 0 0 [(0, .ref a), (1, .int (zI 0)), (2, .long (zL y2)), (4, .ref r1), (5, .ref r5), (6, .int (zI v38)), (7, .int (zI v40)), (8, .int (zI v41))] 85 [] := by
            intro m_c85_14
            induction m_c85_14 with
            | zero => intro v40 v41 s15 hm_c85_14 fA16 fA17 hS_s15 hF_s15; exfalso; omega
            | succ m_c85_14 ih_c85_14 => 
              intro v40 v41 s15 hm_c85_14 fA16 fA17 hS_s15 hF_s15
              refine j_iload hx 7 dX10_weigh_85 rfl ?_
              refine j_aload_n hx 0 dX10_weigh_87 rfl ?_
              refine g11_0 hx hG ha kf_RX10_17 dX10_weigh_88 ?_
              have f42 := zf hS0 (zr (k := 0) (t2 := 9) hG ha rfl) (k := 4) rfl
              refine gN9_4 hx hG (zr (k := 0) (t2 := 9) hG ha rfl) kf_RX10_104 (v := (s0 (gP G a 0) 4)) (by rw [(zFr_g hF_s15 (zr (k := 0) (t2 := 9) hG ha rfl) (by decide)), (zFr_g hF_s13 (zr (k := 0) (t2 := 9) hG ha rfl) (by decide))]) dX10_weigh_91 ?_
              refine j_icmp_ge hx 178 dX10_weigh_94 rfl (by omega) (by omega) (fun h43 => ?_) (fun h43 => ?_)
              · skip
                refine j_iload hx 6 dX10_weigh_178 rfl ?_
                refine j_if_le hx 202 dX10_weigh_180 rfl (by omega) (fun h44 => ?_) (fun h44 => ?_)
                · skip
                  exact j_vret hx hq rfl (by decide) (by decide) dX10_weigh_202 ⟨rfl, rfl, hS_s15, (zFr_t (zFr_t zFr_rf hF_s13 (by decide)) hF_s15 (by decide)), trivial⟩
                · skip
                  refine j_aload hx 4 dX10_weigh_183 rfl ?_
                  refine j_aload hx 3 dX10_weigh_185 rfl ?_
                  refine j_callV hx hG (c_X0_become hst r5 r1) lk_RX10_26 q6.1 (by decide) rfl rfl rfl rfl [.ref r1] ⟨rfl, hG, hS_s15, q6.1, q2.1⟩ rfl rfl ⟨by decide, by decide⟩ ⟨by decide, by decide⟩ (k2 := 0) (n2 := 0) rfl rfl (Nat.le_of_ble_eq_true rfl) dX10_weigh_187 (kVM (fun s20 hS_s20 hF_s20 q46 => ?_))
                  refine j_aload_n hx 0 dX10_weigh_190 rfl ?_
                  refine j_iload_n hx 1 dX10_weigh_191 rfl ?_
                  refine j_iconst hx dX10_weigh_192 ?_
                  refine j_iadd hx (r := 1) dX10_weigh_193 (by omega) ?_
                  refine j_lload_n hx 2 dX10_weigh_194 rfl ?_
                  refine j_iload hx 6 dX10_weigh_195 rfl ?_
                  refine j_i2l hx dX10_weigh_197 (by omega) ?_
                  refine j_lmul hx dX10_weigh_198 (fun w47 f48 f49 => ?_)
                  refine j_callV hx hG (c_X10_weigh_1 hst a 1 w47) lk_RX10_92 ha (by decide) rfl rfl rfl rfl [.int (zI 1), .long (zL w47)] ⟨rfl, hG, hS_s20, ha, (by omega), (by omega)⟩ rfl rfl ⟨by decide, by decide⟩ ⟨by decide, by decide⟩ (k2 := 0) (n2 := 0) rfl rfl (Nat.le_of_ble_eq_true rfl) dX10_weigh_199 (kVM (fun s21 hS_s21 hF_s21 q51 => ?_))
                  exact j_vret hx hq rfl (by decide) (by decide) dX10_weigh_202 ⟨rfl, rfl, hS_s21, (zFr_t (zFr_t (zFr_t (zFr_t zFr_rf hF_s13 (by decide)) hF_s15 (by decide)) hF_s20 (by decide)) hF_s21 (by decide)), trivial⟩
              · skip
                refine j_iload hx 5 dX10_weigh_97 rfl ?_
                refine j_iconst hx dX10_weigh_99 ?_
                have c172_22 : ∀ (v52 : Int) (s23 : zS), ((-2147483648) ≤ v52 ∧ v52 ≤ 2147483647) → (zSK G s23) → (zFr [1, 7, 11, 41] G s15 s23) → JJ X E 9 G s23 0 0 [(0, .ref a), (1, .int (zI 0)), (2, .long (zL y2)), (4, .ref r1), (5, .ref r5), (6, .int (zI v38)), (7, .int (zI v52)), (8, .int (zI v41))] 172 [] := by
                  intro v52 s23 fA24 hS_s23 hF_s23
                  refine j_iinc hx 7 [(8, .int (zI (v41 + 1))), (0, .ref a), (1, .int (zI 0)), (2, .long (zL y2)), (4, .ref r1), (5, .ref r5), (6, .int (zI v38)), (7, .int (zI v52))] dX10_weigh_172 rfl (by omega) (by decide) rfl ?_
                  refine j_goto hx 85 dX10_weigh_175 rfl ?_
                  exact j_sub [1, 2, 3, 4, 5, 6, 7, 0] [(0, .ref a), (1, .int (zI 0)), (2, .long (zL y2)), (4, .ref r1), (5, .ref r5), (6, .int (zI v38)), (7, .int (zI v52)), (8, .int (zI (v41 + 1)))] rfl (ih_c85_14 v52 (v41 + 1) s23 (by omega) (by omega) (by omega) hS_s23 (zFr_t (zFr_t zFr_rf hF_s15 (by decide)) hF_s23 (by decide)))
                have c113_27 : JJ X E 9 G s15 0 0 [(0, .ref a), (1, .int (zI 0)), (2, .long (zL y2)), (4, .ref r1), (5, .ref r5), (6, .int (zI v38)), (7, .int (zI v40)), (8, .int (zI v41))] 113 [] := by
                  refine j_iload hx 6 dX10_weigh_113 rfl ?_
                  refine j_aload_n hx 0 dX10_weigh_115 rfl ?_
                  refine g11_0 hx hG ha kf_RX10_17 dX10_weigh_116 ?_
                  refine j_iload hx 7 dX10_weigh_119 rfl ?_
                  refine j_iconst hx dX10_weigh_121 ?_
                  refine j_callV hx hG (c_X8_trait hst (gP G a 0) v41 0) lk_RX10_107 (zr (k := 0) (t2 := 9) hG ha rfl) (by decide) rfl rfl rfl rfl [.int (zI v41), .int (zI 0)] ⟨rfl, hG, hS_s15, (zr (k := 0) (t2 := 9) hG ha rfl), (by omega), (by omega)⟩ rfl rfl ⟨by decide, by decide⟩ ⟨by decide, by decide⟩ (k2 := 0) (n2 := 0) rfl rfl (Nat.le_of_ble_eq_true rfl) dX10_weigh_122 (kIP (fun v53 q54 => ?_))
                  refine j_iadd hx (r := v40 + v53) dX10_weigh_125 rfl ?_
                  refine j_norm (fun v55 f56 f57 f58 => ?_)
                  refine j_istore hx [(7, .int (zI v55)), (0, .ref a), (1, .int (zI 0)), (2, .long (zL y2)), (4, .ref r1), (5, .ref r5), (6, .int (zI v38)), (8, .int (zI v41))] dX10_weigh_126 (by decide) rfl ?_
                  refine j_goto hx 172 dX10_weigh_128 rfl ?_
                  exact j_sub [1, 2, 3, 4, 5, 6, 0, 7] [(0, .ref a), (1, .int (zI 0)), (2, .long (zL y2)), (4, .ref r1), (5, .ref r5), (6, .int (zI v38)), (7, .int (zI v55)), (8, .int (zI v41))] rfl (c172_22 v55 s15 (by omega) hS_s15 zFr_rf)
                refine j_icmp_eq hx 113 dX10_weigh_100 rfl (by omega) ⟨by decide, by decide⟩ (fun h59 => ?_) (fun h59 => ?_)
                · skip
                  exact j_sub [0, 1, 2, 3, 4, 5, 6, 7] [(0, .ref a), (1, .int (zI 0)), (2, .long (zL y2)), (4, .ref r1), (5, .ref r5), (6, .int (zI v38)), (7, .int (zI v40)), (8, .int (zI v41))] rfl (c113_27  )
                · skip
                  refine j_aload hx 3 dX10_weigh_103 rfl ?_
                  refine j_iload hx 7 dX10_weigh_105 rfl ?_
                  refine j_callV hx hG (c_X0_isOut hst r1 v41) lk_RX10_73 q2.1 (by decide) rfl rfl rfl rfl [.int (zI v41)] ⟨rfl, hG, hS_s15, q2.1, (by omega)⟩ rfl rfl ⟨by decide, by decide⟩ ⟨by decide, by decide⟩ (k2 := 0) (n2 := 0) rfl rfl (Nat.le_of_ble_eq_true rfl) dX10_weigh_107 (kIP (fun v60 q61 => ?_))
                  refine j_if_eq hx 131 dX10_weigh_110 rfl (by omega) (fun h62 => ?_) (fun h62 => ?_)
                  · skip
                    refine j_aload hx 4 dX10_weigh_131 rfl ?_
                    refine j_aload hx 3 dX10_weigh_133 rfl ?_
                    refine j_callV hx hG (c_X0_become hst r5 r1) lk_RX10_26 q6.1 (by decide) rfl rfl rfl rfl [.ref r1] ⟨rfl, hG, hS_s15, q6.1, q2.1⟩ rfl rfl ⟨by decide, by decide⟩ ⟨by decide, by decide⟩ (k2 := 0) (n2 := 0) rfl rfl (Nat.le_of_ble_eq_true rfl) dX10_weigh_135 (kVM (fun s28 hS_s28 hF_s28 q64 => ?_))
                    refine j_aload hx 4 dX10_weigh_138 rfl ?_
                    refine j_iload hx 7 dX10_weigh_140 rfl ?_
                    refine j_iload hx 5 dX10_weigh_142 rfl ?_
                    refine j_aload_n hx 0 dX10_weigh_144 rfl ?_
                    have f65 := zf hS_s15 ha (k := 3) rfl
                    refine g11_3 hx hG ha kf_RX10_45 (v := (s15 a 3)) (by rw [(zFr_g hF_s28 ha (by decide))]) dX10_weigh_145 ?_
                    refine j_callV hx hG (c_X0_win hst r5 v41 v38 ((s15 a 3))) lk_RX10_69 q6.1 (by decide) rfl rfl rfl rfl [.int (zI v41), .int (zI v38), .int (zI ((s15 a 3)))] ⟨rfl, hG, hS_s28, q6.1, (by omega), (by omega), (by omega)⟩ rfl rfl ⟨by decide, by decide⟩ ⟨by decide, by decide⟩ (k2 := 0) (n2 := 0) rfl rfl (Nat.le_of_ble_eq_true rfl) dX10_weigh_148 (kIM (fun v66 s29 hS_s29 hF_s29 q67 => ?_))
                    refine j_pop hx dX10_weigh_151 rfl ?_
                    refine j_aload_n hx 0 dX10_weigh_152 rfl ?_
                    refine j_iload_n hx 1 dX10_weigh_153 rfl ?_
                    refine j_iconst hx dX10_weigh_154 ?_
                    refine j_iadd hx (r := 1) dX10_weigh_155 (by omega) ?_
                    refine j_lload_n hx 2 dX10_weigh_156 rfl ?_
                    refine j_aload_n hx 0 dX10_weigh_157 rfl ?_
                    refine g11_0 hx hG ha kf_RX10_17 dX10_weigh_158 ?_
                    refine j_iload hx 7 dX10_weigh_161 rfl ?_
                    refine j_iconst hx dX10_weigh_163 ?_
                    refine j_callV hx hG (c_X8_trait hst (gP G a 0) v41 0) lk_RX10_107 (zr (k := 0) (t2 := 9) hG ha rfl) (by decide) rfl rfl rfl rfl [.int (zI v41), .int (zI 0)] ⟨rfl, hG, hS_s29, (zr (k := 0) (t2 := 9) hG ha rfl), (by omega), (by omega)⟩ rfl rfl ⟨by decide, by decide⟩ ⟨by decide, by decide⟩ (k2 := 0) (n2 := 0) rfl rfl (Nat.le_of_ble_eq_true rfl) dX10_weigh_164 (kIP (fun v68 q69 => ?_))
                    refine j_i2l hx dX10_weigh_167 (by omega) ?_
                    refine j_lmul hx dX10_weigh_168 (fun w70 f71 f72 => ?_)
                    refine j_callV hx hG (c_X10_weigh_1 hst a 1 w70) lk_RX10_92 ha (by decide) rfl rfl rfl rfl [.int (zI 1), .long (zL w70)] ⟨rfl, hG, hS_s29, ha, (by omega), (by omega)⟩ rfl rfl ⟨by decide, by decide⟩ ⟨by decide, by decide⟩ (k2 := 0) (n2 := 0) rfl rfl (Nat.le_of_ble_eq_true rfl) dX10_weigh_169 (kVM (fun s30 hS_s30 hF_s30 q74 => ?_))
                    exact j_sub [0, 1, 2, 3, 4, 5, 6, 7] [(0, .ref a), (1, .int (zI 0)), (2, .long (zL y2)), (4, .ref r1), (5, .ref r5), (6, .int (zI v38)), (7, .int (zI v40)), (8, .int (zI v41))] rfl (c172_22 v40 s30 (by omega) hS_s30 (zFr_t (zFr_t (zFr_t zFr_rf hF_s28 (by decide)) hF_s29 (by decide)) hF_s30 (by decide)))
                  · skip
                    exact j_sub [0, 1, 2, 3, 4, 5, 6, 7] [(0, .ref a), (1, .int (zI 0)), (2, .long (zL y2)), (4, .ref r1), (5, .ref r5), (6, .int (zI v38)), (7, .int (zI v40)), (8, .int (zI v41))] rfl (c113_27  )
          exact j_sub [5, 6, 7, 4, 3, 2, 1, 0] [(0, .ref a), (1, .int (zI 0)), (2, .long (zL y2)), (4, .ref r1), (5, .ref r5), (6, .int (zI v38)), (7, .int (zI 0)), (8, .int (zI 0))] rfl (c85_14 (2147483648 * 4) 0 0 s13 (by omega) (by omega) (by omega) hS_s13 zFr_rf)
        · skip
          exact j_sub [2, 3, 4, 1] [(0, .ref a), (1, .int (zI 0)), (2, .long (zL y2)), (4, .ref r1)] rfl (c43_7 s13 hS_s13 (zFr_t zFr_rf hF_s13 (by decide)))

set_option maxHeartbeats 4000000 in
set_option maxRecDepth 20000 in
theorem c_X10_weighing {E : zE} {l : Launch} (hst : l.stackTraces = false) (a : Nat) (b1 : Nat) (x2 : Int) (x3 : Int) (x4 : Int) : Con E l yX10_weighing cX10_weighing 6 none { frames := 16, cells := 0, slots := 0, locals := 435 } (fun G s vs => vs = [.ref a, .ref b1, .int (zI x2), .int (zI x3), .int (zI x4)] ∧ zGK G ∧ zSK G s ∧ (gT G a = 11) ∧ (gT G b1 = 1) ∧ ((-2147483648) ≤ x2 ∧ x2 ≤ 2147483647) ∧ ((-2147483648) ≤ x3 ∧ x3 ≤ 2147483647) ∧ ((-2147483648) ≤ x4 ∧ x4 ≤ 2147483647)) (fun G s _ => pV (fun G2 s2 => G2 = G ∧ zSK G s2 ∧ zFr [1, 7, 11, 41] G s s2 ∧ True)) := by
  refine Con.mk hst (by decide) (fun G s vs h => by rw [h.1]; exact Nat.le_of_ble_eq_true rfl) ?_
  rintro X G s0 vs ⟨rfl, hG, hS0, ha, hb1, hx2, hx3, hx4⟩ rfl hx hq
  show JJ X E 6 G s0 0 0 [(0, .ref a), (1, .ref b1), (2, .int (zI x2)), (3, .int (zI x3)), (4, .int (zI x4))] 0 []
  refine j_aload_n hx 0 dX10_weighing_0 rfl ?_
  refine j_aload_n hx 1 dX10_weighing_1 rfl ?_
  refine j_callV hx hG (c_X10_start hst a b1) lk_RX10_30 ha (by decide) rfl rfl rfl rfl [.ref b1] ⟨rfl, hG, hS0, ha, hb1⟩ rfl rfl ⟨by decide, by decide⟩ ⟨by decide, by decide⟩ (k2 := 0) (n2 := 0) rfl rfl (Nat.le_of_ble_eq_true rfl) dX10_weighing_2 (kVM (fun s1 hS_s1 hF_s1 q2 => ?_))
  refine j_aload_n hx 0 dX10_weighing_5 rfl ?_
  refine j_iload_n hx 2 dX10_weighing_6 rfl ?_
  refine p11_2 hx hG ha kf_RX10_41 dX10_weighing_7 ?_
  obtain ⟨s2, e_s2⟩ : ∃ z, z = zU s1 a 2 x2 := ⟨_, rfl⟩
  rw [← e_s2]
  have hS_s2 : zSK G s2 := by rw [e_s2]; exact zSK_F hS_s1 ha rfl rfl rfl (by omega)
  refine j_aload_n hx 0 dX10_weighing_10 rfl ?_
  refine j_iload hx 4 dX10_weighing_11 rfl ?_
  refine p11_3 hx hG ha kf_RX10_45 dX10_weighing_13 ?_
  obtain ⟨s3, e_s3⟩ : ∃ z, z = zU s2 a 3 x4 := ⟨_, rfl⟩
  rw [← e_s3]
  have hS_s3 : zSK G s3 := by rw [e_s3]; exact zSK_F hS_s2 ha rfl rfl rfl (by omega)
  refine j_aload_n hx 0 dX10_weighing_16 rfl ?_
  refine j_iload_n hx 3 dX10_weighing_17 rfl ?_
  refine p11_4 hx hG ha kf_RX10_77 dX10_weighing_18 ?_
  obtain ⟨s4, e_s4⟩ : ∃ z, z = zU s3 a 4 x3 := ⟨_, rfl⟩
  rw [← e_s4]
  have hS_s4 : zSK G s4 := by rw [e_s4]; exact zSK_F hS_s3 ha rfl rfl rfl (by omega)
  refine j_aload_n hx 0 dX10_weighing_21 rfl ?_
  refine j_lconst hx dX10_weighing_22 ?_
  show JJ X E 6 G s4 0 0 [(0, .ref a), (1, .ref b1), (2, .int (zI x2)), (3, .int (zI x3)), (4, .int (zI x4))] 23 [.long (zL 0), .ref a]
  refine p11_7 hx hG ha kf_RX10_80 dX10_weighing_23 ?_
  obtain ⟨s5, e_s5⟩ : ∃ z, z = zU s4 a 7 0 := ⟨_, rfl⟩
  rw [← e_s5]
  have hS_s5 : zSK G s5 := by rw [e_s5]; exact zSK_F hS_s4 ha rfl rfl rfl (by omega)
  refine j_aload_n hx 0 dX10_weighing_26 rfl ?_
  refine j_lconst hx dX10_weighing_27 ?_
  show JJ X E 6 G s5 0 0 [(0, .ref a), (1, .ref b1), (2, .int (zI x2)), (3, .int (zI x3)), (4, .int (zI x4))] 28 [.long (zL 1), .ref a]
  refine p11_8 hx hG ha kf_RX10_84 dX10_weighing_28 ?_
  obtain ⟨s6, e_s6⟩ : ∃ z, z = zU s5 a 8 1 := ⟨_, rfl⟩
  rw [← e_s6]
  have hS_s6 : zSK G s6 := by rw [e_s6]; exact zSK_F hS_s5 ha rfl rfl rfl (by omega)
  refine j_iconst hx dX10_weighing_31 ?_
  refine j_istore hx [(5, .int (zI 0)), (0, .ref a), (1, .ref b1), (2, .int (zI x2)), (3, .int (zI x3)), (4, .int (zI x4))] dX10_weighing_32 (by decide) rfl ?_
  have c34_7 : ∀ (m_c34_7 : Nat) (v3 : Int) (s8 : zS), 2147483648 - v3 < m_c34_7 → (0 ≤ v3 ∧ v3 ≤ 2147483647) → (zSK G s8) → (zFr [11] G s6 s8) → JJ X E 6 G s8 0 0 [(0, .ref a), (3, .int (zI x3)), (5, .int (zI v3))] 34 [] := by
    intro m_c34_7
    induction m_c34_7 with
    | zero => intro v3 s8 hm_c34_7 fA9 hS_s8 hF_s8; exfalso; omega
    | succ m_c34_7 ih_c34_7 => 
      intro v3 s8 hm_c34_7 fA9 hS_s8 hF_s8
      refine j_iload hx 2 dX10_weighing_34 rfl ?_
      refine j_iload_n hx 1 dX10_weighing_36 rfl ?_
      refine j_icmp_ge hx 63 dX10_weighing_37 rfl (by omega) (by omega) (fun h4 => ?_) (fun h4 => ?_)
      · skip
        refine j_aload_n hx 0 dX10_weighing_63 rfl ?_
        refine j_iconst hx dX10_weighing_64 ?_
        refine j_lconst hx dX10_weighing_65 ?_
        show JJ X E 6 G s8 0 0 [(0, .ref a), (3, .int (zI x3)), (5, .int (zI v3))] 66 [.long (zL 1), .int (zI 0), .ref a]
        refine j_callV hx hG (c_X10_weigh_0 hst a 0 1) lk_RX10_92 ha (by decide) rfl rfl rfl rfl [.int (zI 0), .long (zL 1)] ⟨rfl, hG, hS_s8, ha, (by omega), (by omega)⟩ rfl rfl ⟨by decide, by decide⟩ ⟨by decide, by decide⟩ (k2 := 0) (n2 := 0) rfl rfl (Nat.le_of_ble_eq_true rfl) dX10_weighing_66 (kVM (fun s12 hS_s12 hF_s12 q6 => ?_))
        exact j_vret hx hq rfl (by decide) (by decide) dX10_weighing_69 ⟨rfl, rfl, hS_s12, (zFr_t (zFr_t (zFr_u (zFr_u (zFr_u (zFr_u (zFr_u (zFr_t zFr_rf hF_s1 (by decide)) e_s2 ha (by decide)) e_s3 ha (by decide)) e_s4 ha (by decide)) e_s5 ha (by decide)) e_s6 ha (by decide)) hF_s8 (by decide)) hF_s12 (by decide)), trivial⟩
      · skip
        refine j_aload_n hx 0 dX10_weighing_40 rfl ?_
        refine j_dup hx dX10_weighing_41 rfl ?_
        have f7 := zf hS_s8 ha (k := 8) rfl
        refine g11_8 hx hG ha kf_RX10_84 rfl dX10_weighing_42 ?_
        refine j_aload_n hx 0 dX10_weighing_45 rfl ?_
        refine g11_0 hx hG ha kf_RX10_17 dX10_weighing_46 ?_
        refine j_callV hx hG (c_X8_allQuickness hst (gP G a 0)) lk_RX10_87 (zr (k := 0) (t2 := 9) hG ha rfl) (by decide) rfl rfl rfl rfl [] ⟨rfl, hG, hS_s8, (zr (k := 0) (t2 := 9) hG ha rfl)⟩ rfl rfl ⟨by decide, by decide⟩ ⟨by decide, by decide⟩ (k2 := 0) (n2 := 0) rfl rfl (Nat.le_of_ble_eq_true rfl) dX10_weighing_49 (kIP (fun v8 q9 => ?_))
        refine j_i2l hx dX10_weighing_52 (by omega) ?_
        refine j_lmul hx dX10_weighing_53 (fun w10 f11 f12 => ?_)
        refine p11_8 hx hG ha kf_RX10_84 dX10_weighing_54 ?_
        obtain ⟨s13, e_s13⟩ : ∃ z, z = zU s8 a 8 w10 := ⟨_, rfl⟩
        rw [← e_s13]
        have hS_s13 : zSK G s13 := by rw [e_s13]; exact zSK_F hS_s8 ha rfl rfl rfl (by omega)
        refine j_iinc hx 2 [(5, .int (zI (v3 + 1))), (0, .ref a), (3, .int (zI x3))] dX10_weighing_57 rfl (by omega) (by decide) rfl ?_
        refine j_goto hx 34 dX10_weighing_60 rfl ?_
        exact j_sub [1, 2, 0] [(0, .ref a), (3, .int (zI x3)), (5, .int (zI (v3 + 1)))] rfl (ih_c34_7 (v3 + 1) s13 (by omega) (by omega) hS_s13 (zFr_u (zFr_t zFr_rf hF_s8 (by decide)) e_s13 ha (by decide)))
  exact j_sub [1, 4, 0] [(0, .ref a), (3, .int (zI x3)), (5, .int (zI 0))] rfl (c34_7 (2147483648 * 4) 0 s6 (by omega) (by omega) hS_s6 zFr_rf)

theorem lk_RX11_294 : LkV RX11 294 RX10 yX10_weighing cX10_weighing 6 none 4 := ⟨km_RX11_294, ki_yX10_weighing, ks_RX10_yX10_weighing, kn_RX10, kc_yX10_weighing, rfl, by decide +kernel, by decide +kernel, by decide +kernel⟩
set_option maxHeartbeats 4000000 in
set_option maxRecDepth 20000 in
theorem c_X11_odds {E : zE} {l : Launch} (hst : l.stackTraces = false) (a : Nat) (x1 : Int) (x2 : Int) (x3 : Int) : ConX E l yX11_odds cX11_odds 4 (some .long) { frames := 17, cells := 3, slots := 18, locals := 460 } (fun G s vs => vs = [.ref a, .int (zI x1), .int (zI x2), .int (zI x3)] ∧ zGK G ∧ zSK G s ∧ (gT G a = 12) ∧ ((-2147483648) ≤ x1 ∧ x1 ≤ 2147483647) ∧ ((-2147483648) ≤ x2 ∧ x2 ≤ 2147483647) ∧ ((-2147483648) ≤ x3 ∧ x3 ≤ 2147483647)) (fun G s _ => pL (fun r G2 s2 => G2 = G ∧ zSK G s2 ∧ zFr [1, 7, 11, 41] G s s2 ∧ ((-9223372036854775808) ≤ r ∧ r ≤ 9223372036854775807))) (fun G s _ Ex G2 s2 => G2 = G ∧ zSK G s2 ∧ zFr [1, 7, 11, 12, 41] G s s2 ∧ ((Ex = "java/lang/IllegalArgumentException" ∧ (True)) ∨ (Ex = "java/util/NoSuchElementException" ∧ (True)))) := by
  refine ConX.mk hst (by decide) (fun G s vs h => by rw [h.1]; exact Nat.le_of_ble_eq_true rfl) ?_
  rintro X G s0 vs ⟨rfl, hG, hS0, ha, hx1, hx2, hx3⟩ rfl hx hq
  show JJ X E 4 G s0 0 0 [(0, .ref a), (1, .int (zI x1)), (2, .int (zI x2)), (3, .int (zI x3))] 0 []
  refine j_aload_n hx 0 dX11_odds_0 rfl ?_
  refine j_iload_n hx 1 dX11_odds_1 rfl ?_
  refine j_callVX hx hq hG (c_X11_needPlayer hst a x1) lk_RX11_134 ha (by decide) rfl rfl rfl rfl [.int (zI x1)] ⟨rfl, hG, hS0, ha, (by omega)⟩ rfl rfl ⟨by decide, by decide⟩ ⟨by decide, by decide⟩ (k2 := 1) (n2 := 6) rfl rfl (Nat.le_of_ble_eq_true rfl) ⟨by decide, by decide⟩ dX11_odds_2 (by rintro Ex9 G9 s9 ⟨rfl, hS9, hF9, e9, c9⟩; exact ⟨rfl, hS9, (zFr_t zFr_rf hF9 (by decide)), Or.inr ⟨e9, by first | trivial | omega⟩⟩) (kVP (fun q2 => ?_))
  refine j_aload_n hx 0 dX11_odds_5 rfl ?_
  refine j_iload_n hx 2 dX11_odds_6 rfl ?_
  refine j_iconst hx dX11_odds_7 ?_
  refine j_bipush hx dX11_odds_8 rfl ?_
  refine j_callVX hx hq hG (c_X11_needRange hst a x2 0 12) lk_RX11_98 ha (by decide) rfl rfl rfl rfl [.int (zI x2), .int (zI 0), .int (zI 12)] ⟨rfl, hG, hS0, ha, (by omega), (by omega), (by omega)⟩ rfl rfl ⟨by decide, by decide⟩ ⟨by decide, by decide⟩ (k2 := 2) (n2 := 12) rfl rfl (Nat.le_of_ble_eq_true rfl) ⟨by decide, by decide⟩ dX11_odds_10 (by rintro Ex9 G9 s9 ⟨rfl, hS9, hF9, e9, c9⟩; exact ⟨rfl, hS9, (zFr_t zFr_rf hF9 (by decide)), Or.inl ⟨e9, by first | trivial | omega⟩⟩) (kVP (fun q4 => ?_))
  refine j_aload_n hx 0 dX11_odds_13 rfl ?_
  refine j_iload_n hx 3 dX11_odds_14 rfl ?_
  refine j_iconst hx dX11_odds_15 ?_
  refine j_iconst hx dX11_odds_16 ?_
  refine j_callVX hx hq hG (c_X11_needRange hst a x3 0 1) lk_RX11_98 ha (by decide) rfl rfl rfl rfl [.int (zI x3), .int (zI 0), .int (zI 1)] ⟨rfl, hG, hS0, ha, (by omega), (by omega), (by omega)⟩ rfl rfl ⟨by decide, by decide⟩ ⟨by decide, by decide⟩ (k2 := 3) (n2 := 18) rfl rfl (Nat.le_of_ble_eq_true rfl) ⟨by decide, by decide⟩ dX11_odds_17 (by rintro Ex9 G9 s9 ⟨rfl, hS9, hF9, e9, c9⟩; exact ⟨rfl, hS9, (zFr_t zFr_rf hF9 (by decide)), Or.inl ⟨e9, by first | trivial | omega⟩⟩) (kVP (fun q6 => ?_))
  refine j_aload_n hx 0 dX11_odds_20 rfl ?_
  refine g12_8 hx hG ha kf_RX11_62 dX11_odds_21 ?_
  refine j_aload_n hx 0 dX11_odds_24 rfl ?_
  refine g12_6 hx hG ha kf_RX11_48 dX11_odds_25 ?_
  refine gN4_1 hx hG (zr (k := 6) (t2 := 4) hG ha rfl) kf_RX11_155 dX11_odds_28 ?_
  refine j_iload_n hx 1 dX11_odds_31 rfl ?_
  refine j_iload_n hx 2 dX11_odds_32 rfl ?_
  refine j_aload_n hx 0 dX11_odds_33 rfl ?_
  refine g12_6 hx hG ha kf_RX11_48 dX11_odds_34 ?_
  refine j_iconst hx dX11_odds_37 ?_
  refine j_callV hx hG (c_X3_lawOf hst (gP G a 6) 2) lk_RX11_178 (zr (k := 6) (t2 := 4) hG ha rfl) (by decide) rfl rfl rfl rfl [.int (zI 2)] ⟨rfl, hG, hS0, (zr (k := 6) (t2 := 4) hG ha rfl), (by omega)⟩ rfl rfl ⟨by decide, by decide⟩ ⟨by decide, by decide⟩ (k2 := 3) (n2 := 18) rfl rfl (Nat.le_of_ble_eq_true rfl) dX11_odds_38 (kIP (fun v7 q8 => ?_))
  refine j_callV hx hG (c_X10_weighing hst (gP G a 8) (gP G (gP G a 6) 1) x1 x2 v7) lk_RX11_294 (zr (k := 8) (t2 := 11) hG ha rfl) (by decide) rfl rfl rfl rfl [.ref (gP G (gP G a 6) 1), .int (zI x1), .int (zI x2), .int (zI v7)] ⟨rfl, hG, hS0, (zr (k := 8) (t2 := 11) hG ha rfl), (zr (k := 1) (t2 := 1) hG (zr (k := 6) (t2 := 4) hG ha rfl) rfl), (by omega), (by omega), (by omega)⟩ rfl rfl ⟨by decide, by decide⟩ ⟨by decide, by decide⟩ (k2 := 3) (n2 := 18) rfl rfl (Nat.le_of_ble_eq_true rfl) dX11_odds_41 (kVM (fun s1 hS_s1 hF_s1 q10 => ?_))
  refine j_aload_n hx 0 dX11_odds_44 rfl ?_
  refine g12_8 hx hG ha kf_RX11_62 dX11_odds_45 ?_
  have f11 := zf hS_s1 (zr (k := 8) (t2 := 11) hG ha rfl) (k := 7) rfl
  refine gN11_7 hx hG (zr (k := 8) (t2 := 11) hG ha rfl) kf_RX11_297 rfl dX11_odds_48 ?_
  refine j_aload_n hx 0 dX11_odds_51 rfl ?_
  refine g12_8 hx hG ha kf_RX11_62 dX11_odds_52 ?_
  have f12 := zf hS_s1 (zr (k := 8) (t2 := 11) hG ha rfl) (k := 8) rfl
  refine gN11_8 hx hG (zr (k := 8) (t2 := 11) hG ha rfl) kf_RX11_301 rfl dX11_odds_55 ?_
  refine j_iload_n hx 3 dX11_odds_58 rfl ?_
  refine j_callS hx (c_X11_leastTerm hst ((s1 (gP G a 8) 7)) ((s1 (gP G a 8) 8)) x3) lk_RX11_268 [.long (zL ((s1 (gP G a 8) 7))), .long (zL ((s1 (gP G a 8) 8))), .int (zI x3)] ⟨rfl, hG, hS_s1, (by omega), (by omega), (by omega)⟩ rfl rfl ⟨by decide, by decide⟩ ⟨by decide, by decide⟩ (k2 := 3) (n2 := 18) rfl rfl (Nat.le_of_ble_eq_true rfl) dX11_odds_59 (kLP (fun v13 q14 => ?_))
  exact j_lret hx hq.r rfl (by decide) (by decide) dX11_odds_62 ⟨v13, rfl, rfl, hS_s1, (zFr_t zFr_rf hF_s1 (by decide)), (by omega)⟩

set_option maxHeartbeats 4000000 in
set_option maxRecDepth 20000 in
theorem c_X6_exchange {E : zE} {l : Launch} (hst : l.stackTraces = false) (a : Nat) (x1 : Int) (x2 : Int) : Con E l yX6_exchange cX6_exchange 4 none { frames := 0, cells := 0, slots := 0, locals := 0 } (fun G s vs => vs = [.ref a, .int (zI x1), .int (zI x2)] ∧ zGK G ∧ zSK G s ∧ (gT G a = 7) ∧ ((-2147483648) ≤ x1 ∧ x1 ≤ 2147483647) ∧ ((-2147483648) ≤ x2 ∧ x2 ≤ 2147483647)) (fun G s _ => pV (fun G2 s2 => G2 = G ∧ zSK G s2 ∧ zFr [41] G s s2 ∧ True)) := by
  refine Con.mk hst (by decide) (fun G s vs h => by rw [h.1]; exact Nat.le_of_ble_eq_true rfl) ?_
  rintro X G s0 vs ⟨rfl, hG, hS0, ha, hx1, hx2⟩ rfl hx hq
  show JJ X E 4 G s0 0 0 [(0, .ref a), (1, .int (zI x1)), (2, .int (zI x2))] 0 []
  refine j_iload_n hx 1 dX6_exchange_0 rfl ?_
  refine j_if_lt hx 52 dX6_exchange_1 rfl (by omega) (fun h1 => ?_) (fun h1 => ?_)
  · skip
    exact j_vret hx hq rfl (by decide) (by decide) dX6_exchange_52 ⟨rfl, rfl, hS0, zFr_rf, trivial⟩
  · skip
    refine j_iload_n hx 1 dX6_exchange_4 rfl ?_
    refine j_aload_n hx 0 dX6_exchange_5 rfl ?_
    refine g7_0 hx hG ha kf_RX6_9 dX6_exchange_6 ?_
    refine j_alen hx hG (zr (k := 0) (t2 := 41) hG ha rfl) (by decide) (by decide) (zlen hG (zr (k := 0) (t2 := 41) hG ha rfl) (n := 60) rfl rfl) dX6_exchange_9 ?_
    refine j_icmp_ge hx 52 dX6_exchange_10 rfl (by omega) ⟨by decide, by decide⟩ (fun h2 => ?_) (fun h2 => ?_)
    · skip
      exact j_vret hx hq rfl (by decide) (by decide) dX6_exchange_52 ⟨rfl, rfl, hS0, zFr_rf, trivial⟩
    · skip
      refine j_iload_n hx 2 dX6_exchange_13 rfl ?_
      refine j_if_lt hx 52 dX6_exchange_14 rfl (by omega) (fun h3 => ?_) (fun h3 => ?_)
      · skip
        exact j_vret hx hq rfl (by decide) (by decide) dX6_exchange_52 ⟨rfl, rfl, hS0, zFr_rf, trivial⟩
      · skip
        refine j_iload_n hx 2 dX6_exchange_17 rfl ?_
        refine j_aload_n hx 0 dX6_exchange_18 rfl ?_
        refine g7_0 hx hG ha kf_RX6_9 dX6_exchange_19 ?_
        refine j_alen hx hG (zr (k := 0) (t2 := 41) hG ha rfl) (by decide) (by decide) (zlen hG (zr (k := 0) (t2 := 41) hG ha rfl) (n := 60) rfl rfl) dX6_exchange_22 ?_
        refine j_icmp_ge hx 52 dX6_exchange_23 rfl (by omega) ⟨by decide, by decide⟩ (fun h4 => ?_) (fun h4 => ?_)
        · skip
          exact j_vret hx hq rfl (by decide) (by decide) dX6_exchange_52 ⟨rfl, rfl, hS0, zFr_rf, trivial⟩
        · skip
          refine j_aload_n hx 0 dX6_exchange_26 rfl ?_
          refine g7_0 hx hG ha kf_RX6_9 dX6_exchange_27 ?_
          refine j_iload_n hx 1 dX6_exchange_30 rfl ?_
          have f5 := zaI (j := (x1).toNat) hS0 (zr (k := 0) (t2 := 41) hG ha rfl) rfl (zlen hG (zr (k := 0) (t2 := 41) hG ha rfl) (n := 60) rfl rfl) (show 0 ≤ x1 by omega) (by omega) rfl
          refine j_iald hx hG (zr (k := 0) (t2 := 41) hG ha rfl) (by decide) rfl (zlen hG (zr (k := 0) (t2 := 41) hG ha rfl) (n := 60) rfl rfl) (by omega) (by omega) (j := (x1).toNat) rfl rfl dX6_exchange_31 ?_
          refine j_istore_n hx [(3, .int (zI ((s0 (gP G a 0) (x1).toNat)))), (0, .ref a), (1, .int (zI x1)), (2, .int (zI x2))] dX6_exchange_32 (by decide) rfl ?_
          refine j_aload_n hx 1 dX6_exchange_33 rfl ?_
          refine g7_0 hx hG ha kf_RX6_9 dX6_exchange_34 ?_
          refine j_iload_n hx 2 dX6_exchange_37 rfl ?_
          refine j_aload_n hx 1 dX6_exchange_38 rfl ?_
          refine g7_0 hx hG ha kf_RX6_9 dX6_exchange_39 ?_
          refine j_iload_n hx 3 dX6_exchange_42 rfl ?_
          have f6 := zaI (j := (x2).toNat) hS0 (zr (k := 0) (t2 := 41) hG ha rfl) rfl (zlen hG (zr (k := 0) (t2 := 41) hG ha rfl) (n := 60) rfl rfl) (show 0 ≤ x2 by omega) (by omega) rfl
          refine j_iald hx hG (zr (k := 0) (t2 := 41) hG ha rfl) (by decide) rfl (zlen hG (zr (k := 0) (t2 := 41) hG ha rfl) (n := 60) rfl rfl) (by omega) (by omega) (j := (x2).toNat) rfl rfl dX6_exchange_43 ?_
          refine j_iast hx hG (zr (k := 0) (t2 := 41) hG ha rfl) (by decide) rfl (zlen hG (zr (k := 0) (t2 := 41) hG ha rfl) (n := 60) rfl rfl) (by omega) (by omega) (j := (x1).toNat) rfl dX6_exchange_44 ?_
          obtain ⟨s1, e_s1⟩ : ∃ z, z = zU s0 (gP G a 0) (x1).toNat ((s0 (gP G a 0) (x2).toNat)) := ⟨_, rfl⟩
          rw [← e_s1]
          have hS_s1 : zSK G s1 := by rw [e_s1]; exact zSK_A hS0 (zr (k := 0) (t2 := 41) hG ha rfl) rfl rfl rfl (by omega)
          refine j_aload_n hx 1 dX6_exchange_45 rfl ?_
          refine g7_0 hx hG ha kf_RX6_9 dX6_exchange_46 ?_
          refine j_iload_n hx 3 dX6_exchange_49 rfl ?_
          refine j_iload_n hx 0 dX6_exchange_50 rfl ?_
          refine j_iast hx hG (zr (k := 0) (t2 := 41) hG ha rfl) (by decide) rfl (zlen hG (zr (k := 0) (t2 := 41) hG ha rfl) (n := 60) rfl rfl) (by omega) (by omega) (j := (x2).toNat) rfl dX6_exchange_51 ?_
          obtain ⟨s2, e_s2⟩ : ∃ z, z = zU s1 (gP G a 0) (x2).toNat ((s0 (gP G a 0) (x1).toNat)) := ⟨_, rfl⟩
          rw [← e_s2]
          have hS_s2 : zSK G s2 := by rw [e_s2]; exact zSK_A hS_s1 (zr (k := 0) (t2 := 41) hG ha rfl) rfl rfl rfl (by omega)
          exact j_vret hx hq rfl (by decide) (by decide) dX6_exchange_52 ⟨rfl, rfl, hS_s2, (zFr_u (zFr_u zFr_rf e_s1 (zr (k := 0) (t2 := 41) hG ha rfl) (by decide)) e_s2 (zr (k := 0) (t2 := 41) hG ha rfl) (by decide)), trivial⟩

theorem lk_RX0_102 : LkV RX0 102 RX6 yX6_exchange cX6_exchange 4 none 2 := ⟨km_RX0_102, ki_yX6_exchange, ks_RX6_yX6_exchange, kn_RX6, kc_yX6_exchange, rfl, by decide +kernel, by decide +kernel, by decide +kernel⟩
set_option maxHeartbeats 4000000 in
set_option maxRecDepth 20000 in
theorem c_X0_mix {E : zE} {l : Launch} (hst : l.stackTraces = false) (a : Nat) (x1 : Int) : Con E l yX0_mix cX0_mix 6 none { frames := 1, cells := 0, slots := 0, locals := 23 } (fun G s vs => vs = [.ref a, .int (zI x1)] ∧ zGK G ∧ zSK G s ∧ (gT G a = 1) ∧ ((-2147483648) ≤ x1 ∧ x1 ≤ 2147483647)) (fun G s _ => pV (fun G2 s2 => G2 = G ∧ zSK G s2 ∧ zFr [41] G s s2 ∧ True)) := by
  refine Con.mk hst (by decide) (fun G s vs h => by rw [h.1]; exact Nat.le_of_ble_eq_true rfl) ?_
  rintro X G s0 vs ⟨rfl, hG, hS0, ha, hx1⟩ rfl hx hq
  show JJ X E 6 G s0 0 0 [(0, .ref a), (1, .int (zI x1))] 0 []
  refine j_iload_n hx 1 dX0_mix_0 rfl ?_
  refine j_istore_n hx [(2, .int (zI x1)), (0, .ref a), (1, .int (zI x1))] dX0_mix_1 (by decide) rfl ?_
  refine j_iconst hx dX0_mix_2 ?_
  refine j_istore_n hx [(3, .int (zI 0)), (2, .int (zI x1)), (0, .ref a), (1, .int (zI x1))] dX0_mix_3 (by decide) rfl ?_
  have c4_1 : ∀ (m_c4_1 : Nat) (v1 : Int) (v2 : Int) (s2 : zS), 2147483648 - v2 < m_c4_1 → ((-2147483648) ≤ v1 ∧ v1 ≤ 2147483647) → (0 ≤ v2 ∧ v2 ≤ 3) → (zSK G s2) → (zFr [41] G s0 s2) → JJ X E 6 G s2 0 0 [(0, .ref a), (2, .int (zI v1)), (3, .int (zI v2))] 4 [] := by
    intro m_c4_1
    induction m_c4_1 with
    | zero => intro v1 v2 s2 hm_c4_1 fA3 fA4 hS_s2 hF_s2; exfalso; omega
    | succ m_c4_1 ih_c4_1 => 
      intro v1 v2 s2 hm_c4_1 fA3 fA4 hS_s2 hF_s2
      refine j_iload_n hx 2 dX0_mix_4 rfl ?_
      refine j_aload_n hx 0 dX0_mix_5 rfl ?_
      have f3 := zf hS0 ha (k := 7) rfl
      refine g1_7 hx hG ha kf_RX0_50 (v := (s0 a 7)) (by rw [(zFr_g hF_s2 ha (by decide))]) dX0_mix_6 ?_
      refine j_icmp_ge hx 75 dX0_mix_9 rfl (by omega) (by omega) (fun h4 => ?_) (fun h4 => ?_)
      · skip
        exact j_vret hx hq rfl (by decide) (by decide) dX0_mix_75 ⟨rfl, rfl, hS_s2, (zFr_t zFr_rf hF_s2 (by decide)), trivial⟩
      · skip
        refine j_aload_n hx 0 dX0_mix_12 rfl ?_
        refine j_iload_n hx 2 dX0_mix_13 rfl ?_
        refine j_callV hx hG (c_X0_rowOf hst a v2) lk_RX0_36 ha (by decide) rfl rfl rfl rfl [.int (zI v2)] ⟨rfl, hG, hS_s2, ha, (by omega)⟩ rfl rfl ⟨by decide, by decide⟩ ⟨by decide, by decide⟩ (k2 := 0) (n2 := 0) rfl rfl (Nat.le_of_ble_eq_true rfl) dX0_mix_14 (kRP (fun r5 q6 => ?_))
        refine j_astore hx [(4, .ref r5), (0, .ref a), (2, .int (zI v1)), (3, .int (zI v2))] dX0_mix_17 (by decide) rfl ?_
        refine j_aload hx 0 dX0_mix_19 rfl ?_
        have f7 := zf hS0 q6 (k := 1) rfl
        refine gN7_1 hx hG q6 kf_RX0_43 (v := (s0 r5 1)) (by rw [(zFr_g hF_s2 q6 (by decide))]) dX0_mix_21 ?_
        refine j_iconst hx dX0_mix_24 ?_
        refine j_isub hx (r := (s0 r5 1) - 1) dX0_mix_25 (by omega) ?_
        refine j_istore hx [(5, .int (zI ((s0 r5 1) - 1))), (4, .ref r5), (0, .ref a), (2, .int (zI v1)), (3, .int (zI v2))] dX0_mix_26 (by decide) rfl ?_
        have c28_7 : ∀ (m_c28_7 : Nat) (v8 : Int) (v9 : Int) (s8 : zS), v9 + 2147483648 < m_c28_7 → ((-2147483648) ≤ v8 ∧ v8 ≤ 2147483647) → ((-1) ≤ v9 ∧ v9 ≤ 59) → (zSK G s8) → (zFr [41] G s2 s8) → JJ X E 6 G s8 0 0 [(0, .ref a), (2, .int (zI v8)), (3, .int (zI v2)), (4, .ref r5), (5, .int (zI v9))] 28 [] := by
          intro m_c28_7
          induction m_c28_7 with
          | zero => intro v8 v9 s8 hm_c28_7 fA9 fA10 hS_s8 hF_s8; exfalso; omega
          | succ m_c28_7 ih_c28_7 => 
            intro v8 v9 s8 hm_c28_7 fA9 fA10 hS_s8 hF_s8
            refine j_iload hx 4 dX0_mix_28 rfl ?_
            refine j_iconst hx dX0_mix_30 ?_
            refine j_icmp_lt hx 69 dX0_mix_31 rfl (by omega) ⟨by decide, by decide⟩ (fun h10 => ?_) (fun h10 => ?_)
            · skip
              refine j_iinc hx 2 [(3, .int (zI (v2 + 1))), (0, .ref a), (2, .int (zI v8)), (4, .ref r5), (5, .int (zI v9))] dX0_mix_69 rfl (by omega) (by decide) rfl ?_
              refine j_goto hx 4 dX0_mix_72 rfl ?_
              exact j_sub [1, 2, 0] [(0, .ref a), (2, .int (zI v8)), (3, .int (zI (v2 + 1)))] rfl (ih_c4_1 v8 (v2 + 1) s8 (by omega) (by omega) (by omega) hS_s8 (zFr_t (zFr_t zFr_rf hF_s2 (by decide)) hF_s8 (by decide)))
            · skip
              refine j_iload_n hx 1 dX0_mix_34 rfl ?_
              refine j_ldc hx (c := 1103515245) dX0_mix_35 kk_RX0_101 (by decide) ?_
              refine j_imul hx (r := 1103515245 * v8) dX0_mix_37 (by omega) ?_
              refine j_norm (fun v11 f12 f13 f14 => ?_)
              refine j_sipush hx dX0_mix_38 rfl ?_
              refine j_iadd hx (r := v11 + 12345) dX0_mix_41 rfl ?_
              refine j_norm (fun v15 f16 f17 f18 => ?_)
              refine j_istore_n hx [(2, .int (zI v15)), (0, .ref a), (3, .int (zI v2)), (4, .ref r5), (5, .int (zI v9))] dX0_mix_42 (by decide) rfl ?_
              refine j_aload hx 3 dX0_mix_43 rfl ?_
              refine j_iload hx 4 dX0_mix_45 rfl ?_
              refine j_iload_n hx 0 dX0_mix_47 rfl ?_
              refine j_bipush hx dX0_mix_48 rfl ?_
              refine j_iushr hx dX0_mix_50 (fun v19 f20 f21 => ?_)
              refine j_sipush hx dX0_mix_51 rfl ?_
              refine j_iand hx dX0_mix_54 (by omega) ⟨by decide, by decide⟩ (fun v22 f23 f24 f25 f26 _ => ?_)
              refine j_iload hx 4 dX0_mix_55 rfl ?_
              refine j_iconst hx dX0_mix_57 ?_
              refine j_iadd hx (r := v9 + 1) dX0_mix_58 rfl ?_
              refine j_irem hx dX0_mix_59 (by omega) (by omega) (by omega) (fun v28 f29 f30 f31 f32 => ?_)
              refine j_callV hx hG (c_X6_exchange hst r5 v9 v28) lk_RX0_102 q6 (by decide) rfl rfl rfl rfl [.int (zI v9), .int (zI v28)] ⟨rfl, hG, hS_s8, q6, (by omega), (by omega)⟩ rfl rfl ⟨by decide, by decide⟩ ⟨by decide, by decide⟩ (k2 := 0) (n2 := 0) rfl rfl (Nat.le_of_ble_eq_true rfl) dX0_mix_60 (kVM (fun s13 hS_s13 hF_s13 q35 => ?_))
              refine j_iinc hx 4 [(5, .int (zI (v9 - 1))), (2, .int (zI v15)), (0, .ref a), (3, .int (zI v2)), (4, .ref r5)] dX0_mix_63 rfl (by omega) (by decide) rfl ?_
              refine j_goto hx 28 dX0_mix_66 rfl ?_
              exact j_sub [2, 1, 3, 4, 0] [(0, .ref a), (2, .int (zI v15)), (3, .int (zI v2)), (4, .ref r5), (5, .int (zI (v9 - 1)))] rfl (ih_c28_7 v15 (v9 - 1) s13 (by omega) (by omega) (by omega) hS_s13 (zFr_t (zFr_t zFr_rf hF_s8 (by decide)) hF_s13 (by decide)))
        exact j_sub [2, 3, 4, 1, 0] [(0, .ref a), (2, .int (zI v1)), (3, .int (zI v2)), (4, .ref r5), (5, .int (zI ((s0 r5 1) - 1)))] rfl (c28_7 (2147483648 * 4) v1 ((s0 r5 1) - 1) s2 (by omega) (by omega) (by omega) hS_s2 zFr_rf)
  exact j_sub [2, 1, 0] [(0, .ref a), (2, .int (zI x1)), (3, .int (zI 0))] rfl (c4_1 (2147483648 * 4) x1 0 s0 (by omega) (by omega) (by omega) hS0 zFr_rf)

theorem lk_RX11_304 : LkV RX11 304 RX0 yX0_mix cX0_mix 6 none 1 := ⟨km_RX11_304, ki_yX0_mix, ks_RX0_yX0_mix, kn_RX0, kc_yX0_mix, rfl, by decide +kernel, by decide +kernel, by decide +kernel⟩
set_option maxHeartbeats 4000000 in
set_option maxRecDepth 20000 in
theorem c_X11_shuffle {E : zE} {l : Launch} (hst : l.stackTraces = false) (a : Nat) (x1 : Int) : Con E l yX11_shuffle cX11_shuffle 2 none { frames := 2, cells := 0, slots := 0, locals := 48 } (fun G s vs => vs = [.ref a, .int (zI x1)] ∧ zGK G ∧ zSK G s ∧ (gT G a = 12) ∧ ((-2147483648) ≤ x1 ∧ x1 ≤ 2147483647)) (fun G s _ => pV (fun G2 s2 => G2 = G ∧ zSK G s2 ∧ zFr [5, 41] G s s2 ∧ True)) := by
  refine Con.mk hst (by decide) (fun G s vs h => by rw [h.1]; exact Nat.le_of_ble_eq_true rfl) ?_
  rintro X G s0 vs ⟨rfl, hG, hS0, ha, hx1⟩ rfl hx hq
  show JJ X E 2 G s0 0 0 [(0, .ref a), (1, .int (zI x1))] 0 []
  refine j_aload_n hx 0 dX11_shuffle_0 rfl ?_
  refine g12_6 hx hG ha kf_RX11_48 dX11_shuffle_1 ?_
  refine gN4_1 hx hG (zr (k := 6) (t2 := 4) hG ha rfl) kf_RX11_155 dX11_shuffle_4 ?_
  refine j_iload_n hx 1 dX11_shuffle_7 rfl ?_
  refine j_callV hx hG (c_X0_mix hst (gP G (gP G a 6) 1) x1) lk_RX11_304 (zr (k := 1) (t2 := 1) hG (zr (k := 6) (t2 := 4) hG ha rfl) rfl) (by decide) rfl rfl rfl rfl [.int (zI x1)] ⟨rfl, hG, hS0, (zr (k := 1) (t2 := 1) hG (zr (k := 6) (t2 := 4) hG ha rfl) rfl), (by omega)⟩ rfl rfl ⟨by decide, by decide⟩ ⟨by decide, by decide⟩ (k2 := 0) (n2 := 0) rfl rfl (Nat.le_of_ble_eq_true rfl) dX11_shuffle_8 (kVM (fun s1 hS_s1 hF_s1 q2 => ?_))
  refine j_aload_n hx 0 dX11_shuffle_11 rfl ?_
  refine g12_9 hx hG ha kf_RX11_69 dX11_shuffle_12 ?_
  refine j_aload_n hx 0 dX11_shuffle_15 rfl ?_
  refine g12_6 hx hG ha kf_RX11_48 dX11_shuffle_16 ?_
  have f3 := zf hS0 (zr (k := 6) (t2 := 4) hG ha rfl) (k := 10) rfl
  refine gN4_10 hx hG (zr (k := 6) (t2 := 4) hG ha rfl) kf_RX11_165 (v := (s0 (gP G a 6) 10)) (by rw [(zFr_g hF_s1 (zr (k := 6) (t2 := 4) hG ha rfl) (by decide))]) dX11_shuffle_19 ?_
  refine j_callV hx hG (c_X4_settle hst (gP G a 9) ((s0 (gP G a 6) 10))) lk_RX11_124 (zr (k := 9) (t2 := 5) hG ha rfl) (by decide) rfl rfl rfl rfl [.int (zI ((s0 (gP G a 6) 10)))] ⟨rfl, hG, hS_s1, (zr (k := 9) (t2 := 5) hG ha rfl), (by omega)⟩ rfl rfl ⟨by decide, by decide⟩ ⟨by decide, by decide⟩ (k2 := 0) (n2 := 0) rfl rfl (Nat.le_of_ble_eq_true rfl) dX11_shuffle_22 (kVM (fun s2 hS_s2 hF_s2 q5 => ?_))
  exact j_vret hx hq rfl (by decide) (by decide) dX11_shuffle_25 ⟨rfl, rfl, hS_s2, (zFr_t (zFr_t zFr_rf hF_s1 (by decide)) hF_s2 (by decide)), trivial⟩
