theorem lk_RX3_163 : LkV RX3 163 RX3 yX3_delayOf cX3_delayOf 2 (some .int) 1 := ⟨km_RX3_163, ki_yX3_delayOf, ks_RX3_yX3_delayOf, kn_RX3, kc_yX3_delayOf, rfl, by decide +kernel, by decide +kernel, by decide +kernel⟩
theorem lk_RX3_166 : LkV RX3 166 RX3 yX3_drawnDelay cX3_drawnDelay 1 (some .int) 0 := ⟨km_RX3_166, ki_yX3_drawnDelay, ks_RX3_yX3_drawnDelay, kn_RX3, kc_yX3_drawnDelay, rfl, by decide +kernel, by decide +kernel, by decide +kernel⟩
theorem lk_RX3_169 : LkV RX3 169 RX3 yX3_addTally cX3_addTally 3 none 2 := ⟨km_RX3_169, ki_yX3_addTally, ks_RX3_yX3_addTally, kn_RX3, kc_yX3_addTally, rfl, by decide +kernel, by decide +kernel, by decide +kernel⟩
set_option maxHeartbeats 4000000 in
set_option maxRecDepth 20000 in
theorem c_X3_callBehind {E : zE} {l : Launch} (hst : l.stackTraces = false) (a : Nat) (x1 : Int) : Con E l yX3_callBehind cX3_callBehind 4 none { frames := 4, cells := 0, slots := 0, locals := 98 } (fun G s vs => vs = [.ref a, .int (zI x1)] ∧ zGK G ∧ zSK G s ∧ (gT G a = 4) ∧ ((-2147483648) ≤ x1 ∧ x1 ≤ 2147483647)) (fun G s _ => pV (fun G2 s2 => G2 = G ∧ zSK G s2 ∧ zFr [4, 50, 52] G s s2 ∧ True)) := by
  refine Con.mk hst (by decide) (fun G s vs h => by rw [h.1]; exact Nat.le_of_ble_eq_true rfl) ?_
  rintro X G s0 vs ⟨rfl, hG, hS0, ha, hx1⟩ rfl hx hq
  show JJ X E 4 G s0 0 0 [(0, .ref a), (1, .int (zI x1))] 0 []
  refine j_iconst hx dX3_callBehind_0 ?_
  refine j_istore_n hx [(2, .int (zI 0)), (0, .ref a), (1, .int (zI x1))] dX3_callBehind_1 (by decide) rfl ?_
  have c2_1 : ∀ (m_c2_1 : Nat) (v1 : Int) (s2 : zS), 2147483648 - v1 < m_c2_1 → (0 ≤ v1 ∧ v1 ≤ 3) → (zSK G s2) → (zFr [4, 50, 52] G s0 s2) → JJ X E 4 G s2 0 0 [(0, .ref a), (1, .int (zI x1)), (2, .int (zI v1))] 2 [] := by
    intro m_c2_1
    induction m_c2_1 with
    | zero => intro v1 s2 hm_c2_1 fA3 hS_s2 hF_s2; exfalso; omega
    | succ m_c2_1 ih_c2_1 => 
      intro v1 s2 hm_c2_1 fA3 hS_s2 hF_s2
      refine j_iload_n hx 2 dX3_callBehind_2 rfl ?_
      refine j_aload_n hx 0 dX3_callBehind_3 rfl ?_
      refine g4_0 hx hG ha kf_RX3_41 dX3_callBehind_4 ?_
      have f2 := zf hS0 (zr (k := 0) (t2 := 9) hG ha rfl) (k := 4) rfl
      refine gN9_4 hx hG (zr (k := 0) (t2 := 9) hG ha rfl) kf_RX3_148 (v := (s0 (gP G a 0) 4)) (by rw [(zFr_g hF_s2 (zr (k := 0) (t2 := 9) hG ha rfl) (by decide))]) dX3_callBehind_7 ?_
      refine j_icmp_ge hx 116 dX3_callBehind_10 rfl (by omega) (by omega) (fun h3 => ?_) (fun h3 => ?_)
      · skip
        exact j_vret hx hq rfl (by decide) (by decide) dX3_callBehind_116 ⟨rfl, rfl, hS_s2, (zFr_t zFr_rf hF_s2 (by decide)), trivial⟩
      · skip
        refine j_aload_n hx 0 dX3_callBehind_13 rfl ?_
        refine j_iload_n hx 2 dX3_callBehind_14 rfl ?_
        refine j_callV hx hG (c_X3_delayOf hst a v1) lk_RX3_163 ha (by decide) rfl rfl rfl rfl [.int (zI v1)] ⟨rfl, hG, hS_s2, ha, (by omega)⟩ rfl rfl ⟨by decide, by decide⟩ ⟨by decide, by decide⟩ (k2 := 0) (n2 := 0) rfl rfl (Nat.le_of_ble_eq_true rfl) dX3_callBehind_15 (kIP (fun v4 q5 => ?_))
        refine j_bipush hx dX3_callBehind_18 rfl ?_
        have c110_6 : ∀ (s7 : zS), (zSK G s7) → (zFr [4, 50, 52] G s2 s7) → JJ X E 4 G s7 0 0 [(0, .ref a), (1, .int (zI x1)), (2, .int (zI v1))] 110 [] := by
          intro s7 hS_s7 hF_s7
          refine j_iinc hx 2 [(2, .int (zI (v1 + 1))), (0, .ref a), (1, .int (zI x1))] dX3_callBehind_110 rfl (by omega) (by decide) rfl ?_
          refine j_goto hx 2 dX3_callBehind_113 rfl ?_
          exact j_sub [1, 2, 0] [(0, .ref a), (1, .int (zI x1)), (2, .int (zI (v1 + 1)))] rfl (ih_c2_1 (v1 + 1) s7 (by omega) (by omega) hS_s7 (zFr_t (zFr_t zFr_rf hF_s2 (by decide)) hF_s7 (by decide)))
        refine j_icmp_ne hx 110 dX3_callBehind_20 rfl (by omega) ⟨by decide, by decide⟩ (fun h6 => ?_) (fun h6 => ?_)
        · skip
          exact j_sub [0, 1, 2] [(0, .ref a), (1, .int (zI x1)), (2, .int (zI v1))] rfl (c110_6 s2 hS_s2 zFr_rf)
        · skip
          refine j_aload_n hx 0 dX3_callBehind_23 rfl ?_
          refine g4_1 hx hG ha kf_RX3_14 dX3_callBehind_24 ?_
          refine j_iload_n hx 2 dX3_callBehind_27 rfl ?_
          refine j_callV hx hG (c_X0_isOut hst (gP G a 1) v1) lk_RX3_151 (zr (k := 1) (t2 := 1) hG ha rfl) (by decide) rfl rfl rfl rfl [.int (zI v1)] ⟨rfl, hG, hS_s2, (zr (k := 1) (t2 := 1) hG ha rfl), (by omega)⟩ rfl rfl ⟨by decide, by decide⟩ ⟨by decide, by decide⟩ (k2 := 0) (n2 := 0) rfl rfl (Nat.le_of_ble_eq_true rfl) dX3_callBehind_28 (kIP (fun v7 q8 => ?_))
          refine j_if_ne hx 110 dX3_callBehind_31 rfl (by omega) (fun h9 => ?_) (fun h9 => ?_)
          · skip
            exact j_sub [0, 1, 2] [(0, .ref a), (1, .int (zI x1)), (2, .int (zI v1))] rfl (c110_6 s2 hS_s2 zFr_rf)
          · skip
            refine j_aload_n hx 0 dX3_callBehind_34 rfl ?_
            refine j_iload_n hx 2 dX3_callBehind_35 rfl ?_
            refine j_iconst hx dX3_callBehind_36 ?_
            refine j_callV hx hG (c_X3_wants hst a v1 0) lk_RX3_155 ha (by decide) rfl rfl rfl rfl [.int (zI v1), .int (zI 0)] ⟨rfl, hG, hS_s2, ha, (by omega), (by omega)⟩ rfl rfl ⟨by decide, by decide⟩ ⟨by decide, by decide⟩ (k2 := 0) (n2 := 0) rfl rfl (Nat.le_of_ble_eq_true rfl) dX3_callBehind_37 (kIP (fun v10 q11 => ?_))
            refine j_if_eq hx 110 dX3_callBehind_40 rfl (by omega) (fun h12 => ?_) (fun h12 => ?_)
            · skip
              exact j_sub [0, 1, 2] [(0, .ref a), (1, .int (zI x1)), (2, .int (zI v1))] rfl (c110_6 s2 hS_s2 zFr_rf)
            · skip
              refine j_aload_n hx 0 dX3_callBehind_43 rfl ?_
              refine g4_0 hx hG ha kf_RX3_41 dX3_callBehind_44 ?_
              refine j_iload_n hx 2 dX3_callBehind_47 rfl ?_
              refine j_iconst hx dX3_callBehind_48 ?_
              refine j_callV hx hG (c_X8_trait hst (gP G a 0) v1 2) lk_RX3_113 (zr (k := 0) (t2 := 9) hG ha rfl) (by decide) rfl rfl rfl rfl [.int (zI v1), .int (zI 2)] ⟨rfl, hG, hS_s2, (zr (k := 0) (t2 := 9) hG ha rfl), (by omega), (by omega)⟩ rfl rfl ⟨by decide, by decide⟩ ⟨by decide, by decide⟩ (k2 := 0) (n2 := 0) rfl rfl (Nat.le_of_ble_eq_true rfl) dX3_callBehind_49 (kIP (fun v13 q14 => ?_))
              refine j_aload_n hx 0 dX3_callBehind_52 rfl ?_
              refine g4_0 hx hG ha kf_RX3_41 dX3_callBehind_53 ?_
              refine j_iload_n hx 2 dX3_callBehind_56 rfl ?_
              refine j_iconst hx dX3_callBehind_57 ?_
              refine j_callV hx hG (c_X8_trait hst (gP G a 0) v1 3) lk_RX3_113 (zr (k := 0) (t2 := 9) hG ha rfl) (by decide) rfl rfl rfl rfl [.int (zI v1), .int (zI 3)] ⟨rfl, hG, hS_s2, (zr (k := 0) (t2 := 9) hG ha rfl), (by omega), (by omega)⟩ rfl rfl ⟨by decide, by decide⟩ ⟨by decide, by decide⟩ (k2 := 0) (n2 := 0) rfl rfl (Nat.le_of_ble_eq_true rfl) dX3_callBehind_58 (kIP (fun v15 q16 => ?_))
              refine j_iload_n hx 1 dX3_callBehind_61 rfl ?_
              have c70_10 : ∀ (v17 : Int), (0 ≤ v17 ∧ v17 ≤ 1) → JJ X E 4 G s2 0 0 [(0, .ref a), (1, .int (zI x1)), (2, .int (zI v1))] 70 [.int (zI v17), .int (zI v13)] := by
                intro v17 fA11
                refine j_iadd hx (r := v13 + v17) dX3_callBehind_70 rfl ?_
                refine j_norm (fun v18 f19 f20 f21 => ?_)
                refine j_aload_n hx 0 dX3_callBehind_71 rfl ?_
                refine j_callV hx hG (c_X3_drawnDelay hst a) lk_RX3_166 ha (by decide) rfl rfl rfl rfl [] ⟨rfl, hG, hS_s2, ha⟩ rfl rfl ⟨by decide, by decide⟩ ⟨by decide, by decide⟩ (k2 := 0) (n2 := 0) rfl rfl (Nat.le_of_ble_eq_true rfl) dX3_callBehind_72 (kIM (fun v22 s12 hS_s12 hF_s12 q23 => ?_))
                refine j_iadd hx (r := v18 + v22) dX3_callBehind_75 rfl ?_
                refine j_norm (fun v24 f25 f26 f27 => ?_)
                refine j_istore_n hx [(3, .int (zI v24)), (0, .ref a), (1, .int (zI x1)), (2, .int (zI v1))] dX3_callBehind_76 (by decide) rfl ?_
                refine j_iload_n hx 0 dX3_callBehind_77 rfl ?_
                refine j_aload_n hx 1 dX3_callBehind_78 rfl ?_
                refine g4_0 hx hG ha kf_RX3_41 dX3_callBehind_79 ?_
                refine j_iload_n hx 2 dX3_callBehind_82 rfl ?_
                refine j_iconst hx dX3_callBehind_83 ?_
                refine j_callV hx hG (c_X8_trait hst (gP G a 0) x1 4) lk_RX3_113 (zr (k := 0) (t2 := 9) hG ha rfl) (by decide) rfl rfl rfl rfl [.int (zI x1), .int (zI 4)] ⟨rfl, hG, hS_s12, (zr (k := 0) (t2 := 9) hG ha rfl), (by omega), (by omega)⟩ rfl rfl ⟨by decide, by decide⟩ ⟨by decide, by decide⟩ (k2 := 0) (n2 := 0) rfl rfl (Nat.le_of_ble_eq_true rfl) dX3_callBehind_84 (kIP (fun v28 q29 => ?_))
                refine j_icmp_lt hx 104 dX3_callBehind_87 rfl (by omega) (by omega) (fun h30 => ?_) (fun h30 => ?_)
                · skip
                  refine j_aload_n hx 1 dX3_callBehind_104 rfl ?_
                  refine j_iload_n hx 3 dX3_callBehind_105 rfl ?_
                  refine j_iload_n hx 0 dX3_callBehind_106 rfl ?_
                  refine j_callV hx hG (c_X3_setDelay hst a v1 v24) lk_RX3_159 ha (by decide) rfl rfl rfl rfl [.int (zI v1), .int (zI v24)] ⟨rfl, hG, hS_s12, ha, (by omega), (by omega)⟩ rfl rfl ⟨by decide, by decide⟩ ⟨by decide, by decide⟩ (k2 := 0) (n2 := 0) rfl rfl (Nat.le_of_ble_eq_true rfl) dX3_callBehind_107 (kVM (fun s13 hS_s13 hF_s13 q32 => ?_))
                  exact j_sub [1, 2, 3] [(0, .ref a), (1, .int (zI x1)), (2, .int (zI v1))] rfl (c110_6 s13 hS_s13 (zFr_t (zFr_t zFr_rf hF_s12 (by decide)) hF_s13 (by decide)))
                · skip
                  refine j_aload_n hx 1 dX3_callBehind_90 rfl ?_
                  refine j_iload_n hx 3 dX3_callBehind_91 rfl ?_
                  refine j_bipush hx dX3_callBehind_92 rfl ?_
                  refine j_imul hx (r := 6 * v1) dX3_callBehind_94 (by omega) ?_
                  refine j_iconst hx dX3_callBehind_95 ?_
                  refine j_iadd hx (r := 6 * v1 + 5) dX3_callBehind_96 (by omega) ?_
                  refine j_iconst hx dX3_callBehind_97 ?_
                  refine j_callV hx hG (c_X3_addTally hst a (6 * v1 + 5) 1) lk_RX3_169 ha (by decide) rfl rfl rfl rfl [.int (zI (6 * v1 + 5)), .int (zI 1)] ⟨rfl, hG, hS_s12, ha, (by omega), (by omega)⟩ rfl rfl ⟨by decide, by decide⟩ ⟨by decide, by decide⟩ (k2 := 0) (n2 := 0) rfl rfl (Nat.le_of_ble_eq_true rfl) dX3_callBehind_98 (kVM (fun s14 hS_s14 hF_s14 q34 => ?_))
                  refine j_goto hx 110 dX3_callBehind_101 rfl ?_
                  exact j_sub [1, 2, 3] [(0, .ref a), (1, .int (zI x1)), (2, .int (zI v1))] rfl (c110_6 s14 hS_s14 (zFr_t (zFr_t zFr_rf hF_s12 (by decide)) hF_s14 (by decide)))
              refine j_icmp_ne hx 69 dX3_callBehind_62 rfl (by omega) (by omega) (fun h35 => ?_) (fun h35 => ?_)
              · skip
                refine j_iconst hx dX3_callBehind_69 ?_
                exact j_sub [0, 1, 2] [(0, .ref a), (1, .int (zI x1)), (2, .int (zI v1))] rfl (c70_10 1 (by omega))
              · skip
                refine j_iconst hx dX3_callBehind_65 ?_
                refine j_goto hx 70 dX3_callBehind_66 rfl ?_
                exact j_sub [0, 1, 2] [(0, .ref a), (1, .int (zI x1)), (2, .int (zI v1))] rfl (c70_10 0 (by omega))
  exact j_sub [1, 2, 0] [(0, .ref a), (1, .int (zI x1)), (2, .int (zI 0))] rfl (c2_1 (2147483648 * 4) 0 s0 (by omega) (by omega) hS0 zFr_rf)

set_option maxHeartbeats 4000000 in
set_option maxRecDepth 20000 in
theorem c_X0_poolHeaps {E : zE} {l : Launch} (hst : l.stackTraces = false) (a : Nat) (x1 : Int) : Con E l yX0_poolHeaps cX0_poolHeaps 2 none { frames := 2, cells := 0, slots := 0, locals := 43 } (fun G s vs => vs = [.ref a, .int (zI x1)] ∧ zGK G ∧ zSK G s ∧ (gT G a = 1) ∧ ((-2147483648) ≤ x1 ∧ x1 ≤ 2147483647)) (fun G s _ => pV (fun G2 s2 => G2 = G ∧ zSK G s2 ∧ zFr [7, 41] G s s2 ∧ True)) := by
  refine Con.mk hst (by decide) (fun G s vs h => by rw [h.1]; exact Nat.le_of_ble_eq_true rfl) ?_
  rintro X G s0 vs ⟨rfl, hG, hS0, ha, hx1⟩ rfl hx hq
  show JJ X E 2 G s0 0 0 [(0, .ref a), (1, .int (zI x1))] 0 []
  refine j_aload_n hx 0 dX0_poolHeaps_0 rfl ?_
  refine g1_6 hx hG ha kf_RX0_33 dX0_poolHeaps_1 ?_
  refine j_aload_n hx 0 dX0_poolHeaps_4 rfl ?_
  refine j_iload_n hx 1 dX0_poolHeaps_5 rfl ?_
  refine j_bipush hx dX0_poolHeaps_6 rfl ?_
  refine j_idiv hx dX0_poolHeaps_8 (by omega) ⟨by decide, by decide⟩ (by decide) (fun v1 f2 f3 f4 => ?_)
  refine j_callV hx hG (c_X0_heapOf hst a v1) lk_RX0_40 ha (by decide) rfl rfl rfl rfl [.int (zI v1)] ⟨rfl, hG, hS0, ha, (by omega)⟩ rfl rfl ⟨by decide, by decide⟩ ⟨by decide, by decide⟩ (k2 := 0) (n2 := 0) rfl rfl (Nat.le_of_ble_eq_true rfl) dX0_poolHeaps_9 (kRP (fun r7 q8 => ?_))
  refine j_callV hx hG (c_X6_takeAll hst (gP G a 6) r7) lk_RX0_82 (zr (k := 6) (t2 := 7) hG ha rfl) (by decide) rfl rfl rfl rfl [.ref r7] ⟨rfl, hG, hS0, (zr (k := 6) (t2 := 7) hG ha rfl), q8⟩ rfl rfl ⟨by decide, by decide⟩ ⟨by decide, by decide⟩ (k2 := 0) (n2 := 0) rfl rfl (Nat.le_of_ble_eq_true rfl) dX0_poolHeaps_12 (kVM (fun s1 hS_s1 hF_s1 q10 => ?_))
  refine j_aload_n hx 0 dX0_poolHeaps_15 rfl ?_
  refine g1_6 hx hG ha kf_RX0_33 dX0_poolHeaps_16 ?_
  refine j_aload_n hx 0 dX0_poolHeaps_19 rfl ?_
  refine j_iload_n hx 1 dX0_poolHeaps_20 rfl ?_
  refine j_bipush hx dX0_poolHeaps_21 rfl ?_
  refine j_irem hx dX0_poolHeaps_23 (by omega) ⟨by decide, by decide⟩ (by decide) (fun v11 f12 f13 f14 f15 => ?_)
  refine j_callV hx hG (c_X0_heapOf hst a v11) lk_RX0_40 ha (by decide) rfl rfl rfl rfl [.int (zI v11)] ⟨rfl, hG, hS_s1, ha, (by omega)⟩ rfl rfl ⟨by decide, by decide⟩ ⟨by decide, by decide⟩ (k2 := 0) (n2 := 0) rfl rfl (Nat.le_of_ble_eq_true rfl) dX0_poolHeaps_24 (kRP (fun r17 q18 => ?_))
  refine j_callV hx hG (c_X6_takeAll hst (gP G a 6) r17) lk_RX0_82 (zr (k := 6) (t2 := 7) hG ha rfl) (by decide) rfl rfl rfl rfl [.ref r17] ⟨rfl, hG, hS_s1, (zr (k := 6) (t2 := 7) hG ha rfl), q18⟩ rfl rfl ⟨by decide, by decide⟩ ⟨by decide, by decide⟩ (k2 := 0) (n2 := 0) rfl rfl (Nat.le_of_ble_eq_true rfl) dX0_poolHeaps_27 (kVM (fun s2 hS_s2 hF_s2 q20 => ?_))
  exact j_vret hx hq rfl (by decide) (by decide) dX0_poolHeaps_30 ⟨rfl, rfl, hS_s2, (zFr_t (zFr_t zFr_rf hF_s1 (by decide)) hF_s2 (by decide)), trivial⟩

theorem lk_RX3_173 : LkV RX3 173 RX3 yX3_lawOf cX3_lawOf 2 (some .int) 1 := ⟨km_RX3_173, ki_yX3_lawOf, ks_RX3_yX3_lawOf, kn_RX3, kc_yX3_lawOf, rfl, by decide +kernel, by decide +kernel, by decide +kernel⟩
theorem lk_RX3_192 : LkV RX3 192 RX0 yX0_poolHeaps cX0_poolHeaps 2 none 1 := ⟨km_RX3_192, ki_yX0_poolHeaps, ks_RX0_yX0_poolHeaps, kn_RX0, kc_yX0_poolHeaps, rfl, by decide +kernel, by decide +kernel, by decide +kernel⟩
set_option maxHeartbeats 4000000 in
set_option maxRecDepth 20000 in
theorem c_X3_fallTogether {E : zE} {l : Launch} (hst : l.stackTraces = false) (a : Nat) (x1 : Int) : Con E l yX3_fallTogether cX3_fallTogether 3 none { frames := 3, cells := 0, slots := 0, locals := 64 } (fun G s vs => vs = [.ref a, .int (zI x1)] ∧ zGK G ∧ zSK G s ∧ (gT G a = 4) ∧ ((-2147483648) ≤ x1 ∧ x1 ≤ 2147483647)) (fun G s _ => pV (fun G2 s2 => G2 = G ∧ zSK G s2 ∧ zFr [7, 41, 50] G s s2 ∧ True)) := by
  refine Con.mk hst (by decide) (fun G s vs h => by rw [h.1]; exact Nat.le_of_ble_eq_true rfl) ?_
  rintro X G s0 vs ⟨rfl, hG, hS0, ha, hx1⟩ rfl hx hq
  show JJ X E 3 G s0 0 0 [(0, .ref a), (1, .int (zI x1))] 0 []
  refine j_iconst hx dX3_fallTogether_0 ?_
  refine j_istore_n hx [(2, .int (zI 0)), (0, .ref a), (1, .int (zI x1))] dX3_fallTogether_1 (by decide) rfl ?_
  have c2_1 : ∀ (m_c2_1 : Nat) (v1 : Int) (s2 : zS), 2147483648 - v1 < m_c2_1 → (0 ≤ v1 ∧ v1 ≤ 3) → (zSK G s2) → (zFr [50] G s0 s2) → JJ X E 3 G s2 0 0 [(0, .ref a), (1, .int (zI x1)), (2, .int (zI v1))] 2 [] := by
    intro m_c2_1
    induction m_c2_1 with
    | zero => intro v1 s2 hm_c2_1 fA3 hS_s2 hF_s2; exfalso; omega
    | succ m_c2_1 ih_c2_1 => 
      intro v1 s2 hm_c2_1 fA3 hS_s2 hF_s2
      refine j_iload_n hx 2 dX3_fallTogether_2 rfl ?_
      refine j_aload_n hx 0 dX3_fallTogether_3 rfl ?_
      refine g4_0 hx hG ha kf_RX3_41 dX3_fallTogether_4 ?_
      have f2 := zf hS0 (zr (k := 0) (t2 := 9) hG ha rfl) (k := 4) rfl
      refine gN9_4 hx hG (zr (k := 0) (t2 := 9) hG ha rfl) kf_RX3_148 (v := (s0 (gP G a 0) 4)) (by rw [(zFr_g hF_s2 (zr (k := 0) (t2 := 9) hG ha rfl) (by decide))]) dX3_fallTogether_7 ?_
      refine j_icmp_ge hx 39 dX3_fallTogether_10 rfl (by omega) (by omega) (fun h3 => ?_) (fun h3 => ?_)
      · skip
        refine j_aload_n hx 0 dX3_fallTogether_39 rfl ?_
        refine j_iconst hx dX3_fallTogether_40 ?_
        refine j_callV hx hG (c_X3_lawOf hst a 1) lk_RX3_173 ha (by decide) rfl rfl rfl rfl [.int (zI 1)] ⟨rfl, hG, hS_s2, ha, (by omega)⟩ rfl rfl ⟨by decide, by decide⟩ ⟨by decide, by decide⟩ (k2 := 0) (n2 := 0) rfl rfl (Nat.le_of_ble_eq_true rfl) dX3_fallTogether_41 (kIP (fun v4 q5 => ?_))
        refine j_iconst hx dX3_fallTogether_44 ?_
        refine j_icmp_ne hx 67 dX3_fallTogether_45 rfl (by omega) ⟨by decide, by decide⟩ (fun h6 => ?_) (fun h6 => ?_)
        · skip
          exact j_vret hx hq rfl (by decide) (by decide) dX3_fallTogether_67 ⟨rfl, rfl, hS_s2, (zFr_t zFr_rf hF_s2 (by decide)), trivial⟩
        · skip
          refine j_aload_n hx 0 dX3_fallTogether_48 rfl ?_
          have f7 := zf hS0 ha (k := 11) rfl
          refine g4_11 hx hG ha kf_RX3_37 (v := (s0 a 11)) (by rw [(zFr_g hF_s2 ha (by decide))]) dX3_fallTogether_49 ?_
          refine j_iconst hx dX3_fallTogether_52 ?_
          refine j_icmp_eq hx 67 dX3_fallTogether_53 rfl (by omega) ⟨by decide, by decide⟩ (fun h8 => ?_) (fun h8 => ?_)
          · skip
            exact j_vret hx hq rfl (by decide) (by decide) dX3_fallTogether_67 ⟨rfl, rfl, hS_s2, (zFr_t zFr_rf hF_s2 (by decide)), trivial⟩
          · skip
            refine j_aload_n hx 0 dX3_fallTogether_56 rfl ?_
            refine g4_1 hx hG ha kf_RX3_14 dX3_fallTogether_57 ?_
            refine j_aload_n hx 0 dX3_fallTogether_60 rfl ?_
            refine g4_11 hx hG ha kf_RX3_37 (v := (s0 a 11)) (by rw [(zFr_g hF_s2 ha (by decide))]) dX3_fallTogether_61 ?_
            refine j_callV hx hG (c_X0_poolHeaps hst (gP G a 1) ((s0 a 11))) lk_RX3_192 (zr (k := 1) (t2 := 1) hG ha rfl) (by decide) rfl rfl rfl rfl [.int (zI ((s0 a 11)))] ⟨rfl, hG, hS_s2, (zr (k := 1) (t2 := 1) hG ha rfl), (by omega)⟩ rfl rfl ⟨by decide, by decide⟩ ⟨by decide, by decide⟩ (k2 := 0) (n2 := 0) rfl rfl (Nat.le_of_ble_eq_true rfl) dX3_fallTogether_64 (kVM (fun s6 hS_s6 hF_s6 q10 => ?_))
            exact j_vret hx hq rfl (by decide) (by decide) dX3_fallTogether_67 ⟨rfl, rfl, hS_s6, (zFr_t (zFr_t zFr_rf hF_s2 (by decide)) hF_s6 (by decide)), trivial⟩
      · skip
        refine j_aload_n hx 0 dX3_fallTogether_13 rfl ?_
        refine j_iload_n hx 2 dX3_fallTogether_14 rfl ?_
        refine j_callV hx hG (c_X3_delayOf hst a v1) lk_RX3_163 ha (by decide) rfl rfl rfl rfl [.int (zI v1)] ⟨rfl, hG, hS_s2, ha, (by omega)⟩ rfl rfl ⟨by decide, by decide⟩ ⟨by decide, by decide⟩ (k2 := 0) (n2 := 0) rfl rfl (Nat.le_of_ble_eq_true rfl) dX3_fallTogether_15 (kIP (fun v11 q12 => ?_))
        refine j_iload_n hx 1 dX3_fallTogether_18 rfl ?_
        have c33_7 : ∀ (s8 : zS), (zSK G s8) → (zFr [50] G s2 s8) → JJ X E 3 G s8 0 0 [(0, .ref a), (1, .int (zI x1)), (2, .int (zI v1))] 33 [] := by
          intro s8 hS_s8 hF_s8
          refine j_iinc hx 2 [(2, .int (zI (v1 + 1))), (0, .ref a), (1, .int (zI x1))] dX3_fallTogether_33 rfl (by omega) (by decide) rfl ?_
          refine j_goto hx 2 dX3_fallTogether_36 rfl ?_
          exact j_sub [1, 2, 0] [(0, .ref a), (1, .int (zI x1)), (2, .int (zI (v1 + 1)))] rfl (ih_c2_1 (v1 + 1) s8 (by omega) (by omega) hS_s8 (zFr_t (zFr_t zFr_rf hF_s2 (by decide)) hF_s8 (by decide)))
        refine j_icmp_ne hx 33 dX3_fallTogether_19 rfl (by omega) (by omega) (fun h13 => ?_) (fun h13 => ?_)
        · skip
          exact j_sub [0, 1, 2] [(0, .ref a), (1, .int (zI x1)), (2, .int (zI v1))] rfl (c33_7 s2 hS_s2 zFr_rf)
        · skip
          refine j_aload_n hx 0 dX3_fallTogether_22 rfl ?_
          refine j_iload_n hx 2 dX3_fallTogether_23 rfl ?_
          refine j_bipush hx dX3_fallTogether_24 rfl ?_
          refine j_imul hx (r := 6 * v1) dX3_fallTogether_26 (by omega) ?_
          refine j_iconst hx dX3_fallTogether_27 ?_
          refine j_iadd hx (r := 6 * v1 + 4) dX3_fallTogether_28 (by omega) ?_
          refine j_iconst hx dX3_fallTogether_29 ?_
          refine j_callV hx hG (c_X3_addTally hst a (6 * v1 + 4) 1) lk_RX3_169 ha (by decide) rfl rfl rfl rfl [.int (zI (6 * v1 + 4)), .int (zI 1)] ⟨rfl, hG, hS_s2, ha, (by omega), (by omega)⟩ rfl rfl ⟨by decide, by decide⟩ ⟨by decide, by decide⟩ (k2 := 0) (n2 := 0) rfl rfl (Nat.le_of_ble_eq_true rfl) dX3_fallTogether_30 (kVM (fun s11 hS_s11 hF_s11 q15 => ?_))
          exact j_sub [0, 1, 2] [(0, .ref a), (1, .int (zI x1)), (2, .int (zI v1))] rfl (c33_7 s11 hS_s11 (zFr_t zFr_rf hF_s11 (by decide)))
  exact j_sub [1, 2, 0] [(0, .ref a), (1, .int (zI x1)), (2, .int (zI 0))] rfl (c2_1 (2147483648 * 4) 0 s0 (by omega) (by omega) hS0 zFr_rf)

set_option maxHeartbeats 4000000 in
set_option maxRecDepth 20000 in
theorem c_X0_win {E : zE} {l : Launch} (hst : l.stackTraces = false) (a : Nat) (x1 : Int) (x2 : Int) (x3 : Int) : Con E l yX0_win cX0_win 7 (some .int) { frames := 2, cells := 0, slots := 0, locals := 43 } (fun G s vs => vs = [.ref a, .int (zI x1), .int (zI x2), .int (zI x3)] ∧ zGK G ∧ zSK G s ∧ (gT G a = 1) ∧ ((-2147483648) ≤ x1 ∧ x1 ≤ 2147483647) ∧ ((-2147483648) ≤ x2 ∧ x2 ≤ 2147483647) ∧ ((-2147483648) ≤ x3 ∧ x3 ≤ 2147483647)) (fun G s _ => pI (fun r G2 s2 => G2 = G ∧ zSK G s2 ∧ zFr [7, 41] G s s2 ∧ ((-2147483648) ≤ r ∧ r ≤ 2147483647))) := by
  refine Con.mk hst (by decide) (fun G s vs h => by rw [h.1]; exact Nat.le_of_ble_eq_true rfl) ?_
  rintro X G s0 vs ⟨rfl, hG, hS0, ha, hx1, hx2, hx3⟩ rfl hx hq
  show JJ X E 7 G s0 0 0 [(0, .ref a), (1, .int (zI x1)), (2, .int (zI x2)), (3, .int (zI x3))] 0 []
  refine j_aload_n hx 0 dX0_win_0 rfl ?_
  refine j_iload_n hx 1 dX0_win_1 rfl ?_
  refine j_callV hx hG (c_X0_rowOf hst a x1) lk_RX0_36 ha (by decide) rfl rfl rfl rfl [.int (zI x1)] ⟨rfl, hG, hS0, ha, (by omega)⟩ rfl rfl ⟨by decide, by decide⟩ ⟨by decide, by decide⟩ (k2 := 0) (n2 := 0) rfl rfl (Nat.le_of_ble_eq_true rfl) dX0_win_2 (kRP (fun r1 q2 => ?_))
  refine j_astore hx [(4, .ref r1), (0, .ref a), (1, .int (zI x1)), (2, .int (zI x2)), (3, .int (zI x3))] dX0_win_5 (by decide) rfl ?_
  refine j_aload hx 0 dX0_win_7 rfl ?_
  have f3 := zf hS0 q2 (k := 1) rfl
  refine gN7_1 hx hG q2 kf_RX0_43 rfl dX0_win_9 ?_
  refine j_istore hx [(5, .int (zI ((s0 r1 1)))), (4, .ref r1), (0, .ref a), (1, .int (zI x1)), (2, .int (zI x2)), (3, .int (zI x3))] dX0_win_12 (by decide) rfl ?_
  refine j_aload_n hx 2 dX0_win_14 rfl ?_
  refine j_iload_n hx 4 dX0_win_15 rfl ?_
  refine j_bipush hx dX0_win_16 rfl ?_
  refine j_idiv hx dX0_win_18 (by omega) ⟨by decide, by decide⟩ (by decide) (fun v4 f5 f6 f7 => ?_)
  refine j_callV hx hG (c_X0_heapOf hst a v4) lk_RX0_40 ha (by decide) rfl rfl rfl rfl [.int (zI v4)] ⟨rfl, hG, hS0, ha, (by omega)⟩ rfl rfl ⟨by decide, by decide⟩ ⟨by decide, by decide⟩ (k2 := 0) (n2 := 0) rfl rfl (Nat.le_of_ble_eq_true rfl) dX0_win_19 (kRP (fun r10 q11 => ?_))
  refine j_callV hx hG (c_X6_topKind hst r10) lk_RX0_75 q11 (by decide) rfl rfl rfl rfl [] ⟨rfl, hG, hS0, q11⟩ rfl rfl ⟨by decide, by decide⟩ ⟨by decide, by decide⟩ (k2 := 0) (n2 := 0) rfl rfl (Nat.le_of_ble_eq_true rfl) dX0_win_22 (kIP (fun v12 q13 => ?_))
  refine j_istore hx [(6, .int (zI v12)), (5, .int (zI ((s0 r1 1)))), (4, .ref r1), (0, .ref a), (1, .int (zI x1)), (2, .int (zI x2)), (3, .int (zI x3))] dX0_win_25 (by decide) rfl ?_
  refine j_aload hx 2 dX0_win_27 rfl ?_
  refine j_aload_n hx 3 dX0_win_29 rfl ?_
  refine j_iload_n hx 5 dX0_win_30 rfl ?_
  refine j_bipush hx dX0_win_31 rfl ?_
  refine j_idiv hx dX0_win_33 (by omega) ⟨by decide, by decide⟩ (by decide) (fun v14 f15 f16 f17 => ?_)
  refine j_callV hx hG (c_X0_heapOf hst a v14) lk_RX0_40 ha (by decide) rfl rfl rfl rfl [.int (zI v14)] ⟨rfl, hG, hS0, ha, (by omega)⟩ rfl rfl ⟨by decide, by decide⟩ ⟨by decide, by decide⟩ (k2 := 0) (n2 := 0) rfl rfl (Nat.le_of_ble_eq_true rfl) dX0_win_34 (kRP (fun r20 q21 => ?_))
  refine j_callV hx hG (c_X6_takeAll hst r1 r20) lk_RX0_82 q2 (by decide) rfl rfl rfl rfl [.ref r20] ⟨rfl, hG, hS0, q2, q21⟩ rfl rfl ⟨by decide, by decide⟩ ⟨by decide, by decide⟩ (k2 := 0) (n2 := 0) rfl rfl (Nat.le_of_ble_eq_true rfl) dX0_win_37 (kVM (fun s1 hS_s1 hF_s1 q23 => ?_))
  refine j_aload hx 2 dX0_win_40 rfl ?_
  refine j_aload_n hx 3 dX0_win_42 rfl ?_
  refine j_iload_n hx 5 dX0_win_43 rfl ?_
  refine j_bipush hx dX0_win_44 rfl ?_
  refine j_irem hx dX0_win_46 (by omega) ⟨by decide, by decide⟩ (by decide) (fun v24 f25 f26 f27 f28 => ?_)
  refine j_callV hx hG (c_X0_heapOf hst a v24) lk_RX0_40 ha (by decide) rfl rfl rfl rfl [.int (zI v24)] ⟨rfl, hG, hS_s1, ha, (by omega)⟩ rfl rfl ⟨by decide, by decide⟩ ⟨by decide, by decide⟩ (k2 := 0) (n2 := 0) rfl rfl (Nat.le_of_ble_eq_true rfl) dX0_win_47 (kRP (fun r30 q31 => ?_))
  refine j_callV hx hG (c_X6_takeAll hst r1 r30) lk_RX0_82 q2 (by decide) rfl rfl rfl rfl [.ref r30] ⟨rfl, hG, hS_s1, q2, q31⟩ rfl rfl ⟨by decide, by decide⟩ ⟨by decide, by decide⟩ (k2 := 0) (n2 := 0) rfl rfl (Nat.le_of_ble_eq_true rfl) dX0_win_50 (kVM (fun s2 hS_s2 hF_s2 q33 => ?_))
  refine j_iload_n hx 6 dX0_win_53 rfl ?_
  refine j_iconst hx dX0_win_54 ?_
  have c75_3 : JJ X E 7 G s2 0 0 [(0, .ref a), (4, .ref r1), (5, .int (zI ((s0 r1 1))))] 75 [] := by
    refine j_aload hx 1 dX0_win_75 rfl ?_
    refine j_aload_n hx 0 dX0_win_77 rfl ?_
    refine g1_6 hx hG ha kf_RX0_33 dX0_win_78 ?_
    refine j_callV hx hG (c_X6_takeAll hst r1 (gP G a 6)) lk_RX0_82 q2 (by decide) rfl rfl rfl rfl [.ref (gP G a 6)] ⟨rfl, hG, hS_s2, q2, (zr (k := 6) (t2 := 7) hG ha rfl)⟩ rfl rfl ⟨by decide, by decide⟩ ⟨by decide, by decide⟩ (k2 := 0) (n2 := 0) rfl rfl (Nat.le_of_ble_eq_true rfl) dX0_win_81 (kVM (fun s4 hS_s4 hF_s4 q35 => ?_))
    refine j_aload hx 1 dX0_win_84 rfl ?_
    have f36 := zf hS_s4 q2 (k := 1) rfl
    refine gN7_1 hx hG q2 kf_RX0_43 rfl dX0_win_86 ?_
    refine j_iload hx 2 dX0_win_89 rfl ?_
    refine j_isub hx (r := (s4 r1 1) - (s0 r1 1)) dX0_win_91 (by omega) ?_
    exact j_iret hx hq rfl (by decide) (by decide) dX0_win_92 ⟨(s4 r1 1) - (s0 r1 1), rfl, rfl, hS_s4, (zFr_t (zFr_t (zFr_t zFr_rf hF_s1 (by decide)) hF_s2 (by decide)) hF_s4 (by decide)), (by omega)⟩
  refine j_icmp_eq hx 75 dX0_win_55 rfl (by omega) ⟨by decide, by decide⟩ (fun h37 => ?_) (fun h37 => ?_)
  · skip
    exact j_sub [3, 2, 1] [(0, .ref a), (4, .ref r1), (5, .int (zI ((s0 r1 1))))] rfl (c75_3  )
  · skip
    refine j_iload_n hx 6 dX0_win_58 rfl ?_
    refine j_iconst hx dX0_win_59 ?_
    refine j_icmp_ne hx 84 dX0_win_60 rfl (by omega) ⟨by decide, by decide⟩ (fun h38 => ?_) (fun h38 => ?_)
    · skip
      refine j_aload hx 2 dX0_win_84 rfl ?_
      have f39 := zf hS_s2 q2 (k := 1) rfl
      refine gN7_1 hx hG q2 kf_RX0_43 rfl dX0_win_86 ?_
      refine j_iload hx 1 dX0_win_89 rfl ?_
      refine j_isub hx (r := (s2 r1 1) - (s0 r1 1)) dX0_win_91 (by omega) ?_
      exact j_iret hx hq rfl (by decide) (by decide) dX0_win_92 ⟨(s2 r1 1) - (s0 r1 1), rfl, rfl, hS_s2, (zFr_t (zFr_t zFr_rf hF_s1 (by decide)) hF_s2 (by decide)), (by omega)⟩
    · skip
      refine j_aload_n hx 3 dX0_win_63 rfl ?_
      refine g1_6 hx hG ha kf_RX0_33 dX0_win_64 ?_
      refine j_callV hx hG (c_X6_topKind hst (gP G a 6)) lk_RX0_75 (zr (k := 6) (t2 := 7) hG ha rfl) (by decide) rfl rfl rfl rfl [] ⟨rfl, hG, hS_s2, (zr (k := 6) (t2 := 7) hG ha rfl)⟩ rfl rfl ⟨by decide, by decide⟩ ⟨by decide, by decide⟩ (k2 := 0) (n2 := 0) rfl rfl (Nat.le_of_ble_eq_true rfl) dX0_win_67 (kIP (fun v40 q41 => ?_))
      refine j_iload hx 0 dX0_win_70 rfl ?_
      refine j_icmp_ne hx 84 dX0_win_72 rfl (by omega) (by omega) (fun h42 => ?_) (fun h42 => ?_)
      · skip
        refine j_aload hx 2 dX0_win_84 rfl ?_
        have f43 := zf hS_s2 q2 (k := 1) rfl
        refine gN7_1 hx hG q2 kf_RX0_43 rfl dX0_win_86 ?_
        refine j_iload hx 1 dX0_win_89 rfl ?_
        refine j_isub hx (r := (s2 r1 1) - (s0 r1 1)) dX0_win_91 (by omega) ?_
        exact j_iret hx hq rfl (by decide) (by decide) dX0_win_92 ⟨(s2 r1 1) - (s0 r1 1), rfl, rfl, hS_s2, (zFr_t (zFr_t zFr_rf hF_s1 (by decide)) hF_s2 (by decide)), (by omega)⟩
      · skip
        exact j_sub [3, 2, 1] [(0, .ref a), (4, .ref r1), (5, .int (zI ((s0 r1 1))))] rfl (c75_3  )

set_option maxHeartbeats 4000000 in
set_option maxRecDepth 20000 in
theorem c_X3_kindOfWin {E : zE} {l : Launch} (hst : l.stackTraces = false) (a : Nat) (x1 : Int) (x2 : Int) (x3 : Int) : Con E l yX3_kindOfWin cX3_kindOfWin 4 (some .int) { frames := 1, cells := 0, slots := 0, locals := 23 } (fun G s vs => vs = [.ref a, .int (zI x1), .int (zI x2), .int (zI x3)] ∧ zGK G ∧ zSK G s ∧ (gT G a = 4) ∧ ((-2147483648) ≤ x1 ∧ x1 ≤ 2147483647) ∧ ((-2147483648) ≤ x2 ∧ x2 ≤ 2147483647) ∧ ((-2147483648) ≤ x3 ∧ x3 ≤ 2147483647)) (fun G s _ => pI (fun r G2 s2 => G2 = G ∧ s2 = s ∧ ((-2147483648) ≤ r ∧ r ≤ 2147483647))) := by
  refine Con.mk hst (by decide) (fun G s vs h => by rw [h.1]; exact Nat.le_of_ble_eq_true rfl) ?_
  rintro X G s0 vs ⟨rfl, hG, hS0, ha, hx1, hx2, hx3⟩ rfl hx hq
  show JJ X E 4 G s0 0 0 [(0, .ref a), (1, .int (zI x1)), (2, .int (zI x2)), (3, .int (zI x3))] 0 []
  refine j_iload_n hx 2 dX3_kindOfWin_0 rfl ?_
  refine j_iconst hx dX3_kindOfWin_1 ?_
  refine j_icmp_eq hx 7 dX3_kindOfWin_2 rfl (by omega) ⟨by decide, by decide⟩ (fun h1 => ?_) (fun h1 => ?_)
  · skip
    refine j_iload_n hx 3 dX3_kindOfWin_7 rfl ?_
    refine j_iconst hx dX3_kindOfWin_8 ?_
    refine j_iand hx dX3_kindOfWin_9 (by omega) ⟨by decide, by decide⟩ (fun v2 f3 f4 f5 f6 _ => ?_)
    refine j_iconst hx dX3_kindOfWin_10 ?_
    refine j_icmp_ne hx 31 dX3_kindOfWin_11 rfl (by omega) ⟨by decide, by decide⟩ (fun h8 => ?_) (fun h8 => ?_)
    · skip
      refine j_iconst hx dX3_kindOfWin_31 ?_
      exact j_iret hx hq rfl (by decide) (by decide) dX3_kindOfWin_32 ⟨1, rfl, rfl, rfl, (by omega)⟩
    · skip
      refine j_aload_n hx 0 dX3_kindOfWin_14 rfl ?_
      refine g4_0 hx hG ha kf_RX3_41 dX3_kindOfWin_15 ?_
      refine j_iload_n hx 1 dX3_kindOfWin_18 rfl ?_
      refine j_iconst hx dX3_kindOfWin_19 ?_
      refine j_callV hx hG (c_X8_trait hst (gP G a 0) x1 1) lk_RX3_113 (zr (k := 0) (t2 := 9) hG ha rfl) (by decide) rfl rfl rfl rfl [.int (zI x1), .int (zI 1)] ⟨rfl, hG, hS0, (zr (k := 0) (t2 := 9) hG ha rfl), (by omega), (by omega)⟩ rfl rfl ⟨by decide, by decide⟩ ⟨by decide, by decide⟩ (k2 := 0) (n2 := 0) rfl rfl (Nat.le_of_ble_eq_true rfl) dX3_kindOfWin_20 (kIP (fun v9 q10 => ?_))
      refine j_iconst hx dX3_kindOfWin_23 ?_
      refine j_icmp_lt hx 31 dX3_kindOfWin_24 rfl (by omega) ⟨by decide, by decide⟩ (fun h11 => ?_) (fun h11 => ?_)
      · skip
        refine j_iconst hx dX3_kindOfWin_31 ?_
        exact j_iret hx hq rfl (by decide) (by decide) dX3_kindOfWin_32 ⟨1, rfl, rfl, rfl, (by omega)⟩
      · skip
        refine j_iconst hx dX3_kindOfWin_27 ?_
        refine j_goto hx 32 dX3_kindOfWin_28 rfl ?_
        exact j_iret hx hq rfl (by decide) (by decide) dX3_kindOfWin_32 ⟨2, rfl, rfl, rfl, (by omega)⟩
  · skip
    refine j_iconst hx dX3_kindOfWin_5 ?_
    exact j_iret hx hq rfl (by decide) (by decide) dX3_kindOfWin_6 ⟨0, rfl, rfl, rfl, (by omega)⟩

set_option maxHeartbeats 4000000 in
set_option maxRecDepth 20000 in
theorem c_X6_takeLast {E : zE} {l : Launch} (hst : l.stackTraces = false) (a : Nat) : Con E l yX6_takeLast cX6_takeLast 1 (some .int) { frames := 0, cells := 0, slots := 0, locals := 0 } (fun G s vs => vs = [.ref a] ∧ zGK G ∧ zSK G s ∧ (gT G a = 7)) (fun G s _ => pI (fun r G2 s2 => G2 = G ∧ zSK G s2 ∧ zFr [7] G s s2 ∧ ((-2147483648) ≤ r ∧ r ≤ 2147483647))) := by
  refine Con.mk hst (by decide) (fun G s vs h => by rw [h.1]; exact Nat.le_of_ble_eq_true rfl) ?_
  rintro X G s0 vs ⟨rfl, hG, hS0, ha⟩ rfl hx hq
  show JJ X E 1 G s0 0 0 [(0, .ref a)] 0 []
  refine j_aload_n hx 0 dX6_takeLast_0 rfl ?_
  have f1 := zf hS0 ha (k := 1) rfl
  refine g7_1 hx hG ha kf_RX6_15 rfl dX6_takeLast_1 ?_
  refine j_if_le hx 19 dX6_takeLast_4 rfl (by omega) (fun h2 => ?_) (fun h2 => ?_)
  · skip
    refine j_iconst hx dX6_takeLast_19 ?_
    exact j_iret hx hq rfl (by decide) (by decide) dX6_takeLast_20 ⟨(-1), rfl, rfl, hS0, zFr_rf, (by omega)⟩
  · skip
    refine j_aload_n hx 0 dX6_takeLast_7 rfl ?_
    refine g7_1 hx hG ha kf_RX6_15 rfl dX6_takeLast_8 ?_
    refine j_aload_n hx 0 dX6_takeLast_11 rfl ?_
    refine g7_0 hx hG ha kf_RX6_9 dX6_takeLast_12 ?_
    refine j_alen hx hG (zr (k := 0) (t2 := 41) hG ha rfl) (by decide) (by decide) (zlen hG (zr (k := 0) (t2 := 41) hG ha rfl) (n := 60) rfl rfl) dX6_takeLast_15 ?_
    refine j_icmp_le hx 21 dX6_takeLast_16 rfl (by omega) ⟨by decide, by decide⟩ (fun h3 => ?_) (fun h3 => absurd h3 (by omega))
    refine j_aload_n hx 0 dX6_takeLast_21 rfl ?_
    refine j_dup hx dX6_takeLast_22 rfl ?_
    refine g7_1 hx hG ha kf_RX6_15 rfl dX6_takeLast_23 ?_
    refine j_iconst hx dX6_takeLast_26 ?_
    refine j_isub hx (r := (s0 a 1) - 1) dX6_takeLast_27 (by omega) ?_
    refine p7_1 hx hG ha kf_RX6_15 dX6_takeLast_28 ?_
    obtain ⟨s1, e_s1⟩ : ∃ z, z = zU s0 a 1 ((s0 a 1) - 1) := ⟨_, rfl⟩
    rw [← e_s1]
    have hS_s1 : zSK G s1 := by rw [e_s1]; exact zSK_F hS0 ha rfl rfl rfl (by omega)
    refine j_aload_n hx 0 dX6_takeLast_31 rfl ?_
    refine g7_0 hx hG ha kf_RX6_9 dX6_takeLast_32 ?_
    refine j_aload_n hx 0 dX6_takeLast_35 rfl ?_
    refine g7_1 hx hG ha kf_RX6_15 (v := (s0 a 1) - 1) (by rw [e_s1, zU_eq]) dX6_takeLast_36 ?_
    have f4 := zaI (j := ((s0 a 1) - 1).toNat) hS0 (zr (k := 0) (t2 := 41) hG ha rfl) rfl (zlen hG (zr (k := 0) (t2 := 41) hG ha rfl) (n := 60) rfl rfl) (show 0 ≤ (s0 a 1) - 1 by omega) (by omega) rfl
    refine j_iald hx hG (zr (k := 0) (t2 := 41) hG ha rfl) (by decide) rfl (zlen hG (zr (k := 0) (t2 := 41) hG ha rfl) (n := 60) rfl rfl) (by omega) (by omega) (j := ((s0 a 1) - 1).toNat) rfl (v := (s0 (gP G a 0) ((s0 a 1) - 1).toNat)) (by rw [e_s1, zU_at (Or.inl (zne ha (zr (k := 0) (t2 := 41) hG ha rfl) (by decide)))]) dX6_takeLast_39 ?_
    exact j_iret hx hq rfl (by decide) (by decide) dX6_takeLast_40 ⟨(s0 (gP G a 0) ((s0 a 1) - 1).toNat), rfl, rfl, hS_s1, (zFr_u zFr_rf e_s1 ha (by decide)), (by omega)⟩

theorem lk_RX3_202 : LkV RX3 202 RX6 yX6_takeLast cX6_takeLast 1 (some .int) 0 := ⟨km_RX3_202, ki_yX6_takeLast, ks_RX6_yX6_takeLast, kn_RX6, kc_yX6_takeLast, rfl, by decide +kernel, by decide +kernel, by decide +kernel⟩
theorem lk_RX3_205 : LkV RX3 205 RX6 yX6_put cX6_put 2 none 1 := ⟨km_RX3_205, ki_yX6_put, ks_RX6_yX6_put, kn_RX6, kc_yX6_put, rfl, by decide +kernel, by decide +kernel, by decide +kernel⟩
theorem lk_RX3_199 : LkV RX3 199 RX6 yX6_takeFirst cX6_takeFirst 3 (some .int) 0 := ⟨km_RX3_199, ki_yX6_takeFirst, ks_RX6_yX6_takeFirst, kn_RX6, kc_yX6_takeFirst, rfl, by decide +kernel, by decide +kernel, by decide +kernel⟩
theorem lk_RX3_139 : LkV RX3 139 RX0 yX0_following cX0_following 2 (some .int) 1 := ⟨km_RX3_139, ki_yX0_following, ks_RX0_yX0_following, kn_RX0, kc_yX0_following, rfl, by decide +kernel, by decide +kernel, by decide +kernel⟩
theorem lk_RX3_195 : LkV RX3 195 RX6 yX6_takeAll cX6_takeAll 3 none 1 := ⟨km_RX3_195, ki_yX6_takeAll, ks_RX6_yX6_takeAll, kn_RX6, kc_yX6_takeAll, rfl, by decide +kernel, by decide +kernel, by decide +kernel⟩
set_option maxHeartbeats 4000000 in
set_option maxRecDepth 20000 in
theorem c_X3_payForFalse {E : zE} {l : Launch} (hst : l.stackTraces = false) (a : Nat) (x1 : Int) : Con E l yX3_payForFalse cX3_payForFalse 5 none { frames := 3, cells := 0, slots := 0, locals := 66 } (fun G s vs => vs = [.ref a, .int (zI x1)] ∧ zGK G ∧ zSK G s ∧ (gT G a = 4) ∧ ((-2147483648) ≤ x1 ∧ x1 ≤ 2147483647)) (fun G s _ => pV (fun G2 s2 => G2 = G ∧ zSK G s2 ∧ zFr [7, 41] G s s2 ∧ True)) := by
  refine Con.mk hst (by decide) (fun G s vs h => by rw [h.1]; exact Nat.le_of_ble_eq_true rfl) ?_
  rintro X G s0 vs ⟨rfl, hG, hS0, ha, hx1⟩ rfl hx hq
  show JJ X E 5 G s0 0 0 [(0, .ref a), (1, .int (zI x1))] 0 []
  refine j_aload_n hx 0 dX3_payForFalse_0 rfl ?_
  refine g4_1 hx hG ha kf_RX3_14 dX3_payForFalse_1 ?_
  refine j_iload_n hx 1 dX3_payForFalse_4 rfl ?_
  refine j_callV hx hG (c_X0_rowOf hst (gP G a 1) x1) lk_RX3_87 (zr (k := 1) (t2 := 1) hG ha rfl) (by decide) rfl rfl rfl rfl [.int (zI x1)] ⟨rfl, hG, hS0, (zr (k := 1) (t2 := 1) hG ha rfl), (by omega)⟩ rfl rfl ⟨by decide, by decide⟩ ⟨by decide, by decide⟩ (k2 := 0) (n2 := 0) rfl rfl (Nat.le_of_ble_eq_true rfl) dX3_payForFalse_5 (kRP (fun r1 q2 => ?_))
  refine j_astore_n hx [(2, .ref r1), (0, .ref a), (1, .int (zI x1))] dX3_payForFalse_8 (by decide) rfl ?_
  refine j_aload_n hx 1 dX3_payForFalse_9 rfl ?_
  refine g4_1 hx hG ha kf_RX3_14 dX3_payForFalse_10 ?_
  refine j_iload_n hx 2 dX3_payForFalse_13 rfl ?_
  refine j_callV hx hG (c_X0_heapOf hst (gP G a 1) x1) lk_RX3_107 (zr (k := 1) (t2 := 1) hG ha rfl) (by decide) rfl rfl rfl rfl [.int (zI x1)] ⟨rfl, hG, hS0, (zr (k := 1) (t2 := 1) hG ha rfl), (by omega)⟩ rfl rfl ⟨by decide, by decide⟩ ⟨by decide, by decide⟩ (k2 := 0) (n2 := 0) rfl rfl (Nat.le_of_ble_eq_true rfl) dX3_payForFalse_14 (kRP (fun r3 q4 => ?_))
  refine j_astore_n hx [(3, .ref r3), (2, .ref r1), (0, .ref a), (1, .int (zI x1))] dX3_payForFalse_17 (by decide) rfl ?_
  refine j_aload_n hx 2 dX3_payForFalse_18 rfl ?_
  refine j_iconst hx dX3_payForFalse_19 ?_
  refine j_callV hx hG (c_X3_lawOf hst a 0) lk_RX3_173 ha (by decide) rfl rfl rfl rfl [.int (zI 0)] ⟨rfl, hG, hS0, ha, (by omega)⟩ rfl rfl ⟨by decide, by decide⟩ ⟨by decide, by decide⟩ (k2 := 0) (n2 := 0) rfl rfl (Nat.le_of_ble_eq_true rfl) dX3_payForFalse_20 (kIP (fun v5 q6 => ?_))
  refine j_if_ne hx 58 dX3_payForFalse_23 rfl (by omega) (fun h7 => ?_) (fun h7 => ?_)
  · skip
    refine j_aload_n hx 2 dX3_payForFalse_58 rfl ?_
    refine j_iconst hx dX3_payForFalse_59 ?_
    refine j_callV hx hG (c_X3_lawOf hst a 0) lk_RX3_173 ha (by decide) rfl rfl rfl rfl [.int (zI 0)] ⟨rfl, hG, hS0, ha, (by omega)⟩ rfl rfl ⟨by decide, by decide⟩ ⟨by decide, by decide⟩ (k2 := 0) (n2 := 0) rfl rfl (Nat.le_of_ble_eq_true rfl) dX3_payForFalse_60 (kIP (fun v8 q9 => ?_))
    refine j_iconst hx dX3_payForFalse_63 ?_
    refine j_icmp_ne hx 107 dX3_payForFalse_64 rfl (by omega) ⟨by decide, by decide⟩ (fun h10 => ?_) (fun h10 => ?_)
    · skip
      exact j_vret hx hq rfl (by decide) (by decide) dX3_payForFalse_107 ⟨rfl, rfl, hS0, zFr_rf, trivial⟩
    · skip
      refine j_aload_n hx 1 dX3_payForFalse_67 rfl ?_
      have f11 := zf hS0 q2 (k := 1) rfl
      refine gN7_1 hx hG q2 kf_RX3_116 rfl dX3_payForFalse_68 ?_
      refine j_aload_n hx 0 dX3_payForFalse_71 rfl ?_
      have f12 := zf hS0 q4 (k := 1) rfl
      refine gN7_1 hx hG q4 kf_RX3_116 rfl dX3_payForFalse_72 ?_
      refine j_iadd hx (r := (s0 r1 1) + (s0 r3 1)) dX3_payForFalse_75 (by omega) ?_
      refine j_if_le hx 107 dX3_payForFalse_76 rfl (by omega) (fun h13 => ?_) (fun h13 => ?_)
      · skip
        exact j_vret hx hq rfl (by decide) (by decide) dX3_payForFalse_107 ⟨rfl, rfl, hS0, zFr_rf, trivial⟩
      · skip
        refine j_aload_n hx 2 dX3_payForFalse_79 rfl ?_
        refine g4_1 hx hG ha kf_RX3_14 dX3_payForFalse_80 ?_
        refine gN1_6 hx hG (zr (k := 1) (t2 := 1) hG ha rfl) kf_RX3_119 dX3_payForFalse_83 ?_
        refine j_aload_n hx 1 dX3_payForFalse_86 rfl ?_
        refine gN7_1 hx hG q2 kf_RX3_116 rfl dX3_payForFalse_87 ?_
        refine j_if_le hx 100 dX3_payForFalse_90 rfl (by omega) (fun h14 => ?_) (fun h14 => ?_)
        · skip
          refine j_aload_n hx 0 dX3_payForFalse_100 rfl ?_
          refine j_callV hx hG (c_X6_takeLast hst r3) lk_RX3_202 q4 (by decide) rfl rfl rfl rfl [] ⟨rfl, hG, hS0, q4⟩ rfl rfl ⟨by decide, by decide⟩ ⟨by decide, by decide⟩ (k2 := 0) (n2 := 0) rfl rfl (Nat.le_of_ble_eq_true rfl) dX3_payForFalse_101 (kIM (fun v15 s1 hS_s1 hF_s1 q16 => ?_))
          refine j_callV hx hG (c_X6_put hst (gP G (gP G a 1) 6) v15) lk_RX3_205 (zr (k := 6) (t2 := 7) hG (zr (k := 1) (t2 := 1) hG ha rfl) rfl) (by decide) rfl rfl rfl rfl [.int (zI v15)] ⟨rfl, hG, hS_s1, (zr (k := 6) (t2 := 7) hG (zr (k := 1) (t2 := 1) hG ha rfl) rfl), (by omega)⟩ rfl rfl ⟨by decide, by decide⟩ ⟨by decide, by decide⟩ (k2 := 0) (n2 := 0) rfl rfl (Nat.le_of_ble_eq_true rfl) dX3_payForFalse_104 (kVM (fun s2 hS_s2 hF_s2 q18 => ?_))
          exact j_vret hx hq rfl (by decide) (by decide) dX3_payForFalse_107 ⟨rfl, rfl, hS_s2, (zFr_t (zFr_t zFr_rf hF_s1 (by decide)) hF_s2 (by decide)), trivial⟩
        · skip
          refine j_aload_n hx 1 dX3_payForFalse_93 rfl ?_
          refine j_callV hx hG (c_X6_takeFirst hst r1) lk_RX3_199 q2 (by decide) rfl rfl rfl rfl [] ⟨rfl, hG, hS0, q2⟩ rfl rfl ⟨by decide, by decide⟩ ⟨by decide, by decide⟩ (k2 := 0) (n2 := 0) rfl rfl (Nat.le_of_ble_eq_true rfl) dX3_payForFalse_94 (kIM (fun v19 s3 hS_s3 hF_s3 q20 => ?_))
          refine j_goto hx 104 dX3_payForFalse_97 rfl ?_
          refine j_callV hx hG (c_X6_put hst (gP G (gP G a 1) 6) v19) lk_RX3_205 (zr (k := 6) (t2 := 7) hG (zr (k := 1) (t2 := 1) hG ha rfl) rfl) (by decide) rfl rfl rfl rfl [.int (zI v19)] ⟨rfl, hG, hS_s3, (zr (k := 6) (t2 := 7) hG (zr (k := 1) (t2 := 1) hG ha rfl) rfl), (by omega)⟩ rfl rfl ⟨by decide, by decide⟩ ⟨by decide, by decide⟩ (k2 := 0) (n2 := 0) rfl rfl (Nat.le_of_ble_eq_true rfl) dX3_payForFalse_104 (kVM (fun s4 hS_s4 hF_s4 q22 => ?_))
          exact j_vret hx hq rfl (by decide) (by decide) dX3_payForFalse_107 ⟨rfl, rfl, hS_s4, (zFr_t (zFr_t zFr_rf hF_s3 (by decide)) hF_s4 (by decide)), trivial⟩
  · skip
    refine j_aload_n hx 2 dX3_payForFalse_26 rfl ?_
    refine g4_1 hx hG ha kf_RX3_14 dX3_payForFalse_27 ?_
    refine j_iload_n hx 3 dX3_payForFalse_30 rfl ?_
    refine j_callV hx hG (c_X0_following hst (gP G a 1) x1) lk_RX3_139 (zr (k := 1) (t2 := 1) hG ha rfl) (by decide) rfl rfl rfl rfl [.int (zI x1)] ⟨rfl, hG, hS0, (zr (k := 1) (t2 := 1) hG ha rfl), (by omega)⟩ rfl rfl ⟨by decide, by decide⟩ ⟨by decide, by decide⟩ (k2 := 0) (n2 := 0) rfl rfl (Nat.le_of_ble_eq_true rfl) dX3_payForFalse_31 (kIP (fun v23 q24 => ?_))
    refine j_istore hx [(4, .int (zI v23)), (3, .ref r3), (2, .ref r1), (0, .ref a), (1, .int (zI x1))] dX3_payForFalse_34 (by decide) rfl ?_
    refine j_iload hx 0 dX3_payForFalse_36 rfl ?_
    refine j_iconst hx dX3_payForFalse_38 ?_
    refine j_icmp_eq hx 55 dX3_payForFalse_39 rfl (by omega) ⟨by decide, by decide⟩ (fun h25 => ?_) (fun h25 => ?_)
    · skip
      refine j_goto hx 107 dX3_payForFalse_55 rfl ?_
      exact j_vret hx hq rfl (by decide) (by decide) dX3_payForFalse_107 ⟨rfl, rfl, hS0, zFr_rf, trivial⟩
    · skip
      refine j_aload_n hx 3 dX3_payForFalse_42 rfl ?_
      refine g4_1 hx hG ha kf_RX3_14 dX3_payForFalse_43 ?_
      refine j_iload hx 0 dX3_payForFalse_46 rfl ?_
      refine j_callV hx hG (c_X0_rowOf hst (gP G a 1) v23) lk_RX3_87 (zr (k := 1) (t2 := 1) hG ha rfl) (by decide) rfl rfl rfl rfl [.int (zI v23)] ⟨rfl, hG, hS0, (zr (k := 1) (t2 := 1) hG ha rfl), (by omega)⟩ rfl rfl ⟨by decide, by decide⟩ ⟨by decide, by decide⟩ (k2 := 0) (n2 := 0) rfl rfl (Nat.le_of_ble_eq_true rfl) dX3_payForFalse_48 (kRP (fun r26 q27 => ?_))
      refine j_aload_n hx 1 dX3_payForFalse_51 rfl ?_
      refine j_callV hx hG (c_X6_takeAll hst r26 r3) lk_RX3_195 q27 (by decide) rfl rfl rfl rfl [.ref r3] ⟨rfl, hG, hS0, q27, q4⟩ rfl rfl ⟨by decide, by decide⟩ ⟨by decide, by decide⟩ (k2 := 0) (n2 := 0) rfl rfl (Nat.le_of_ble_eq_true rfl) dX3_payForFalse_52 (kVM (fun s5 hS_s5 hF_s5 q29 => ?_))
      refine j_goto hx 107 dX3_payForFalse_55 rfl ?_
      exact j_vret hx hq rfl (by decide) (by decide) dX3_payForFalse_107 ⟨rfl, rfl, hS_s5, (zFr_t zFr_rf hF_s5 (by decide)), trivial⟩

set_option maxHeartbeats 4000000 in
set_option maxRecDepth 20000 in
theorem c_X3_setLast {E : zE} {l : Launch} (hst : l.stackTraces = false) (a : Nat) (x1 : Int) (x2 : Int) : Con E l yX3_setLast cX3_setLast 3 none { frames := 0, cells := 0, slots := 0, locals := 0 } (fun G s vs => vs = [.ref a, .int (zI x1), .int (zI x2)] ∧ zGK G ∧ zSK G s ∧ (gT G a = 4) ∧ ((-2147483648) ≤ x1 ∧ x1 ≤ 2147483647) ∧ ((-2147483648) ≤ x2 ∧ x2 ≤ 2147483647)) (fun G s _ => pV (fun G2 s2 => G2 = G ∧ zSK G s2 ∧ zFr [51] G s s2 ∧ True)) := by
  refine Con.mk hst (by decide) (fun G s vs h => by rw [h.1]; exact Nat.le_of_ble_eq_true rfl) ?_
  rintro X G s0 vs ⟨rfl, hG, hS0, ha, hx1, hx2⟩ rfl hx hq
  show JJ X E 3 G s0 0 0 [(0, .ref a), (1, .int (zI x1)), (2, .int (zI x2))] 0 []
  refine j_iload_n hx 1 dX3_setLast_0 rfl ?_
  refine j_if_lt hx 20 dX3_setLast_1 rfl (by omega) (fun h1 => ?_) (fun h1 => ?_)
  · skip
    exact j_vret hx hq rfl (by decide) (by decide) dX3_setLast_20 ⟨rfl, rfl, hS0, zFr_rf, trivial⟩
  · skip
    refine j_iload_n hx 1 dX3_setLast_4 rfl ?_
    refine j_aload_n hx 0 dX3_setLast_5 rfl ?_
    refine g4_5 hx hG ha kf_RX3_31 dX3_setLast_6 ?_
    refine j_alen hx hG (zr (k := 5) (t2 := 51) hG ha rfl) (by decide) (by decide) (zlen hG (zr (k := 5) (t2 := 51) hG ha rfl) (n := 5) rfl rfl) dX3_setLast_9 ?_
    refine j_icmp_ge hx 20 dX3_setLast_10 rfl (by omega) ⟨by decide, by decide⟩ (fun h2 => ?_) (fun h2 => ?_)
    · skip
      exact j_vret hx hq rfl (by decide) (by decide) dX3_setLast_20 ⟨rfl, rfl, hS0, zFr_rf, trivial⟩
    · skip
      refine j_aload_n hx 0 dX3_setLast_13 rfl ?_
      refine g4_5 hx hG ha kf_RX3_31 dX3_setLast_14 ?_
      refine j_iload_n hx 1 dX3_setLast_17 rfl ?_
      refine j_iload_n hx 2 dX3_setLast_18 rfl ?_
      refine j_iast hx hG (zr (k := 5) (t2 := 51) hG ha rfl) (by decide) rfl (zlen hG (zr (k := 5) (t2 := 51) hG ha rfl) (n := 5) rfl rfl) (by omega) (by omega) (j := (x1).toNat) rfl dX3_setLast_19 ?_
      obtain ⟨s1, e_s1⟩ : ∃ z, z = zU s0 (gP G a 5) (x1).toNat x2 := ⟨_, rfl⟩
      rw [← e_s1]
      have hS_s1 : zSK G s1 := by rw [e_s1]; exact zSK_A hS0 (zr (k := 5) (t2 := 51) hG ha rfl) rfl rfl rfl (by omega)
      exact j_vret hx hq rfl (by decide) (by decide) dX3_setLast_20 ⟨rfl, rfl, hS_s1, (zFr_u zFr_rf e_s1 (zr (k := 5) (t2 := 51) hG ha rfl) (by decide)), trivial⟩

theorem lk_RX3_189 : LkV RX3 189 RX3 yX3_setLast cX3_setLast 3 none 2 := ⟨km_RX3_189, ki_yX3_setLast, ks_RX3_yX3_setLast, kn_RX3, kc_yX3_setLast, rfl, by decide +kernel, by decide +kernel, by decide +kernel⟩
theorem lk_RX3_186 : LkV RX3 186 RX3 yX3_payForFalse cX3_payForFalse 5 none 1 := ⟨km_RX3_186, ki_yX3_payForFalse, ks_RX3_yX3_payForFalse, kn_RX3, kc_yX3_payForFalse, rfl, by decide +kernel, by decide +kernel, by decide +kernel⟩
theorem lk_RX3_179 : LkV RX3 179 RX0 yX0_win cX0_win 7 (some .int) 3 := ⟨km_RX3_179, ki_yX0_win, ks_RX0_yX0_win, kn_RX0, kc_yX0_win, rfl, by decide +kernel, by decide +kernel, by decide +kernel⟩
theorem lk_RX3_183 : LkV RX3 183 RX3 yX3_kindOfWin cX3_kindOfWin 4 (some .int) 3 := ⟨km_RX3_183, ki_yX3_kindOfWin, ks_RX3_yX3_kindOfWin, kn_RX3, kc_yX3_kindOfWin, rfl, by decide +kernel, by decide +kernel, by decide +kernel⟩
theorem lk_RX3_176 : LkV RX3 176 RX3 yX3_fallTogether cX3_fallTogether 3 none 1 := ⟨km_RX3_176, ki_yX3_fallTogether, ks_RX3_yX3_fallTogether, kn_RX3, kc_yX3_fallTogether, rfl, by decide +kernel, by decide +kernel, by decide +kernel⟩
set_option maxHeartbeats 4000000 in
set_option maxRecDepth 20000 in
theorem c_X3_judge {E : zE} {l : Launch} (hst : l.stackTraces = false) (a : Nat) (x1 : Int) : Con E l yX3_judge cX3_judge 8 none { frames := 4, cells := 0, slots := 0, locals := 90 } (fun G s vs => vs = [.ref a, .int (zI x1)] ∧ zGK G ∧ zSK G s ∧ (gT G a = 4) ∧ ((-2147483648) ≤ x1 ∧ x1 ≤ 2147483647)) (fun G s _ => pV (fun G2 s2 => G2 = G ∧ zSK G s2 ∧ zFr [4, 7, 41, 50, 51] G s s2 ∧ True)) := by
  refine Con.mk hst (by decide) (fun G s vs h => by rw [h.1]; exact Nat.le_of_ble_eq_true rfl) ?_
  rintro X G s0 vs ⟨rfl, hG, hS0, ha, hx1⟩ rfl hx hq
  show JJ X E 8 G s0 0 0 [(0, .ref a), (1, .int (zI x1))] 0 []
  refine j_bipush hx dX3_judge_0 rfl ?_
  refine j_istore_n hx [(2, .int (zI 99)), (0, .ref a), (1, .int (zI x1))] dX3_judge_2 (by decide) rfl ?_
  refine j_iconst hx dX3_judge_3 ?_
  refine j_istore_n hx [(3, .int (zI 0)), (2, .int (zI 99)), (0, .ref a), (1, .int (zI x1))] dX3_judge_4 (by decide) rfl ?_
  refine j_iconst hx dX3_judge_5 ?_
  refine j_istore hx [(4, .int (zI 0)), (3, .int (zI 0)), (2, .int (zI 99)), (0, .ref a), (1, .int (zI x1))] dX3_judge_6 (by decide) rfl ?_
  refine j_iconst hx dX3_judge_8 ?_
  refine j_istore hx [(5, .int (zI (-1))), (4, .int (zI 0)), (3, .int (zI 0)), (2, .int (zI 99)), (0, .ref a), (1, .int (zI x1))] dX3_judge_9 (by decide) rfl ?_
  refine j_iconst hx dX3_judge_11 ?_
  refine j_istore hx [(6, .int (zI 0)), (5, .int (zI (-1))), (4, .int (zI 0)), (3, .int (zI 0)), (2, .int (zI 99)), (0, .ref a), (1, .int (zI x1))] dX3_judge_12 (by decide) rfl ?_
  have c14_1 : ∀ (m_c14_1 : Nat) (v1 : Int) (v2 : Int) (v3 : Int) (v4 : Int) (v5 : Int), 2147483648 - v5 < m_c14_1 → ((-2147483648) ≤ v1 ∧ v1 ≤ 99) → ((-2147483648) ≤ v2 ∧ v2 ≤ 2147483647) → ((-2147483648) ≤ v3 ∧ v3 ≤ 2147483647) → ((-1) ≤ v4 ∧ v4 ≤ 2) → (0 ≤ v5 ∧ v5 ≤ 3) → JJ X E 8 G s0 0 0 [(0, .ref a), (1, .int (zI x1)), (2, .int (zI v1)), (3, .int (zI v2)), (4, .int (zI v3)), (5, .int (zI v4)), (6, .int (zI v5))] 14 [] := by
    intro m_c14_1
    induction m_c14_1 with
    | zero => intro v1 v2 v3 v4 v5 hm_c14_1 fA2 fA3 fA4 fA5 fA6; exfalso; omega
    | succ m_c14_1 ih_c14_1 => 
      intro v1 v2 v3 v4 v5 hm_c14_1 fA2 fA3 fA4 fA5 fA6
      refine j_iload hx 6 dX3_judge_14 rfl ?_
      refine j_aload_n hx 0 dX3_judge_16 rfl ?_
      refine g4_0 hx hG ha kf_RX3_41 dX3_judge_17 ?_
      have f6 := zf hS0 (zr (k := 0) (t2 := 9) hG ha rfl) (k := 4) rfl
      refine gN9_4 hx hG (zr (k := 0) (t2 := 9) hG ha rfl) kf_RX3_148 rfl dX3_judge_20 ?_
      refine j_icmp_ge hx 86 dX3_judge_23 rfl (by omega) (by omega) (fun h7 => ?_) (fun h7 => ?_)
      · skip
        refine j_iload hx 5 dX3_judge_86 rfl ?_
        refine j_iconst hx dX3_judge_88 ?_
        have c113_7 : ∀ (v8 : Int) (s8 : zS), ((-1) ≤ v8 ∧ v8 ≤ 2) → (zSK G s8) → (zFr [7, 41, 50] G s0 s8) → JJ X E 8 G s8 0 0 [(0, .ref a), (1, .int (zI x1)), (2, .int (zI v1)), (4, .int (zI v3)), (5, .int (zI v8))] 113 [] := by
          intro v8 s8 fA9 hS_s8 hF_s8
          refine j_iload hx 4 dX3_judge_113 rfl ?_
          refine j_iconst hx dX3_judge_115 ?_
          have c132_12 : ∀ (v9 : Int), (0 ≤ v9 ∧ v9 ≤ 1) → JJ X E 8 G s8 0 0 [(0, .ref a), (1, .int (zI x1)), (2, .int (zI v1)), (4, .int (zI v3)), (5, .int (zI v8))] 132 [.int (zI v9)] := by
            intro v9 fA13
            refine j_istore hx [(6, .int (zI v9)), (0, .ref a), (1, .int (zI x1)), (2, .int (zI v1)), (4, .int (zI v3)), (5, .int (zI v8))] dX3_judge_132 (by decide) rfl ?_
            refine j_iconst hx dX3_judge_134 ?_
            refine j_istore hx [(7, .int (zI 0)), (6, .int (zI v9)), (0, .ref a), (1, .int (zI x1)), (2, .int (zI v1)), (4, .int (zI v3)), (5, .int (zI v8))] dX3_judge_135 (by decide) rfl ?_
            refine j_iload hx 1 dX3_judge_137 rfl ?_
            have c219_14 : ∀ (v10 : Int) (s15 : zS), ((-2147483648) ≤ v10 ∧ v10 ≤ 2147483647) → (zSK G s15) → (zFr [7, 41, 50] G s8 s15) → JJ X E 8 G s15 0 0 [(0, .ref a), (2, .int (zI v1)), (4, .int (zI v3)), (5, .int (zI v8)), (6, .int (zI v9)), (7, .int (zI v10))] 219 [] := by
              intro v10 s15 fA16 hS_s15 hF_s15
              refine j_aload_n hx 0 dX3_judge_219 rfl ?_
              refine j_iconst hx dX3_judge_220 ?_
              refine p4_7 hx hG ha kf_RX3_61 (by omega) dX3_judge_221 ?_
              obtain ⟨s19, e_s19⟩ : ∃ z, z = zU s15 a 7 1 := ⟨_, rfl⟩
              rw [← e_s19]
              have hS_s19 : zSK G s19 := by rw [e_s19]; exact zSK_F hS_s15 ha rfl rfl rfl (by omega)
              refine j_aload_n hx 0 dX3_judge_224 rfl ?_
              refine j_iconst hx dX3_judge_225 ?_
              refine j_iload hx 4 dX3_judge_226 rfl ?_
              have c237_20 : ∀ (v11 : Int), ((-1) ≤ v11 ∧ v11 ≤ 2) → JJ X E 8 G s19 0 0 [(0, .ref a), (2, .int (zI v1)), (4, .int (zI v3)), (5, .int (zI v8)), (7, .int (zI v10))] 237 [.int (zI v11), .int (zI 0), .ref a] := by
                intro v11 fA21
                refine j_callV hx hG (c_X3_setLast hst a 0 v11) lk_RX3_189 ha (by decide) rfl rfl rfl rfl [.int (zI 0), .int (zI v11)] ⟨rfl, hG, hS_s19, ha, (by omega), (by omega)⟩ rfl rfl ⟨by decide, by decide⟩ ⟨by decide, by decide⟩ (k2 := 0) (n2 := 0) rfl rfl (Nat.le_of_ble_eq_true rfl) dX3_judge_237 (kVM (fun s22 hS_s22 hF_s22 q13 => ?_))
                refine j_aload_n hx 0 dX3_judge_240 rfl ?_
                refine j_iconst hx dX3_judge_241 ?_
                refine j_iload hx 3 dX3_judge_242 rfl ?_
                refine j_callV hx hG (c_X3_setLast hst a 1 v8) lk_RX3_189 ha (by decide) rfl rfl rfl rfl [.int (zI 1), .int (zI v8)] ⟨rfl, hG, hS_s22, ha, (by omega), (by omega)⟩ rfl rfl ⟨by decide, by decide⟩ ⟨by decide, by decide⟩ (k2 := 0) (n2 := 0) rfl rfl (Nat.le_of_ble_eq_true rfl) dX3_judge_244 (kVM (fun s23 hS_s23 hF_s23 q15 => ?_))
                refine j_aload_n hx 0 dX3_judge_247 rfl ?_
                refine j_iconst hx dX3_judge_248 ?_
                refine j_iload hx 3 dX3_judge_249 rfl ?_
                refine j_iconst hx dX3_judge_251 ?_
                have c260_24 : ∀ (v16 : Int), ((-2147483648) ≤ v16 ∧ v16 ≤ 99) → JJ X E 8 G s23 0 0 [(0, .ref a), (4, .int (zI v3)), (7, .int (zI v10))] 260 [.int (zI v16), .int (zI 2), .ref a] := by
                  intro v16 fA25
                  refine j_callV hx hG (c_X3_setLast hst a 2 v16) lk_RX3_189 ha (by decide) rfl rfl rfl rfl [.int (zI 2), .int (zI v16)] ⟨rfl, hG, hS_s23, ha, (by omega), (by omega)⟩ rfl rfl ⟨by decide, by decide⟩ ⟨by decide, by decide⟩ (k2 := 0) (n2 := 0) rfl rfl (Nat.le_of_ble_eq_true rfl) dX3_judge_260 (kVM (fun s26 hS_s26 hF_s26 q18 => ?_))
                  refine j_aload_n hx 0 dX3_judge_263 rfl ?_
                  refine j_iconst hx dX3_judge_264 ?_
                  refine j_iload hx 1 dX3_judge_265 rfl ?_
                  refine j_callV hx hG (c_X3_setLast hst a 3 v3) lk_RX3_189 ha (by decide) rfl rfl rfl rfl [.int (zI 3), .int (zI v3)] ⟨rfl, hG, hS_s26, ha, (by omega), (by omega)⟩ rfl rfl ⟨by decide, by decide⟩ ⟨by decide, by decide⟩ (k2 := 0) (n2 := 0) rfl rfl (Nat.le_of_ble_eq_true rfl) dX3_judge_267 (kVM (fun s27 hS_s27 hF_s27 q20 => ?_))
                  refine j_aload_n hx 0 dX3_judge_270 rfl ?_
                  refine j_iconst hx dX3_judge_271 ?_
                  refine j_iload hx 2 dX3_judge_272 rfl ?_
                  refine j_callV hx hG (c_X3_setLast hst a 4 v10) lk_RX3_189 ha (by decide) rfl rfl rfl rfl [.int (zI 4), .int (zI v10)] ⟨rfl, hG, hS_s27, ha, (by omega), (by omega)⟩ rfl rfl ⟨by decide, by decide⟩ ⟨by decide, by decide⟩ (k2 := 0) (n2 := 0) rfl rfl (Nat.le_of_ble_eq_true rfl) dX3_judge_274 (kVM (fun s28 hS_s28 hF_s28 q22 => ?_))
                  exact j_vret hx hq rfl (by decide) (by decide) dX3_judge_277 ⟨rfl, rfl, hS_s28, (zFr_t (zFr_t (zFr_t (zFr_t (zFr_t (zFr_u (zFr_t (zFr_t zFr_rf hF_s8 (by decide)) hF_s15 (by decide)) e_s19 ha (by decide)) hF_s22 (by decide)) hF_s23 (by decide)) hF_s26 (by decide)) hF_s27 (by decide)) hF_s28 (by decide)), trivial⟩
                refine j_icmp_ne hx 259 dX3_judge_252 rfl (by omega) ⟨by decide, by decide⟩ (fun h23 => ?_) (fun h23 => ?_)
                · skip
                  refine j_iload_n hx 1 dX3_judge_259 rfl ?_
                  exact j_sub [0, 2, 4] [(0, .ref a), (4, .int (zI v3)), (7, .int (zI v10))] rfl (c260_24 v1 (by omega))
                · skip
                  refine j_iconst hx dX3_judge_255 ?_
                  refine j_goto hx 260 dX3_judge_256 rfl ?_
                  exact j_sub [0, 2, 4] [(0, .ref a), (4, .int (zI v3)), (7, .int (zI v10))] rfl (c260_24 0 (by omega))
              refine j_if_eq hx 236 dX3_judge_228 rfl (by omega) (fun h24 => ?_) (fun h24 => ?_)
              · skip
                refine j_iconst hx dX3_judge_236 ?_
                exact j_sub [0, 1, 2, 3, 5] [(0, .ref a), (2, .int (zI v1)), (4, .int (zI v3)), (5, .int (zI v8)), (7, .int (zI v10))] rfl (c237_20 (-1) (by omega))
              · skip
                refine j_iload hx 3 dX3_judge_231 rfl ?_
                refine j_goto hx 237 dX3_judge_233 rfl ?_
                exact j_sub [0, 1, 2, 3, 5] [(0, .ref a), (2, .int (zI v1)), (4, .int (zI v3)), (5, .int (zI v8)), (7, .int (zI v10))] rfl (c237_20 v8 (by omega))
            refine j_if_eq hx 195 dX3_judge_139 rfl (by omega) (fun h25 => ?_) (fun h25 => ?_)
            · skip
              refine j_iload hx 6 dX3_judge_195 rfl ?_
              refine j_iconst hx dX3_judge_197 ?_
              refine j_icmp_eq hx 219 dX3_judge_198 rfl (by omega) ⟨by decide, by decide⟩ (fun h26 => ?_) (fun h26 => ?_)
              · skip
                exact j_sub [2, 4, 5, 6, 1, 0] [(0, .ref a), (2, .int (zI v1)), (4, .int (zI v3)), (5, .int (zI v8)), (6, .int (zI v9)), (7, .int (zI 0))] rfl (c219_14 0 s8 (by omega) hS_s8 zFr_rf)
              · skip
                refine j_aload_n hx 2 dX3_judge_201 rfl ?_
                refine j_iload hx 6 dX3_judge_202 rfl ?_
                refine j_bipush hx dX3_judge_204 rfl ?_
                refine j_imul hx (r := 6 * v8) dX3_judge_206 (by omega) ?_
                refine j_iconst hx dX3_judge_207 ?_
                refine j_iadd hx (r := 6 * v8 + 3) dX3_judge_208 (by omega) ?_
                refine j_iconst hx dX3_judge_209 ?_
                refine j_callV hx hG (c_X3_addTally hst a (6 * v8 + 3) 1) lk_RX3_169 ha (by decide) rfl rfl rfl rfl [.int (zI (6 * v8 + 3)), .int (zI 1)] ⟨rfl, hG, hS_s8, ha, (by omega), (by omega)⟩ rfl rfl ⟨by decide, by decide⟩ ⟨by decide, by decide⟩ (k2 := 0) (n2 := 0) rfl rfl (Nat.le_of_ble_eq_true rfl) dX3_judge_210 (kVM (fun s29 hS_s29 hF_s29 q28 => ?_))
                refine j_aload_n hx 2 dX3_judge_213 rfl ?_
                refine j_iload hx 6 dX3_judge_214 rfl ?_
                refine j_callV hx hG (c_X3_payForFalse hst a v8) lk_RX3_186 ha (by decide) rfl rfl rfl rfl [.int (zI v8)] ⟨rfl, hG, hS_s29, ha, (by omega)⟩ rfl rfl ⟨by decide, by decide⟩ ⟨by decide, by decide⟩ (k2 := 0) (n2 := 0) rfl rfl (Nat.le_of_ble_eq_true rfl) dX3_judge_216 (kVM (fun s30 hS_s30 hF_s30 q30 => ?_))
                exact j_sub [2, 4, 5, 6, 1, 0] [(0, .ref a), (2, .int (zI v1)), (4, .int (zI v3)), (5, .int (zI v8)), (6, .int (zI v9)), (7, .int (zI 0))] rfl (c219_14 0 s30 (by omega) hS_s30 (zFr_t (zFr_t zFr_rf hF_s29 (by decide)) hF_s30 (by decide)))
            · skip
              refine j_aload_n hx 2 dX3_judge_142 rfl ?_
              refine g4_1 hx hG ha kf_RX3_14 dX3_judge_143 ?_
              refine j_iload hx 6 dX3_judge_146 rfl ?_
              refine j_aload_n hx 2 dX3_judge_148 rfl ?_
              have f31 := zf hS0 ha (k := 11) rfl
              refine g4_11 hx hG ha kf_RX3_37 (v := (s0 a 11)) (by rw [(zFr_g hF_s8 ha (by decide))]) dX3_judge_149 ?_
              refine j_aload_n hx 2 dX3_judge_152 rfl ?_
              refine j_iconst hx dX3_judge_153 ?_
              refine j_callV hx hG (c_X3_lawOf hst a 2) lk_RX3_173 ha (by decide) rfl rfl rfl rfl [.int (zI 2)] ⟨rfl, hG, hS_s8, ha, (by omega)⟩ rfl rfl ⟨by decide, by decide⟩ ⟨by decide, by decide⟩ (k2 := 0) (n2 := 0) rfl rfl (Nat.le_of_ble_eq_true rfl) dX3_judge_154 (kIP (fun v32 q33 => ?_))
              refine j_callV hx hG (c_X0_win hst (gP G a 1) v8 ((s0 a 11)) v32) lk_RX3_179 (zr (k := 1) (t2 := 1) hG ha rfl) (by decide) rfl rfl rfl rfl [.int (zI v8), .int (zI ((s0 a 11))), .int (zI v32)] ⟨rfl, hG, hS_s8, (zr (k := 1) (t2 := 1) hG ha rfl), (by omega), (by omega), (by omega)⟩ rfl rfl ⟨by decide, by decide⟩ ⟨by decide, by decide⟩ (k2 := 0) (n2 := 0) rfl rfl (Nat.le_of_ble_eq_true rfl) dX3_judge_157 (kIM (fun v34 s31 hS_s31 hF_s31 q35 => ?_))
              refine j_istore hx [(7, .int (zI v34)), (6, .int (zI v9)), (0, .ref a), (1, .int (zI x1)), (2, .int (zI v1)), (4, .int (zI v3)), (5, .int (zI v8))] dX3_judge_160 (by decide) rfl ?_
              refine j_aload_n hx 2 dX3_judge_162 rfl ?_
              refine j_iload hx 6 dX3_judge_163 rfl ?_
              refine j_bipush hx dX3_judge_165 rfl ?_
              refine j_imul hx (r := 6 * v8) dX3_judge_167 (by omega) ?_
              refine j_aload_n hx 2 dX3_judge_168 rfl ?_
              refine j_iload hx 6 dX3_judge_169 rfl ?_
              refine j_iload_n hx 4 dX3_judge_171 rfl ?_
              refine j_iload_n hx 3 dX3_judge_172 rfl ?_
              refine j_callV hx hG (c_X3_kindOfWin hst a v8 v1 x1) lk_RX3_183 ha (by decide) rfl rfl rfl rfl [.int (zI v8), .int (zI v1), .int (zI x1)] ⟨rfl, hG, hS_s31, ha, (by omega), (by omega), (by omega)⟩ rfl rfl ⟨by decide, by decide⟩ ⟨by decide, by decide⟩ (k2 := 0) (n2 := 0) rfl rfl (Nat.le_of_ble_eq_true rfl) dX3_judge_173 (kIP (fun v36 q37 => ?_))
              refine j_iadd hx (r := 6 * v8 + v36) dX3_judge_176 (by omega) ?_
              refine j_norm (fun v38 f39 f40 f41 => ?_)
              refine j_iconst hx dX3_judge_177 ?_
              refine j_callV hx hG (c_X3_addTally hst a v38 1) lk_RX3_169 ha (by decide) rfl rfl rfl rfl [.int (zI v38), .int (zI 1)] ⟨rfl, hG, hS_s31, ha, (by omega), (by omega)⟩ rfl rfl ⟨by decide, by decide⟩ ⟨by decide, by decide⟩ (k2 := 0) (n2 := 0) rfl rfl (Nat.le_of_ble_eq_true rfl) dX3_judge_178 (kVM (fun s32 hS_s32 hF_s32 q43 => ?_))
              refine j_aload_n hx 2 dX3_judge_181 rfl ?_
              refine j_bipush hx dX3_judge_182 rfl ?_
              refine j_iload hx 6 dX3_judge_184 rfl ?_
              refine j_iadd hx (r := v8 + 18) dX3_judge_186 (by omega) ?_
              refine j_iload hx 0 dX3_judge_187 rfl ?_
              refine j_callV hx hG (c_X3_addTally hst a (v8 + 18) v34) lk_RX3_169 ha (by decide) rfl rfl rfl rfl [.int (zI (v8 + 18)), .int (zI v34)] ⟨rfl, hG, hS_s32, ha, (by omega), (by omega)⟩ rfl rfl ⟨by decide, by decide⟩ ⟨by decide, by decide⟩ (k2 := 0) (n2 := 0) rfl rfl (Nat.le_of_ble_eq_true rfl) dX3_judge_189 (kVM (fun s33 hS_s33 hF_s33 q45 => ?_))
              refine j_goto hx 219 dX3_judge_192 rfl ?_
              exact j_sub [2, 4, 5, 6, 1, 0] [(0, .ref a), (2, .int (zI v1)), (4, .int (zI v3)), (5, .int (zI v8)), (6, .int (zI v9)), (7, .int (zI v34))] rfl (c219_14 v34 s33 (by omega) hS_s33 (zFr_t (zFr_t (zFr_t zFr_rf hF_s31 (by decide)) hF_s32 (by decide)) hF_s33 (by decide)))
          have c131_34 : JJ X E 8 G s8 0 0 [(0, .ref a), (1, .int (zI x1)), (2, .int (zI v1)), (4, .int (zI v3)), (5, .int (zI v8))] 131 [] := by
            refine j_iconst hx dX3_judge_131 ?_
            exact j_sub [0, 1, 2, 3, 4] [(0, .ref a), (1, .int (zI x1)), (2, .int (zI v1)), (4, .int (zI v3)), (5, .int (zI v8))] rfl (c132_12 0 (by omega))
          refine j_icmp_eq hx 131 dX3_judge_116 rfl (by omega) ⟨by decide, by decide⟩ (fun h46 => ?_) (fun h46 => ?_)
          · skip
            exact j_sub [0, 1, 2, 3, 4] [(0, .ref a), (1, .int (zI x1)), (2, .int (zI v1)), (4, .int (zI v3)), (5, .int (zI v8))] rfl (c131_34  )
          · skip
            refine j_aload_n hx 0 dX3_judge_119 rfl ?_
            have f47 := zf hS0 ha (k := 11) rfl
            refine g4_11 hx hG ha kf_RX3_37 (v := (s0 a 11)) (by rw [(zFr_g hF_s8 ha (by decide))]) dX3_judge_120 ?_
            refine j_iconst hx dX3_judge_123 ?_
            refine j_icmp_eq hx 131 dX3_judge_124 rfl (by omega) ⟨by decide, by decide⟩ (fun h48 => ?_) (fun h48 => ?_)
            · skip
              exact j_sub [0, 1, 2, 3, 4] [(0, .ref a), (1, .int (zI x1)), (2, .int (zI v1)), (4, .int (zI v3)), (5, .int (zI v8))] rfl (c131_34  )
            · skip
              refine j_iconst hx dX3_judge_127 ?_
              refine j_goto hx 132 dX3_judge_128 rfl ?_
              exact j_sub [0, 1, 2, 3, 4] [(0, .ref a), (1, .int (zI x1)), (2, .int (zI v1)), (4, .int (zI v3)), (5, .int (zI v8))] rfl (c132_12 1 (by omega))
        refine j_icmp_eq hx 113 dX3_judge_89 rfl (by omega) ⟨by decide, by decide⟩ (fun h49 => ?_) (fun h49 => ?_)
        · skip
          exact j_sub [0, 1, 2, 4, 5] [(0, .ref a), (1, .int (zI x1)), (2, .int (zI v1)), (4, .int (zI v3)), (5, .int (zI v4))] rfl (c113_7 v4 s0 (by omega) hS0 zFr_rf)
        · skip
          refine j_iload_n hx 3 dX3_judge_92 rfl ?_
          refine j_iconst hx dX3_judge_93 ?_
          refine j_icmp_le hx 113 dX3_judge_94 rfl (by omega) ⟨by decide, by decide⟩ (fun h50 => ?_) (fun h50 => ?_)
          · skip
            exact j_sub [0, 1, 2, 4, 5] [(0, .ref a), (1, .int (zI x1)), (2, .int (zI v1)), (4, .int (zI v3)), (5, .int (zI v4))] rfl (c113_7 v4 s0 (by omega) hS0 zFr_rf)
          · skip
            refine j_aload_n hx 0 dX3_judge_97 rfl ?_
            refine j_iconst hx dX3_judge_98 ?_
            refine j_callV hx hG (c_X3_lawOf hst a 1) lk_RX3_173 ha (by decide) rfl rfl rfl rfl [.int (zI 1)] ⟨rfl, hG, hS0, ha, (by omega)⟩ rfl rfl ⟨by decide, by decide⟩ ⟨by decide, by decide⟩ (k2 := 0) (n2 := 0) rfl rfl (Nat.le_of_ble_eq_true rfl) dX3_judge_99 (kIP (fun v51 q52 => ?_))
            refine j_if_eq hx 113 dX3_judge_102 rfl (by omega) (fun h53 => ?_) (fun h53 => ?_)
            · skip
              exact j_sub [0, 1, 2, 4, 5] [(0, .ref a), (1, .int (zI x1)), (2, .int (zI v1)), (4, .int (zI v3)), (5, .int (zI v4))] rfl (c113_7 v4 s0 (by omega) hS0 zFr_rf)
            · skip
              refine j_aload_n hx 0 dX3_judge_105 rfl ?_
              refine j_iload_n hx 2 dX3_judge_106 rfl ?_
              refine j_callV hx hG (c_X3_fallTogether hst a v1) lk_RX3_176 ha (by decide) rfl rfl rfl rfl [.int (zI v1)] ⟨rfl, hG, hS0, ha, (by omega)⟩ rfl rfl ⟨by decide, by decide⟩ ⟨by decide, by decide⟩ (k2 := 0) (n2 := 0) rfl rfl (Nat.le_of_ble_eq_true rfl) dX3_judge_107 (kVM (fun s35 hS_s35 hF_s35 q55 => ?_))
              refine j_iconst hx dX3_judge_110 ?_
              refine j_istore hx [(5, .int (zI (-1))), (0, .ref a), (1, .int (zI x1)), (2, .int (zI v1)), (3, .int (zI v2)), (4, .int (zI v3)), (6, .int (zI v5))] dX3_judge_111 (by decide) rfl ?_
              exact j_sub [1, 2, 3, 5, 0] [(0, .ref a), (1, .int (zI x1)), (2, .int (zI v1)), (4, .int (zI v3)), (5, .int (zI (-1)))] rfl (c113_7 (-1) s35 (by omega) hS_s35 (zFr_t zFr_rf hF_s35 (by decide)))
      · skip
        refine j_aload_n hx 0 dX3_judge_26 rfl ?_
        refine j_iload hx 6 dX3_judge_27 rfl ?_
        refine j_callV hx hG (c_X3_delayOf hst a v5) lk_RX3_163 ha (by decide) rfl rfl rfl rfl [.int (zI v5)] ⟨rfl, hG, hS0, ha, (by omega)⟩ rfl rfl ⟨by decide, by decide⟩ ⟨by decide, by decide⟩ (k2 := 0) (n2 := 0) rfl rfl (Nat.le_of_ble_eq_true rfl) dX3_judge_29 (kIP (fun v56 q57 => ?_))
        refine j_istore hx [(7, .int (zI v56)), (0, .ref a), (1, .int (zI x1)), (2, .int (zI v1)), (3, .int (zI v2)), (4, .int (zI v3)), (5, .int (zI v4)), (6, .int (zI v5))] dX3_judge_32 (by decide) rfl ?_
        refine j_iload hx 5 dX3_judge_34 rfl ?_
        refine j_iload hx 0 dX3_judge_36 rfl ?_
        refine j_bipush hx dX3_judge_38 rfl ?_
        have c48_36 : ∀ (v58 : Int), (0 ≤ v58 ∧ v58 ≤ 1) → JJ X E 8 G s0 0 0 [(0, .ref a), (1, .int (zI x1)), (2, .int (zI v1)), (3, .int (zI v2)), (5, .int (zI v4)), (6, .int (zI v5)), (7, .int (zI v56))] 48 [.int (zI v58), .int (zI v3)] := by
          intro v58 fA37
          refine j_iadd hx (r := v3 + v58) dX3_judge_48 rfl ?_
          refine j_norm (fun v59 f60 f61 f62 => ?_)
          refine j_istore hx [(4, .int (zI v59)), (0, .ref a), (1, .int (zI x1)), (2, .int (zI v1)), (3, .int (zI v2)), (5, .int (zI v4)), (6, .int (zI v5)), (7, .int (zI v56))] dX3_judge_49 (by decide) rfl ?_
          refine j_iload_n hx 4 dX3_judge_51 rfl ?_
          refine j_iload hx 7 dX3_judge_52 rfl ?_
          refine j_iload_n hx 3 dX3_judge_54 rfl ?_
          have c63_38 : ∀ (v63 : Int), (0 ≤ v63 ∧ v63 ≤ 1) → JJ X E 8 G s0 0 0 [(0, .ref a), (1, .int (zI x1)), (2, .int (zI v1)), (4, .int (zI v59)), (5, .int (zI v4)), (6, .int (zI v5)), (7, .int (zI v56))] 63 [.int (zI v63), .int (zI v2)] := by
            intro v63 fA39
            refine j_iadd hx (r := v2 + v63) dX3_judge_63 rfl ?_
            refine j_norm (fun v64 f65 f66 f67 => ?_)
            refine j_istore_n hx [(3, .int (zI v64)), (0, .ref a), (1, .int (zI x1)), (2, .int (zI v1)), (4, .int (zI v59)), (5, .int (zI v4)), (6, .int (zI v5)), (7, .int (zI v56))] dX3_judge_64 (by decide) rfl ?_
            refine j_iload hx 7 dX3_judge_65 rfl ?_
            refine j_iload_n hx 3 dX3_judge_67 rfl ?_
            have c80_40 : ∀ (v68 : Int) (v69 : Int) (v70 : Int), ((-2147483648) ≤ v68 ∧ v68 ≤ 99) → ((-2147483648) ≤ v69 ∧ v69 ≤ 2147483647) → ((-1) ≤ v70 ∧ v70 ≤ 2) → JJ X E 8 G s0 0 0 [(0, .ref a), (1, .int (zI x1)), (2, .int (zI v68)), (3, .int (zI v69)), (4, .int (zI v59)), (5, .int (zI v70)), (6, .int (zI v5))] 80 [] := by
              intro v68 v69 v70 fA41 fA42 fA43
              refine j_iinc hx 6 [(6, .int (zI (v5 + 1))), (0, .ref a), (1, .int (zI x1)), (2, .int (zI v68)), (3, .int (zI v69)), (4, .int (zI v59)), (5, .int (zI v70))] dX3_judge_80 rfl (by omega) (by decide) rfl ?_
              refine j_goto hx 14 dX3_judge_83 rfl ?_
              exact j_sub [1, 2, 3, 4, 5, 6, 0] [(0, .ref a), (1, .int (zI x1)), (2, .int (zI v68)), (3, .int (zI v69)), (4, .int (zI v59)), (5, .int (zI v70)), (6, .int (zI (v5 + 1)))] rfl (ih_c14_1 v68 v69 v59 v70 (v5 + 1) (by omega) (by omega) (by omega) (by omega) (by omega) (by omega))
            refine j_icmp_ge hx 80 dX3_judge_68 rfl (by omega) (by omega) (fun h71 => ?_) (fun h71 => ?_)
            · skip
              exact j_sub [1, 2, 3, 0, 4, 5, 6] [(0, .ref a), (1, .int (zI x1)), (2, .int (zI v1)), (3, .int (zI v64)), (4, .int (zI v59)), (5, .int (zI v4)), (6, .int (zI v5))] rfl (c80_40 v1 v64 v4 (by omega) (by omega) (by omega))
            · skip
              refine j_iload hx 7 dX3_judge_71 rfl ?_
              refine j_istore_n hx [(2, .int (zI v56)), (3, .int (zI v64)), (0, .ref a), (1, .int (zI x1)), (4, .int (zI v59)), (5, .int (zI v4)), (6, .int (zI v5)), (7, .int (zI v56))] dX3_judge_73 (by decide) rfl ?_
              refine j_iconst hx dX3_judge_74 ?_
              refine j_istore_n hx [(3, .int (zI 1)), (2, .int (zI v56)), (0, .ref a), (1, .int (zI x1)), (4, .int (zI v59)), (5, .int (zI v4)), (6, .int (zI v5)), (7, .int (zI v56))] dX3_judge_75 (by decide) rfl ?_
              refine j_iload hx 6 dX3_judge_76 rfl ?_
              refine j_istore hx [(5, .int (zI v5)), (3, .int (zI 1)), (2, .int (zI v56)), (0, .ref a), (1, .int (zI x1)), (4, .int (zI v59)), (6, .int (zI v5)), (7, .int (zI v56))] dX3_judge_78 (by decide) rfl ?_
              exact j_sub [3, 4, 2, 1, 5, 0, 6] [(0, .ref a), (1, .int (zI x1)), (2, .int (zI v56)), (3, .int (zI 1)), (4, .int (zI v59)), (5, .int (zI v5)), (6, .int (zI v5))] rfl (c80_40 v56 1 v5 (by omega) (by omega) (by omega))
          refine j_icmp_ne hx 62 dX3_judge_55 rfl (by omega) (by omega) (fun h72 => ?_) (fun h72 => ?_)
          · skip
            refine j_iconst hx dX3_judge_62 ?_
            exact j_sub [1, 2, 3, 0, 5, 6, 7] [(0, .ref a), (1, .int (zI x1)), (2, .int (zI v1)), (4, .int (zI v59)), (5, .int (zI v4)), (6, .int (zI v5)), (7, .int (zI v56))] rfl (c63_38 0 (by omega))
          · skip
            refine j_iconst hx dX3_judge_58 ?_
            refine j_goto hx 63 dX3_judge_59 rfl ?_
            exact j_sub [1, 2, 3, 0, 5, 6, 7] [(0, .ref a), (1, .int (zI x1)), (2, .int (zI v1)), (4, .int (zI v59)), (5, .int (zI v4)), (6, .int (zI v5)), (7, .int (zI v56))] rfl (c63_38 1 (by omega))
        refine j_icmp_ge hx 47 dX3_judge_40 rfl (by omega) ⟨by decide, by decide⟩ (fun h73 => ?_) (fun h73 => ?_)
        · skip
          refine j_iconst hx dX3_judge_47 ?_
          exact j_sub [1, 2, 3, 4, 6, 7, 0] [(0, .ref a), (1, .int (zI x1)), (2, .int (zI v1)), (3, .int (zI v2)), (5, .int (zI v4)), (6, .int (zI v5)), (7, .int (zI v56))] rfl (c48_36 0 (by omega))
        · skip
          refine j_iconst hx dX3_judge_43 ?_
          refine j_goto hx 48 dX3_judge_44 rfl ?_
          exact j_sub [1, 2, 3, 4, 6, 7, 0] [(0, .ref a), (1, .int (zI x1)), (2, .int (zI v1)), (3, .int (zI v2)), (5, .int (zI v4)), (6, .int (zI v5)), (7, .int (zI v56))] rfl (c48_36 1 (by omega))
  exact j_sub [5, 6, 4, 3, 2, 1, 0] [(0, .ref a), (1, .int (zI x1)), (2, .int (zI 99)), (3, .int (zI 0)), (4, .int (zI 0)), (5, .int (zI (-1))), (6, .int (zI 0))] rfl (c14_1 (2147483648 * 4) 99 0 0 (-1) 0 (by omega) (by omega) (by omega) (by omega) (by omega) (by omega))

theorem lk_RX3_123 : LkV RX3 123 RX0 yX0_whose cX0_whose 1 (some .int) 0 := ⟨km_RX3_123, ki_yX0_whose, ks_RX0_yX0_whose, kn_RX0, kc_yX0_whose, rfl, by decide +kernel, by decide +kernel, by decide +kernel⟩
theorem lk_RX3_126 : LkV RX3 126 RX0 yX0_turnOver cX0_turnOver 2 none 1 := ⟨km_RX3_126, ki_yX0_turnOver, ks_RX0_yX0_turnOver, kn_RX0, kc_yX0_turnOver, rfl, by decide +kernel, by decide +kernel, by decide +kernel⟩
theorem lk_RX3_130 : LkV RX3 130 RX3 yX3_look cX3_look 3 none 1 := ⟨km_RX3_130, ki_yX3_look, ks_RX3_yX3_look, kn_RX3, kc_yX3_look, rfl, by decide +kernel, by decide +kernel, by decide +kernel⟩
theorem lk_RX3_133 : LkV RX3 133 RX3 yX3_callAhead cX3_callAhead 2 none 0 := ⟨km_RX3_133, ki_yX3_callAhead, ks_RX3_yX3_callAhead, kn_RX3, kc_yX3_callAhead, rfl, by decide +kernel, by decide +kernel, by decide +kernel⟩
theorem lk_RX3_136 : LkV RX3 136 RX0 yX0_lay cX0_lay 3 (some .int) 1 := ⟨km_RX3_136, ki_yX0_lay, ks_RX0_yX0_lay, kn_RX0, kc_yX0_lay, rfl, by decide +kernel, by decide +kernel, by decide +kernel⟩
theorem lk_RX3_142 : LkV RX3 142 RX3 yX3_callBehind cX3_callBehind 4 none 1 := ⟨km_RX3_142, ki_yX3_callBehind, ks_RX3_yX3_callBehind, kn_RX3, kc_yX3_callBehind, rfl, by decide +kernel, by decide +kernel, by decide +kernel⟩
theorem lk_RX3_145 : LkV RX3 145 RX3 yX3_judge cX3_judge 8 none 1 := ⟨km_RX3_145, ki_yX3_judge, ks_RX3_yX3_judge, kn_RX3, kc_yX3_judge, rfl, by decide +kernel, by decide +kernel, by decide +kernel⟩
set_option maxHeartbeats 4000000 in
set_option maxRecDepth 20000 in
theorem c_X3_playTurn {E : zE} {l : Launch} (hst : l.stackTraces = false) (a : Nat) : Con E l yX3_playTurn cX3_playTurn 3 (some .boolean) { frames := 5, cells := 0, slots := 0, locals := 121 } (fun G s vs => vs = [.ref a] ∧ zGK G ∧ zSK G s ∧ (gT G a = 4)) (fun G s _ => pI (fun r G2 s2 => G2 = G ∧ zSK G s2 ∧ zFr [1, 4, 7, 41, 50, 51, 52] G s s2 ∧ (0 ≤ r ∧ r ≤ 1))) := by
  refine Con.mk hst (by decide) (fun G s vs h => by rw [h.1]; exact Nat.le_of_ble_eq_true rfl) ?_
  rintro X G s0 vs ⟨rfl, hG, hS0, ha⟩ rfl hx hq
  show JJ X E 3 G s0 0 0 [(0, .ref a)] 0 []
  refine j_aload_n hx 0 dX3_playTurn_0 rfl ?_
  refine g4_1 hx hG ha kf_RX3_14 dX3_playTurn_1 ?_
  refine j_callV hx hG (c_X0_whose hst (gP G a 1)) lk_RX3_123 (zr (k := 1) (t2 := 1) hG ha rfl) (by decide) rfl rfl rfl rfl [] ⟨rfl, hG, hS0, (zr (k := 1) (t2 := 1) hG ha rfl)⟩ rfl rfl ⟨by decide, by decide⟩ ⟨by decide, by decide⟩ (k2 := 0) (n2 := 0) rfl rfl (Nat.le_of_ble_eq_true rfl) dX3_playTurn_4 (kIP (fun v1 q2 => ?_))
  refine j_istore_n hx [(1, .int (zI v1)), (0, .ref a)] dX3_playTurn_7 (by decide) rfl ?_
  refine j_iload_n hx 0 dX3_playTurn_8 rfl ?_
  refine j_iconst hx dX3_playTurn_9 ?_
  refine j_icmp_ne hx 15 dX3_playTurn_10 rfl (by omega) ⟨by decide, by decide⟩ (fun h3 => ?_) (fun h3 => ?_)
  · skip
    refine j_aload_n hx 1 dX3_playTurn_15 rfl ?_
    refine g4_1 hx hG ha kf_RX3_14 dX3_playTurn_16 ?_
    refine j_iload_n hx 0 dX3_playTurn_19 rfl ?_
    refine j_callV hx hG (c_X0_turnOver hst (gP G a 1) v1) lk_RX3_126 (zr (k := 1) (t2 := 1) hG ha rfl) (by decide) rfl rfl rfl rfl [.int (zI v1)] ⟨rfl, hG, hS0, (zr (k := 1) (t2 := 1) hG ha rfl), (by omega)⟩ rfl rfl ⟨by decide, by decide⟩ ⟨by decide, by decide⟩ (k2 := 0) (n2 := 0) rfl rfl (Nat.le_of_ble_eq_true rfl) dX3_playTurn_20 (kVM (fun s1 hS_s1 hF_s1 q5 => ?_))
    refine j_aload_n hx 1 dX3_playTurn_23 rfl ?_
    refine j_iload_n hx 0 dX3_playTurn_24 rfl ?_
    refine j_callV hx hG (c_X3_look hst a v1) lk_RX3_130 ha (by decide) rfl rfl rfl rfl [.int (zI v1)] ⟨rfl, hG, hS_s1, ha, (by omega)⟩ rfl rfl ⟨by decide, by decide⟩ ⟨by decide, by decide⟩ (k2 := 0) (n2 := 0) rfl rfl (Nat.le_of_ble_eq_true rfl) dX3_playTurn_25 (kVM (fun s2 hS_s2 hF_s2 q7 => ?_))
    refine j_aload_n hx 1 dX3_playTurn_28 rfl ?_
    refine j_callV hx hG (c_X3_callAhead hst a) lk_RX3_133 ha (by decide) rfl rfl rfl rfl [] ⟨rfl, hG, hS_s2, ha⟩ rfl rfl ⟨by decide, by decide⟩ ⟨by decide, by decide⟩ (k2 := 0) (n2 := 0) rfl rfl (Nat.le_of_ble_eq_true rfl) dX3_playTurn_29 (kVM (fun s3 hS_s3 hF_s3 q9 => ?_))
    refine j_aload_n hx 1 dX3_playTurn_32 rfl ?_
    refine g4_1 hx hG ha kf_RX3_14 dX3_playTurn_33 ?_
    refine j_iload_n hx 0 dX3_playTurn_36 rfl ?_
    refine j_callV hx hG (c_X0_lay hst (gP G a 1) v1) lk_RX3_136 (zr (k := 1) (t2 := 1) hG ha rfl) (by decide) rfl rfl rfl rfl [.int (zI v1)] ⟨rfl, hG, hS_s3, (zr (k := 1) (t2 := 1) hG ha rfl), (by omega)⟩ rfl rfl ⟨by decide, by decide⟩ ⟨by decide, by decide⟩ (k2 := 0) (n2 := 0) rfl rfl (Nat.le_of_ble_eq_true rfl) dX3_playTurn_37 (kIM (fun v10 s4 hS_s4 hF_s4 q11 => ?_))
    refine j_istore_n hx [(2, .int (zI v10)), (1, .int (zI v1)), (0, .ref a)] dX3_playTurn_40 (by decide) rfl ?_
    refine j_aload_n hx 2 dX3_playTurn_41 rfl ?_
    refine j_aload_n hx 2 dX3_playTurn_42 rfl ?_
    refine g4_1 hx hG ha kf_RX3_14 dX3_playTurn_43 ?_
    refine j_iload_n hx 1 dX3_playTurn_46 rfl ?_
    refine j_callV hx hG (c_X0_following hst (gP G a 1) v1) lk_RX3_139 (zr (k := 1) (t2 := 1) hG ha rfl) (by decide) rfl rfl rfl rfl [.int (zI v1)] ⟨rfl, hG, hS_s4, (zr (k := 1) (t2 := 1) hG ha rfl), (by omega)⟩ rfl rfl ⟨by decide, by decide⟩ ⟨by decide, by decide⟩ (k2 := 0) (n2 := 0) rfl rfl (Nat.le_of_ble_eq_true rfl) dX3_playTurn_47 (kIP (fun v12 q13 => ?_))
    refine j_callV hx hG (c_X3_look hst a v12) lk_RX3_130 ha (by decide) rfl rfl rfl rfl [.int (zI v12)] ⟨rfl, hG, hS_s4, ha, (by omega)⟩ rfl rfl ⟨by decide, by decide⟩ ⟨by decide, by decide⟩ (k2 := 0) (n2 := 0) rfl rfl (Nat.le_of_ble_eq_true rfl) dX3_playTurn_50 (kVM (fun s5 hS_s5 hF_s5 q15 => ?_))
    refine j_aload_n hx 2 dX3_playTurn_53 rfl ?_
    refine j_iload_n hx 1 dX3_playTurn_54 rfl ?_
    refine j_callV hx hG (c_X3_callBehind hst a v1) lk_RX3_142 ha (by decide) rfl rfl rfl rfl [.int (zI v1)] ⟨rfl, hG, hS_s5, ha, (by omega)⟩ rfl rfl ⟨by decide, by decide⟩ ⟨by decide, by decide⟩ (k2 := 0) (n2 := 0) rfl rfl (Nat.le_of_ble_eq_true rfl) dX3_playTurn_55 (kVM (fun s6 hS_s6 hF_s6 q17 => ?_))
    refine j_aload_n hx 2 dX3_playTurn_58 rfl ?_
    refine j_iload_n hx 0 dX3_playTurn_59 rfl ?_
    refine j_callV hx hG (c_X3_judge hst a v10) lk_RX3_145 ha (by decide) rfl rfl rfl rfl [.int (zI v10)] ⟨rfl, hG, hS_s6, ha, (by omega)⟩ rfl rfl ⟨by decide, by decide⟩ ⟨by decide, by decide⟩ (k2 := 0) (n2 := 0) rfl rfl (Nat.le_of_ble_eq_true rfl) dX3_playTurn_60 (kVM (fun s7 hS_s7 hF_s7 q19 => ?_))
    refine j_aload_n hx 2 dX3_playTurn_63 rfl ?_
    refine j_dup hx dX3_playTurn_64 rfl ?_
    have f20 := zf hS_s7 ha (k := 10) rfl
    refine g4_10 hx hG ha kf_RX3_71 rfl dX3_playTurn_65 ?_
    refine j_iconst hx dX3_playTurn_68 ?_
    refine j_iadd hx (r := (s7 a 10) + 1) dX3_playTurn_69 (by omega) ?_
    refine j_norm (fun v21 f22 f23 f24 => ?_)
    refine p4_10 hx hG ha kf_RX3_71 dX3_playTurn_70 ?_
    obtain ⟨s8, e_s8⟩ : ∃ z, z = zU s7 a 10 v21 := ⟨_, rfl⟩
    rw [← e_s8]
    have hS_s8 : zSK G s8 := by rw [e_s8]; exact zSK_F hS_s7 ha rfl rfl rfl (by omega)
    refine j_iconst hx dX3_playTurn_73 ?_
    exact j_zret hx hq rfl (by decide) (by decide) dX3_playTurn_74 (by omega) ⟨1, rfl, rfl, hS_s8, (zFr_u (zFr_t (zFr_t (zFr_t (zFr_t (zFr_t (zFr_t (zFr_t zFr_rf hF_s1 (by decide)) hF_s2 (by decide)) hF_s3 (by decide)) hF_s4 (by decide)) hF_s5 (by decide)) hF_s6 (by decide)) hF_s7 (by decide)) e_s8 ha (by decide)), (by omega)⟩
  · skip
    refine j_iconst hx dX3_playTurn_13 ?_
    exact j_zret hx hq rfl (by decide) (by decide) dX3_playTurn_14 (by omega) ⟨0, rfl, rfl, hS0, zFr_rf, (by omega)⟩

set_option maxHeartbeats 4000000 in
set_option maxRecDepth 20000 in
theorem c_X3_lastOf {E : zE} {l : Launch} (hst : l.stackTraces = false) (a : Nat) (x1 : Int) : Con E l yX3_lastOf cX3_lastOf 2 (some .int) { frames := 0, cells := 0, slots := 0, locals := 0 } (fun G s vs => vs = [.ref a, .int (zI x1)] ∧ zGK G ∧ zSK G s ∧ (gT G a = 4) ∧ ((-2147483648) ≤ x1 ∧ x1 ≤ 2147483647)) (fun G s _ => pI (fun r G2 s2 => G2 = G ∧ s2 = s ∧ ((-2147483648) ≤ r ∧ r ≤ 2147483647))) := by
  refine Con.mk hst (by decide) (fun G s vs h => by rw [h.1]; exact Nat.le_of_ble_eq_true rfl) ?_
  rintro X G s0 vs ⟨rfl, hG, hS0, ha, hx1⟩ rfl hx hq
  show JJ X E 2 G s0 0 0 [(0, .ref a), (1, .int (zI x1))] 0 []
  refine j_aload_n hx 0 dX3_lastOf_0 rfl ?_
  have f1 := zf hS0 ha (k := 7) rfl
  refine g4_7 hx hG ha kf_RX3_61 rfl dX3_lastOf_1 ?_
  refine j_if_eq hx 29 dX3_lastOf_4 rfl (by omega) (fun h2 => ?_) (fun h2 => ?_)
  · skip
    refine j_iconst hx dX3_lastOf_29 ?_
    exact j_iret hx hq rfl (by decide) (by decide) dX3_lastOf_30 ⟨(-1), rfl, rfl, rfl, (by omega)⟩
  · skip
    refine j_iload_n hx 1 dX3_lastOf_7 rfl ?_
    refine j_if_lt hx 29 dX3_lastOf_8 rfl (by omega) (fun h3 => ?_) (fun h3 => ?_)
    · skip
      refine j_iconst hx dX3_lastOf_29 ?_
      exact j_iret hx hq rfl (by decide) (by decide) dX3_lastOf_30 ⟨(-1), rfl, rfl, rfl, (by omega)⟩
    · skip
      refine j_iload_n hx 1 dX3_lastOf_11 rfl ?_
      refine j_aload_n hx 0 dX3_lastOf_12 rfl ?_
      refine g4_5 hx hG ha kf_RX3_31 dX3_lastOf_13 ?_
      refine j_alen hx hG (zr (k := 5) (t2 := 51) hG ha rfl) (by decide) (by decide) (zlen hG (zr (k := 5) (t2 := 51) hG ha rfl) (n := 5) rfl rfl) dX3_lastOf_16 ?_
      refine j_icmp_ge hx 29 dX3_lastOf_17 rfl (by omega) ⟨by decide, by decide⟩ (fun h4 => ?_) (fun h4 => ?_)
      · skip
        refine j_iconst hx dX3_lastOf_29 ?_
        exact j_iret hx hq rfl (by decide) (by decide) dX3_lastOf_30 ⟨(-1), rfl, rfl, rfl, (by omega)⟩
      · skip
        refine j_aload_n hx 0 dX3_lastOf_20 rfl ?_
        refine g4_5 hx hG ha kf_RX3_31 dX3_lastOf_21 ?_
        refine j_iload_n hx 1 dX3_lastOf_24 rfl ?_
        have f5 := zaI (j := (x1).toNat) hS0 (zr (k := 5) (t2 := 51) hG ha rfl) rfl (zlen hG (zr (k := 5) (t2 := 51) hG ha rfl) (n := 5) rfl rfl) (show 0 ≤ x1 by omega) (by omega) rfl
        refine j_iald hx hG (zr (k := 5) (t2 := 51) hG ha rfl) (by decide) rfl (zlen hG (zr (k := 5) (t2 := 51) hG ha rfl) (n := 5) rfl rfl) (by omega) (by omega) (j := (x1).toNat) rfl rfl dX3_lastOf_25 ?_
        refine j_goto hx 30 dX3_lastOf_26 rfl ?_
        exact j_iret hx hq rfl (by decide) (by decide) dX3_lastOf_30 ⟨(s0 (gP G a 5) (x1).toNat), rfl, rfl, rfl, (by omega)⟩

set_option maxHeartbeats 4000000 in
set_option maxRecDepth 20000 in
theorem c_X4_record {E : zE} {l : Launch} (hst : l.stackTraces = false) (a : Nat) (x1 : Int) (x2 : Int) : Con E l yX4_record cX4_record 5 none { frames := 0, cells := 0, slots := 0, locals := 0 } (fun G s vs => vs = [.ref a, .int (zI x1), .int (zI x2)] ∧ zGK G ∧ zSK G s ∧ (gT G a = 5) ∧ ((-2147483648) ≤ x1 ∧ x1 ≤ 2147483647) ∧ ((-2147483648) ≤ x2 ∧ x2 ≤ 2147483647)) (fun G s _ => pV (fun G2 s2 => G2 = G ∧ zSK G s2 ∧ zFr [57] G s s2 ∧ True)) := by
  refine Con.mk hst (by decide) (fun G s vs h => by rw [h.1]; exact Nat.le_of_ble_eq_true rfl) ?_
  rintro X G s0 vs ⟨rfl, hG, hS0, ha, hx1, hx2⟩ rfl hx hq
  show JJ X E 5 G s0 0 0 [(0, .ref a), (1, .int (zI x1)), (2, .int (zI x2))] 0 []
  refine j_iload_n hx 1 dX4_record_0 rfl ?_
  refine j_bipush hx dX4_record_1 rfl ?_
  refine j_idiv hx dX4_record_3 (by omega) ⟨by decide, by decide⟩ (by decide) (fun v1 f2 f3 f4 => ?_)
  refine j_istore_n hx [(3, .int (zI v1)), (0, .ref a), (1, .int (zI x1)), (2, .int (zI x2))] dX4_record_4 (by decide) rfl ?_
  refine j_iload_n hx 2 dX4_record_5 rfl ?_
  refine j_if_lt hx 25 dX4_record_6 rfl (by omega) (fun h7 => ?_) (fun h7 => ?_)
  · skip
    exact j_vret hx hq rfl (by decide) (by decide) dX4_record_25 ⟨rfl, rfl, hS0, zFr_rf, trivial⟩
  · skip
    refine j_iload_n hx 2 dX4_record_9 rfl ?_
    refine j_sipush hx dX4_record_10 rfl ?_
    refine j_icmp_ge hx 25 dX4_record_13 rfl (by omega) ⟨by decide, by decide⟩ (fun h8 => ?_) (fun h8 => ?_)
    · skip
      exact j_vret hx hq rfl (by decide) (by decide) dX4_record_25 ⟨rfl, rfl, hS0, zFr_rf, trivial⟩
    · skip
      refine j_iload_n hx 0 dX4_record_16 rfl ?_
      refine j_aload_n hx 1 dX4_record_17 rfl ?_
      refine g5_0 hx hG ha kf_RX4_11 dX4_record_18 ?_
      refine j_alen hx hG (zr (k := 0) (t2 := 57) hG ha rfl) (by decide) (by decide) (zlen hG (zr (k := 0) (t2 := 57) hG ha rfl) (n := 323) rfl rfl) dX4_record_21 ?_
      refine j_icmp_lt hx 26 dX4_record_22 rfl (by omega) ⟨by decide, by decide⟩ (fun h9 => ?_) (fun h9 => ?_)
      · skip
        refine j_iconst hx dX4_record_26 ?_
        refine j_iload_n hx 2 dX4_record_27 rfl ?_
        refine j_bipush hx dX4_record_28 rfl ?_
        refine j_irem hx dX4_record_30 (by omega) ⟨by decide, by decide⟩ (by decide) (fun v10 f11 f12 f13 f14 => ?_)
        refine j_imul hx (r := 2 * v10) dX4_record_31 rfl ?_
        refine j_istore hx [(4, .int (zI (2 * v10))), (3, .int (zI v1)), (0, .ref a), (1, .int (zI x1)), (2, .int (zI x2))] dX4_record_32 (by decide) rfl ?_
        refine j_aload_n hx 2 dX4_record_34 rfl ?_
        refine g5_0 hx hG ha kf_RX4_11 dX4_record_35 ?_
        refine j_iload_n hx 1 dX4_record_38 rfl ?_
        refine j_aload_n hx 2 dX4_record_39 rfl ?_
        refine g5_0 hx hG ha kf_RX4_11 dX4_record_40 ?_
        refine j_iload_n hx 1 dX4_record_43 rfl ?_
        have f16 := zaI (j := (v1).toNat) hS0 (zr (k := 0) (t2 := 57) hG ha rfl) rfl (zlen hG (zr (k := 0) (t2 := 57) hG ha rfl) (n := 323) rfl rfl) (show 0 ≤ v1 by omega) (by omega) rfl
        refine j_lald hx hG (zr (k := 0) (t2 := 57) hG ha rfl) (by decide) rfl (zlen hG (zr (k := 0) (t2 := 57) hG ha rfl) (n := 323) rfl rfl) (by omega) (by omega) (j := (v1).toNat) rfl rfl dX4_record_44 ?_
        refine j_ldc2 hx (c := 3) dX4_record_45 kk_RX4_34 (by decide) ?_
        refine j_iload hx 0 dX4_record_48 rfl ?_
        refine j_lshl hx dX4_record_50 (fun w17 f18 f19 => ?_)
        refine j_ldc2 hx (c := (-1)) dX4_record_51 kk_RX4_36 (by decide) ?_
        refine j_lxor hx dX4_record_54 (fun w20 f21 f22 => ?_)
        refine j_land hx dX4_record_55 (fun w23 f24 f25 => ?_)
        refine j_iload_n hx 4 dX4_record_56 rfl ?_
        refine j_iconst hx dX4_record_57 ?_
        refine j_iadd hx (r := x2 + 1) dX4_record_58 rfl ?_
        refine j_norm (fun v26 f27 f28 f29 => ?_)
        refine j_i2l hx dX4_record_59 (by omega) ?_
        refine j_iload hx 0 dX4_record_60 rfl ?_
        refine j_lshl hx dX4_record_62 (fun w30 f31 f32 => ?_)
        refine j_lor hx dX4_record_63 (fun w33 f34 f35 => ?_)
        refine j_last hx hG (zr (k := 0) (t2 := 57) hG ha rfl) (by decide) rfl (zlen hG (zr (k := 0) (t2 := 57) hG ha rfl) (n := 323) rfl rfl) (by omega) (by omega) (j := (v1).toNat) rfl dX4_record_64 ?_
        obtain ⟨s1, e_s1⟩ : ∃ z, z = zU s0 (gP G a 0) (v1).toNat w33 := ⟨_, rfl⟩
        rw [← e_s1]
        have hS_s1 : zSK G s1 := by rw [e_s1]; exact zSK_A hS0 (zr (k := 0) (t2 := 57) hG ha rfl) rfl rfl rfl (by omega)
        exact j_vret hx hq rfl (by decide) (by decide) dX4_record_65 ⟨rfl, rfl, hS_s1, (zFr_u zFr_rf e_s1 (zr (k := 0) (t2 := 57) hG ha rfl) (by decide)), trivial⟩
      · skip
        exact j_vret hx hq rfl (by decide) (by decide) dX4_record_25 ⟨rfl, rfl, hS0, zFr_rf, trivial⟩

theorem lk_RX4_38 : LkV RX4 38 RX4 yX4_mark cX4_mark 5 none 1 := ⟨km_RX4_38, ki_yX4_mark, ks_RX4_yX4_mark, kn_RX4, kc_yX4_mark, rfl, by decide +kernel, by decide +kernel, by decide +kernel⟩
theorem lk_RX4_42 : LkV RX4 42 RX3 yX3_playTurn cX3_playTurn 3 (some .boolean) 0 := ⟨km_RX4_42, ki_yX3_playTurn, ks_RX3_yX3_playTurn, kn_RX3, kc_yX3_playTurn, rfl, by decide +kernel, by decide +kernel, by decide +kernel⟩
theorem lk_RX4_49 : LkV RX4 49 RX3 yX3_lastOf cX3_lastOf 2 (some .int) 1 := ⟨km_RX4_49, ki_yX3_lastOf, ks_RX3_yX3_lastOf, kn_RX3, kc_yX3_lastOf, rfl, by decide +kernel, by decide +kernel, by decide +kernel⟩
theorem lk_RX4_53 : LkV RX4 53 RX4 yX4_record cX4_record 5 none 2 := ⟨km_RX4_53, ki_yX4_record, ks_RX4_yX4_record, kn_RX4, kc_yX4_record, rfl, by decide +kernel, by decide +kernel, by decide +kernel⟩
set_option maxHeartbeats 4000000 in
set_option maxRecDepth 20000 in
theorem c_X4_playTurns {E : zE} {l : Launch} (hst : l.stackTraces = false) (a : Nat) (b1 : Nat) (x2 : Int) : Con E l yX4_playTurns cX4_playTurns 4 (some .int) { frames := 6, cells := 0, slots := 0, locals := 143 } (fun G s vs => vs = [.ref a, .ref b1, .int (zI x2)] ∧ zGK G ∧ zSK G s ∧ (gT G a = 5) ∧ (gT G b1 = 4) ∧ ((-2147483648) ≤ x2 ∧ x2 ≤ 2147483647)) (fun G s _ => pI (fun r G2 s2 => G2 = G ∧ zSK G s2 ∧ zFr [1, 4, 5, 7, 41, 50, 51, 52, 53, 57, 59, 60] G s s2 ∧ ((-2147483648) ≤ r ∧ r ≤ 2147483647))) := by
  refine Con.mk hst (by decide) (fun G s vs h => by rw [h.1]; exact Nat.le_of_ble_eq_true rfl) ?_
  rintro X G s0 vs ⟨rfl, hG, hS0, ha, hb1, hx2⟩ rfl hx hq
  show JJ X E 4 G s0 0 0 [(0, .ref a), (1, .ref b1), (2, .int (zI x2))] 0 []
  refine j_aload_n hx 0 dX4_playTurns_0 rfl ?_
  refine j_aload_n hx 1 dX4_playTurns_1 rfl ?_
  refine j_callV hx hG (c_X4_mark hst a b1) lk_RX4_38 ha (by decide) rfl rfl rfl rfl [.ref b1] ⟨rfl, hG, hS0, ha, hb1⟩ rfl rfl ⟨by decide, by decide⟩ ⟨by decide, by decide⟩ (k2 := 0) (n2 := 0) rfl rfl (Nat.le_of_ble_eq_true rfl) dX4_playTurns_2 (kVM (fun s1 hS_s1 hF_s1 q2 => ?_))
  refine j_iconst hx dX4_playTurns_5 ?_
  refine j_istore_n hx [(3, .int (zI 0)), (0, .ref a), (1, .ref b1), (2, .int (zI x2))] dX4_playTurns_6 (by decide) rfl ?_
  have c7_2 : ∀ (m_c7_2 : Nat) (v3 : Int) (s3 : zS), 2147483648 - v3 < m_c7_2 → (0 ≤ v3 ∧ v3 ≤ 2147483647) → (zSK G s3) → (zFr [1, 4, 7, 41, 50, 51, 52, 57] G s1 s3) → JJ X E 4 G s3 0 0 [(0, .ref a), (1, .ref b1), (2, .int (zI x2)), (3, .int (zI v3))] 7 [] := by
    intro m_c7_2
    induction m_c7_2 with
    | zero => intro v3 s3 hm_c7_2 fA4 hS_s3 hF_s3; exfalso; omega
    | succ m_c7_2 ih_c7_2 => 
      intro v3 s3 hm_c7_2 fA4 hS_s3 hF_s3
      refine j_iload_n hx 3 dX4_playTurns_7 rfl ?_
      refine j_iload_n hx 2 dX4_playTurns_8 rfl ?_
      refine j_icmp_ge hx 42 dX4_playTurns_9 rfl (by omega) (by omega) (fun h4 => ?_) (fun h4 => ?_)
      · skip
        refine j_iload_n hx 2 dX4_playTurns_42 rfl ?_
        exact j_iret hx hq rfl (by decide) (by decide) dX4_playTurns_43 ⟨x2, rfl, rfl, hS_s3, (zFr_t (zFr_t zFr_rf hF_s1 (by decide)) hF_s3 (by decide)), (by omega)⟩
      · skip
        refine j_aload_n hx 1 dX4_playTurns_12 rfl ?_
        refine j_callV hx hG (c_X3_playTurn hst b1) lk_RX4_42 hb1 (by decide) rfl rfl rfl rfl [] ⟨rfl, hG, hS_s3, hb1⟩ rfl rfl ⟨by decide, by decide⟩ ⟨by decide, by decide⟩ (k2 := 0) (n2 := 0) rfl rfl (Nat.le_of_ble_eq_true rfl) dX4_playTurns_13 (kIM (fun v5 s7 hS_s7 hF_s7 q6 => ?_))
        refine j_if_ne hx 21 dX4_playTurns_16 rfl (by omega) (fun h7 => ?_) (fun h7 => ?_)
        · skip
          refine j_aload_n hx 0 dX4_playTurns_21 rfl ?_
          refine j_aload_n hx 1 dX4_playTurns_22 rfl ?_
          have f8 := zf hS_s7 hb1 (k := 10) rfl
          refine gN4_10 hx hG hb1 kf_RX4_46 rfl dX4_playTurns_23 ?_
          refine j_iconst hx dX4_playTurns_26 ?_
          refine j_isub hx (r := (s7 b1 10) - 1) dX4_playTurns_27 (by omega) ?_
          refine j_norm (fun v9 f10 f11 f12 => ?_)
          refine j_aload_n hx 1 dX4_playTurns_28 rfl ?_
          refine j_iconst hx dX4_playTurns_29 ?_
          refine j_callV hx hG (c_X3_lastOf hst b1 0) lk_RX4_49 hb1 (by decide) rfl rfl rfl rfl [.int (zI 0)] ⟨rfl, hG, hS_s7, hb1, (by omega)⟩ rfl rfl ⟨by decide, by decide⟩ ⟨by decide, by decide⟩ (k2 := 0) (n2 := 0) rfl rfl (Nat.le_of_ble_eq_true rfl) dX4_playTurns_30 (kIP (fun v13 q14 => ?_))
          refine j_callV hx hG (c_X4_record hst a v9 v13) lk_RX4_53 ha (by decide) rfl rfl rfl rfl [.int (zI v9), .int (zI v13)] ⟨rfl, hG, hS_s7, ha, (by omega), (by omega)⟩ rfl rfl ⟨by decide, by decide⟩ ⟨by decide, by decide⟩ (k2 := 0) (n2 := 0) rfl rfl (Nat.le_of_ble_eq_true rfl) dX4_playTurns_33 (kVM (fun s8 hS_s8 hF_s8 q16 => ?_))
          refine j_iinc hx 3 [(3, .int (zI (v3 + 1))), (0, .ref a), (1, .ref b1), (2, .int (zI x2))] dX4_playTurns_36 rfl (by omega) (by decide) rfl ?_
          refine j_goto hx 7 dX4_playTurns_39 rfl ?_
          exact j_sub [1, 2, 3, 0] [(0, .ref a), (1, .ref b1), (2, .int (zI x2)), (3, .int (zI (v3 + 1)))] rfl (ih_c7_2 (v3 + 1) s8 (by omega) (by omega) hS_s8 (zFr_t (zFr_t (zFr_t zFr_rf hF_s3 (by decide)) hF_s7 (by decide)) hF_s8 (by decide)))
        · skip
          refine j_iload_n hx 3 dX4_playTurns_19 rfl ?_
          exact j_iret hx hq rfl (by decide) (by decide) dX4_playTurns_20 ⟨v3, rfl, rfl, hS_s7, (zFr_t (zFr_t (zFr_t zFr_rf hF_s1 (by decide)) hF_s3 (by decide)) hF_s7 (by decide)), (by omega)⟩
  exact j_sub [1, 2, 3, 0] [(0, .ref a), (1, .ref b1), (2, .int (zI x2)), (3, .int (zI 0))] rfl (c7_2 (2147483648 * 4) 0 s1 (by omega) (by omega) hS_s1 zFr_rf)

theorem lk_RX11_224 : LkV RX11 224 RX4 yX4_playTurns cX4_playTurns 4 (some .int) 2 := ⟨km_RX11_224, ki_yX4_playTurns, ks_RX4_yX4_playTurns, kn_RX4, kc_yX4_playTurns, rfl, by decide +kernel, by decide +kernel, by decide +kernel⟩
set_option maxHeartbeats 4000000 in
set_option maxRecDepth 20000 in
theorem c_X11_play {E : zE} {l : Launch} (hst : l.stackTraces = false) (a : Nat) (x1 : Int) : ConX E l yX11_play cX11_play 2 (some .int) { frames := 7, cells := 1, slots := 6, locals := 166 } (fun G s vs => vs = [.ref a, .int (zI x1)] ∧ zGK G ∧ zSK G s ∧ (gT G a = 12) ∧ ((-2147483648) ≤ x1 ∧ x1 ≤ 2147483647)) (fun G s _ => pI (fun r G2 s2 => G2 = G ∧ zSK G s2 ∧ zFr [1, 4, 5, 7, 41, 50, 51, 52, 53, 57, 59, 60] G s s2 ∧ ((-2147483648) ≤ r ∧ r ≤ 2147483647))) (fun G s _ Ex G2 s2 => G2 = G ∧ zSK G s2 ∧ zFr [1, 4, 5, 7, 12, 41, 50, 51, 52, 53, 57, 59, 60] G s s2 ∧ ((Ex = "java/lang/IllegalArgumentException" ∧ (True)))) := by
  refine ConX.mk hst (by decide) (fun G s vs h => by rw [h.1]; exact Nat.le_of_ble_eq_true rfl) ?_
  rintro X G s0 vs ⟨rfl, hG, hS0, ha, hx1⟩ rfl hx hq
  show JJ X E 2 G s0 0 0 [(0, .ref a), (1, .int (zI x1))] 0 []
  refine j_aload_n hx 0 dX11_play_0 rfl ?_
  refine j_iload_n hx 1 dX11_play_1 rfl ?_
  refine j_iconst hx dX11_play_2 ?_
  refine j_sipush hx dX11_play_3 rfl ?_
  refine j_callVX hx hq hG (c_X11_needRange hst a x1 1 999) lk_RX11_98 ha (by decide) rfl rfl rfl rfl [.int (zI x1), .int (zI 1), .int (zI 999)] ⟨rfl, hG, hS0, ha, (by omega), (by omega), (by omega)⟩ rfl rfl ⟨by decide, by decide⟩ ⟨by decide, by decide⟩ (k2 := 1) (n2 := 6) rfl rfl (Nat.le_of_ble_eq_true rfl) ⟨by decide, by decide⟩ dX11_play_6 (by rintro Ex9 G9 s9 ⟨rfl, hS9, hF9, e9, c9⟩; exact ⟨rfl, hS9, (zFr_t zFr_rf hF9 (by decide)), ⟨e9, by first | trivial | omega⟩⟩) (kVP (fun q2 => ?_))
  refine j_aload_n hx 0 dX11_play_9 rfl ?_
  refine g12_9 hx hG ha kf_RX11_69 dX11_play_10 ?_
  refine j_aload_n hx 0 dX11_play_13 rfl ?_
  refine g12_6 hx hG ha kf_RX11_48 dX11_play_14 ?_
  refine j_iload_n hx 1 dX11_play_17 rfl ?_
  refine j_callV hx hG (c_X4_playTurns hst (gP G a 9) (gP G a 6) x1) lk_RX11_224 (zr (k := 9) (t2 := 5) hG ha rfl) (by decide) rfl rfl rfl rfl [.ref (gP G a 6), .int (zI x1)] ⟨rfl, hG, hS0, (zr (k := 9) (t2 := 5) hG ha rfl), (zr (k := 6) (t2 := 4) hG ha rfl), (by omega)⟩ rfl rfl ⟨by decide, by decide⟩ ⟨by decide, by decide⟩ (k2 := 1) (n2 := 6) rfl rfl (Nat.le_of_ble_eq_true rfl) dX11_play_18 (kIM (fun v3 s1 hS_s1 hF_s1 q4 => ?_))
  exact j_iret hx hq.r rfl (by decide) (by decide) dX11_play_21 ⟨v3, rfl, rfl, hS_s1, (zFr_t zFr_rf hF_s1 (by decide)), (by omega)⟩

set_option maxHeartbeats 4000000 in
set_option maxRecDepth 20000 in
theorem c_X4_turnOfMark {E : zE} {l : Launch} (hst : l.stackTraces = false) (a : Nat) (x1 : Int) : Con E l yX4_turnOfMark cX4_turnOfMark 2 (some .int) { frames := 0, cells := 0, slots := 0, locals := 0 } (fun G s vs => vs = [.ref a, .int (zI x1)] ∧ zGK G ∧ zSK G s ∧ (gT G a = 5) ∧ ((-2147483648) ≤ x1 ∧ x1 ≤ 2147483647)) (fun G s _ => pI (fun r G2 s2 => G2 = G ∧ s2 = s ∧ ((-2147483648) ≤ r ∧ r ≤ 2147483647))) := by
  refine Con.mk hst (by decide) (fun G s vs h => by rw [h.1]; exact Nat.le_of_ble_eq_true rfl) ?_
  rintro X G s0 vs ⟨rfl, hG, hS0, ha, hx1⟩ rfl hx hq
  show JJ X E 2 G s0 0 0 [(0, .ref a), (1, .int (zI x1))] 0 []
  refine j_iload_n hx 1 dX4_turnOfMark_0 rfl ?_
  refine j_if_lt hx 22 dX4_turnOfMark_1 rfl (by omega) (fun h1 => ?_) (fun h1 => ?_)
  · skip
    refine j_iconst hx dX4_turnOfMark_22 ?_
    exact j_iret hx hq rfl (by decide) (by decide) dX4_turnOfMark_23 ⟨(-1), rfl, rfl, rfl, (by omega)⟩
  · skip
    refine j_iload_n hx 1 dX4_turnOfMark_4 rfl ?_
    refine j_aload_n hx 0 dX4_turnOfMark_5 rfl ?_
    refine g5_3 hx hG ha kf_RX4_24 dX4_turnOfMark_6 ?_
    refine j_alen hx hG (zr (k := 3) (t2 := 60) hG ha rfl) (by decide) (by decide) (zlen hG (zr (k := 3) (t2 := 60) hG ha rfl) (n := 512) rfl rfl) dX4_turnOfMark_9 ?_
    refine j_icmp_ge hx 22 dX4_turnOfMark_10 rfl (by omega) ⟨by decide, by decide⟩ (fun h2 => ?_) (fun h2 => ?_)
    · skip
      refine j_iconst hx dX4_turnOfMark_22 ?_
      exact j_iret hx hq rfl (by decide) (by decide) dX4_turnOfMark_23 ⟨(-1), rfl, rfl, rfl, (by omega)⟩
    · skip
      refine j_aload_n hx 0 dX4_turnOfMark_13 rfl ?_
      refine g5_3 hx hG ha kf_RX4_24 dX4_turnOfMark_14 ?_
      refine j_iload_n hx 1 dX4_turnOfMark_17 rfl ?_
      have f3 := zaI (j := (x1).toNat) hS0 (zr (k := 3) (t2 := 60) hG ha rfl) rfl (zlen hG (zr (k := 3) (t2 := 60) hG ha rfl) (n := 512) rfl rfl) (show 0 ≤ x1 by omega) (by omega) rfl
      refine j_iald hx hG (zr (k := 3) (t2 := 60) hG ha rfl) (by decide) rfl (zlen hG (zr (k := 3) (t2 := 60) hG ha rfl) (n := 512) rfl rfl) (by omega) (by omega) (j := (x1).toNat) rfl rfl dX4_turnOfMark_18 ?_
      refine j_goto hx 23 dX4_turnOfMark_19 rfl ?_
      exact j_iret hx hq rfl (by decide) (by decide) dX4_turnOfMark_23 ⟨(s0 (gP G a 3) (x1).toNat), rfl, rfl, rfl, (by omega)⟩

set_option maxHeartbeats 4000000 in
set_option maxRecDepth 20000 in
theorem c_X0_unpack {E : zE} {l : Launch} (hst : l.stackTraces = false) (a : Nat) (b1 : Nat) (x2 : Int) : Con E l yX0_unpack cX0_unpack 10 none { frames := 2, cells := 0, slots := 0, locals := 42 } (fun G s vs => vs = [.ref a, .ref b1, .int (zI x2)] ∧ zGK G ∧ zSK G s ∧ (gT G a = 1) ∧ (gT G b1 = 53) ∧ ((-2147483648) ≤ x2 ∧ x2 ≤ 2147483647)) (fun G s _ => pV (fun G2 s2 => G2 = G ∧ zSK G s2 ∧ zFr [1, 7, 41] G s s2 ∧ True)) := by
  refine Con.mk hst (by decide) (fun G s vs h => by rw [h.1]; exact Nat.le_of_ble_eq_true rfl) ?_
  rintro X G s0 vs ⟨rfl, hG, hS0, ha, hb1, hx2⟩ rfl hx hq
  show JJ X E 10 G s0 0 0 [(0, .ref a), (1, .ref b1), (2, .int (zI x2))] 0 []
  refine j_iload_n hx 2 dX0_unpack_0 rfl ?_
  refine j_if_lt hx 13 dX0_unpack_1 rfl (by omega) (fun h1 => ?_) (fun h1 => ?_)
  · skip
    exact j_vret hx hq rfl (by decide) (by decide) dX0_unpack_13 ⟨rfl, rfl, hS0, zFr_rf, trivial⟩
  · skip
    refine j_iload_n hx 2 dX0_unpack_4 rfl ?_
    refine j_aload_n hx 1 dX0_unpack_5 rfl ?_
    have f2 := znb hG b1
    refine j_alen hx hG hb1 (by decide) (by decide) rfl dX0_unpack_6 ?_
    refine j_bipush hx dX0_unpack_7 rfl ?_
    refine j_isub hx (r := (gN G b1 : Int) - 7) dX0_unpack_9 (by omega) ?_
    refine j_icmp_le hx 14 dX0_unpack_10 rfl (by omega) (by omega) (fun h3 => ?_) (fun h3 => ?_)
    · skip
      refine j_aload_n hx 1 dX0_unpack_14 rfl ?_
      refine j_iload_n hx 2 dX0_unpack_15 rfl ?_
      refine j_iconst hx dX0_unpack_16 ?_
      refine j_iadd hx (r := x2 + 5) dX0_unpack_17 rfl ?_
      have f4 := zaI (j := (x2 + 5).toNat) hS0 hb1 rfl rfl (show 0 ≤ x2 + 5 by omega) (by omega) rfl
      refine j_lald hx hG hb1 (by decide) rfl rfl (by omega) (by omega) (j := (x2 + 5).toNat) rfl rfl dX0_unpack_18 ?_
      refine j_lstore_n hx [(3, .long (zL ((s0 b1 (x2 + 5).toNat)))), (0, .ref a), (1, .ref b1), (2, .int (zI x2))] dX0_unpack_19 (by decide) rfl ?_
      refine j_iconst hx dX0_unpack_20 ?_
      refine j_istore hx [(5, .int (zI 0)), (3, .long (zL ((s0 b1 (x2 + 5).toNat)))), (0, .ref a), (1, .ref b1), (2, .int (zI x2))] dX0_unpack_21 (by decide) rfl ?_
      refine j_iconst hx dX0_unpack_23 ?_
      refine j_istore hx [(6, .int (zI 0)), (5, .int (zI 0)), (3, .long (zL ((s0 b1 (x2 + 5).toNat)))), (0, .ref a), (1, .ref b1), (2, .int (zI x2))] dX0_unpack_24 (by decide) rfl ?_
      have c26_1 : ∀ (m_c26_1 : Nat) (v5 : Int) (v6 : Int) (s2 : zS), 2147483648 - v6 < m_c26_1 → (0 ≤ v5 ∧ v5 ≤ 60) → (0 ≤ v6 ∧ v6 ≤ 7) → (zSK G s2) → (zFr [7, 41] G s0 s2) → JJ X E 10 G s2 0 0 [(0, .ref a), (1, .ref b1), (2, .int (zI x2)), (3, .long (zL ((s0 b1 (x2 + 5).toNat)))), (5, .int (zI v5)), (6, .int (zI v6))] 26 [] := by
        intro m_c26_1
        induction m_c26_1 with
        | zero => intro v5 v6 s2 hm_c26_1 fA3 fA4 hS_s2 hF_s2; exfalso; omega
        | succ m_c26_1 ih_c26_1 => 
          intro v5 v6 s2 hm_c26_1 fA3 fA4 hS_s2 hF_s2
          refine j_iload hx 5 dX0_unpack_26 rfl ?_
          refine j_bipush hx dX0_unpack_28 rfl ?_
          refine j_icmp_ge hx 118 dX0_unpack_30 rfl (by omega) ⟨by decide, by decide⟩ (fun h7 => ?_) (fun h7 => ?_)
          · skip
            refine j_aload_n hx 0 dX0_unpack_118 rfl ?_
            refine j_iconst hx dX0_unpack_119 ?_
            refine j_lload_n hx 3 dX0_unpack_120 rfl ?_
            refine j_bipush hx dX0_unpack_121 rfl ?_
            refine j_lushr hx dX0_unpack_123 (fun w8 f9 f10 => ?_)
            refine j_l2i hx dX0_unpack_124 (by omega) (fun v11 f12 f13 f14 => ?_)
            refine j_iconst hx dX0_unpack_125 ?_
            refine j_iand hx dX0_unpack_126 (by omega) ⟨by decide, by decide⟩ (fun v15 f16 f17 f18 f19 _ => ?_)
            refine j_iconst hx dX0_unpack_127 ?_
            refine j_isub hx (r := v15 - 1) dX0_unpack_128 rfl ?_
            refine j_mmax hx km_RX0_110 kst_max kn_RJ9 kc_Lib_Math_max_name ⟨by decide, by decide⟩ (by omega) ⟨by decide, Nat.le_of_ble_eq_true rfl⟩ ⟨by decide, by decide⟩ dX0_unpack_129 (fun v21 f22 f23 f24 => ?_)
            refine p1_8 hx hG ha kf_RX0_53 dX0_unpack_132 ?_
            obtain ⟨s7, e_s7⟩ : ∃ z, z = zU s2 a 8 v21 := ⟨_, rfl⟩
            rw [← e_s7]
            have hS_s7 : zSK G s7 := by rw [e_s7]; exact zSK_F hS_s2 ha rfl rfl rfl (by omega)
            exact j_vret hx hq rfl (by decide) (by decide) dX0_unpack_135 ⟨rfl, rfl, hS_s7, (zFr_u (zFr_t zFr_rf hF_s2 (by decide)) e_s7 ha (by decide)), trivial⟩
          · skip
            refine j_aload_n hx 0 dX0_unpack_33 rfl ?_
            refine j_iload hx 5 dX0_unpack_34 rfl ?_
            refine j_callV hx hG (c_X0_pileOf hst a v6) lk_RX0_47 ha (by decide) rfl rfl rfl rfl [.int (zI v6)] ⟨rfl, hG, hS_s2, ha, (by omega)⟩ rfl rfl ⟨by decide, by decide⟩ ⟨by decide, by decide⟩ (k2 := 0) (n2 := 0) rfl rfl (Nat.le_of_ble_eq_true rfl) dX0_unpack_36 (kRP (fun r25 q26 => ?_))
            refine j_astore hx [(7, .ref r25), (0, .ref a), (1, .ref b1), (2, .int (zI x2)), (3, .long (zL ((s0 b1 (x2 + 5).toNat)))), (5, .int (zI v5)), (6, .int (zI v6))] dX0_unpack_39 (by decide) rfl ?_
            refine j_lload_n hx 4 dX0_unpack_41 rfl ?_
            refine j_bipush hx dX0_unpack_42 rfl ?_
            refine j_iload hx 6 dX0_unpack_44 rfl ?_
            refine j_imul hx (r := 6 * v6) dX0_unpack_46 rfl ?_
            refine j_lushr hx dX0_unpack_47 (fun w27 f28 f29 => ?_)
            refine j_l2i hx dX0_unpack_48 (by omega) (fun v30 f31 f32 f33 => ?_)
            refine j_bipush hx dX0_unpack_49 rfl ?_
            refine j_iand hx dX0_unpack_51 (by omega) ⟨by decide, by decide⟩ (fun v34 f35 f36 f37 f38 _ => ?_)
            refine j_istore hx [(8, .int (zI v34)), (7, .ref r25), (0, .ref a), (1, .ref b1), (2, .int (zI x2)), (3, .long (zL ((s0 b1 (x2 + 5).toNat)))), (5, .int (zI v5)), (6, .int (zI v6))] dX0_unpack_52 (by decide) rfl ?_
            refine j_aload hx 1 dX0_unpack_54 rfl ?_
            refine j_iconst hx dX0_unpack_56 ?_
            refine pN7_1 hx hG q26 kf_RX0_43 dX0_unpack_57 ?_
            obtain ⟨s8, e_s8⟩ : ∃ z, z = zU s2 r25 1 0 := ⟨_, rfl⟩
            rw [← e_s8]
            have hS_s8 : zSK G s8 := by rw [e_s8]; exact zSK_F hS_s2 q26 rfl rfl rfl (by omega)
            refine j_iconst hx dX0_unpack_60 ?_
            refine j_istore hx [(9, .int (zI 0)), (8, .int (zI v34)), (7, .ref r25), (0, .ref a), (1, .ref b1), (2, .int (zI x2)), (3, .long (zL ((s0 b1 (x2 + 5).toNat)))), (5, .int (zI v5)), (6, .int (zI v6))] dX0_unpack_61 (by decide) rfl ?_
            have c63_9 : ∀ (m_c63_9 : Nat) (v40 : Int) (v41 : Int) (s10 : zS), 2147483648 - v41 < m_c63_9 → (0 ≤ v40 ∧ v40 ≤ 60) → (0 ≤ v41 ∧ v41 ≤ 63) → (zSK G s10) → (zFr [7, 41] G s8 s10) → JJ X E 10 G s10 0 0 [(0, .ref a), (1, .ref b1), (2, .int (zI x2)), (3, .long (zL ((s0 b1 (x2 + 5).toNat)))), (5, .int (zI v40)), (6, .int (zI v6)), (7, .ref r25), (8, .int (zI v34)), (9, .int (zI v41))] 63 [] := by
              intro m_c63_9
              induction m_c63_9 with
              | zero => intro v40 v41 s10 hm_c63_9 fA11 fA12 hS_s10 hF_s10; exfalso; omega
              | succ m_c63_9 ih_c63_9 => 
                intro v40 v41 s10 hm_c63_9 fA11 fA12 hS_s10 hF_s10
                refine j_iload hx 8 dX0_unpack_63 rfl ?_
                refine j_iload hx 7 dX0_unpack_65 rfl ?_
                have c112_15 : JJ X E 10 G s10 0 0 [(0, .ref a), (1, .ref b1), (2, .int (zI x2)), (3, .long (zL ((s0 b1 (x2 + 5).toNat)))), (5, .int (zI v40)), (6, .int (zI v6))] 112 [] := by
                  refine j_iinc hx 5 [(6, .int (zI (v6 + 1))), (0, .ref a), (1, .ref b1), (2, .int (zI x2)), (3, .long (zL ((s0 b1 (x2 + 5).toNat)))), (5, .int (zI v40))] dX0_unpack_112 rfl (by omega) (by decide) rfl ?_
                  refine j_goto hx 26 dX0_unpack_115 rfl ?_
                  exact j_sub [1, 2, 3, 4, 5, 0] [(0, .ref a), (1, .ref b1), (2, .int (zI x2)), (3, .long (zL ((s0 b1 (x2 + 5).toNat)))), (5, .int (zI v40)), (6, .int (zI (v6 + 1)))] rfl (ih_c26_1 v40 (v6 + 1) s10 (by omega) (by omega) (by omega) hS_s10 (zFr_t (zFr_u (zFr_t zFr_rf hF_s2 (by decide)) e_s8 q26 (by decide)) hF_s10 (by decide)))
                refine j_icmp_ge hx 112 dX0_unpack_67 rfl (by omega) (by omega) (fun h42 => ?_) (fun h42 => ?_)
                · skip
                  exact j_sub [0, 1, 2, 3, 4, 5] [(0, .ref a), (1, .ref b1), (2, .int (zI x2)), (3, .long (zL ((s0 b1 (x2 + 5).toNat)))), (5, .int (zI v40)), (6, .int (zI v6))] rfl (c112_15  )
                · skip
                  refine j_iload hx 4 dX0_unpack_70 rfl ?_
                  refine j_bipush hx dX0_unpack_72 rfl ?_
                  refine j_icmp_ge hx 112 dX0_unpack_74 rfl (by omega) ⟨by decide, by decide⟩ (fun h43 => ?_) (fun h43 => ?_)
                  · skip
                    exact j_sub [0, 1, 2, 3, 4, 5] [(0, .ref a), (1, .ref b1), (2, .int (zI x2)), (3, .long (zL ((s0 b1 (x2 + 5).toNat)))), (5, .int (zI v40)), (6, .int (zI v6))] rfl (c112_15  )
                  · skip
                    refine j_aload hx 6 dX0_unpack_77 rfl ?_
                    refine j_aload_n hx 1 dX0_unpack_79 rfl ?_
                    refine j_iload_n hx 2 dX0_unpack_80 rfl ?_
                    refine j_iload hx 4 dX0_unpack_81 rfl ?_
                    refine j_bipush hx dX0_unpack_83 rfl ?_
                    refine j_idiv hx dX0_unpack_85 (by omega) ⟨by decide, by decide⟩ (by decide) (fun v44 f45 f46 f47 => ?_)
                    refine j_iadd hx (r := x2 + v44) dX0_unpack_86 rfl ?_
                    have f50 := zaI (j := (x2 + v44).toNat) hS0 hb1 rfl rfl (show 0 ≤ x2 + v44 by omega) (by omega) rfl
                    refine j_lald hx hG hb1 (by decide) rfl rfl (by omega) (by omega) (j := (x2 + v44).toNat) rfl (v := (s0 b1 (x2 + v44).toNat)) (by rw [(zFr_g hF_s10 hb1 (by decide)), e_s8, zU_at (Or.inl (zne q26 hb1 (by decide))), (zFr_g hF_s2 hb1 (by decide))]) dX0_unpack_87 ?_
                    refine j_iconst hx dX0_unpack_88 ?_
                    refine j_iload hx 4 dX0_unpack_89 rfl ?_
                    refine j_bipush hx dX0_unpack_91 rfl ?_
                    refine j_irem hx dX0_unpack_93 (by omega) ⟨by decide, by decide⟩ (by decide) (fun v51 f52 f53 f54 f55 => ?_)
                    refine j_imul hx (r := 5 * v51) dX0_unpack_94 rfl ?_
                    refine j_lushr hx dX0_unpack_95 (fun w57 f58 f59 => ?_)
                    refine j_l2i hx dX0_unpack_96 (by omega) (fun v60 f61 f62 f63 => ?_)
                    refine j_bipush hx dX0_unpack_97 rfl ?_
                    refine j_iand hx dX0_unpack_99 (by omega) ⟨by decide, by decide⟩ (fun v64 f65 f66 f67 f68 _ => ?_)
                    refine j_callV hx hG (c_X6_put hst r25 v64) lk_RX0_88 q26 (by decide) rfl rfl rfl rfl [.int (zI v64)] ⟨rfl, hG, hS_s10, q26, (by omega)⟩ rfl rfl ⟨by decide, by decide⟩ ⟨by decide, by decide⟩ (k2 := 0) (n2 := 0) rfl rfl (Nat.le_of_ble_eq_true rfl) dX0_unpack_100 (kVM (fun s16 hS_s16 hF_s16 q71 => ?_))
                    refine j_iinc hx 4 [(5, .int (zI (v40 + 1))), (0, .ref a), (1, .ref b1), (2, .int (zI x2)), (3, .long (zL ((s0 b1 (x2 + 5).toNat)))), (6, .int (zI v6)), (7, .ref r25), (8, .int (zI v34)), (9, .int (zI v41))] dX0_unpack_103 rfl (by omega) (by decide) rfl ?_
                    refine j_iinc hx 8 [(9, .int (zI (v41 + 1))), (5, .int (zI (v40 + 1))), (0, .ref a), (1, .ref b1), (2, .int (zI x2)), (3, .long (zL ((s0 b1 (x2 + 5).toNat)))), (6, .int (zI v6)), (7, .ref r25), (8, .int (zI v34))] dX0_unpack_106 rfl (by omega) (by decide) rfl ?_
                    refine j_goto hx 63 dX0_unpack_109 rfl ?_
                    exact j_sub [2, 3, 4, 5, 1, 6, 7, 8, 0] [(0, .ref a), (1, .ref b1), (2, .int (zI x2)), (3, .long (zL ((s0 b1 (x2 + 5).toNat)))), (5, .int (zI (v40 + 1))), (6, .int (zI v6)), (7, .ref r25), (8, .int (zI v34)), (9, .int (zI (v41 + 1)))] rfl (ih_c63_9 (v40 + 1) (v41 + 1) s16 (by omega) (by omega) (by omega) hS_s16 (zFr_t (zFr_t zFr_rf hF_s10 (by decide)) hF_s16 (by decide)))
            exact j_sub [3, 4, 5, 6, 7, 8, 2, 1, 0] [(0, .ref a), (1, .ref b1), (2, .int (zI x2)), (3, .long (zL ((s0 b1 (x2 + 5).toNat)))), (5, .int (zI v5)), (6, .int (zI v6)), (7, .ref r25), (8, .int (zI v34)), (9, .int (zI 0))] rfl (c63_9 (2147483648 * 4) v5 0 s8 (by omega) (by omega) (by omega) hS_s8 zFr_rf)
      exact j_sub [3, 4, 5, 2, 1, 0] [(0, .ref a), (1, .ref b1), (2, .int (zI x2)), (3, .long (zL ((s0 b1 (x2 + 5).toNat)))), (5, .int (zI 0)), (6, .int (zI 0))] rfl (c26_1 (2147483648 * 4) 0 0 s0 (by omega) (by omega) (by omega) hS0 zFr_rf)
    · skip
      exact j_vret hx hq rfl (by decide) (by decide) dX0_unpack_13 ⟨rfl, rfl, hS0, zFr_rf, trivial⟩

theorem lk_RX4_90 : LkV RX4 90 RX0 yX0_unpack cX0_unpack 10 none 2 := ⟨km_RX4_90, ki_yX0_unpack, ks_RX0_yX0_unpack, kn_RX0, kc_yX0_unpack, rfl, by decide +kernel, by decide +kernel, by decide +kernel⟩
set_option maxHeartbeats 4000000 in
set_option maxRecDepth 20000 in
theorem c_X4_goTo {E : zE} {l : Launch} (hst : l.stackTraces = false) (a : Nat) (b1 : Nat) (x2 : Int) : Con E l yX4_goTo cX4_goTo 6 (some .boolean) { frames := 3, cells := 0, slots := 0, locals := 71 } (fun G s vs => vs = [.ref a, .ref b1, .int (zI x2)] ∧ zGK G ∧ zSK G s ∧ (gT G a = 5) ∧ (gT G b1 = 4) ∧ ((-2147483648) ≤ x2 ∧ x2 ≤ 2147483647)) (fun G s _ => pI (fun r G2 s2 => G2 = G ∧ zSK G s2 ∧ zFr [1, 4, 7, 41, 50] G s s2 ∧ (0 ≤ r ∧ r ≤ 1))) := by
  refine Con.mk hst (by decide) (fun G s vs h => by rw [h.1]; exact Nat.le_of_ble_eq_true rfl) ?_
  rintro X G s0 vs ⟨rfl, hG, hS0, ha, hb1, hx2⟩ rfl hx hq
  show JJ X E 6 G s0 0 0 [(0, .ref a), (1, .ref b1), (2, .int (zI x2))] 0 []
  refine j_iload_n hx 2 dX4_goTo_0 rfl ?_
  refine j_bipush hx dX4_goTo_1 rfl ?_
  refine j_imul hx (r := 7 * x2) dX4_goTo_3 (by omega) ?_
  refine j_norm (fun v1 f2 f3 f4 => ?_)
  refine j_istore_n hx [(3, .int (zI v1)), (0, .ref a), (1, .ref b1), (2, .int (zI x2))] dX4_goTo_4 (by decide) rfl ?_
  refine j_iload_n hx 3 dX4_goTo_5 rfl ?_
  refine j_if_lt hx 30 dX4_goTo_6 rfl (by omega) (fun h5 => ?_) (fun h5 => ?_)
  · skip
    refine j_iconst hx dX4_goTo_30 ?_
    exact j_zret hx hq rfl (by decide) (by decide) dX4_goTo_31 (by omega) ⟨0, rfl, rfl, hS0, zFr_rf, (by omega)⟩
  · skip
    refine j_iload_n hx 3 dX4_goTo_9 rfl ?_
    refine j_aload_n hx 1 dX4_goTo_10 rfl ?_
    refine g5_3 hx hG ha kf_RX4_24 dX4_goTo_11 ?_
    refine j_alen hx hG (zr (k := 3) (t2 := 60) hG ha rfl) (by decide) (by decide) (zlen hG (zr (k := 3) (t2 := 60) hG ha rfl) (n := 512) rfl rfl) dX4_goTo_14 ?_
    refine j_icmp_ge hx 30 dX4_goTo_15 rfl (by omega) ⟨by decide, by decide⟩ (fun h6 => ?_) (fun h6 => ?_)
    · skip
      refine j_iconst hx dX4_goTo_30 ?_
      exact j_zret hx hq rfl (by decide) (by decide) dX4_goTo_31 (by omega) ⟨0, rfl, rfl, hS0, zFr_rf, (by omega)⟩
    · skip
      refine j_iload_n hx 0 dX4_goTo_18 rfl ?_
      refine j_aload_n hx 1 dX4_goTo_19 rfl ?_
      refine g5_1 hx hG ha kf_RX4_15 dX4_goTo_20 ?_
      have f7 := znb hG (gP G a 1)
      refine j_alen hx hG (zr (k := 1) (t2 := 53) hG ha rfl) (by decide) (by decide) rfl dX4_goTo_23 ?_
      refine j_bipush hx dX4_goTo_24 rfl ?_
      refine j_isub hx (r := (gN G (gP G a 1) : Int) - 7) dX4_goTo_26 (by omega) ?_
      refine j_icmp_le hx 32 dX4_goTo_27 rfl (by omega) (by omega) (fun h8 => ?_) (fun h8 => ?_)
      · skip
        refine j_aload_n hx 2 dX4_goTo_32 rfl ?_
        refine gN4_1 hx hG hb1 kf_RX4_74 dX4_goTo_33 ?_
        refine j_aload_n hx 1 dX4_goTo_36 rfl ?_
        refine g5_1 hx hG ha kf_RX4_15 dX4_goTo_37 ?_
        refine j_iload_n hx 0 dX4_goTo_40 rfl ?_
        refine j_callV hx hG (c_X0_unpack hst (gP G b1 1) (gP G a 1) v1) lk_RX4_90 (zr (k := 1) (t2 := 1) hG hb1 rfl) (by decide) rfl rfl rfl rfl [.ref (gP G a 1), .int (zI v1)] ⟨rfl, hG, hS0, (zr (k := 1) (t2 := 1) hG hb1 rfl), (zr (k := 1) (t2 := 53) hG ha rfl), (by omega)⟩ rfl rfl ⟨by decide, by decide⟩ ⟨by decide, by decide⟩ (k2 := 0) (n2 := 0) rfl rfl (Nat.le_of_ble_eq_true rfl) dX4_goTo_41 (kVM (fun s1 hS_s1 hF_s1 q10 => ?_))
        refine j_aload_n hx 2 dX4_goTo_44 rfl ?_
        refine j_aload_n hx 1 dX4_goTo_45 rfl ?_
        refine g5_1 hx hG ha kf_RX4_15 dX4_goTo_46 ?_
        refine j_iload_n hx 0 dX4_goTo_49 rfl ?_
        refine j_bipush hx dX4_goTo_50 rfl ?_
        refine j_iadd hx (r := v1 + 6) dX4_goTo_52 rfl ?_
        have f11 := zaI (j := (v1 + 6).toNat) hS0 (zr (k := 1) (t2 := 53) hG ha rfl) rfl rfl (show 0 ≤ v1 + 6 by omega) (by omega) rfl
        refine j_lald hx hG (zr (k := 1) (t2 := 53) hG ha rfl) (by decide) rfl rfl (by omega) (by omega) (j := (v1 + 6).toNat) rfl (v := (s0 (gP G a 1) (v1 + 6).toNat)) (by rw [(zFr_g hF_s1 (zr (k := 1) (t2 := 53) hG ha rfl) (by decide))]) dX4_goTo_53 ?_
        refine j_l2i hx dX4_goTo_54 (by omega) (fun v12 f13 f14 f15 => ?_)
        refine pN4_9 hx hG hb1 kf_RX4_84 dX4_goTo_55 ?_
        obtain ⟨s2, e_s2⟩ : ∃ z, z = zU s1 b1 9 v12 := ⟨_, rfl⟩
        rw [← e_s2]
        have hS_s2 : zSK G s2 := by rw [e_s2]; exact zSK_F hS_s1 hb1 rfl rfl rfl (by omega)
        refine j_iconst hx dX4_goTo_58 ?_
        refine j_istore hx [(4, .int (zI 0)), (3, .int (zI v1)), (0, .ref a), (1, .ref b1), (2, .int (zI x2))] dX4_goTo_59 (by decide) rfl ?_
        have c61_3 : ∀ (m_c61_3 : Nat) (v16 : Int) (s4 : zS), 2147483648 - v16 < m_c61_3 → (0 ≤ v16 ∧ v16 ≤ 21) → (zSK G s4) → (zFr [50] G s2 s4) → JJ X E 6 G s4 0 0 [(0, .ref a), (1, .ref b1), (2, .int (zI x2)), (4, .int (zI v16))] 61 [] := by
          intro m_c61_3
          induction m_c61_3 with
          | zero => intro v16 s4 hm_c61_3 fA5 hS_s4 hF_s4; exfalso; omega
          | succ m_c61_3 ih_c61_3 => 
            intro v16 s4 hm_c61_3 fA5 hS_s4 hF_s4
            refine j_iload hx 3 dX4_goTo_61 rfl ?_
            refine j_bipush hx dX4_goTo_63 rfl ?_
            refine j_icmp_ge hx 121 dX4_goTo_65 rfl (by omega) ⟨by decide, by decide⟩ (fun h17 => ?_) (fun h17 => ?_)
            · skip
              refine j_aload_n hx 1 dX4_goTo_121 rfl ?_
              refine j_aload_n hx 0 dX4_goTo_122 rfl ?_
              refine g5_3 hx hG ha kf_RX4_24 dX4_goTo_123 ?_
              refine j_iload_n hx 2 dX4_goTo_126 rfl ?_
              have f18 := zaI (j := (x2).toNat) hS0 (zr (k := 3) (t2 := 60) hG ha rfl) rfl (zlen hG (zr (k := 3) (t2 := 60) hG ha rfl) (n := 512) rfl rfl) (show 0 ≤ x2 by omega) (by omega) rfl
              refine j_iald hx hG (zr (k := 3) (t2 := 60) hG ha rfl) (by decide) rfl (zlen hG (zr (k := 3) (t2 := 60) hG ha rfl) (n := 512) rfl rfl) (by omega) (by omega) (j := (x2).toNat) rfl (v := (s0 (gP G a 3) (x2).toNat)) (by rw [(zFr_g hF_s4 (zr (k := 3) (t2 := 60) hG ha rfl) (by decide)), e_s2, zU_at (Or.inl (zne hb1 (zr (k := 3) (t2 := 60) hG ha rfl) (by decide))), (zFr_g hF_s1 (zr (k := 3) (t2 := 60) hG ha rfl) (by decide))]) dX4_goTo_127 ?_
              refine pN4_10 hx hG hb1 kf_RX4_46 dX4_goTo_128 ?_
              obtain ⟨s8, e_s8⟩ : ∃ z, z = zU s4 b1 10 ((s0 (gP G a 3) (x2).toNat)) := ⟨_, rfl⟩
              rw [← e_s8]
              have hS_s8 : zSK G s8 := by rw [e_s8]; exact zSK_F hS_s4 hb1 rfl rfl rfl (by omega)
              refine j_iconst hx dX4_goTo_131 ?_
              exact j_zret hx hq rfl (by decide) (by decide) dX4_goTo_132 (by omega) ⟨1, rfl, rfl, hS_s8, (zFr_u (zFr_t (zFr_u (zFr_t zFr_rf hF_s1 (by decide)) e_s2 hb1 (by decide)) hF_s4 (by decide)) e_s8 hb1 (by decide)), (by omega)⟩
            · skip
              refine j_iload hx 3 dX4_goTo_68 rfl ?_
              refine j_aload_n hx 1 dX4_goTo_70 rfl ?_
              refine gN4_4 hx hG hb1 kf_RX4_93 dX4_goTo_71 ?_
              refine j_alen hx hG (zr (k := 4) (t2 := 50) hG hb1 rfl) (by decide) (by decide) (zlen hG (zr (k := 4) (t2 := 50) hG hb1 rfl) (n := 21) rfl rfl) dX4_goTo_74 ?_
              refine j_icmp_ge hx 121 dX4_goTo_75 rfl (by omega) ⟨by decide, by decide⟩ (fun h19 => absurd h19 (by omega)) (fun h19 => ?_)
              refine j_iload_n hx 2 dX4_goTo_78 rfl ?_
              refine j_bipush hx dX4_goTo_79 rfl ?_
              refine j_imul hx (r := 21 * x2) dX4_goTo_81 (by omega) ?_
              refine j_iload hx 3 dX4_goTo_82 rfl ?_
              refine j_iadd hx (r := 21 * x2 + v16) dX4_goTo_84 (by omega) ?_
              refine j_istore hx [(5, .int (zI (21 * x2 + v16))), (0, .ref a), (1, .ref b1), (2, .int (zI x2)), (4, .int (zI v16))] dX4_goTo_85 (by decide) rfl ?_
              refine j_aload_n hx 2 dX4_goTo_87 rfl ?_
              refine gN4_4 hx hG hb1 kf_RX4_93 dX4_goTo_88 ?_
              refine j_iload hx 4 dX4_goTo_91 rfl ?_
              refine j_iload hx 0 dX4_goTo_93 rfl ?_
              refine j_aload_n hx 1 dX4_goTo_95 rfl ?_
              refine g5_2 hx hG ha kf_RX4_20 dX4_goTo_96 ?_
              refine j_alen hx hG (zr (k := 2) (t2 := 59) hG ha rfl) (by decide) (by decide) (zlen hG (zr (k := 2) (t2 := 59) hG ha rfl) (n := 10752) rfl rfl) dX4_goTo_99 ?_
              refine j_icmp_ge hx 113 dX4_goTo_100 rfl (by omega) ⟨by decide, by decide⟩ (fun h20 => absurd h20 (by omega)) (fun h20 => ?_)
              refine j_aload_n hx 1 dX4_goTo_103 rfl ?_
              refine g5_2 hx hG ha kf_RX4_20 dX4_goTo_104 ?_
              refine j_iload hx 0 dX4_goTo_107 rfl ?_
              have f21 := zaI (j := (21 * x2 + v16).toNat) hS0 (zr (k := 2) (t2 := 59) hG ha rfl) rfl (zlen hG (zr (k := 2) (t2 := 59) hG ha rfl) (n := 10752) rfl rfl) (show 0 ≤ 21 * x2 + v16 by omega) (by omega) rfl
              refine j_iald hx hG (zr (k := 2) (t2 := 59) hG ha rfl) (by decide) rfl (zlen hG (zr (k := 2) (t2 := 59) hG ha rfl) (n := 10752) rfl rfl) (by omega) (by omega) (j := (21 * x2 + v16).toNat) rfl (v := (s0 (gP G a 2) (21 * x2 + v16).toNat)) (by rw [(zFr_g hF_s4 (zr (k := 2) (t2 := 59) hG ha rfl) (by decide)), e_s2, zU_at (Or.inl (zne hb1 (zr (k := 2) (t2 := 59) hG ha rfl) (by decide))), (zFr_g hF_s1 (zr (k := 2) (t2 := 59) hG ha rfl) (by decide))]) dX4_goTo_109 ?_
              refine j_goto hx 114 dX4_goTo_110 rfl ?_
              refine j_iast hx hG (zr (k := 4) (t2 := 50) hG hb1 rfl) (by decide) rfl (zlen hG (zr (k := 4) (t2 := 50) hG hb1 rfl) (n := 21) rfl rfl) (by omega) (by omega) (j := (v16).toNat) rfl dX4_goTo_114 ?_
              obtain ⟨s9, e_s9⟩ : ∃ z, z = zU s4 (gP G b1 4) (v16).toNat ((s0 (gP G a 2) (21 * x2 + v16).toNat)) := ⟨_, rfl⟩
              rw [← e_s9]
              have hS_s9 : zSK G s9 := by rw [e_s9]; exact zSK_A hS_s4 (zr (k := 4) (t2 := 50) hG hb1 rfl) rfl rfl rfl (by omega)
              refine j_iinc hx 4 [(4, .int (zI (v16 + 1))), (5, .int (zI (21 * x2 + v16))), (0, .ref a), (1, .ref b1), (2, .int (zI x2))] dX4_goTo_115 rfl (by omega) (by decide) rfl ?_
              refine j_goto hx 61 dX4_goTo_118 rfl ?_
              exact j_sub [2, 3, 4, 0] [(0, .ref a), (1, .ref b1), (2, .int (zI x2)), (4, .int (zI (v16 + 1)))] rfl (ih_c61_3 (v16 + 1) s9 (by omega) (by omega) hS_s9 (zFr_u (zFr_t zFr_rf hF_s4 (by decide)) e_s9 (zr (k := 4) (t2 := 50) hG hb1 rfl) (by decide)))
        exact j_sub [2, 3, 4, 0] [(0, .ref a), (1, .ref b1), (2, .int (zI x2)), (4, .int (zI 0))] rfl (c61_3 (2147483648 * 4) 0 s2 (by omega) (by omega) hS_s2 zFr_rf)
      · skip
        refine j_iconst hx dX4_goTo_30 ?_
        exact j_zret hx hq rfl (by decide) (by decide) dX4_goTo_31 (by omega) ⟨0, rfl, rfl, hS0, zFr_rf, (by omega)⟩

theorem lk_RX4_66 : LkV RX4 66 RX4 yX4_goTo cX4_goTo 6 (some .boolean) 2 := ⟨km_RX4_66, ki_yX4_goTo, ks_RX4_yX4_goTo, kn_RX4, kc_yX4_goTo, rfl, by decide +kernel, by decide +kernel, by decide +kernel⟩
theorem lk_RX4_63 : LkV RX4 63 RX4 yX4_turnOfMark cX4_turnOfMark 2 (some .int) 1 := ⟨km_RX4_63, ki_yX4_turnOfMark, ks_RX4_yX4_turnOfMark, kn_RX4, kc_yX4_turnOfMark, rfl, by decide +kernel, by decide +kernel, by decide +kernel⟩
set_option maxHeartbeats 4000000 in
set_option maxRecDepth 20000 in
theorem c_X4_undoTurns {E : zE} {l : Launch} (hst : l.stackTraces = false) (a : Nat) (b1 : Nat) (x2 : Int) : Con E l yX4_undoTurns cX4_undoTurns 7 (some .int) { frames := 6, cells := 0, slots := 0, locals := 143 } (fun G s vs => vs = [.ref a, .ref b1, .int (zI x2)] ∧ zGK G ∧ zSK G s ∧ (gT G a = 5) ∧ (gT G b1 = 4) ∧ ((-2147483648) ≤ x2 ∧ x2 ≤ 2147483647)) (fun G s _ => pI (fun r G2 s2 => G2 = G ∧ zSK G s2 ∧ zFr [1, 4, 5, 7, 41, 50, 51, 52] G s s2 ∧ ((-2147483648) ≤ r ∧ r ≤ 2147483647))) := by
  refine Con.mk hst (by decide) (fun G s vs h => by rw [h.1]; exact Nat.le_of_ble_eq_true rfl) ?_
  rintro X G s0 vs ⟨rfl, hG, hS0, ha, hb1, hx2⟩ rfl hx hq
  show JJ X E 7 G s0 0 0 [(0, .ref a), (1, .ref b1), (2, .int (zI x2))] 0 []
  refine j_iload_n hx 2 dX4_undoTurns_0 rfl ?_
  refine j_aload_n hx 1 dX4_undoTurns_1 rfl ?_
  have f1 := zf hS0 hb1 (k := 10) rfl
  refine gN4_10 hx hG hb1 kf_RX4_46 rfl dX4_undoTurns_2 ?_
  refine j_aload_n hx 0 dX4_undoTurns_5 rfl ?_
  have f2 := zf hS0 ha (k := 5) rfl
  refine g5_5 hx hG ha kf_RX4_27 rfl dX4_undoTurns_6 ?_
  refine j_isub hx (r := (s0 b1 10) - (s0 a 5)) dX4_undoTurns_9 (by omega) ?_
  refine j_norm (fun v3 f4 f5 f6 => ?_)
  refine j_mmin hx km_RX4_57 kst_min kn_RJ9 kc_Lib_Math_min_name (by omega) (by omega) ⟨by decide, Nat.le_of_ble_eq_true rfl⟩ ⟨by decide, by decide⟩ dX4_undoTurns_10 (fun v7 f8 f9 f10 => ?_)
  refine j_istore_n hx [(3, .int (zI v7)), (0, .ref a), (1, .ref b1), (2, .int (zI x2))] dX4_undoTurns_13 (by decide) rfl ?_
  refine j_aload_n hx 2 dX4_undoTurns_14 rfl ?_
  refine gN4_10 hx hG hb1 kf_RX4_46 rfl dX4_undoTurns_15 ?_
  refine j_iload_n hx 0 dX4_undoTurns_18 rfl ?_
  refine j_isub hx (r := (s0 b1 10) - v7) dX4_undoTurns_19 (by omega) ?_
  refine j_norm (fun v11 f12 f13 f14 => ?_)
  refine j_istore hx [(4, .int (zI v11)), (3, .int (zI v7)), (0, .ref a), (1, .ref b1), (2, .int (zI x2))] dX4_undoTurns_20 (by decide) rfl ?_
  refine j_iconst hx dX4_undoTurns_22 ?_
  refine j_istore hx [(5, .int (zI 0)), (4, .int (zI v11)), (3, .int (zI v7)), (0, .ref a), (1, .ref b1), (2, .int (zI x2))] dX4_undoTurns_23 (by decide) rfl ?_
  have c25_1 : ∀ (m_c25_1 : Nat) (v15 : Int) (s2 : zS), 2147483648 - v15 < m_c25_1 → (0 ≤ v15 ∧ v15 ≤ 512) → (zSK G s2) → (zFr [5] G s0 s2) → JJ X E 7 G s2 0 0 [(0, .ref a), (1, .ref b1), (3, .int (zI v7)), (4, .int (zI v11)), (5, .int (zI v15))] 25 [] := by
    intro m_c25_1
    induction m_c25_1 with
    | zero => intro v15 s2 hm_c25_1 fA3 hS_s2 hF_s2; exfalso; omega
    | succ m_c25_1 ih_c25_1 => 
      intro v15 s2 hm_c25_1 fA3 hS_s2 hF_s2
      refine j_iload hx 4 dX4_undoTurns_25 rfl ?_
      refine j_sipush hx dX4_undoTurns_27 rfl ?_
      have c64_6 : JJ X E 7 G s2 0 0 [(0, .ref a), (1, .ref b1), (3, .int (zI v7)), (4, .int (zI v11))] 64 [] := by
        refine j_iload_n hx 2 dX4_undoTurns_64 rfl ?_
        refine j_if_le hx 82 dX4_undoTurns_65 rfl (by omega) (fun h16 => ?_) (fun h16 => ?_)
        · skip
          refine j_iconst hx dX4_undoTurns_82 ?_
          exact j_iret hx hq rfl (by decide) (by decide) dX4_undoTurns_83 ⟨0, rfl, rfl, hS_s2, (zFr_t zFr_rf hF_s2 (by decide)), (by omega)⟩
        · skip
          refine j_aload_n hx 0 dX4_undoTurns_68 rfl ?_
          refine j_aload_n hx 1 dX4_undoTurns_69 rfl ?_
          refine j_aload_n hx 0 dX4_undoTurns_70 rfl ?_
          have f17 := zf hS_s2 ha (k := 4) rfl
          refine g5_4 hx hG ha kf_RX4_31 rfl dX4_undoTurns_71 ?_
          refine j_iconst hx dX4_undoTurns_74 ?_
          refine j_isub hx (r := (s2 a 4) - 1) dX4_undoTurns_75 (by omega) ?_
          refine j_norm (fun v18 f19 f20 f21 => ?_)
          refine j_callV hx hG (c_X4_goTo hst a b1 v18) lk_RX4_66 ha (by decide) rfl rfl rfl rfl [.ref b1, .int (zI v18)] ⟨rfl, hG, hS_s2, ha, hb1, (by omega)⟩ rfl rfl ⟨by decide, by decide⟩ ⟨by decide, by decide⟩ (k2 := 0) (n2 := 0) rfl rfl (Nat.le_of_ble_eq_true rfl) dX4_undoTurns_76 (kIM (fun v22 s7 hS_s7 hF_s7 q23 => ?_))
          refine j_if_ne hx 84 dX4_undoTurns_79 rfl (by omega) (fun h24 => ?_) (fun h24 => ?_)
          · skip
            refine j_iload hx 3 dX4_undoTurns_84 rfl ?_
            refine j_aload_n hx 1 dX4_undoTurns_86 rfl ?_
            have f25 := zf hS_s7 hb1 (k := 10) rfl
            refine gN4_10 hx hG hb1 kf_RX4_46 rfl dX4_undoTurns_87 ?_
            refine j_isub hx (r := v11 - (s7 b1 10)) dX4_undoTurns_90 (by omega) ?_
            refine j_norm (fun v26 f27 f28 f29 => ?_)
            refine j_istore hx [(5, .int (zI v26)), (0, .ref a), (1, .ref b1), (3, .int (zI v7)), (4, .int (zI v11))] dX4_undoTurns_91 (by decide) rfl ?_
            refine j_iconst hx dX4_undoTurns_93 ?_
            refine j_istore hx [(6, .int (zI 0)), (5, .int (zI v26)), (0, .ref a), (1, .ref b1), (3, .int (zI v7)), (4, .int (zI v11))] dX4_undoTurns_94 (by decide) rfl ?_
            have c96_8 : ∀ (m_c96_8 : Nat) (v30 : Int) (s9 : zS), 2147483648 - v30 < m_c96_8 → (0 ≤ v30 ∧ v30 ≤ 2147483647) → (zSK G s9) → (zFr [1, 4, 7, 41, 50, 51, 52] G s7 s9) → JJ X E 7 G s9 0 0 [(1, .ref b1), (3, .int (zI v7)), (5, .int (zI v26)), (6, .int (zI v30))] 96 [] := by
              intro m_c96_8
              induction m_c96_8 with
              | zero => intro v30 s9 hm_c96_8 fA10 hS_s9 hF_s9; exfalso; omega
              | succ m_c96_8 ih_c96_8 => 
                intro v30 s9 hm_c96_8 fA10 hS_s9 hF_s9
                refine j_iload hx 3 dX4_undoTurns_96 rfl ?_
                refine j_iload hx 2 dX4_undoTurns_98 rfl ?_
                refine j_icmp_ge hx 114 dX4_undoTurns_100 rfl (by omega) (by omega) (fun h31 => ?_) (fun h31 => ?_)
                · skip
                  refine j_aload_n hx 0 dX4_undoTurns_114 rfl ?_
                  refine j_iconst hx dX4_undoTurns_115 ?_
                  refine pN4_7 hx hG hb1 kf_RX4_70 (by omega) dX4_undoTurns_116 ?_
                  obtain ⟨s13, e_s13⟩ : ∃ z, z = zU s9 b1 7 0 := ⟨_, rfl⟩
                  rw [← e_s13]
                  have hS_s13 : zSK G s13 := by rw [e_s13]; exact zSK_F hS_s9 hb1 rfl rfl rfl (by omega)
                  refine j_iload_n hx 1 dX4_undoTurns_119 rfl ?_
                  exact j_iret hx hq rfl (by decide) (by decide) dX4_undoTurns_120 ⟨v7, rfl, rfl, hS_s13, (zFr_u (zFr_t (zFr_t (zFr_t zFr_rf hF_s2 (by decide)) hF_s7 (by decide)) hF_s9 (by decide)) e_s13 hb1 (by decide)), (by omega)⟩
                · skip
                  refine j_aload_n hx 0 dX4_undoTurns_103 rfl ?_
                  refine j_callV hx hG (c_X3_playTurn hst b1) lk_RX4_42 hb1 (by decide) rfl rfl rfl rfl [] ⟨rfl, hG, hS_s9, hb1⟩ rfl rfl ⟨by decide, by decide⟩ ⟨by decide, by decide⟩ (k2 := 0) (n2 := 0) rfl rfl (Nat.le_of_ble_eq_true rfl) dX4_undoTurns_104 (kIM (fun v32 s14 hS_s14 hF_s14 q33 => ?_))
                  refine j_pop hx dX4_undoTurns_107 rfl ?_
                  refine j_iinc hx 3 [(6, .int (zI (v30 + 1))), (1, .ref b1), (3, .int (zI v7)), (5, .int (zI v26))] dX4_undoTurns_108 rfl (by omega) (by decide) rfl ?_
                  refine j_goto hx 96 dX4_undoTurns_111 rfl ?_
                  exact j_sub [1, 2, 3, 0] [(1, .ref b1), (3, .int (zI v7)), (5, .int (zI v26)), (6, .int (zI (v30 + 1)))] rfl (ih_c96_8 (v30 + 1) s14 (by omega) (by omega) hS_s14 (zFr_t (zFr_t zFr_rf hF_s9 (by decide)) hF_s14 (by decide)))
            exact j_sub [3, 4, 1, 0] [(1, .ref b1), (3, .int (zI v7)), (5, .int (zI v26)), (6, .int (zI 0))] rfl (c96_8 (2147483648 * 4) 0 s7 (by omega) (by omega) hS_s7 zFr_rf)
          · skip
            refine j_iconst hx dX4_undoTurns_82 ?_
            exact j_iret hx hq rfl (by decide) (by decide) dX4_undoTurns_83 ⟨0, rfl, rfl, hS_s7, (zFr_t (zFr_t zFr_rf hF_s2 (by decide)) hF_s7 (by decide)), (by omega)⟩
      refine j_icmp_ge hx 64 dX4_undoTurns_30 rfl (by omega) ⟨by decide, by decide⟩ (fun h34 => ?_) (fun h34 => ?_)
      · skip
        exact j_sub [0, 1, 2, 3] [(0, .ref a), (1, .ref b1), (3, .int (zI v7)), (4, .int (zI v11))] rfl (c64_6  )
      · skip
        refine j_aload_n hx 0 dX4_undoTurns_33 rfl ?_
        refine j_aload_n hx 0 dX4_undoTurns_34 rfl ?_
        have f35 := zf hS_s2 ha (k := 4) rfl
        refine g5_4 hx hG ha kf_RX4_31 rfl dX4_undoTurns_35 ?_
        refine j_iconst hx dX4_undoTurns_38 ?_
        refine j_isub hx (r := (s2 a 4) - 1) dX4_undoTurns_39 (by omega) ?_
        refine j_norm (fun v36 f37 f38 f39 => ?_)
        refine j_callV hx hG (c_X4_turnOfMark hst a v36) lk_RX4_63 ha (by decide) rfl rfl rfl rfl [.int (zI v36)] ⟨rfl, hG, hS_s2, ha, (by omega)⟩ rfl rfl ⟨by decide, by decide⟩ ⟨by decide, by decide⟩ (k2 := 0) (n2 := 0) rfl rfl (Nat.le_of_ble_eq_true rfl) dX4_undoTurns_40 (kIP (fun v40 q41 => ?_))
        refine j_iload hx 3 dX4_undoTurns_43 rfl ?_
        refine j_icmp_le hx 64 dX4_undoTurns_45 rfl (by omega) (by omega) (fun h42 => ?_) (fun h42 => ?_)
        · skip
          exact j_sub [0, 1, 2, 3] [(0, .ref a), (1, .ref b1), (3, .int (zI v7)), (4, .int (zI v11))] rfl (c64_6  )
        · skip
          refine j_aload_n hx 0 dX4_undoTurns_48 rfl ?_
          refine j_dup hx dX4_undoTurns_49 rfl ?_
          refine g5_4 hx hG ha kf_RX4_31 rfl dX4_undoTurns_50 ?_
          refine j_iconst hx dX4_undoTurns_53 ?_
          refine j_isub hx (r := (s2 a 4) - 1) dX4_undoTurns_54 (by omega) ?_
          refine j_norm (fun v43 f44 f45 f46 => ?_)
          refine p5_4 hx hG ha kf_RX4_31 dX4_undoTurns_55 ?_
          obtain ⟨s15, e_s15⟩ : ∃ z, z = zU s2 a 4 v43 := ⟨_, rfl⟩
          rw [← e_s15]
          have hS_s15 : zSK G s15 := by rw [e_s15]; exact zSK_F hS_s2 ha rfl rfl rfl (by omega)
          refine j_iinc hx 4 [(5, .int (zI (v15 + 1))), (0, .ref a), (1, .ref b1), (3, .int (zI v7)), (4, .int (zI v11))] dX4_undoTurns_58 rfl (by omega) (by decide) rfl ?_
          refine j_goto hx 25 dX4_undoTurns_61 rfl ?_
          exact j_sub [1, 2, 3, 4, 0] [(0, .ref a), (1, .ref b1), (3, .int (zI v7)), (4, .int (zI v11)), (5, .int (zI (v15 + 1)))] rfl (ih_c25_1 (v15 + 1) s15 (by omega) (by omega) hS_s15 (zFr_u (zFr_t zFr_rf hF_s2 (by decide)) e_s15 ha (by decide)))
  exact j_sub [3, 4, 2, 1, 0] [(0, .ref a), (1, .ref b1), (3, .int (zI v7)), (4, .int (zI v11)), (5, .int (zI 0))] rfl (c25_1 (2147483648 * 4) 0 s0 (by omega) (by omega) hS0 zFr_rf)

theorem lk_RX11_228 : LkV RX11 228 RX4 yX4_undoTurns cX4_undoTurns 7 (some .int) 2 := ⟨km_RX11_228, ki_yX4_undoTurns, ks_RX4_yX4_undoTurns, kn_RX4, kc_yX4_undoTurns, rfl, by decide +kernel, by decide +kernel, by decide +kernel⟩
set_option maxHeartbeats 4000000 in
set_option maxRecDepth 20000 in
theorem c_X11_undo {E : zE} {l : Launch} (hst : l.stackTraces = false) (a : Nat) (x1 : Int) : ConX E l yX11_undo cX11_undo 2 (some .int) { frames := 7, cells := 1, slots := 6, locals := 169 } (fun G s vs => vs = [.ref a, .int (zI x1)] ∧ zGK G ∧ zSK G s ∧ (gT G a = 12) ∧ ((-2147483648) ≤ x1 ∧ x1 ≤ 2147483647)) (fun G s _ => pI (fun r G2 s2 => G2 = G ∧ zSK G s2 ∧ zFr [1, 4, 5, 7, 41, 50, 51, 52] G s s2 ∧ ((-2147483648) ≤ r ∧ r ≤ 2147483647))) (fun G s _ Ex G2 s2 => G2 = G ∧ zSK G s2 ∧ zFr [1, 4, 5, 7, 12, 41, 50, 51, 52] G s s2 ∧ ((Ex = "java/lang/IllegalArgumentException" ∧ (True)))) := by
  refine ConX.mk hst (by decide) (fun G s vs h => by rw [h.1]; exact Nat.le_of_ble_eq_true rfl) ?_
  rintro X G s0 vs ⟨rfl, hG, hS0, ha, hx1⟩ rfl hx hq
  show JJ X E 2 G s0 0 0 [(0, .ref a), (1, .int (zI x1))] 0 []
  refine j_aload_n hx 0 dX11_undo_0 rfl ?_
  refine j_iload_n hx 1 dX11_undo_1 rfl ?_
  refine j_iconst hx dX11_undo_2 ?_
  refine j_sipush hx dX11_undo_3 rfl ?_
  refine j_callVX hx hq hG (c_X11_needRange hst a x1 1 999) lk_RX11_98 ha (by decide) rfl rfl rfl rfl [.int (zI x1), .int (zI 1), .int (zI 999)] ⟨rfl, hG, hS0, ha, (by omega), (by omega), (by omega)⟩ rfl rfl ⟨by decide, by decide⟩ ⟨by decide, by decide⟩ (k2 := 1) (n2 := 6) rfl rfl (Nat.le_of_ble_eq_true rfl) ⟨by decide, by decide⟩ dX11_undo_6 (by rintro Ex9 G9 s9 ⟨rfl, hS9, hF9, e9, c9⟩; exact ⟨rfl, hS9, (zFr_t zFr_rf hF9 (by decide)), ⟨e9, by first | trivial | omega⟩⟩) (kVP (fun q2 => ?_))
  refine j_aload_n hx 0 dX11_undo_9 rfl ?_
  refine g12_9 hx hG ha kf_RX11_69 dX11_undo_10 ?_
  refine j_aload_n hx 0 dX11_undo_13 rfl ?_
  refine g12_6 hx hG ha kf_RX11_48 dX11_undo_14 ?_
  refine j_iload_n hx 1 dX11_undo_17 rfl ?_
  refine j_callV hx hG (c_X4_undoTurns hst (gP G a 9) (gP G a 6) x1) lk_RX11_228 (zr (k := 9) (t2 := 5) hG ha rfl) (by decide) rfl rfl rfl rfl [.ref (gP G a 6), .int (zI x1)] ⟨rfl, hG, hS0, (zr (k := 9) (t2 := 5) hG ha rfl), (zr (k := 6) (t2 := 4) hG ha rfl), (by omega)⟩ rfl rfl ⟨by decide, by decide⟩ ⟨by decide, by decide⟩ (k2 := 1) (n2 := 6) rfl rfl (Nat.le_of_ble_eq_true rfl) dX11_undo_18 (kIM (fun v3 s1 hS_s1 hF_s1 q4 => ?_))
  exact j_iret hx hq.r rfl (by decide) (by decide) dX11_undo_21 ⟨v3, rfl, rfl, hS_s1, (zFr_t zFr_rf hF_s1 (by decide)), (by omega)⟩

theorem lk_RX11_231 : LkV RX11 231 RX3 yX3_lastOf cX3_lastOf 2 (some .int) 1 := ⟨km_RX11_231, ki_yX3_lastOf, ks_RX3_yX3_lastOf, kn_RX3, kc_yX3_lastOf, rfl, by decide +kernel, by decide +kernel, by decide +kernel⟩
set_option maxHeartbeats 4000000 in
set_option maxRecDepth 20000 in
theorem c_X11_latest {E : zE} {l : Launch} (hst : l.stackTraces = false) (a : Nat) (x1 : Int) : ConX E l yX11_latest cX11_latest 2 (some .int) { frames := 7, cells := 1, slots := 6, locals := 113 } (fun G s vs => vs = [.ref a, .int (zI x1)] ∧ zGK G ∧ zSK G s ∧ (gT G a = 12) ∧ ((-2147483648) ≤ x1 ∧ x1 ≤ 2147483647)) (fun G s _ => pI (fun r G2 s2 => G2 = G ∧ s2 = s ∧ ((-2147483648) ≤ r ∧ r ≤ 2147483647))) (fun G s _ Ex G2 s2 => G2 = G ∧ zSK G s2 ∧ zFr [12] G s s2 ∧ ((Ex = "java/lang/IllegalArgumentException" ∧ (True)))) := by
  refine ConX.mk hst (by decide) (fun G s vs h => by rw [h.1]; exact Nat.le_of_ble_eq_true rfl) ?_
  rintro X G s0 vs ⟨rfl, hG, hS0, ha, hx1⟩ rfl hx hq
  show JJ X E 2 G s0 0 0 [(0, .ref a), (1, .int (zI x1))] 0 []
  refine j_aload_n hx 0 dX11_latest_0 rfl ?_
  refine j_iload_n hx 1 dX11_latest_1 rfl ?_
  refine j_iconst hx dX11_latest_2 ?_
  refine j_iconst hx dX11_latest_3 ?_
  refine j_callVX hx hq hG (c_X11_needRange hst a x1 0 4) lk_RX11_98 ha (by decide) rfl rfl rfl rfl [.int (zI x1), .int (zI 0), .int (zI 4)] ⟨rfl, hG, hS0, ha, (by omega), (by omega), (by omega)⟩ rfl rfl ⟨by decide, by decide⟩ ⟨by decide, by decide⟩ (k2 := 1) (n2 := 6) rfl rfl (Nat.le_of_ble_eq_true rfl) ⟨by decide, by decide⟩ dX11_latest_4 (by rintro Ex9 G9 s9 ⟨rfl, hS9, hF9, e9, c9⟩; exact ⟨rfl, hS9, (zFr_t zFr_rf hF9 (by decide)), ⟨e9, by first | trivial | omega⟩⟩) (kVP (fun q2 => ?_))
  refine j_aload_n hx 0 dX11_latest_7 rfl ?_
  refine g12_6 hx hG ha kf_RX11_48 dX11_latest_8 ?_
  refine j_iload_n hx 1 dX11_latest_11 rfl ?_
  refine j_callV hx hG (c_X3_lastOf hst (gP G a 6) x1) lk_RX11_231 (zr (k := 6) (t2 := 4) hG ha rfl) (by decide) rfl rfl rfl rfl [.int (zI x1)] ⟨rfl, hG, hS0, (zr (k := 6) (t2 := 4) hG ha rfl), (by omega)⟩ rfl rfl ⟨by decide, by decide⟩ ⟨by decide, by decide⟩ (k2 := 1) (n2 := 6) rfl rfl (Nat.le_of_ble_eq_true rfl) dX11_latest_12 (kIP (fun v3 q4 => ?_))
  exact j_iret hx hq.r rfl (by decide) (by decide) dX11_latest_15 ⟨v3, rfl, rfl, rfl, (by omega)⟩

theorem lk_RX11_234 : LkV RX11 234 RX3 yX3_tallyOf cX3_tallyOf 2 (some .int) 1 := ⟨km_RX11_234, ki_yX3_tallyOf, ks_RX3_yX3_tallyOf, kn_RX3, kc_yX3_tallyOf, rfl, by decide +kernel, by decide +kernel, by decide +kernel⟩
set_option maxHeartbeats 4000000 in
set_option maxRecDepth 20000 in
theorem c_X11_calls {E : zE} {l : Launch} (hst : l.stackTraces = false) (a : Nat) (x1 : Int) (x2 : Int) : ConX E l yX11_calls cX11_calls 3 (some .int) { frames := 7, cells := 2, slots := 12, locals := 113 } (fun G s vs => vs = [.ref a, .int (zI x1), .int (zI x2)] ∧ zGK G ∧ zSK G s ∧ (gT G a = 12) ∧ ((-2147483648) ≤ x1 ∧ x1 ≤ 2147483647) ∧ ((-2147483648) ≤ x2 ∧ x2 ≤ 2147483647)) (fun G s _ => pI (fun r G2 s2 => G2 = G ∧ s2 = s ∧ ((-2147483648) ≤ r ∧ r ≤ 2147483647))) (fun G s _ Ex G2 s2 => G2 = G ∧ zSK G s2 ∧ zFr [12] G s s2 ∧ ((Ex = "java/lang/IllegalArgumentException" ∧ (True)) ∨ (Ex = "java/util/NoSuchElementException" ∧ (True)))) := by
  refine ConX.mk hst (by decide) (fun G s vs h => by rw [h.1]; exact Nat.le_of_ble_eq_true rfl) ?_
  rintro X G s0 vs ⟨rfl, hG, hS0, ha, hx1, hx2⟩ rfl hx hq
  show JJ X E 3 G s0 0 0 [(0, .ref a), (1, .int (zI x1)), (2, .int (zI x2))] 0 []
  refine j_aload_n hx 0 dX11_calls_0 rfl ?_
  refine j_iload_n hx 1 dX11_calls_1 rfl ?_
  refine j_callVX hx hq hG (c_X11_needPlayer hst a x1) lk_RX11_134 ha (by decide) rfl rfl rfl rfl [.int (zI x1)] ⟨rfl, hG, hS0, ha, (by omega)⟩ rfl rfl ⟨by decide, by decide⟩ ⟨by decide, by decide⟩ (k2 := 1) (n2 := 6) rfl rfl (Nat.le_of_ble_eq_true rfl) ⟨by decide, by decide⟩ dX11_calls_2 (by rintro Ex9 G9 s9 ⟨rfl, hS9, hF9, e9, c9⟩; exact ⟨rfl, hS9, (zFr_t zFr_rf hF9 (by decide)), Or.inr ⟨e9, by first | trivial | omega⟩⟩) (kVP (fun q2 => ?_))
  refine j_aload_n hx 0 dX11_calls_5 rfl ?_
  refine j_iload_n hx 2 dX11_calls_6 rfl ?_
  refine j_iconst hx dX11_calls_7 ?_
  refine j_iconst hx dX11_calls_8 ?_
  refine j_callVX hx hq hG (c_X11_needRange hst a x2 0 5) lk_RX11_98 ha (by decide) rfl rfl rfl rfl [.int (zI x2), .int (zI 0), .int (zI 5)] ⟨rfl, hG, hS0, ha, (by omega), (by omega), (by omega)⟩ rfl rfl ⟨by decide, by decide⟩ ⟨by decide, by decide⟩ (k2 := 2) (n2 := 12) rfl rfl (Nat.le_of_ble_eq_true rfl) ⟨by decide, by decide⟩ dX11_calls_9 (by rintro Ex9 G9 s9 ⟨rfl, hS9, hF9, e9, c9⟩; exact ⟨rfl, hS9, (zFr_t zFr_rf hF9 (by decide)), Or.inl ⟨e9, by first | trivial | omega⟩⟩) (kVP (fun q4 => ?_))
  refine j_aload_n hx 0 dX11_calls_12 rfl ?_
  refine g12_6 hx hG ha kf_RX11_48 dX11_calls_13 ?_
  refine j_iload_n hx 1 dX11_calls_16 rfl ?_
  refine j_bipush hx dX11_calls_17 rfl ?_
  refine j_imul hx (r := 6 * x1) dX11_calls_19 (by omega) ?_
  refine j_norm (fun v5 f6 f7 f8 => ?_)
  refine j_iload_n hx 2 dX11_calls_20 rfl ?_
  refine j_iadd hx (r := v5 + x2) dX11_calls_21 rfl ?_
  refine j_norm (fun v9 f10 f11 f12 => ?_)
  refine j_callV hx hG (c_X3_tallyOf hst (gP G a 6) v9) lk_RX11_234 (zr (k := 6) (t2 := 4) hG ha rfl) (by decide) rfl rfl rfl rfl [.int (zI v9)] ⟨rfl, hG, hS0, (zr (k := 6) (t2 := 4) hG ha rfl), (by omega)⟩ rfl rfl ⟨by decide, by decide⟩ ⟨by decide, by decide⟩ (k2 := 2) (n2 := 12) rfl rfl (Nat.le_of_ble_eq_true rfl) dX11_calls_22 (kIP (fun v13 q14 => ?_))
  exact j_iret hx hq.r rfl (by decide) (by decide) dX11_calls_25 ⟨v13, rfl, rfl, rfl, (by omega)⟩

set_option maxHeartbeats 4000000 in
set_option maxRecDepth 20000 in
theorem c_X11_won {E : zE} {l : Launch} (hst : l.stackTraces = false) (a : Nat) (x1 : Int) : ConX E l yX11_won cX11_won 2 (some .int) { frames := 7, cells := 1, slots := 6, locals := 111 } (fun G s vs => vs = [.ref a, .int (zI x1)] ∧ zGK G ∧ zSK G s ∧ (gT G a = 12) ∧ ((-2147483648) ≤ x1 ∧ x1 ≤ 2147483647)) (fun G s _ => pI (fun r G2 s2 => G2 = G ∧ s2 = s ∧ ((-2147483648) ≤ r ∧ r ≤ 2147483647))) (fun G s _ Ex G2 s2 => G2 = G ∧ zSK G s2 ∧ zFr [12] G s s2 ∧ ((Ex = "java/util/NoSuchElementException" ∧ (True)))) := by
  refine ConX.mk hst (by decide) (fun G s vs h => by rw [h.1]; exact Nat.le_of_ble_eq_true rfl) ?_
  rintro X G s0 vs ⟨rfl, hG, hS0, ha, hx1⟩ rfl hx hq
  show JJ X E 2 G s0 0 0 [(0, .ref a), (1, .int (zI x1))] 0 []
  refine j_aload_n hx 0 dX11_won_0 rfl ?_
  refine j_iload_n hx 1 dX11_won_1 rfl ?_
  refine j_callVX hx hq hG (c_X11_needPlayer hst a x1) lk_RX11_134 ha (by decide) rfl rfl rfl rfl [.int (zI x1)] ⟨rfl, hG, hS0, ha, (by omega)⟩ rfl rfl ⟨by decide, by decide⟩ ⟨by decide, by decide⟩ (k2 := 1) (n2 := 6) rfl rfl (Nat.le_of_ble_eq_true rfl) ⟨by decide, by decide⟩ dX11_won_2 (by rintro Ex9 G9 s9 ⟨rfl, hS9, hF9, e9, c9⟩; exact ⟨rfl, hS9, (zFr_t zFr_rf hF9 (by decide)), ⟨e9, by first | trivial | omega⟩⟩) (kVP (fun q2 => ?_))
  refine j_aload_n hx 0 dX11_won_5 rfl ?_
  refine g12_6 hx hG ha kf_RX11_48 dX11_won_6 ?_
  refine j_bipush hx dX11_won_9 rfl ?_
  refine j_iload_n hx 1 dX11_won_11 rfl ?_
  refine j_iadd hx (r := x1 + 18) dX11_won_12 (by omega) ?_
  refine j_norm (fun v3 f4 f5 f6 => ?_)
  refine j_callV hx hG (c_X3_tallyOf hst (gP G a 6) v3) lk_RX11_234 (zr (k := 6) (t2 := 4) hG ha rfl) (by decide) rfl rfl rfl rfl [.int (zI v3)] ⟨rfl, hG, hS0, (zr (k := 6) (t2 := 4) hG ha rfl), (by omega)⟩ rfl rfl ⟨by decide, by decide⟩ ⟨by decide, by decide⟩ (k2 := 1) (n2 := 6) rfl rfl (Nat.le_of_ble_eq_true rfl) dX11_won_13 (kIP (fun v7 q8 => ?_))
  exact j_iret hx hq.r rfl (by decide) (by decide) dX11_won_16 ⟨v7, rfl, rfl, rfl, (by omega)⟩
