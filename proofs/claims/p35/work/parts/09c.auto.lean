set_option maxHeartbeats 4000000 in
set_option maxRecDepth 20000 in
theorem c_X7_readAnd_3 {E : zE} {l : Launch} (hst : l.stackTraces = false) (a : Nat) (b1 : Nat) (x2 : Int) : Con E l yX7_readAnd cX7_readAnd 4 none { frames := 17, cells := 0, slots := 0, locals := 455 } (fun G s vs => vs = [.ref a, .ref b1, .int (zI x2)] ∧ zGK G ∧ zSK G s ∧ (gT G a = 8) ∧ (gT G b1 = 10) ∧ (3 ≤ x2 ∧ x2 ≤ 3)) (fun G s _ => pV (fun G2 s2 => G2 = G ∧ zSK G s2 ∧ zFr [8, 10, 46] G s s2 ∧ True)) := by
  refine Con.mk hst (by decide) (fun G s vs h => by rw [h.1]; exact Nat.le_of_ble_eq_true rfl) ?_
  rintro X G s0 vs ⟨rfl, hG, hS0, ha, hb1, hx2⟩ rfl hx hq
  obtain rfl : x2 = 3 := by omega
  show JJ X E 4 G s0 0 0 [(0, .ref a), (1, .ref b1), (2, .int (zI 3))] 0 []
  refine j_aload_n hx 0 dX7_readAnd_0 rfl ?_
  refine j_aload_n hx 1 dX7_readAnd_1 rfl ?_
  refine j_iload_n hx 2 dX7_readAnd_2 rfl ?_
  refine j_callV hx hG (c_X7_readOne_3 hst a b1 3) lk_RX7_58 ha (by decide) rfl rfl rfl rfl [.ref b1, .int (zI 3)] ⟨rfl, hG, hS0, ha, hb1, (by omega)⟩ rfl rfl ⟨by decide, by decide⟩ ⟨by decide, by decide⟩ (k2 := 0) (n2 := 0) rfl rfl (Nat.le_of_ble_eq_true rfl) dX7_readAnd_3 (kVM (fun s1 hS_s1 hF_s1 q2 => ?_))
  refine j_iconst hx dX7_readAnd_6 ?_
  refine j_istore_n hx [(3, .int (zI 0)), (0, .ref a), (1, .ref b1), (2, .int (zI 3))] dX7_readAnd_7 (by decide) rfl ?_
  have c8_2 : ∀ (m_c8_2 : Nat) (v3 : Int) (s3 : zS), 2147483648 - v3 < m_c8_2 → (0 ≤ v3 ∧ v3 ≤ 150) → (zSK G s3) → (zFr [8, 10, 46] G s1 s3) → JJ X E 4 G s3 0 0 [(0, .ref a), (1, .ref b1), (2, .int (zI 3)), (3, .int (zI v3))] 8 [] := by
    intro m_c8_2
    induction m_c8_2 with
    | zero => intro v3 s3 hm_c8_2 fA4 hS_s3 hF_s3; exfalso; omega
    | succ m_c8_2 ih_c8_2 => 
      intro v3 s3 hm_c8_2 fA4 hS_s3 hF_s3
      refine j_iload_n hx 3 dX7_readAnd_8 rfl ?_
      refine j_sipush hx dX7_readAnd_9 rfl ?_
      refine j_icmp_ge hx 43 dX7_readAnd_12 rfl (by omega) ⟨by decide, by decide⟩ (fun h4 => ?_) (fun h4 => ?_)
      · skip
        exact j_vret hx hq rfl (by decide) (by decide) dX7_readAnd_43 ⟨rfl, rfl, hS_s3, (zFr_t (zFr_t zFr_rf hF_s1 (by decide)) hF_s3 (by decide)), trivial⟩
      · skip
        refine j_aload_n hx 1 dX7_readAnd_15 rfl ?_
        refine j_ldcT hx (i := 16) 18 (by decide) rfl rfl rfl dX7_readAnd_16 ?_
        refine j_callV hx hG (c_X9_takeWord hst b1 16) lk_RX7_50 hb1 (by decide) rfl rfl rfl rfl [.ref (zTa E 16)] ⟨rfl, hG, hS_s3, hb1, (by decide)⟩ rfl rfl ⟨by decide, by decide⟩ ⟨by decide, by decide⟩ (k2 := 0) (n2 := 0) rfl rfl (Nat.le_of_ble_eq_true rfl) dX7_readAnd_18 (kIM (fun v5 s7 hS_s7 hF_s7 q6 => ?_))
        refine j_if_eq hx 43 dX7_readAnd_21 rfl (by omega) (fun h7 => ?_) (fun h7 => ?_)
        · skip
          exact j_vret hx hq rfl (by decide) (by decide) dX7_readAnd_43 ⟨rfl, rfl, hS_s7, (zFr_t (zFr_t (zFr_t zFr_rf hF_s1 (by decide)) hF_s3 (by decide)) hF_s7 (by decide)), trivial⟩
        · skip
          refine j_aload_n hx 0 dX7_readAnd_24 rfl ?_
          refine j_aload_n hx 1 dX7_readAnd_25 rfl ?_
          refine j_iload_n hx 2 dX7_readAnd_26 rfl ?_
          refine j_callV hx hG (c_X7_readOne_3 hst a b1 3) lk_RX7_58 ha (by decide) rfl rfl rfl rfl [.ref b1, .int (zI 3)] ⟨rfl, hG, hS_s7, ha, hb1, (by omega)⟩ rfl rfl ⟨by decide, by decide⟩ ⟨by decide, by decide⟩ (k2 := 0) (n2 := 0) rfl rfl (Nat.le_of_ble_eq_true rfl) dX7_readAnd_27 (kVM (fun s8 hS_s8 hF_s8 q9 => ?_))
          refine j_aload_n hx 0 dX7_readAnd_30 rfl ?_
          refine j_bipush hx dX7_readAnd_31 rfl ?_
          refine j_iconst hx dX7_readAnd_33 ?_
          refine j_callV hx hG (c_X7_emit hst a 12 0) lk_RX7_54 ha (by decide) rfl rfl rfl rfl [.int (zI 12), .int (zI 0)] ⟨rfl, hG, hS_s8, ha, (by omega), (by omega)⟩ rfl rfl ⟨by decide, by decide⟩ ⟨by decide, by decide⟩ (k2 := 0) (n2 := 0) rfl rfl (Nat.le_of_ble_eq_true rfl) dX7_readAnd_34 (kVM (fun s9 hS_s9 hF_s9 q11 => ?_))
          refine j_iinc hx 3 [(3, .int (zI (v3 + 1))), (0, .ref a), (1, .ref b1), (2, .int (zI 3))] dX7_readAnd_37 rfl (by omega) (by decide) rfl ?_
          refine j_goto hx 8 dX7_readAnd_40 rfl ?_
          exact j_sub [1, 2, 3, 0] [(0, .ref a), (1, .ref b1), (2, .int (zI 3)), (3, .int (zI (v3 + 1)))] rfl (ih_c8_2 (v3 + 1) s9 (by omega) (by omega) hS_s9 (zFr_t (zFr_t (zFr_t (zFr_t zFr_rf hF_s3 (by decide)) hF_s7 (by decide)) hF_s8 (by decide)) hF_s9 (by decide)))
  exact j_sub [1, 2, 3, 0] [(0, .ref a), (1, .ref b1), (2, .int (zI 3)), (3, .int (zI 0))] rfl (c8_2 (2147483648 * 4) 0 s1 (by omega) (by omega) hS_s1 zFr_rf)

set_option maxHeartbeats 4000000 in
set_option maxRecDepth 20000 in
theorem c_X7_readOr_3 {E : zE} {l : Launch} (hst : l.stackTraces = false) (a : Nat) (b1 : Nat) (x2 : Int) : Con E l yX7_readOr cX7_readOr 4 none { frames := 18, cells := 0, slots := 0, locals := 478 } (fun G s vs => vs = [.ref a, .ref b1, .int (zI x2)] ∧ zGK G ∧ zSK G s ∧ (gT G a = 8) ∧ (gT G b1 = 10) ∧ (3 ≤ x2 ∧ x2 ≤ 3)) (fun G s _ => pV (fun G2 s2 => G2 = G ∧ zSK G s2 ∧ zFr [8, 10, 46] G s s2 ∧ True)) := by
  refine Con.mk hst (by decide) (fun G s vs h => by rw [h.1]; exact Nat.le_of_ble_eq_true rfl) ?_
  rintro X G s0 vs ⟨rfl, hG, hS0, ha, hb1, hx2⟩ rfl hx hq
  obtain rfl : x2 = 3 := by omega
  show JJ X E 4 G s0 0 0 [(0, .ref a), (1, .ref b1), (2, .int (zI 3))] 0 []
  refine j_aload_n hx 0 dX7_readOr_0 rfl ?_
  refine j_aload_n hx 1 dX7_readOr_1 rfl ?_
  refine j_iload_n hx 2 dX7_readOr_2 rfl ?_
  refine j_callV hx hG (c_X7_readAnd_3 hst a b1 3) lk_RX7_45 ha (by decide) rfl rfl rfl rfl [.ref b1, .int (zI 3)] ⟨rfl, hG, hS0, ha, hb1, (by omega)⟩ rfl rfl ⟨by decide, by decide⟩ ⟨by decide, by decide⟩ (k2 := 0) (n2 := 0) rfl rfl (Nat.le_of_ble_eq_true rfl) dX7_readOr_3 (kVM (fun s1 hS_s1 hF_s1 q2 => ?_))
  refine j_iconst hx dX7_readOr_6 ?_
  refine j_istore_n hx [(3, .int (zI 0)), (0, .ref a), (1, .ref b1), (2, .int (zI 3))] dX7_readOr_7 (by decide) rfl ?_
  have c8_2 : ∀ (m_c8_2 : Nat) (v3 : Int) (s3 : zS), 2147483648 - v3 < m_c8_2 → (0 ≤ v3 ∧ v3 ≤ 150) → (zSK G s3) → (zFr [8, 10, 46] G s1 s3) → JJ X E 4 G s3 0 0 [(0, .ref a), (1, .ref b1), (2, .int (zI 3)), (3, .int (zI v3))] 8 [] := by
    intro m_c8_2
    induction m_c8_2 with
    | zero => intro v3 s3 hm_c8_2 fA4 hS_s3 hF_s3; exfalso; omega
    | succ m_c8_2 ih_c8_2 => 
      intro v3 s3 hm_c8_2 fA4 hS_s3 hF_s3
      refine j_iload_n hx 3 dX7_readOr_8 rfl ?_
      refine j_sipush hx dX7_readOr_9 rfl ?_
      refine j_icmp_ge hx 43 dX7_readOr_12 rfl (by omega) ⟨by decide, by decide⟩ (fun h4 => ?_) (fun h4 => ?_)
      · skip
        exact j_vret hx hq rfl (by decide) (by decide) dX7_readOr_43 ⟨rfl, rfl, hS_s3, (zFr_t (zFr_t zFr_rf hF_s1 (by decide)) hF_s3 (by decide)), trivial⟩
      · skip
        refine j_aload_n hx 1 dX7_readOr_15 rfl ?_
        refine j_ldcT hx (i := 17) 19 (by decide) rfl rfl rfl dX7_readOr_16 ?_
        refine j_callV hx hG (c_X9_takeWord hst b1 17) lk_RX7_50 hb1 (by decide) rfl rfl rfl rfl [.ref (zTa E 17)] ⟨rfl, hG, hS_s3, hb1, (by decide)⟩ rfl rfl ⟨by decide, by decide⟩ ⟨by decide, by decide⟩ (k2 := 0) (n2 := 0) rfl rfl (Nat.le_of_ble_eq_true rfl) dX7_readOr_18 (kIM (fun v5 s7 hS_s7 hF_s7 q6 => ?_))
        refine j_if_eq hx 43 dX7_readOr_21 rfl (by omega) (fun h7 => ?_) (fun h7 => ?_)
        · skip
          exact j_vret hx hq rfl (by decide) (by decide) dX7_readOr_43 ⟨rfl, rfl, hS_s7, (zFr_t (zFr_t (zFr_t zFr_rf hF_s1 (by decide)) hF_s3 (by decide)) hF_s7 (by decide)), trivial⟩
        · skip
          refine j_aload_n hx 0 dX7_readOr_24 rfl ?_
          refine j_aload_n hx 1 dX7_readOr_25 rfl ?_
          refine j_iload_n hx 2 dX7_readOr_26 rfl ?_
          refine j_callV hx hG (c_X7_readAnd_3 hst a b1 3) lk_RX7_45 ha (by decide) rfl rfl rfl rfl [.ref b1, .int (zI 3)] ⟨rfl, hG, hS_s7, ha, hb1, (by omega)⟩ rfl rfl ⟨by decide, by decide⟩ ⟨by decide, by decide⟩ (k2 := 0) (n2 := 0) rfl rfl (Nat.le_of_ble_eq_true rfl) dX7_readOr_27 (kVM (fun s8 hS_s8 hF_s8 q9 => ?_))
          refine j_aload_n hx 0 dX7_readOr_30 rfl ?_
          refine j_bipush hx dX7_readOr_31 rfl ?_
          refine j_iconst hx dX7_readOr_33 ?_
          refine j_callV hx hG (c_X7_emit hst a 13 0) lk_RX7_54 ha (by decide) rfl rfl rfl rfl [.int (zI 13), .int (zI 0)] ⟨rfl, hG, hS_s8, ha, (by omega), (by omega)⟩ rfl rfl ⟨by decide, by decide⟩ ⟨by decide, by decide⟩ (k2 := 0) (n2 := 0) rfl rfl (Nat.le_of_ble_eq_true rfl) dX7_readOr_34 (kVM (fun s9 hS_s9 hF_s9 q11 => ?_))
          refine j_iinc hx 3 [(3, .int (zI (v3 + 1))), (0, .ref a), (1, .ref b1), (2, .int (zI 3))] dX7_readOr_37 rfl (by omega) (by decide) rfl ?_
          refine j_goto hx 8 dX7_readOr_40 rfl ?_
          exact j_sub [1, 2, 3, 0] [(0, .ref a), (1, .ref b1), (2, .int (zI 3)), (3, .int (zI (v3 + 1)))] rfl (ih_c8_2 (v3 + 1) s9 (by omega) (by omega) hS_s9 (zFr_t (zFr_t (zFr_t (zFr_t zFr_rf hF_s3 (by decide)) hF_s7 (by decide)) hF_s8 (by decide)) hF_s9 (by decide)))
  exact j_sub [1, 2, 3, 0] [(0, .ref a), (1, .ref b1), (2, .int (zI 3)), (3, .int (zI 0))] rfl (c8_2 (2147483648 * 4) 0 s1 (by omega) (by omega) hS_s1 zFr_rf)

set_option maxHeartbeats 4000000 in
set_option maxRecDepth 20000 in
theorem c_X7_readOne_2 {E : zE} {l : Launch} (hst : l.stackTraces = false) (a : Nat) (b1 : Nat) (x2 : Int) : Con E l yX7_readOne cX7_readOne 4 none { frames := 19, cells := 0, slots := 0, locals := 501 } (fun G s vs => vs = [.ref a, .ref b1, .int (zI x2)] ∧ zGK G ∧ zSK G s ∧ (gT G a = 8) ∧ (gT G b1 = 10) ∧ (2 ≤ x2 ∧ x2 ≤ 2)) (fun G s _ => pV (fun G2 s2 => G2 = G ∧ zSK G s2 ∧ zFr [8, 10, 46] G s s2 ∧ True)) := by
  refine Con.mk hst (by decide) (fun G s vs h => by rw [h.1]; exact Nat.le_of_ble_eq_true rfl) ?_
  rintro X G s0 vs ⟨rfl, hG, hS0, ha, hb1, hx2⟩ rfl hx hq
  obtain rfl : x2 = 2 := by omega
  show JJ X E 4 G s0 0 0 [(0, .ref a), (1, .ref b1), (2, .int (zI 2))] 0 []
  refine j_aload_n hx 1 dX7_readOne_0 rfl ?_
  refine j_callV hx hG (c_X9_peek hst b1) lk_RX7_35 hb1 (by decide) rfl rfl rfl rfl [] ⟨rfl, hG, hS0, hb1⟩ rfl rfl ⟨by decide, by decide⟩ ⟨by decide, by decide⟩ (k2 := 0) (n2 := 0) rfl rfl (Nat.le_of_ble_eq_true rfl) dX7_readOne_1 (kIM (fun v1 s1 hS_s1 hF_s1 q2 => ?_))
  refine j_pop hx dX7_readOne_4 rfl ?_
  refine j_aload_n hx 1 dX7_readOne_5 rfl ?_
  have f3 := zf hS_s1 hb1 (k := 3) rfl
  refine gN10_3 hx hG hb1 kf_RX7_63 rfl dX7_readOne_6 ?_
  refine j_istore_n hx [(3, .int (zI ((s1 b1 3)))), (0, .ref a), (1, .ref b1), (2, .int (zI 2))] dX7_readOne_9 (by decide) rfl ?_
  refine j_aload_n hx 2 dX7_readOne_10 rfl ?_
  refine j_bipush hx dX7_readOne_11 rfl ?_
  refine j_callV hx hG (c_X9_takeSign hst b1 91) lk_RX7_66 hb1 (by decide) rfl rfl rfl rfl [.int (zI 91)] ⟨rfl, hG, hS_s1, hb1, (by omega)⟩ rfl rfl ⟨by decide, by decide⟩ ⟨by decide, by decide⟩ (k2 := 0) (n2 := 0) rfl rfl (Nat.le_of_ble_eq_true rfl) dX7_readOne_13 (kIM (fun v4 s2 hS_s2 hF_s2 q5 => ?_))
  refine j_if_eq hx 59 dX7_readOne_16 rfl (by omega) (fun h6 => ?_) (fun h6 => ?_)
  · skip
    refine j_aload_n hx 2 dX7_readOne_59 rfl ?_
    refine j_ldcT hx (i := 8) 8 (by decide) rfl rfl rfl dX7_readOne_60 ?_
    refine j_callV hx hG (c_X9_takeWord hst b1 8) lk_RX7_50 hb1 (by decide) rfl rfl rfl rfl [.ref (zTa E 8)] ⟨rfl, hG, hS_s2, hb1, (by decide)⟩ rfl rfl ⟨by decide, by decide⟩ ⟨by decide, by decide⟩ (k2 := 0) (n2 := 0) rfl rfl (Nat.le_of_ble_eq_true rfl) dX7_readOne_62 (kIM (fun v7 s3 hS_s3 hF_s3 q8 => ?_))
    refine j_if_eq hx 109 dX7_readOne_65 rfl (by omega) (fun h9 => ?_) (fun h9 => ?_)
    · skip
      refine j_aload_n hx 1 dX7_readOne_109 rfl ?_
      refine j_aload_n hx 2 dX7_readOne_110 rfl ?_
      refine j_callV hx hG (c_X7_readFact hst a b1) lk_RX7_80 ha (by decide) rfl rfl rfl rfl [.ref b1] ⟨rfl, hG, hS_s3, ha, hb1⟩ rfl rfl ⟨by decide, by decide⟩ ⟨by decide, by decide⟩ (k2 := 0) (n2 := 0) rfl rfl (Nat.le_of_ble_eq_true rfl) dX7_readOne_111 (kVM (fun s4 hS_s4 hF_s4 q11 => ?_))
      exact j_vret hx hq rfl (by decide) (by decide) dX7_readOne_114 ⟨rfl, rfl, hS_s4, (zFr_t (zFr_t (zFr_t (zFr_t zFr_rf hF_s1 (by decide)) hF_s2 (by decide)) hF_s3 (by decide)) hF_s4 (by decide)), trivial⟩
    · skip
      refine j_aload_n hx 2 dX7_readOne_68 rfl ?_
      refine j_iload_n hx 3 dX7_readOne_69 rfl ?_
      refine j_bipush hx dX7_readOne_70 rfl ?_
      refine j_icmp_lt hx 79 dX7_readOne_72 rfl ⟨by decide, by decide⟩ ⟨by decide, by decide⟩ (fun h12 => ?_) (fun h12 => absurd h12 (by omega))
      refine j_iconst hx dX7_readOne_79 ?_
      refine j_iconst hx dX7_readOne_80 ?_
      refine j_iload_n hx 0 dX7_readOne_81 rfl ?_
      refine j_callV hx hG (c_X9_failIf hst b1 0 3 ((s1 b1 3))) lk_RX7_70 hb1 (by decide) rfl rfl rfl rfl [.int (zI 0), .int (zI 3), .int (zI ((s1 b1 3)))] ⟨rfl, hG, hS_s3, hb1, (by omega), (by omega), (by omega)⟩ rfl rfl ⟨by decide, by decide⟩ ⟨by decide, by decide⟩ (k2 := 0) (n2 := 0) rfl rfl (Nat.le_of_ble_eq_true rfl) dX7_readOne_82 (kVM (fun s5 hS_s5 hF_s5 q14 => ?_))
      refine j_iload_n hx 3 dX7_readOne_85 rfl ?_
      refine j_bipush hx dX7_readOne_86 rfl ?_
      refine j_icmp_ge hx 114 dX7_readOne_88 rfl ⟨by decide, by decide⟩ ⟨by decide, by decide⟩ (fun h15 => absurd h15 (by omega)) (fun h15 => ?_)
      refine j_aload_n hx 1 dX7_readOne_91 rfl ?_
      refine j_aload_n hx 2 dX7_readOne_92 rfl ?_
      refine j_iload_n hx 3 dX7_readOne_93 rfl ?_
      refine j_iconst hx dX7_readOne_94 ?_
      refine j_iadd hx (r := 3) dX7_readOne_95 (by omega) ?_
      refine j_callV hx hG (c_X7_readOne_3 hst a b1 3) lk_RX7_58 ha (by decide) rfl rfl rfl rfl [.ref b1, .int (zI 3)] ⟨rfl, hG, hS_s5, ha, hb1, (by omega)⟩ rfl rfl ⟨by decide, by decide⟩ ⟨by decide, by decide⟩ (k2 := 0) (n2 := 0) rfl rfl (Nat.le_of_ble_eq_true rfl) dX7_readOne_96 (kVM (fun s6 hS_s6 hF_s6 q17 => ?_))
      refine j_aload_n hx 1 dX7_readOne_99 rfl ?_
      refine j_bipush hx dX7_readOne_100 rfl ?_
      refine j_iconst hx dX7_readOne_102 ?_
      refine j_callV hx hG (c_X7_emit hst a 11 0) lk_RX7_54 ha (by decide) rfl rfl rfl rfl [.int (zI 11), .int (zI 0)] ⟨rfl, hG, hS_s6, ha, (by omega), (by omega)⟩ rfl rfl ⟨by decide, by decide⟩ ⟨by decide, by decide⟩ (k2 := 0) (n2 := 0) rfl rfl (Nat.le_of_ble_eq_true rfl) dX7_readOne_103 (kVM (fun s7 hS_s7 hF_s7 q19 => ?_))
      refine j_goto hx 114 dX7_readOne_106 rfl ?_
      exact j_vret hx hq rfl (by decide) (by decide) dX7_readOne_114 ⟨rfl, rfl, hS_s7, (zFr_t (zFr_t (zFr_t (zFr_t (zFr_t (zFr_t zFr_rf hF_s1 (by decide)) hF_s2 (by decide)) hF_s3 (by decide)) hF_s5 (by decide)) hF_s6 (by decide)) hF_s7 (by decide)), trivial⟩
  · skip
    refine j_aload_n hx 2 dX7_readOne_19 rfl ?_
    refine j_iload_n hx 3 dX7_readOne_20 rfl ?_
    refine j_bipush hx dX7_readOne_21 rfl ?_
    refine j_icmp_lt hx 30 dX7_readOne_23 rfl ⟨by decide, by decide⟩ ⟨by decide, by decide⟩ (fun h20 => ?_) (fun h20 => absurd h20 (by omega))
    refine j_iconst hx dX7_readOne_30 ?_
    refine j_iconst hx dX7_readOne_31 ?_
    refine j_iload_n hx 0 dX7_readOne_32 rfl ?_
    refine j_callV hx hG (c_X9_failIf hst b1 0 3 ((s1 b1 3))) lk_RX7_70 hb1 (by decide) rfl rfl rfl rfl [.int (zI 0), .int (zI 3), .int (zI ((s1 b1 3)))] ⟨rfl, hG, hS_s2, hb1, (by omega), (by omega), (by omega)⟩ rfl rfl ⟨by decide, by decide⟩ ⟨by decide, by decide⟩ (k2 := 0) (n2 := 0) rfl rfl (Nat.le_of_ble_eq_true rfl) dX7_readOne_33 (kVM (fun s8 hS_s8 hF_s8 q22 => ?_))
    refine j_iload_n hx 3 dX7_readOne_36 rfl ?_
    refine j_bipush hx dX7_readOne_37 rfl ?_
    refine j_icmp_ge hx 114 dX7_readOne_39 rfl ⟨by decide, by decide⟩ ⟨by decide, by decide⟩ (fun h23 => absurd h23 (by omega)) (fun h23 => ?_)
    refine j_aload_n hx 1 dX7_readOne_42 rfl ?_
    refine j_aload_n hx 2 dX7_readOne_43 rfl ?_
    refine j_iload_n hx 3 dX7_readOne_44 rfl ?_
    refine j_iconst hx dX7_readOne_45 ?_
    refine j_iadd hx (r := 3) dX7_readOne_46 (by omega) ?_
    refine j_callV hx hG (c_X7_readOr_3 hst a b1 3) lk_RX7_31 ha (by decide) rfl rfl rfl rfl [.ref b1, .int (zI 3)] ⟨rfl, hG, hS_s8, ha, hb1, (by omega)⟩ rfl rfl ⟨by decide, by decide⟩ ⟨by decide, by decide⟩ (k2 := 0) (n2 := 0) rfl rfl (Nat.le_of_ble_eq_true rfl) dX7_readOne_47 (kVM (fun s9 hS_s9 hF_s9 q25 => ?_))
    refine j_aload_n hx 2 dX7_readOne_50 rfl ?_
    refine j_bipush hx dX7_readOne_51 rfl ?_
    refine j_callV hx hG (c_X9_needSign hst b1 93) lk_RX7_74 hb1 (by decide) rfl rfl rfl rfl [.int (zI 93)] ⟨rfl, hG, hS_s9, hb1, (by omega)⟩ rfl rfl ⟨by decide, by decide⟩ ⟨by decide, by decide⟩ (k2 := 0) (n2 := 0) rfl rfl (Nat.le_of_ble_eq_true rfl) dX7_readOne_53 (kVM (fun s10 hS_s10 hF_s10 q27 => ?_))
    refine j_goto hx 114 dX7_readOne_56 rfl ?_
    exact j_vret hx hq rfl (by decide) (by decide) dX7_readOne_114 ⟨rfl, rfl, hS_s10, (zFr_t (zFr_t (zFr_t (zFr_t (zFr_t zFr_rf hF_s1 (by decide)) hF_s2 (by decide)) hF_s8 (by decide)) hF_s9 (by decide)) hF_s10 (by decide)), trivial⟩

set_option maxHeartbeats 4000000 in
set_option maxRecDepth 20000 in
theorem c_X7_readAnd_2 {E : zE} {l : Launch} (hst : l.stackTraces = false) (a : Nat) (b1 : Nat) (x2 : Int) : Con E l yX7_readAnd cX7_readAnd 4 none { frames := 20, cells := 0, slots := 0, locals := 524 } (fun G s vs => vs = [.ref a, .ref b1, .int (zI x2)] ∧ zGK G ∧ zSK G s ∧ (gT G a = 8) ∧ (gT G b1 = 10) ∧ (2 ≤ x2 ∧ x2 ≤ 2)) (fun G s _ => pV (fun G2 s2 => G2 = G ∧ zSK G s2 ∧ zFr [8, 10, 46] G s s2 ∧ True)) := by
  refine Con.mk hst (by decide) (fun G s vs h => by rw [h.1]; exact Nat.le_of_ble_eq_true rfl) ?_
  rintro X G s0 vs ⟨rfl, hG, hS0, ha, hb1, hx2⟩ rfl hx hq
  obtain rfl : x2 = 2 := by omega
  show JJ X E 4 G s0 0 0 [(0, .ref a), (1, .ref b1), (2, .int (zI 2))] 0 []
  refine j_aload_n hx 0 dX7_readAnd_0 rfl ?_
  refine j_aload_n hx 1 dX7_readAnd_1 rfl ?_
  refine j_iload_n hx 2 dX7_readAnd_2 rfl ?_
  refine j_callV hx hG (c_X7_readOne_2 hst a b1 2) lk_RX7_58 ha (by decide) rfl rfl rfl rfl [.ref b1, .int (zI 2)] ⟨rfl, hG, hS0, ha, hb1, (by omega)⟩ rfl rfl ⟨by decide, by decide⟩ ⟨by decide, by decide⟩ (k2 := 0) (n2 := 0) rfl rfl (Nat.le_of_ble_eq_true rfl) dX7_readAnd_3 (kVM (fun s1 hS_s1 hF_s1 q2 => ?_))
  refine j_iconst hx dX7_readAnd_6 ?_
  refine j_istore_n hx [(3, .int (zI 0)), (0, .ref a), (1, .ref b1), (2, .int (zI 2))] dX7_readAnd_7 (by decide) rfl ?_
  have c8_2 : ∀ (m_c8_2 : Nat) (v3 : Int) (s3 : zS), 2147483648 - v3 < m_c8_2 → (0 ≤ v3 ∧ v3 ≤ 150) → (zSK G s3) → (zFr [8, 10, 46] G s1 s3) → JJ X E 4 G s3 0 0 [(0, .ref a), (1, .ref b1), (2, .int (zI 2)), (3, .int (zI v3))] 8 [] := by
    intro m_c8_2
    induction m_c8_2 with
    | zero => intro v3 s3 hm_c8_2 fA4 hS_s3 hF_s3; exfalso; omega
    | succ m_c8_2 ih_c8_2 => 
      intro v3 s3 hm_c8_2 fA4 hS_s3 hF_s3
      refine j_iload_n hx 3 dX7_readAnd_8 rfl ?_
      refine j_sipush hx dX7_readAnd_9 rfl ?_
      refine j_icmp_ge hx 43 dX7_readAnd_12 rfl (by omega) ⟨by decide, by decide⟩ (fun h4 => ?_) (fun h4 => ?_)
      · skip
        exact j_vret hx hq rfl (by decide) (by decide) dX7_readAnd_43 ⟨rfl, rfl, hS_s3, (zFr_t (zFr_t zFr_rf hF_s1 (by decide)) hF_s3 (by decide)), trivial⟩
      · skip
        refine j_aload_n hx 1 dX7_readAnd_15 rfl ?_
        refine j_ldcT hx (i := 16) 18 (by decide) rfl rfl rfl dX7_readAnd_16 ?_
        refine j_callV hx hG (c_X9_takeWord hst b1 16) lk_RX7_50 hb1 (by decide) rfl rfl rfl rfl [.ref (zTa E 16)] ⟨rfl, hG, hS_s3, hb1, (by decide)⟩ rfl rfl ⟨by decide, by decide⟩ ⟨by decide, by decide⟩ (k2 := 0) (n2 := 0) rfl rfl (Nat.le_of_ble_eq_true rfl) dX7_readAnd_18 (kIM (fun v5 s7 hS_s7 hF_s7 q6 => ?_))
        refine j_if_eq hx 43 dX7_readAnd_21 rfl (by omega) (fun h7 => ?_) (fun h7 => ?_)
        · skip
          exact j_vret hx hq rfl (by decide) (by decide) dX7_readAnd_43 ⟨rfl, rfl, hS_s7, (zFr_t (zFr_t (zFr_t zFr_rf hF_s1 (by decide)) hF_s3 (by decide)) hF_s7 (by decide)), trivial⟩
        · skip
          refine j_aload_n hx 0 dX7_readAnd_24 rfl ?_
          refine j_aload_n hx 1 dX7_readAnd_25 rfl ?_
          refine j_iload_n hx 2 dX7_readAnd_26 rfl ?_
          refine j_callV hx hG (c_X7_readOne_2 hst a b1 2) lk_RX7_58 ha (by decide) rfl rfl rfl rfl [.ref b1, .int (zI 2)] ⟨rfl, hG, hS_s7, ha, hb1, (by omega)⟩ rfl rfl ⟨by decide, by decide⟩ ⟨by decide, by decide⟩ (k2 := 0) (n2 := 0) rfl rfl (Nat.le_of_ble_eq_true rfl) dX7_readAnd_27 (kVM (fun s8 hS_s8 hF_s8 q9 => ?_))
          refine j_aload_n hx 0 dX7_readAnd_30 rfl ?_
          refine j_bipush hx dX7_readAnd_31 rfl ?_
          refine j_iconst hx dX7_readAnd_33 ?_
          refine j_callV hx hG (c_X7_emit hst a 12 0) lk_RX7_54 ha (by decide) rfl rfl rfl rfl [.int (zI 12), .int (zI 0)] ⟨rfl, hG, hS_s8, ha, (by omega), (by omega)⟩ rfl rfl ⟨by decide, by decide⟩ ⟨by decide, by decide⟩ (k2 := 0) (n2 := 0) rfl rfl (Nat.le_of_ble_eq_true rfl) dX7_readAnd_34 (kVM (fun s9 hS_s9 hF_s9 q11 => ?_))
          refine j_iinc hx 3 [(3, .int (zI (v3 + 1))), (0, .ref a), (1, .ref b1), (2, .int (zI 2))] dX7_readAnd_37 rfl (by omega) (by decide) rfl ?_
          refine j_goto hx 8 dX7_readAnd_40 rfl ?_
          exact j_sub [1, 2, 3, 0] [(0, .ref a), (1, .ref b1), (2, .int (zI 2)), (3, .int (zI (v3 + 1)))] rfl (ih_c8_2 (v3 + 1) s9 (by omega) (by omega) hS_s9 (zFr_t (zFr_t (zFr_t (zFr_t zFr_rf hF_s3 (by decide)) hF_s7 (by decide)) hF_s8 (by decide)) hF_s9 (by decide)))
  exact j_sub [1, 2, 3, 0] [(0, .ref a), (1, .ref b1), (2, .int (zI 2)), (3, .int (zI 0))] rfl (c8_2 (2147483648 * 4) 0 s1 (by omega) (by omega) hS_s1 zFr_rf)

set_option maxHeartbeats 4000000 in
set_option maxRecDepth 20000 in
theorem c_X7_readOr_2 {E : zE} {l : Launch} (hst : l.stackTraces = false) (a : Nat) (b1 : Nat) (x2 : Int) : Con E l yX7_readOr cX7_readOr 4 none { frames := 21, cells := 0, slots := 0, locals := 547 } (fun G s vs => vs = [.ref a, .ref b1, .int (zI x2)] ∧ zGK G ∧ zSK G s ∧ (gT G a = 8) ∧ (gT G b1 = 10) ∧ (2 ≤ x2 ∧ x2 ≤ 2)) (fun G s _ => pV (fun G2 s2 => G2 = G ∧ zSK G s2 ∧ zFr [8, 10, 46] G s s2 ∧ True)) := by
  refine Con.mk hst (by decide) (fun G s vs h => by rw [h.1]; exact Nat.le_of_ble_eq_true rfl) ?_
  rintro X G s0 vs ⟨rfl, hG, hS0, ha, hb1, hx2⟩ rfl hx hq
  obtain rfl : x2 = 2 := by omega
  show JJ X E 4 G s0 0 0 [(0, .ref a), (1, .ref b1), (2, .int (zI 2))] 0 []
  refine j_aload_n hx 0 dX7_readOr_0 rfl ?_
  refine j_aload_n hx 1 dX7_readOr_1 rfl ?_
  refine j_iload_n hx 2 dX7_readOr_2 rfl ?_
  refine j_callV hx hG (c_X7_readAnd_2 hst a b1 2) lk_RX7_45 ha (by decide) rfl rfl rfl rfl [.ref b1, .int (zI 2)] ⟨rfl, hG, hS0, ha, hb1, (by omega)⟩ rfl rfl ⟨by decide, by decide⟩ ⟨by decide, by decide⟩ (k2 := 0) (n2 := 0) rfl rfl (Nat.le_of_ble_eq_true rfl) dX7_readOr_3 (kVM (fun s1 hS_s1 hF_s1 q2 => ?_))
  refine j_iconst hx dX7_readOr_6 ?_
  refine j_istore_n hx [(3, .int (zI 0)), (0, .ref a), (1, .ref b1), (2, .int (zI 2))] dX7_readOr_7 (by decide) rfl ?_
  have c8_2 : ∀ (m_c8_2 : Nat) (v3 : Int) (s3 : zS), 2147483648 - v3 < m_c8_2 → (0 ≤ v3 ∧ v3 ≤ 150) → (zSK G s3) → (zFr [8, 10, 46] G s1 s3) → JJ X E 4 G s3 0 0 [(0, .ref a), (1, .ref b1), (2, .int (zI 2)), (3, .int (zI v3))] 8 [] := by
    intro m_c8_2
    induction m_c8_2 with
    | zero => intro v3 s3 hm_c8_2 fA4 hS_s3 hF_s3; exfalso; omega
    | succ m_c8_2 ih_c8_2 => 
      intro v3 s3 hm_c8_2 fA4 hS_s3 hF_s3
      refine j_iload_n hx 3 dX7_readOr_8 rfl ?_
      refine j_sipush hx dX7_readOr_9 rfl ?_
      refine j_icmp_ge hx 43 dX7_readOr_12 rfl (by omega) ⟨by decide, by decide⟩ (fun h4 => ?_) (fun h4 => ?_)
      · skip
        exact j_vret hx hq rfl (by decide) (by decide) dX7_readOr_43 ⟨rfl, rfl, hS_s3, (zFr_t (zFr_t zFr_rf hF_s1 (by decide)) hF_s3 (by decide)), trivial⟩
      · skip
        refine j_aload_n hx 1 dX7_readOr_15 rfl ?_
        refine j_ldcT hx (i := 17) 19 (by decide) rfl rfl rfl dX7_readOr_16 ?_
        refine j_callV hx hG (c_X9_takeWord hst b1 17) lk_RX7_50 hb1 (by decide) rfl rfl rfl rfl [.ref (zTa E 17)] ⟨rfl, hG, hS_s3, hb1, (by decide)⟩ rfl rfl ⟨by decide, by decide⟩ ⟨by decide, by decide⟩ (k2 := 0) (n2 := 0) rfl rfl (Nat.le_of_ble_eq_true rfl) dX7_readOr_18 (kIM (fun v5 s7 hS_s7 hF_s7 q6 => ?_))
        refine j_if_eq hx 43 dX7_readOr_21 rfl (by omega) (fun h7 => ?_) (fun h7 => ?_)
        · skip
          exact j_vret hx hq rfl (by decide) (by decide) dX7_readOr_43 ⟨rfl, rfl, hS_s7, (zFr_t (zFr_t (zFr_t zFr_rf hF_s1 (by decide)) hF_s3 (by decide)) hF_s7 (by decide)), trivial⟩
        · skip
          refine j_aload_n hx 0 dX7_readOr_24 rfl ?_
          refine j_aload_n hx 1 dX7_readOr_25 rfl ?_
          refine j_iload_n hx 2 dX7_readOr_26 rfl ?_
          refine j_callV hx hG (c_X7_readAnd_2 hst a b1 2) lk_RX7_45 ha (by decide) rfl rfl rfl rfl [.ref b1, .int (zI 2)] ⟨rfl, hG, hS_s7, ha, hb1, (by omega)⟩ rfl rfl ⟨by decide, by decide⟩ ⟨by decide, by decide⟩ (k2 := 0) (n2 := 0) rfl rfl (Nat.le_of_ble_eq_true rfl) dX7_readOr_27 (kVM (fun s8 hS_s8 hF_s8 q9 => ?_))
          refine j_aload_n hx 0 dX7_readOr_30 rfl ?_
          refine j_bipush hx dX7_readOr_31 rfl ?_
          refine j_iconst hx dX7_readOr_33 ?_
          refine j_callV hx hG (c_X7_emit hst a 13 0) lk_RX7_54 ha (by decide) rfl rfl rfl rfl [.int (zI 13), .int (zI 0)] ⟨rfl, hG, hS_s8, ha, (by omega), (by omega)⟩ rfl rfl ⟨by decide, by decide⟩ ⟨by decide, by decide⟩ (k2 := 0) (n2 := 0) rfl rfl (Nat.le_of_ble_eq_true rfl) dX7_readOr_34 (kVM (fun s9 hS_s9 hF_s9 q11 => ?_))
          refine j_iinc hx 3 [(3, .int (zI (v3 + 1))), (0, .ref a), (1, .ref b1), (2, .int (zI 2))] dX7_readOr_37 rfl (by omega) (by decide) rfl ?_
          refine j_goto hx 8 dX7_readOr_40 rfl ?_
          exact j_sub [1, 2, 3, 0] [(0, .ref a), (1, .ref b1), (2, .int (zI 2)), (3, .int (zI (v3 + 1)))] rfl (ih_c8_2 (v3 + 1) s9 (by omega) (by omega) hS_s9 (zFr_t (zFr_t (zFr_t (zFr_t zFr_rf hF_s3 (by decide)) hF_s7 (by decide)) hF_s8 (by decide)) hF_s9 (by decide)))
  exact j_sub [1, 2, 3, 0] [(0, .ref a), (1, .ref b1), (2, .int (zI 2)), (3, .int (zI 0))] rfl (c8_2 (2147483648 * 4) 0 s1 (by omega) (by omega) hS_s1 zFr_rf)

set_option maxHeartbeats 4000000 in
set_option maxRecDepth 20000 in
theorem c_X7_readOne_1 {E : zE} {l : Launch} (hst : l.stackTraces = false) (a : Nat) (b1 : Nat) (x2 : Int) : Con E l yX7_readOne cX7_readOne 4 none { frames := 22, cells := 0, slots := 0, locals := 570 } (fun G s vs => vs = [.ref a, .ref b1, .int (zI x2)] ∧ zGK G ∧ zSK G s ∧ (gT G a = 8) ∧ (gT G b1 = 10) ∧ (1 ≤ x2 ∧ x2 ≤ 1)) (fun G s _ => pV (fun G2 s2 => G2 = G ∧ zSK G s2 ∧ zFr [8, 10, 46] G s s2 ∧ True)) := by
  refine Con.mk hst (by decide) (fun G s vs h => by rw [h.1]; exact Nat.le_of_ble_eq_true rfl) ?_
  rintro X G s0 vs ⟨rfl, hG, hS0, ha, hb1, hx2⟩ rfl hx hq
  obtain rfl : x2 = 1 := by omega
  show JJ X E 4 G s0 0 0 [(0, .ref a), (1, .ref b1), (2, .int (zI 1))] 0 []
  refine j_aload_n hx 1 dX7_readOne_0 rfl ?_
  refine j_callV hx hG (c_X9_peek hst b1) lk_RX7_35 hb1 (by decide) rfl rfl rfl rfl [] ⟨rfl, hG, hS0, hb1⟩ rfl rfl ⟨by decide, by decide⟩ ⟨by decide, by decide⟩ (k2 := 0) (n2 := 0) rfl rfl (Nat.le_of_ble_eq_true rfl) dX7_readOne_1 (kIM (fun v1 s1 hS_s1 hF_s1 q2 => ?_))
  refine j_pop hx dX7_readOne_4 rfl ?_
  refine j_aload_n hx 1 dX7_readOne_5 rfl ?_
  have f3 := zf hS_s1 hb1 (k := 3) rfl
  refine gN10_3 hx hG hb1 kf_RX7_63 rfl dX7_readOne_6 ?_
  refine j_istore_n hx [(3, .int (zI ((s1 b1 3)))), (0, .ref a), (1, .ref b1), (2, .int (zI 1))] dX7_readOne_9 (by decide) rfl ?_
  refine j_aload_n hx 2 dX7_readOne_10 rfl ?_
  refine j_bipush hx dX7_readOne_11 rfl ?_
  refine j_callV hx hG (c_X9_takeSign hst b1 91) lk_RX7_66 hb1 (by decide) rfl rfl rfl rfl [.int (zI 91)] ⟨rfl, hG, hS_s1, hb1, (by omega)⟩ rfl rfl ⟨by decide, by decide⟩ ⟨by decide, by decide⟩ (k2 := 0) (n2 := 0) rfl rfl (Nat.le_of_ble_eq_true rfl) dX7_readOne_13 (kIM (fun v4 s2 hS_s2 hF_s2 q5 => ?_))
  refine j_if_eq hx 59 dX7_readOne_16 rfl (by omega) (fun h6 => ?_) (fun h6 => ?_)
  · skip
    refine j_aload_n hx 2 dX7_readOne_59 rfl ?_
    refine j_ldcT hx (i := 8) 8 (by decide) rfl rfl rfl dX7_readOne_60 ?_
    refine j_callV hx hG (c_X9_takeWord hst b1 8) lk_RX7_50 hb1 (by decide) rfl rfl rfl rfl [.ref (zTa E 8)] ⟨rfl, hG, hS_s2, hb1, (by decide)⟩ rfl rfl ⟨by decide, by decide⟩ ⟨by decide, by decide⟩ (k2 := 0) (n2 := 0) rfl rfl (Nat.le_of_ble_eq_true rfl) dX7_readOne_62 (kIM (fun v7 s3 hS_s3 hF_s3 q8 => ?_))
    refine j_if_eq hx 109 dX7_readOne_65 rfl (by omega) (fun h9 => ?_) (fun h9 => ?_)
    · skip
      refine j_aload_n hx 1 dX7_readOne_109 rfl ?_
      refine j_aload_n hx 2 dX7_readOne_110 rfl ?_
      refine j_callV hx hG (c_X7_readFact hst a b1) lk_RX7_80 ha (by decide) rfl rfl rfl rfl [.ref b1] ⟨rfl, hG, hS_s3, ha, hb1⟩ rfl rfl ⟨by decide, by decide⟩ ⟨by decide, by decide⟩ (k2 := 0) (n2 := 0) rfl rfl (Nat.le_of_ble_eq_true rfl) dX7_readOne_111 (kVM (fun s4 hS_s4 hF_s4 q11 => ?_))
      exact j_vret hx hq rfl (by decide) (by decide) dX7_readOne_114 ⟨rfl, rfl, hS_s4, (zFr_t (zFr_t (zFr_t (zFr_t zFr_rf hF_s1 (by decide)) hF_s2 (by decide)) hF_s3 (by decide)) hF_s4 (by decide)), trivial⟩
    · skip
      refine j_aload_n hx 2 dX7_readOne_68 rfl ?_
      refine j_iload_n hx 3 dX7_readOne_69 rfl ?_
      refine j_bipush hx dX7_readOne_70 rfl ?_
      refine j_icmp_lt hx 79 dX7_readOne_72 rfl ⟨by decide, by decide⟩ ⟨by decide, by decide⟩ (fun h12 => ?_) (fun h12 => absurd h12 (by omega))
      refine j_iconst hx dX7_readOne_79 ?_
      refine j_iconst hx dX7_readOne_80 ?_
      refine j_iload_n hx 0 dX7_readOne_81 rfl ?_
      refine j_callV hx hG (c_X9_failIf hst b1 0 3 ((s1 b1 3))) lk_RX7_70 hb1 (by decide) rfl rfl rfl rfl [.int (zI 0), .int (zI 3), .int (zI ((s1 b1 3)))] ⟨rfl, hG, hS_s3, hb1, (by omega), (by omega), (by omega)⟩ rfl rfl ⟨by decide, by decide⟩ ⟨by decide, by decide⟩ (k2 := 0) (n2 := 0) rfl rfl (Nat.le_of_ble_eq_true rfl) dX7_readOne_82 (kVM (fun s5 hS_s5 hF_s5 q14 => ?_))
      refine j_iload_n hx 3 dX7_readOne_85 rfl ?_
      refine j_bipush hx dX7_readOne_86 rfl ?_
      refine j_icmp_ge hx 114 dX7_readOne_88 rfl ⟨by decide, by decide⟩ ⟨by decide, by decide⟩ (fun h15 => absurd h15 (by omega)) (fun h15 => ?_)
      refine j_aload_n hx 1 dX7_readOne_91 rfl ?_
      refine j_aload_n hx 2 dX7_readOne_92 rfl ?_
      refine j_iload_n hx 3 dX7_readOne_93 rfl ?_
      refine j_iconst hx dX7_readOne_94 ?_
      refine j_iadd hx (r := 2) dX7_readOne_95 (by omega) ?_
      refine j_callV hx hG (c_X7_readOne_2 hst a b1 2) lk_RX7_58 ha (by decide) rfl rfl rfl rfl [.ref b1, .int (zI 2)] ⟨rfl, hG, hS_s5, ha, hb1, (by omega)⟩ rfl rfl ⟨by decide, by decide⟩ ⟨by decide, by decide⟩ (k2 := 0) (n2 := 0) rfl rfl (Nat.le_of_ble_eq_true rfl) dX7_readOne_96 (kVM (fun s6 hS_s6 hF_s6 q17 => ?_))
      refine j_aload_n hx 1 dX7_readOne_99 rfl ?_
      refine j_bipush hx dX7_readOne_100 rfl ?_
      refine j_iconst hx dX7_readOne_102 ?_
      refine j_callV hx hG (c_X7_emit hst a 11 0) lk_RX7_54 ha (by decide) rfl rfl rfl rfl [.int (zI 11), .int (zI 0)] ⟨rfl, hG, hS_s6, ha, (by omega), (by omega)⟩ rfl rfl ⟨by decide, by decide⟩ ⟨by decide, by decide⟩ (k2 := 0) (n2 := 0) rfl rfl (Nat.le_of_ble_eq_true rfl) dX7_readOne_103 (kVM (fun s7 hS_s7 hF_s7 q19 => ?_))
      refine j_goto hx 114 dX7_readOne_106 rfl ?_
      exact j_vret hx hq rfl (by decide) (by decide) dX7_readOne_114 ⟨rfl, rfl, hS_s7, (zFr_t (zFr_t (zFr_t (zFr_t (zFr_t (zFr_t zFr_rf hF_s1 (by decide)) hF_s2 (by decide)) hF_s3 (by decide)) hF_s5 (by decide)) hF_s6 (by decide)) hF_s7 (by decide)), trivial⟩
  · skip
    refine j_aload_n hx 2 dX7_readOne_19 rfl ?_
    refine j_iload_n hx 3 dX7_readOne_20 rfl ?_
    refine j_bipush hx dX7_readOne_21 rfl ?_
    refine j_icmp_lt hx 30 dX7_readOne_23 rfl ⟨by decide, by decide⟩ ⟨by decide, by decide⟩ (fun h20 => ?_) (fun h20 => absurd h20 (by omega))
    refine j_iconst hx dX7_readOne_30 ?_
    refine j_iconst hx dX7_readOne_31 ?_
    refine j_iload_n hx 0 dX7_readOne_32 rfl ?_
    refine j_callV hx hG (c_X9_failIf hst b1 0 3 ((s1 b1 3))) lk_RX7_70 hb1 (by decide) rfl rfl rfl rfl [.int (zI 0), .int (zI 3), .int (zI ((s1 b1 3)))] ⟨rfl, hG, hS_s2, hb1, (by omega), (by omega), (by omega)⟩ rfl rfl ⟨by decide, by decide⟩ ⟨by decide, by decide⟩ (k2 := 0) (n2 := 0) rfl rfl (Nat.le_of_ble_eq_true rfl) dX7_readOne_33 (kVM (fun s8 hS_s8 hF_s8 q22 => ?_))
    refine j_iload_n hx 3 dX7_readOne_36 rfl ?_
    refine j_bipush hx dX7_readOne_37 rfl ?_
    refine j_icmp_ge hx 114 dX7_readOne_39 rfl ⟨by decide, by decide⟩ ⟨by decide, by decide⟩ (fun h23 => absurd h23 (by omega)) (fun h23 => ?_)
    refine j_aload_n hx 1 dX7_readOne_42 rfl ?_
    refine j_aload_n hx 2 dX7_readOne_43 rfl ?_
    refine j_iload_n hx 3 dX7_readOne_44 rfl ?_
    refine j_iconst hx dX7_readOne_45 ?_
    refine j_iadd hx (r := 2) dX7_readOne_46 (by omega) ?_
    refine j_callV hx hG (c_X7_readOr_2 hst a b1 2) lk_RX7_31 ha (by decide) rfl rfl rfl rfl [.ref b1, .int (zI 2)] ⟨rfl, hG, hS_s8, ha, hb1, (by omega)⟩ rfl rfl ⟨by decide, by decide⟩ ⟨by decide, by decide⟩ (k2 := 0) (n2 := 0) rfl rfl (Nat.le_of_ble_eq_true rfl) dX7_readOne_47 (kVM (fun s9 hS_s9 hF_s9 q25 => ?_))
    refine j_aload_n hx 2 dX7_readOne_50 rfl ?_
    refine j_bipush hx dX7_readOne_51 rfl ?_
    refine j_callV hx hG (c_X9_needSign hst b1 93) lk_RX7_74 hb1 (by decide) rfl rfl rfl rfl [.int (zI 93)] ⟨rfl, hG, hS_s9, hb1, (by omega)⟩ rfl rfl ⟨by decide, by decide⟩ ⟨by decide, by decide⟩ (k2 := 0) (n2 := 0) rfl rfl (Nat.le_of_ble_eq_true rfl) dX7_readOne_53 (kVM (fun s10 hS_s10 hF_s10 q27 => ?_))
    refine j_goto hx 114 dX7_readOne_56 rfl ?_
    exact j_vret hx hq rfl (by decide) (by decide) dX7_readOne_114 ⟨rfl, rfl, hS_s10, (zFr_t (zFr_t (zFr_t (zFr_t (zFr_t zFr_rf hF_s1 (by decide)) hF_s2 (by decide)) hF_s8 (by decide)) hF_s9 (by decide)) hF_s10 (by decide)), trivial⟩

set_option maxHeartbeats 4000000 in
set_option maxRecDepth 20000 in
theorem c_X7_readAnd_1 {E : zE} {l : Launch} (hst : l.stackTraces = false) (a : Nat) (b1 : Nat) (x2 : Int) : Con E l yX7_readAnd cX7_readAnd 4 none { frames := 23, cells := 0, slots := 0, locals := 593 } (fun G s vs => vs = [.ref a, .ref b1, .int (zI x2)] ∧ zGK G ∧ zSK G s ∧ (gT G a = 8) ∧ (gT G b1 = 10) ∧ (1 ≤ x2 ∧ x2 ≤ 1)) (fun G s _ => pV (fun G2 s2 => G2 = G ∧ zSK G s2 ∧ zFr [8, 10, 46] G s s2 ∧ True)) := by
  refine Con.mk hst (by decide) (fun G s vs h => by rw [h.1]; exact Nat.le_of_ble_eq_true rfl) ?_
  rintro X G s0 vs ⟨rfl, hG, hS0, ha, hb1, hx2⟩ rfl hx hq
  obtain rfl : x2 = 1 := by omega
  show JJ X E 4 G s0 0 0 [(0, .ref a), (1, .ref b1), (2, .int (zI 1))] 0 []
  refine j_aload_n hx 0 dX7_readAnd_0 rfl ?_
  refine j_aload_n hx 1 dX7_readAnd_1 rfl ?_
  refine j_iload_n hx 2 dX7_readAnd_2 rfl ?_
  refine j_callV hx hG (c_X7_readOne_1 hst a b1 1) lk_RX7_58 ha (by decide) rfl rfl rfl rfl [.ref b1, .int (zI 1)] ⟨rfl, hG, hS0, ha, hb1, (by omega)⟩ rfl rfl ⟨by decide, by decide⟩ ⟨by decide, by decide⟩ (k2 := 0) (n2 := 0) rfl rfl (Nat.le_of_ble_eq_true rfl) dX7_readAnd_3 (kVM (fun s1 hS_s1 hF_s1 q2 => ?_))
  refine j_iconst hx dX7_readAnd_6 ?_
  refine j_istore_n hx [(3, .int (zI 0)), (0, .ref a), (1, .ref b1), (2, .int (zI 1))] dX7_readAnd_7 (by decide) rfl ?_
  have c8_2 : ∀ (m_c8_2 : Nat) (v3 : Int) (s3 : zS), 2147483648 - v3 < m_c8_2 → (0 ≤ v3 ∧ v3 ≤ 150) → (zSK G s3) → (zFr [8, 10, 46] G s1 s3) → JJ X E 4 G s3 0 0 [(0, .ref a), (1, .ref b1), (2, .int (zI 1)), (3, .int (zI v3))] 8 [] := by
    intro m_c8_2
    induction m_c8_2 with
    | zero => intro v3 s3 hm_c8_2 fA4 hS_s3 hF_s3; exfalso; omega
    | succ m_c8_2 ih_c8_2 => 
      intro v3 s3 hm_c8_2 fA4 hS_s3 hF_s3
      refine j_iload_n hx 3 dX7_readAnd_8 rfl ?_
      refine j_sipush hx dX7_readAnd_9 rfl ?_
      refine j_icmp_ge hx 43 dX7_readAnd_12 rfl (by omega) ⟨by decide, by decide⟩ (fun h4 => ?_) (fun h4 => ?_)
      · skip
        exact j_vret hx hq rfl (by decide) (by decide) dX7_readAnd_43 ⟨rfl, rfl, hS_s3, (zFr_t (zFr_t zFr_rf hF_s1 (by decide)) hF_s3 (by decide)), trivial⟩
      · skip
        refine j_aload_n hx 1 dX7_readAnd_15 rfl ?_
        refine j_ldcT hx (i := 16) 18 (by decide) rfl rfl rfl dX7_readAnd_16 ?_
        refine j_callV hx hG (c_X9_takeWord hst b1 16) lk_RX7_50 hb1 (by decide) rfl rfl rfl rfl [.ref (zTa E 16)] ⟨rfl, hG, hS_s3, hb1, (by decide)⟩ rfl rfl ⟨by decide, by decide⟩ ⟨by decide, by decide⟩ (k2 := 0) (n2 := 0) rfl rfl (Nat.le_of_ble_eq_true rfl) dX7_readAnd_18 (kIM (fun v5 s7 hS_s7 hF_s7 q6 => ?_))
        refine j_if_eq hx 43 dX7_readAnd_21 rfl (by omega) (fun h7 => ?_) (fun h7 => ?_)
        · skip
          exact j_vret hx hq rfl (by decide) (by decide) dX7_readAnd_43 ⟨rfl, rfl, hS_s7, (zFr_t (zFr_t (zFr_t zFr_rf hF_s1 (by decide)) hF_s3 (by decide)) hF_s7 (by decide)), trivial⟩
        · skip
          refine j_aload_n hx 0 dX7_readAnd_24 rfl ?_
          refine j_aload_n hx 1 dX7_readAnd_25 rfl ?_
          refine j_iload_n hx 2 dX7_readAnd_26 rfl ?_
          refine j_callV hx hG (c_X7_readOne_1 hst a b1 1) lk_RX7_58 ha (by decide) rfl rfl rfl rfl [.ref b1, .int (zI 1)] ⟨rfl, hG, hS_s7, ha, hb1, (by omega)⟩ rfl rfl ⟨by decide, by decide⟩ ⟨by decide, by decide⟩ (k2 := 0) (n2 := 0) rfl rfl (Nat.le_of_ble_eq_true rfl) dX7_readAnd_27 (kVM (fun s8 hS_s8 hF_s8 q9 => ?_))
          refine j_aload_n hx 0 dX7_readAnd_30 rfl ?_
          refine j_bipush hx dX7_readAnd_31 rfl ?_
          refine j_iconst hx dX7_readAnd_33 ?_
          refine j_callV hx hG (c_X7_emit hst a 12 0) lk_RX7_54 ha (by decide) rfl rfl rfl rfl [.int (zI 12), .int (zI 0)] ⟨rfl, hG, hS_s8, ha, (by omega), (by omega)⟩ rfl rfl ⟨by decide, by decide⟩ ⟨by decide, by decide⟩ (k2 := 0) (n2 := 0) rfl rfl (Nat.le_of_ble_eq_true rfl) dX7_readAnd_34 (kVM (fun s9 hS_s9 hF_s9 q11 => ?_))
          refine j_iinc hx 3 [(3, .int (zI (v3 + 1))), (0, .ref a), (1, .ref b1), (2, .int (zI 1))] dX7_readAnd_37 rfl (by omega) (by decide) rfl ?_
          refine j_goto hx 8 dX7_readAnd_40 rfl ?_
          exact j_sub [1, 2, 3, 0] [(0, .ref a), (1, .ref b1), (2, .int (zI 1)), (3, .int (zI (v3 + 1)))] rfl (ih_c8_2 (v3 + 1) s9 (by omega) (by omega) hS_s9 (zFr_t (zFr_t (zFr_t (zFr_t zFr_rf hF_s3 (by decide)) hF_s7 (by decide)) hF_s8 (by decide)) hF_s9 (by decide)))
  exact j_sub [1, 2, 3, 0] [(0, .ref a), (1, .ref b1), (2, .int (zI 1)), (3, .int (zI 0))] rfl (c8_2 (2147483648 * 4) 0 s1 (by omega) (by omega) hS_s1 zFr_rf)

set_option maxHeartbeats 4000000 in
set_option maxRecDepth 20000 in
theorem c_X7_readOr_1 {E : zE} {l : Launch} (hst : l.stackTraces = false) (a : Nat) (b1 : Nat) (x2 : Int) : Con E l yX7_readOr cX7_readOr 4 none { frames := 24, cells := 0, slots := 0, locals := 616 } (fun G s vs => vs = [.ref a, .ref b1, .int (zI x2)] ∧ zGK G ∧ zSK G s ∧ (gT G a = 8) ∧ (gT G b1 = 10) ∧ (1 ≤ x2 ∧ x2 ≤ 1)) (fun G s _ => pV (fun G2 s2 => G2 = G ∧ zSK G s2 ∧ zFr [8, 10, 46] G s s2 ∧ True)) := by
  refine Con.mk hst (by decide) (fun G s vs h => by rw [h.1]; exact Nat.le_of_ble_eq_true rfl) ?_
  rintro X G s0 vs ⟨rfl, hG, hS0, ha, hb1, hx2⟩ rfl hx hq
  obtain rfl : x2 = 1 := by omega
  show JJ X E 4 G s0 0 0 [(0, .ref a), (1, .ref b1), (2, .int (zI 1))] 0 []
  refine j_aload_n hx 0 dX7_readOr_0 rfl ?_
  refine j_aload_n hx 1 dX7_readOr_1 rfl ?_
  refine j_iload_n hx 2 dX7_readOr_2 rfl ?_
  refine j_callV hx hG (c_X7_readAnd_1 hst a b1 1) lk_RX7_45 ha (by decide) rfl rfl rfl rfl [.ref b1, .int (zI 1)] ⟨rfl, hG, hS0, ha, hb1, (by omega)⟩ rfl rfl ⟨by decide, by decide⟩ ⟨by decide, by decide⟩ (k2 := 0) (n2 := 0) rfl rfl (Nat.le_of_ble_eq_true rfl) dX7_readOr_3 (kVM (fun s1 hS_s1 hF_s1 q2 => ?_))
  refine j_iconst hx dX7_readOr_6 ?_
  refine j_istore_n hx [(3, .int (zI 0)), (0, .ref a), (1, .ref b1), (2, .int (zI 1))] dX7_readOr_7 (by decide) rfl ?_
  have c8_2 : ∀ (m_c8_2 : Nat) (v3 : Int) (s3 : zS), 2147483648 - v3 < m_c8_2 → (0 ≤ v3 ∧ v3 ≤ 150) → (zSK G s3) → (zFr [8, 10, 46] G s1 s3) → JJ X E 4 G s3 0 0 [(0, .ref a), (1, .ref b1), (2, .int (zI 1)), (3, .int (zI v3))] 8 [] := by
    intro m_c8_2
    induction m_c8_2 with
    | zero => intro v3 s3 hm_c8_2 fA4 hS_s3 hF_s3; exfalso; omega
    | succ m_c8_2 ih_c8_2 => 
      intro v3 s3 hm_c8_2 fA4 hS_s3 hF_s3
      refine j_iload_n hx 3 dX7_readOr_8 rfl ?_
      refine j_sipush hx dX7_readOr_9 rfl ?_
      refine j_icmp_ge hx 43 dX7_readOr_12 rfl (by omega) ⟨by decide, by decide⟩ (fun h4 => ?_) (fun h4 => ?_)
      · skip
        exact j_vret hx hq rfl (by decide) (by decide) dX7_readOr_43 ⟨rfl, rfl, hS_s3, (zFr_t (zFr_t zFr_rf hF_s1 (by decide)) hF_s3 (by decide)), trivial⟩
      · skip
        refine j_aload_n hx 1 dX7_readOr_15 rfl ?_
        refine j_ldcT hx (i := 17) 19 (by decide) rfl rfl rfl dX7_readOr_16 ?_
        refine j_callV hx hG (c_X9_takeWord hst b1 17) lk_RX7_50 hb1 (by decide) rfl rfl rfl rfl [.ref (zTa E 17)] ⟨rfl, hG, hS_s3, hb1, (by decide)⟩ rfl rfl ⟨by decide, by decide⟩ ⟨by decide, by decide⟩ (k2 := 0) (n2 := 0) rfl rfl (Nat.le_of_ble_eq_true rfl) dX7_readOr_18 (kIM (fun v5 s7 hS_s7 hF_s7 q6 => ?_))
        refine j_if_eq hx 43 dX7_readOr_21 rfl (by omega) (fun h7 => ?_) (fun h7 => ?_)
        · skip
          exact j_vret hx hq rfl (by decide) (by decide) dX7_readOr_43 ⟨rfl, rfl, hS_s7, (zFr_t (zFr_t (zFr_t zFr_rf hF_s1 (by decide)) hF_s3 (by decide)) hF_s7 (by decide)), trivial⟩
        · skip
          refine j_aload_n hx 0 dX7_readOr_24 rfl ?_
          refine j_aload_n hx 1 dX7_readOr_25 rfl ?_
          refine j_iload_n hx 2 dX7_readOr_26 rfl ?_
          refine j_callV hx hG (c_X7_readAnd_1 hst a b1 1) lk_RX7_45 ha (by decide) rfl rfl rfl rfl [.ref b1, .int (zI 1)] ⟨rfl, hG, hS_s7, ha, hb1, (by omega)⟩ rfl rfl ⟨by decide, by decide⟩ ⟨by decide, by decide⟩ (k2 := 0) (n2 := 0) rfl rfl (Nat.le_of_ble_eq_true rfl) dX7_readOr_27 (kVM (fun s8 hS_s8 hF_s8 q9 => ?_))
          refine j_aload_n hx 0 dX7_readOr_30 rfl ?_
          refine j_bipush hx dX7_readOr_31 rfl ?_
          refine j_iconst hx dX7_readOr_33 ?_
          refine j_callV hx hG (c_X7_emit hst a 13 0) lk_RX7_54 ha (by decide) rfl rfl rfl rfl [.int (zI 13), .int (zI 0)] ⟨rfl, hG, hS_s8, ha, (by omega), (by omega)⟩ rfl rfl ⟨by decide, by decide⟩ ⟨by decide, by decide⟩ (k2 := 0) (n2 := 0) rfl rfl (Nat.le_of_ble_eq_true rfl) dX7_readOr_34 (kVM (fun s9 hS_s9 hF_s9 q11 => ?_))
          refine j_iinc hx 3 [(3, .int (zI (v3 + 1))), (0, .ref a), (1, .ref b1), (2, .int (zI 1))] dX7_readOr_37 rfl (by omega) (by decide) rfl ?_
          refine j_goto hx 8 dX7_readOr_40 rfl ?_
          exact j_sub [1, 2, 3, 0] [(0, .ref a), (1, .ref b1), (2, .int (zI 1)), (3, .int (zI (v3 + 1)))] rfl (ih_c8_2 (v3 + 1) s9 (by omega) (by omega) hS_s9 (zFr_t (zFr_t (zFr_t (zFr_t zFr_rf hF_s3 (by decide)) hF_s7 (by decide)) hF_s8 (by decide)) hF_s9 (by decide)))
  exact j_sub [1, 2, 3, 0] [(0, .ref a), (1, .ref b1), (2, .int (zI 1)), (3, .int (zI 0))] rfl (c8_2 (2147483648 * 4) 0 s1 (by omega) (by omega) hS_s1 zFr_rf)

set_option maxHeartbeats 4000000 in
set_option maxRecDepth 20000 in
theorem c_X7_readOne_0 {E : zE} {l : Launch} (hst : l.stackTraces = false) (a : Nat) (b1 : Nat) (x2 : Int) : Con E l yX7_readOne cX7_readOne 4 none { frames := 25, cells := 0, slots := 0, locals := 639 } (fun G s vs => vs = [.ref a, .ref b1, .int (zI x2)] ∧ zGK G ∧ zSK G s ∧ (gT G a = 8) ∧ (gT G b1 = 10) ∧ (0 ≤ x2 ∧ x2 ≤ 0)) (fun G s _ => pV (fun G2 s2 => G2 = G ∧ zSK G s2 ∧ zFr [8, 10, 46] G s s2 ∧ True)) := by
  refine Con.mk hst (by decide) (fun G s vs h => by rw [h.1]; exact Nat.le_of_ble_eq_true rfl) ?_
  rintro X G s0 vs ⟨rfl, hG, hS0, ha, hb1, hx2⟩ rfl hx hq
  obtain rfl : x2 = 0 := by omega
  show JJ X E 4 G s0 0 0 [(0, .ref a), (1, .ref b1), (2, .int (zI 0))] 0 []
  refine j_aload_n hx 1 dX7_readOne_0 rfl ?_
  refine j_callV hx hG (c_X9_peek hst b1) lk_RX7_35 hb1 (by decide) rfl rfl rfl rfl [] ⟨rfl, hG, hS0, hb1⟩ rfl rfl ⟨by decide, by decide⟩ ⟨by decide, by decide⟩ (k2 := 0) (n2 := 0) rfl rfl (Nat.le_of_ble_eq_true rfl) dX7_readOne_1 (kIM (fun v1 s1 hS_s1 hF_s1 q2 => ?_))
  refine j_pop hx dX7_readOne_4 rfl ?_
  refine j_aload_n hx 1 dX7_readOne_5 rfl ?_
  have f3 := zf hS_s1 hb1 (k := 3) rfl
  refine gN10_3 hx hG hb1 kf_RX7_63 rfl dX7_readOne_6 ?_
  refine j_istore_n hx [(3, .int (zI ((s1 b1 3)))), (0, .ref a), (1, .ref b1), (2, .int (zI 0))] dX7_readOne_9 (by decide) rfl ?_
  refine j_aload_n hx 2 dX7_readOne_10 rfl ?_
  refine j_bipush hx dX7_readOne_11 rfl ?_
  refine j_callV hx hG (c_X9_takeSign hst b1 91) lk_RX7_66 hb1 (by decide) rfl rfl rfl rfl [.int (zI 91)] ⟨rfl, hG, hS_s1, hb1, (by omega)⟩ rfl rfl ⟨by decide, by decide⟩ ⟨by decide, by decide⟩ (k2 := 0) (n2 := 0) rfl rfl (Nat.le_of_ble_eq_true rfl) dX7_readOne_13 (kIM (fun v4 s2 hS_s2 hF_s2 q5 => ?_))
  refine j_if_eq hx 59 dX7_readOne_16 rfl (by omega) (fun h6 => ?_) (fun h6 => ?_)
  · skip
    refine j_aload_n hx 2 dX7_readOne_59 rfl ?_
    refine j_ldcT hx (i := 8) 8 (by decide) rfl rfl rfl dX7_readOne_60 ?_
    refine j_callV hx hG (c_X9_takeWord hst b1 8) lk_RX7_50 hb1 (by decide) rfl rfl rfl rfl [.ref (zTa E 8)] ⟨rfl, hG, hS_s2, hb1, (by decide)⟩ rfl rfl ⟨by decide, by decide⟩ ⟨by decide, by decide⟩ (k2 := 0) (n2 := 0) rfl rfl (Nat.le_of_ble_eq_true rfl) dX7_readOne_62 (kIM (fun v7 s3 hS_s3 hF_s3 q8 => ?_))
    refine j_if_eq hx 109 dX7_readOne_65 rfl (by omega) (fun h9 => ?_) (fun h9 => ?_)
    · skip
      refine j_aload_n hx 1 dX7_readOne_109 rfl ?_
      refine j_aload_n hx 2 dX7_readOne_110 rfl ?_
      refine j_callV hx hG (c_X7_readFact hst a b1) lk_RX7_80 ha (by decide) rfl rfl rfl rfl [.ref b1] ⟨rfl, hG, hS_s3, ha, hb1⟩ rfl rfl ⟨by decide, by decide⟩ ⟨by decide, by decide⟩ (k2 := 0) (n2 := 0) rfl rfl (Nat.le_of_ble_eq_true rfl) dX7_readOne_111 (kVM (fun s4 hS_s4 hF_s4 q11 => ?_))
      exact j_vret hx hq rfl (by decide) (by decide) dX7_readOne_114 ⟨rfl, rfl, hS_s4, (zFr_t (zFr_t (zFr_t (zFr_t zFr_rf hF_s1 (by decide)) hF_s2 (by decide)) hF_s3 (by decide)) hF_s4 (by decide)), trivial⟩
    · skip
      refine j_aload_n hx 2 dX7_readOne_68 rfl ?_
      refine j_iload_n hx 3 dX7_readOne_69 rfl ?_
      refine j_bipush hx dX7_readOne_70 rfl ?_
      refine j_icmp_lt hx 79 dX7_readOne_72 rfl ⟨by decide, by decide⟩ ⟨by decide, by decide⟩ (fun h12 => ?_) (fun h12 => absurd h12 (by omega))
      refine j_iconst hx dX7_readOne_79 ?_
      refine j_iconst hx dX7_readOne_80 ?_
      refine j_iload_n hx 0 dX7_readOne_81 rfl ?_
      refine j_callV hx hG (c_X9_failIf hst b1 0 3 ((s1 b1 3))) lk_RX7_70 hb1 (by decide) rfl rfl rfl rfl [.int (zI 0), .int (zI 3), .int (zI ((s1 b1 3)))] ⟨rfl, hG, hS_s3, hb1, (by omega), (by omega), (by omega)⟩ rfl rfl ⟨by decide, by decide⟩ ⟨by decide, by decide⟩ (k2 := 0) (n2 := 0) rfl rfl (Nat.le_of_ble_eq_true rfl) dX7_readOne_82 (kVM (fun s5 hS_s5 hF_s5 q14 => ?_))
      refine j_iload_n hx 3 dX7_readOne_85 rfl ?_
      refine j_bipush hx dX7_readOne_86 rfl ?_
      refine j_icmp_ge hx 114 dX7_readOne_88 rfl ⟨by decide, by decide⟩ ⟨by decide, by decide⟩ (fun h15 => absurd h15 (by omega)) (fun h15 => ?_)
      refine j_aload_n hx 1 dX7_readOne_91 rfl ?_
      refine j_aload_n hx 2 dX7_readOne_92 rfl ?_
      refine j_iload_n hx 3 dX7_readOne_93 rfl ?_
      refine j_iconst hx dX7_readOne_94 ?_
      refine j_iadd hx (r := 1) dX7_readOne_95 (by omega) ?_
      refine j_callV hx hG (c_X7_readOne_1 hst a b1 1) lk_RX7_58 ha (by decide) rfl rfl rfl rfl [.ref b1, .int (zI 1)] ⟨rfl, hG, hS_s5, ha, hb1, (by omega)⟩ rfl rfl ⟨by decide, by decide⟩ ⟨by decide, by decide⟩ (k2 := 0) (n2 := 0) rfl rfl (Nat.le_of_ble_eq_true rfl) dX7_readOne_96 (kVM (fun s6 hS_s6 hF_s6 q17 => ?_))
      refine j_aload_n hx 1 dX7_readOne_99 rfl ?_
      refine j_bipush hx dX7_readOne_100 rfl ?_
      refine j_iconst hx dX7_readOne_102 ?_
      refine j_callV hx hG (c_X7_emit hst a 11 0) lk_RX7_54 ha (by decide) rfl rfl rfl rfl [.int (zI 11), .int (zI 0)] ⟨rfl, hG, hS_s6, ha, (by omega), (by omega)⟩ rfl rfl ⟨by decide, by decide⟩ ⟨by decide, by decide⟩ (k2 := 0) (n2 := 0) rfl rfl (Nat.le_of_ble_eq_true rfl) dX7_readOne_103 (kVM (fun s7 hS_s7 hF_s7 q19 => ?_))
      refine j_goto hx 114 dX7_readOne_106 rfl ?_
      exact j_vret hx hq rfl (by decide) (by decide) dX7_readOne_114 ⟨rfl, rfl, hS_s7, (zFr_t (zFr_t (zFr_t (zFr_t (zFr_t (zFr_t zFr_rf hF_s1 (by decide)) hF_s2 (by decide)) hF_s3 (by decide)) hF_s5 (by decide)) hF_s6 (by decide)) hF_s7 (by decide)), trivial⟩
  · skip
    refine j_aload_n hx 2 dX7_readOne_19 rfl ?_
    refine j_iload_n hx 3 dX7_readOne_20 rfl ?_
    refine j_bipush hx dX7_readOne_21 rfl ?_
    refine j_icmp_lt hx 30 dX7_readOne_23 rfl ⟨by decide, by decide⟩ ⟨by decide, by decide⟩ (fun h20 => ?_) (fun h20 => absurd h20 (by omega))
    refine j_iconst hx dX7_readOne_30 ?_
    refine j_iconst hx dX7_readOne_31 ?_
    refine j_iload_n hx 0 dX7_readOne_32 rfl ?_
    refine j_callV hx hG (c_X9_failIf hst b1 0 3 ((s1 b1 3))) lk_RX7_70 hb1 (by decide) rfl rfl rfl rfl [.int (zI 0), .int (zI 3), .int (zI ((s1 b1 3)))] ⟨rfl, hG, hS_s2, hb1, (by omega), (by omega), (by omega)⟩ rfl rfl ⟨by decide, by decide⟩ ⟨by decide, by decide⟩ (k2 := 0) (n2 := 0) rfl rfl (Nat.le_of_ble_eq_true rfl) dX7_readOne_33 (kVM (fun s8 hS_s8 hF_s8 q22 => ?_))
    refine j_iload_n hx 3 dX7_readOne_36 rfl ?_
    refine j_bipush hx dX7_readOne_37 rfl ?_
    refine j_icmp_ge hx 114 dX7_readOne_39 rfl ⟨by decide, by decide⟩ ⟨by decide, by decide⟩ (fun h23 => absurd h23 (by omega)) (fun h23 => ?_)
    refine j_aload_n hx 1 dX7_readOne_42 rfl ?_
    refine j_aload_n hx 2 dX7_readOne_43 rfl ?_
    refine j_iload_n hx 3 dX7_readOne_44 rfl ?_
    refine j_iconst hx dX7_readOne_45 ?_
    refine j_iadd hx (r := 1) dX7_readOne_46 (by omega) ?_
    refine j_callV hx hG (c_X7_readOr_1 hst a b1 1) lk_RX7_31 ha (by decide) rfl rfl rfl rfl [.ref b1, .int (zI 1)] ⟨rfl, hG, hS_s8, ha, hb1, (by omega)⟩ rfl rfl ⟨by decide, by decide⟩ ⟨by decide, by decide⟩ (k2 := 0) (n2 := 0) rfl rfl (Nat.le_of_ble_eq_true rfl) dX7_readOne_47 (kVM (fun s9 hS_s9 hF_s9 q25 => ?_))
    refine j_aload_n hx 2 dX7_readOne_50 rfl ?_
    refine j_bipush hx dX7_readOne_51 rfl ?_
    refine j_callV hx hG (c_X9_needSign hst b1 93) lk_RX7_74 hb1 (by decide) rfl rfl rfl rfl [.int (zI 93)] ⟨rfl, hG, hS_s9, hb1, (by omega)⟩ rfl rfl ⟨by decide, by decide⟩ ⟨by decide, by decide⟩ (k2 := 0) (n2 := 0) rfl rfl (Nat.le_of_ble_eq_true rfl) dX7_readOne_53 (kVM (fun s10 hS_s10 hF_s10 q27 => ?_))
    refine j_goto hx 114 dX7_readOne_56 rfl ?_
    exact j_vret hx hq rfl (by decide) (by decide) dX7_readOne_114 ⟨rfl, rfl, hS_s10, (zFr_t (zFr_t (zFr_t (zFr_t (zFr_t zFr_rf hF_s1 (by decide)) hF_s2 (by decide)) hF_s8 (by decide)) hF_s9 (by decide)) hF_s10 (by decide)), trivial⟩

set_option maxHeartbeats 4000000 in
set_option maxRecDepth 20000 in
theorem c_X7_readAnd_0 {E : zE} {l : Launch} (hst : l.stackTraces = false) (a : Nat) (b1 : Nat) (x2 : Int) : Con E l yX7_readAnd cX7_readAnd 4 none { frames := 26, cells := 0, slots := 0, locals := 662 } (fun G s vs => vs = [.ref a, .ref b1, .int (zI x2)] ∧ zGK G ∧ zSK G s ∧ (gT G a = 8) ∧ (gT G b1 = 10) ∧ (0 ≤ x2 ∧ x2 ≤ 0)) (fun G s _ => pV (fun G2 s2 => G2 = G ∧ zSK G s2 ∧ zFr [8, 10, 46] G s s2 ∧ True)) := by
  refine Con.mk hst (by decide) (fun G s vs h => by rw [h.1]; exact Nat.le_of_ble_eq_true rfl) ?_
  rintro X G s0 vs ⟨rfl, hG, hS0, ha, hb1, hx2⟩ rfl hx hq
  obtain rfl : x2 = 0 := by omega
  show JJ X E 4 G s0 0 0 [(0, .ref a), (1, .ref b1), (2, .int (zI 0))] 0 []
  refine j_aload_n hx 0 dX7_readAnd_0 rfl ?_
  refine j_aload_n hx 1 dX7_readAnd_1 rfl ?_
  refine j_iload_n hx 2 dX7_readAnd_2 rfl ?_
  refine j_callV hx hG (c_X7_readOne_0 hst a b1 0) lk_RX7_58 ha (by decide) rfl rfl rfl rfl [.ref b1, .int (zI 0)] ⟨rfl, hG, hS0, ha, hb1, (by omega)⟩ rfl rfl ⟨by decide, by decide⟩ ⟨by decide, by decide⟩ (k2 := 0) (n2 := 0) rfl rfl (Nat.le_of_ble_eq_true rfl) dX7_readAnd_3 (kVM (fun s1 hS_s1 hF_s1 q2 => ?_))
  refine j_iconst hx dX7_readAnd_6 ?_
  refine j_istore_n hx [(3, .int (zI 0)), (0, .ref a), (1, .ref b1), (2, .int (zI 0))] dX7_readAnd_7 (by decide) rfl ?_
  have c8_2 : ∀ (m_c8_2 : Nat) (v3 : Int) (s3 : zS), 2147483648 - v3 < m_c8_2 → (0 ≤ v3 ∧ v3 ≤ 150) → (zSK G s3) → (zFr [8, 10, 46] G s1 s3) → JJ X E 4 G s3 0 0 [(0, .ref a), (1, .ref b1), (2, .int (zI 0)), (3, .int (zI v3))] 8 [] := by
    intro m_c8_2
    induction m_c8_2 with
    | zero => intro v3 s3 hm_c8_2 fA4 hS_s3 hF_s3; exfalso; omega
    | succ m_c8_2 ih_c8_2 => 
      intro v3 s3 hm_c8_2 fA4 hS_s3 hF_s3
      refine j_iload_n hx 3 dX7_readAnd_8 rfl ?_
      refine j_sipush hx dX7_readAnd_9 rfl ?_
      refine j_icmp_ge hx 43 dX7_readAnd_12 rfl (by omega) ⟨by decide, by decide⟩ (fun h4 => ?_) (fun h4 => ?_)
      · skip
        exact j_vret hx hq rfl (by decide) (by decide) dX7_readAnd_43 ⟨rfl, rfl, hS_s3, (zFr_t (zFr_t zFr_rf hF_s1 (by decide)) hF_s3 (by decide)), trivial⟩
      · skip
        refine j_aload_n hx 1 dX7_readAnd_15 rfl ?_
        refine j_ldcT hx (i := 16) 18 (by decide) rfl rfl rfl dX7_readAnd_16 ?_
        refine j_callV hx hG (c_X9_takeWord hst b1 16) lk_RX7_50 hb1 (by decide) rfl rfl rfl rfl [.ref (zTa E 16)] ⟨rfl, hG, hS_s3, hb1, (by decide)⟩ rfl rfl ⟨by decide, by decide⟩ ⟨by decide, by decide⟩ (k2 := 0) (n2 := 0) rfl rfl (Nat.le_of_ble_eq_true rfl) dX7_readAnd_18 (kIM (fun v5 s7 hS_s7 hF_s7 q6 => ?_))
        refine j_if_eq hx 43 dX7_readAnd_21 rfl (by omega) (fun h7 => ?_) (fun h7 => ?_)
        · skip
          exact j_vret hx hq rfl (by decide) (by decide) dX7_readAnd_43 ⟨rfl, rfl, hS_s7, (zFr_t (zFr_t (zFr_t zFr_rf hF_s1 (by decide)) hF_s3 (by decide)) hF_s7 (by decide)), trivial⟩
        · skip
          refine j_aload_n hx 0 dX7_readAnd_24 rfl ?_
          refine j_aload_n hx 1 dX7_readAnd_25 rfl ?_
          refine j_iload_n hx 2 dX7_readAnd_26 rfl ?_
          refine j_callV hx hG (c_X7_readOne_0 hst a b1 0) lk_RX7_58 ha (by decide) rfl rfl rfl rfl [.ref b1, .int (zI 0)] ⟨rfl, hG, hS_s7, ha, hb1, (by omega)⟩ rfl rfl ⟨by decide, by decide⟩ ⟨by decide, by decide⟩ (k2 := 0) (n2 := 0) rfl rfl (Nat.le_of_ble_eq_true rfl) dX7_readAnd_27 (kVM (fun s8 hS_s8 hF_s8 q9 => ?_))
          refine j_aload_n hx 0 dX7_readAnd_30 rfl ?_
          refine j_bipush hx dX7_readAnd_31 rfl ?_
          refine j_iconst hx dX7_readAnd_33 ?_
          refine j_callV hx hG (c_X7_emit hst a 12 0) lk_RX7_54 ha (by decide) rfl rfl rfl rfl [.int (zI 12), .int (zI 0)] ⟨rfl, hG, hS_s8, ha, (by omega), (by omega)⟩ rfl rfl ⟨by decide, by decide⟩ ⟨by decide, by decide⟩ (k2 := 0) (n2 := 0) rfl rfl (Nat.le_of_ble_eq_true rfl) dX7_readAnd_34 (kVM (fun s9 hS_s9 hF_s9 q11 => ?_))
          refine j_iinc hx 3 [(3, .int (zI (v3 + 1))), (0, .ref a), (1, .ref b1), (2, .int (zI 0))] dX7_readAnd_37 rfl (by omega) (by decide) rfl ?_
          refine j_goto hx 8 dX7_readAnd_40 rfl ?_
          exact j_sub [1, 2, 3, 0] [(0, .ref a), (1, .ref b1), (2, .int (zI 0)), (3, .int (zI (v3 + 1)))] rfl (ih_c8_2 (v3 + 1) s9 (by omega) (by omega) hS_s9 (zFr_t (zFr_t (zFr_t (zFr_t zFr_rf hF_s3 (by decide)) hF_s7 (by decide)) hF_s8 (by decide)) hF_s9 (by decide)))
  exact j_sub [1, 2, 3, 0] [(0, .ref a), (1, .ref b1), (2, .int (zI 0)), (3, .int (zI 0))] rfl (c8_2 (2147483648 * 4) 0 s1 (by omega) (by omega) hS_s1 zFr_rf)

set_option maxHeartbeats 4000000 in
set_option maxRecDepth 20000 in
theorem c_X7_readOr_0 {E : zE} {l : Launch} (hst : l.stackTraces = false) (a : Nat) (b1 : Nat) (x2 : Int) : Con E l yX7_readOr cX7_readOr 4 none { frames := 27, cells := 0, slots := 0, locals := 685 } (fun G s vs => vs = [.ref a, .ref b1, .int (zI x2)] ∧ zGK G ∧ zSK G s ∧ (gT G a = 8) ∧ (gT G b1 = 10) ∧ (0 ≤ x2 ∧ x2 ≤ 0)) (fun G s _ => pV (fun G2 s2 => G2 = G ∧ zSK G s2 ∧ zFr [8, 10, 46] G s s2 ∧ True)) := by
  refine Con.mk hst (by decide) (fun G s vs h => by rw [h.1]; exact Nat.le_of_ble_eq_true rfl) ?_
  rintro X G s0 vs ⟨rfl, hG, hS0, ha, hb1, hx2⟩ rfl hx hq
  obtain rfl : x2 = 0 := by omega
  show JJ X E 4 G s0 0 0 [(0, .ref a), (1, .ref b1), (2, .int (zI 0))] 0 []
  refine j_aload_n hx 0 dX7_readOr_0 rfl ?_
  refine j_aload_n hx 1 dX7_readOr_1 rfl ?_
  refine j_iload_n hx 2 dX7_readOr_2 rfl ?_
  refine j_callV hx hG (c_X7_readAnd_0 hst a b1 0) lk_RX7_45 ha (by decide) rfl rfl rfl rfl [.ref b1, .int (zI 0)] ⟨rfl, hG, hS0, ha, hb1, (by omega)⟩ rfl rfl ⟨by decide, by decide⟩ ⟨by decide, by decide⟩ (k2 := 0) (n2 := 0) rfl rfl (Nat.le_of_ble_eq_true rfl) dX7_readOr_3 (kVM (fun s1 hS_s1 hF_s1 q2 => ?_))
  refine j_iconst hx dX7_readOr_6 ?_
  refine j_istore_n hx [(3, .int (zI 0)), (0, .ref a), (1, .ref b1), (2, .int (zI 0))] dX7_readOr_7 (by decide) rfl ?_
  have c8_2 : ∀ (m_c8_2 : Nat) (v3 : Int) (s3 : zS), 2147483648 - v3 < m_c8_2 → (0 ≤ v3 ∧ v3 ≤ 150) → (zSK G s3) → (zFr [8, 10, 46] G s1 s3) → JJ X E 4 G s3 0 0 [(0, .ref a), (1, .ref b1), (2, .int (zI 0)), (3, .int (zI v3))] 8 [] := by
    intro m_c8_2
    induction m_c8_2 with
    | zero => intro v3 s3 hm_c8_2 fA4 hS_s3 hF_s3; exfalso; omega
    | succ m_c8_2 ih_c8_2 => 
      intro v3 s3 hm_c8_2 fA4 hS_s3 hF_s3
      refine j_iload_n hx 3 dX7_readOr_8 rfl ?_
      refine j_sipush hx dX7_readOr_9 rfl ?_
      refine j_icmp_ge hx 43 dX7_readOr_12 rfl (by omega) ⟨by decide, by decide⟩ (fun h4 => ?_) (fun h4 => ?_)
      · skip
        exact j_vret hx hq rfl (by decide) (by decide) dX7_readOr_43 ⟨rfl, rfl, hS_s3, (zFr_t (zFr_t zFr_rf hF_s1 (by decide)) hF_s3 (by decide)), trivial⟩
      · skip
        refine j_aload_n hx 1 dX7_readOr_15 rfl ?_
        refine j_ldcT hx (i := 17) 19 (by decide) rfl rfl rfl dX7_readOr_16 ?_
        refine j_callV hx hG (c_X9_takeWord hst b1 17) lk_RX7_50 hb1 (by decide) rfl rfl rfl rfl [.ref (zTa E 17)] ⟨rfl, hG, hS_s3, hb1, (by decide)⟩ rfl rfl ⟨by decide, by decide⟩ ⟨by decide, by decide⟩ (k2 := 0) (n2 := 0) rfl rfl (Nat.le_of_ble_eq_true rfl) dX7_readOr_18 (kIM (fun v5 s7 hS_s7 hF_s7 q6 => ?_))
        refine j_if_eq hx 43 dX7_readOr_21 rfl (by omega) (fun h7 => ?_) (fun h7 => ?_)
        · skip
          exact j_vret hx hq rfl (by decide) (by decide) dX7_readOr_43 ⟨rfl, rfl, hS_s7, (zFr_t (zFr_t (zFr_t zFr_rf hF_s1 (by decide)) hF_s3 (by decide)) hF_s7 (by decide)), trivial⟩
        · skip
          refine j_aload_n hx 0 dX7_readOr_24 rfl ?_
          refine j_aload_n hx 1 dX7_readOr_25 rfl ?_
          refine j_iload_n hx 2 dX7_readOr_26 rfl ?_
          refine j_callV hx hG (c_X7_readAnd_0 hst a b1 0) lk_RX7_45 ha (by decide) rfl rfl rfl rfl [.ref b1, .int (zI 0)] ⟨rfl, hG, hS_s7, ha, hb1, (by omega)⟩ rfl rfl ⟨by decide, by decide⟩ ⟨by decide, by decide⟩ (k2 := 0) (n2 := 0) rfl rfl (Nat.le_of_ble_eq_true rfl) dX7_readOr_27 (kVM (fun s8 hS_s8 hF_s8 q9 => ?_))
          refine j_aload_n hx 0 dX7_readOr_30 rfl ?_
          refine j_bipush hx dX7_readOr_31 rfl ?_
          refine j_iconst hx dX7_readOr_33 ?_
          refine j_callV hx hG (c_X7_emit hst a 13 0) lk_RX7_54 ha (by decide) rfl rfl rfl rfl [.int (zI 13), .int (zI 0)] ⟨rfl, hG, hS_s8, ha, (by omega), (by omega)⟩ rfl rfl ⟨by decide, by decide⟩ ⟨by decide, by decide⟩ (k2 := 0) (n2 := 0) rfl rfl (Nat.le_of_ble_eq_true rfl) dX7_readOr_34 (kVM (fun s9 hS_s9 hF_s9 q11 => ?_))
          refine j_iinc hx 3 [(3, .int (zI (v3 + 1))), (0, .ref a), (1, .ref b1), (2, .int (zI 0))] dX7_readOr_37 rfl (by omega) (by decide) rfl ?_
          refine j_goto hx 8 dX7_readOr_40 rfl ?_
          exact j_sub [1, 2, 3, 0] [(0, .ref a), (1, .ref b1), (2, .int (zI 0)), (3, .int (zI (v3 + 1)))] rfl (ih_c8_2 (v3 + 1) s9 (by omega) (by omega) hS_s9 (zFr_t (zFr_t (zFr_t (zFr_t zFr_rf hF_s3 (by decide)) hF_s7 (by decide)) hF_s8 (by decide)) hF_s9 (by decide)))
  exact j_sub [1, 2, 3, 0] [(0, .ref a), (1, .ref b1), (2, .int (zI 0)), (3, .int (zI 0))] rfl (c8_2 (2147483648 * 4) 0 s1 (by omega) (by omega) hS_s1 zFr_rf)

set_option maxHeartbeats 4000000 in
set_option maxRecDepth 20000 in
theorem c_X7_read {E : zE} {l : Launch} (hst : l.stackTraces = false) (a : Nat) (b1 : Nat) : Con E l yX7_read cX7_read 2 none { frames := 28, cells := 0, slots := 0, locals := 708 } (fun G s vs => vs = [.ref a, .ref b1] ∧ zGK G ∧ zSK G s ∧ (gT G a = 8) ∧ (gT G b1 = 10)) (fun G s _ => pV (fun G2 s2 => G2 = G ∧ zSK G s2 ∧ zFr [8, 10, 46] G s s2 ∧ True)) := by
  refine Con.mk hst (by decide) (fun G s vs h => by rw [h.1]; exact Nat.le_of_ble_eq_true rfl) ?_
  rintro X G s0 vs ⟨rfl, hG, hS0, ha, hb1⟩ rfl hx hq
  show JJ X E 2 G s0 0 0 [(0, .ref a), (1, .ref b1)] 0 []
  refine j_aload_n hx 0 dX7_read_0 rfl ?_
  refine j_iconst hx dX7_read_1 ?_
  refine p8_1 hx hG ha kf_RX7_15 dX7_read_2 ?_
  obtain ⟨s1, e_s1⟩ : ∃ z, z = zU s0 a 1 0 := ⟨_, rfl⟩
  rw [← e_s1]
  have hS_s1 : zSK G s1 := by rw [e_s1]; exact zSK_F hS0 ha rfl rfl rfl (by omega)
  refine j_aload_n hx 0 dX7_read_5 rfl ?_
  refine j_aload_n hx 1 dX7_read_6 rfl ?_
  refine j_iconst hx dX7_read_7 ?_
  refine j_callV hx hG (c_X7_readOr_0 hst a b1 0) lk_RX7_31 ha (by decide) rfl rfl rfl rfl [.ref b1, .int (zI 0)] ⟨rfl, hG, hS_s1, ha, hb1, (by omega)⟩ rfl rfl ⟨by decide, by decide⟩ ⟨by decide, by decide⟩ (k2 := 0) (n2 := 0) rfl rfl (Nat.le_of_ble_eq_true rfl) dX7_read_8 (kVM (fun s2 hS_s2 hF_s2 q2 => ?_))
  refine j_aload_n hx 1 dX7_read_11 rfl ?_
  refine j_callV hx hG (c_X9_peek hst b1) lk_RX7_35 hb1 (by decide) rfl rfl rfl rfl [] ⟨rfl, hG, hS_s2, hb1⟩ rfl rfl ⟨by decide, by decide⟩ ⟨by decide, by decide⟩ (k2 := 0) (n2 := 0) rfl rfl (Nat.le_of_ble_eq_true rfl) dX7_read_12 (kIM (fun v3 s3 hS_s3 hF_s3 q4 => ?_))
  refine j_iconst hx dX7_read_15 ?_
  refine j_icmp_eq hx 24 dX7_read_16 rfl (by omega) ⟨by decide, by decide⟩ (fun h5 => ?_) (fun h5 => ?_)
  · skip
    exact j_vret hx hq rfl (by decide) (by decide) dX7_read_24 ⟨rfl, rfl, hS_s3, (zFr_t (zFr_t (zFr_u zFr_rf e_s1 ha (by decide)) hF_s2 (by decide)) hF_s3 (by decide)), trivial⟩
  · skip
    refine j_aload_n hx 1 dX7_read_19 rfl ?_
    refine j_iconst hx dX7_read_20 ?_
    refine j_callV hx hG (c_X9_fail hst b1 1) lk_RX7_41 hb1 (by decide) rfl rfl rfl rfl [.int (zI 1)] ⟨rfl, hG, hS_s3, hb1, (by omega)⟩ rfl rfl ⟨by decide, by decide⟩ ⟨by decide, by decide⟩ (k2 := 0) (n2 := 0) rfl rfl (Nat.le_of_ble_eq_true rfl) dX7_read_21 (kVM (fun s4 hS_s4 hF_s4 q7 => ?_))
    exact j_vret hx hq rfl (by decide) (by decide) dX7_read_24 ⟨rfl, rfl, hS_s4, (zFr_t (zFr_t (zFr_t (zFr_u zFr_rf e_s1 ha (by decide)) hF_s2 (by decide)) hF_s3 (by decide)) hF_s4 (by decide)), trivial⟩

set_option maxHeartbeats 4000000 in
set_option maxRecDepth 20000 in
theorem c_X1_add {E : zE} {l : Launch} (hst : l.stackTraces = false) (a : Nat) (x1 : Int) (x2 : Int) : Con E l yX1_add cX1_add 3 none { frames := 0, cells := 0, slots := 0, locals := 0 } (fun G s vs => vs = [.ref a, .int (zI x1), .int (zI x2)] ∧ zGK G ∧ zSK G s ∧ (gT G a = 2) ∧ ((-2147483648) ≤ x1 ∧ x1 ≤ 2147483647) ∧ ((-2147483648) ≤ x2 ∧ x2 ≤ 2147483647)) (fun G s _ => pV (fun G2 s2 => G2 = G ∧ zSK G s2 ∧ zFr [2, 47, 48] G s s2 ∧ True)) := by
  refine Con.mk hst (by decide) (fun G s vs h => by rw [h.1]; exact Nat.le_of_ble_eq_true rfl) ?_
  rintro X G s0 vs ⟨rfl, hG, hS0, ha, hx1, hx2⟩ rfl hx hq
  show JJ X E 3 G s0 0 0 [(0, .ref a), (1, .int (zI x1)), (2, .int (zI x2))] 0 []
  refine j_aload_n hx 0 dX1_add_0 rfl ?_
  have f1 := zf hS0 ha (k := 2) rfl
  refine g2_2 hx hG ha kf_RX1_18 rfl dX1_add_1 ?_
  refine j_if_lt hx 61 dX1_add_4 rfl (by omega) (fun h2 => ?_) (fun h2 => ?_)
  · skip
    exact j_vret hx hq rfl (by decide) (by decide) dX1_add_61 ⟨rfl, rfl, hS0, zFr_rf, trivial⟩
  · skip
    refine j_aload_n hx 0 dX1_add_7 rfl ?_
    refine g2_2 hx hG ha kf_RX1_18 rfl dX1_add_8 ?_
    refine j_aload_n hx 0 dX1_add_11 rfl ?_
    refine g2_0 hx hG ha kf_RX1_11 dX1_add_12 ?_
    refine j_alen hx hG (zr (k := 0) (t2 := 47) hG ha rfl) (by decide) (by decide) (zlen hG (zr (k := 0) (t2 := 47) hG ha rfl) (n := 12) rfl rfl) dX1_add_15 ?_
    refine j_icmp_ge hx 61 dX1_add_16 rfl (by omega) ⟨by decide, by decide⟩ (fun h3 => ?_) (fun h3 => ?_)
    · skip
      exact j_vret hx hq rfl (by decide) (by decide) dX1_add_61 ⟨rfl, rfl, hS0, zFr_rf, trivial⟩
    · skip
      refine j_aload_n hx 0 dX1_add_19 rfl ?_
      refine g2_2 hx hG ha kf_RX1_18 rfl dX1_add_20 ?_
      refine j_aload_n hx 0 dX1_add_23 rfl ?_
      refine g2_1 hx hG ha kf_RX1_15 dX1_add_24 ?_
      refine j_alen hx hG (zr (k := 1) (t2 := 48) hG ha rfl) (by decide) (by decide) (zlen hG (zr (k := 1) (t2 := 48) hG ha rfl) (n := 12) rfl rfl) dX1_add_27 ?_
      refine j_icmp_ge hx 61 dX1_add_28 rfl (by omega) ⟨by decide, by decide⟩ (fun h4 => absurd h4 (by omega)) (fun h4 => ?_)
      refine j_aload_n hx 0 dX1_add_31 rfl ?_
      refine g2_0 hx hG ha kf_RX1_11 dX1_add_32 ?_
      refine j_aload_n hx 0 dX1_add_35 rfl ?_
      refine g2_2 hx hG ha kf_RX1_18 rfl dX1_add_36 ?_
      refine j_iload_n hx 1 dX1_add_39 rfl ?_
      refine j_iast hx hG (zr (k := 0) (t2 := 47) hG ha rfl) (by decide) rfl (zlen hG (zr (k := 0) (t2 := 47) hG ha rfl) (n := 12) rfl rfl) (by omega) (by omega) (j := ((s0 a 2)).toNat) rfl dX1_add_40 ?_
      obtain ⟨s1, e_s1⟩ : ∃ z, z = zU s0 (gP G a 0) ((s0 a 2)).toNat x1 := ⟨_, rfl⟩
      rw [← e_s1]
      have hS_s1 : zSK G s1 := by rw [e_s1]; exact zSK_A hS0 (zr (k := 0) (t2 := 47) hG ha rfl) rfl rfl rfl (by omega)
      refine j_aload_n hx 0 dX1_add_41 rfl ?_
      refine g2_1 hx hG ha kf_RX1_15 dX1_add_42 ?_
      refine j_aload_n hx 0 dX1_add_45 rfl ?_
      refine g2_2 hx hG ha kf_RX1_18 (v := (s0 a 2)) (by rw [e_s1, zU_at (Or.inl (zne (zr (k := 0) (t2 := 47) hG ha rfl) ha (by decide)))]) dX1_add_46 ?_
      refine j_iload_n hx 2 dX1_add_49 rfl ?_
      refine j_iast hx hG (zr (k := 1) (t2 := 48) hG ha rfl) (by decide) rfl (zlen hG (zr (k := 1) (t2 := 48) hG ha rfl) (n := 12) rfl rfl) (by omega) (by omega) (j := ((s0 a 2)).toNat) rfl dX1_add_50 ?_
      obtain ⟨s2, e_s2⟩ : ∃ z, z = zU s1 (gP G a 1) ((s0 a 2)).toNat x2 := ⟨_, rfl⟩
      rw [← e_s2]
      have hS_s2 : zSK G s2 := by rw [e_s2]; exact zSK_A hS_s1 (zr (k := 1) (t2 := 48) hG ha rfl) rfl rfl rfl (by omega)
      refine j_aload_n hx 0 dX1_add_51 rfl ?_
      refine j_dup hx dX1_add_52 rfl ?_
      refine g2_2 hx hG ha kf_RX1_18 (v := (s0 a 2)) (by rw [e_s2, zU_at (Or.inl (zne (zr (k := 1) (t2 := 48) hG ha rfl) ha (by decide))), e_s1, zU_at (Or.inl (zne (zr (k := 0) (t2 := 47) hG ha rfl) ha (by decide)))]) dX1_add_53 ?_
      refine j_iconst hx dX1_add_56 ?_
      refine j_iadd hx (r := (s0 a 2) + 1) dX1_add_57 (by omega) ?_
      refine p2_2 hx hG ha kf_RX1_18 dX1_add_58 ?_
      obtain ⟨s3, e_s3⟩ : ∃ z, z = zU s2 a 2 ((s0 a 2) + 1) := ⟨_, rfl⟩
      rw [← e_s3]
      have hS_s3 : zSK G s3 := by rw [e_s3]; exact zSK_F hS_s2 ha rfl rfl rfl (by omega)
      exact j_vret hx hq rfl (by decide) (by decide) dX1_add_61 ⟨rfl, rfl, hS_s3, (zFr_u (zFr_u (zFr_u zFr_rf e_s1 (zr (k := 0) (t2 := 47) hG ha rfl) (by decide)) e_s2 (zr (k := 1) (t2 := 48) hG ha rfl) (by decide)) e_s3 ha (by decide)), trivial⟩

theorem lk_RX1_38 : LkV RX1 38 RX9 yX9_peek cX9_peek 2 (some .int) 0 := ⟨km_RX1_38, ki_yX9_peek, ks_RX9_yX9_peek, kn_RX9, kc_yX9_peek, rfl, by decide +kernel, by decide +kernel, by decide +kernel⟩
theorem lk_RX1_45 : LkV RX1 45 RX9 yX9_takeNumber cX9_takeNumber 6 (some .int) 2 := ⟨km_RX1_45, ki_yX9_takeNumber, ks_RX9_yX9_takeNumber, kn_RX9, kc_yX9_takeNumber, rfl, by decide +kernel, by decide +kernel, by decide +kernel⟩
theorem lk_RX1_49 : LkV RX1 49 RX9 yX9_failIf cX9_failIf 4 none 3 := ⟨km_RX1_49, ki_yX9_failIf, ks_RX9_yX9_failIf, kn_RX9, kc_yX9_failIf, rfl, by decide +kernel, by decide +kernel, by decide +kernel⟩
theorem lk_RX1_53 : LkV RX1 53 RX9 yX9_needSign cX9_needSign 3 none 1 := ⟨km_RX1_53, ki_yX9_needSign, ks_RX9_yX9_needSign, kn_RX9, kc_yX9_needSign, rfl, by decide +kernel, by decide +kernel, by decide +kernel⟩
theorem lk_RX1_29 : LkV RX1 29 RX1 yX1_add cX1_add 3 none 2 := ⟨km_RX1_29, ki_yX1_add, ks_RX1_yX1_add, kn_RX1, kc_yX1_add, rfl, by decide +kernel, by decide +kernel, by decide +kernel⟩
set_option maxHeartbeats 4000000 in
set_option maxRecDepth 20000 in
theorem c_X1_read {E : zE} {l : Launch} (hst : l.stackTraces = false) (a : Nat) (b1 : Nat) (x2 : Int) : Con E l yX1_read cX1_read 7 none { frames := 2, cells := 0, slots := 0, locals := 58 } (fun G s vs => vs = [.ref a, .ref b1, .int (zI x2)] ∧ zGK G ∧ zSK G s ∧ (gT G a = 2) ∧ (gT G b1 = 10) ∧ ((-2147483648) ≤ x2 ∧ x2 ≤ 2147483647)) (fun G s _ => pV (fun G2 s2 => G2 = G ∧ zSK G s2 ∧ zFr [2, 10, 47, 48] G s s2 ∧ True)) := by
  refine Con.mk hst (by decide) (fun G s vs h => by rw [h.1]; exact Nat.le_of_ble_eq_true rfl) ?_
  rintro X G s0 vs ⟨rfl, hG, hS0, ha, hb1, hx2⟩ rfl hx hq
  show JJ X E 7 G s0 0 0 [(0, .ref a), (1, .ref b1), (2, .int (zI x2))] 0 []
  refine j_aload_n hx 0 dX1_read_0 rfl ?_
  refine j_iconst hx dX1_read_1 ?_
  refine p2_2 hx hG ha kf_RX1_18 dX1_read_2 ?_
  obtain ⟨s1, e_s1⟩ : ∃ z, z = zU s0 a 2 0 := ⟨_, rfl⟩
  rw [← e_s1]
  have hS_s1 : zSK G s1 := by rw [e_s1]; exact zSK_F hS0 ha rfl rfl rfl (by omega)
  refine j_iconst hx dX1_read_5 ?_
  refine j_istore_n hx [(3, .int (zI 0)), (0, .ref a), (1, .ref b1), (2, .int (zI x2))] dX1_read_6 (by decide) rfl ?_
  have c7_2 : ∀ (m_c7_2 : Nat) (v1 : Int) (s3 : zS), 2147483648 - v1 < m_c7_2 → (0 ≤ v1 ∧ v1 ≤ 13) → (zSK G s3) → (zFr [2, 10, 47, 48] G s1 s3) → JJ X E 7 G s3 0 0 [(0, .ref a), (1, .ref b1), (2, .int (zI x2)), (3, .int (zI v1))] 7 [] := by
    intro m_c7_2
    induction m_c7_2 with
    | zero => intro v1 s3 hm_c7_2 fA4 hS_s3 hF_s3; exfalso; omega
    | succ m_c7_2 ih_c7_2 => 
      intro v1 s3 hm_c7_2 fA4 hS_s3 hF_s3
      refine j_iload_n hx 3 dX1_read_7 rfl ?_
      refine j_bipush hx dX1_read_8 rfl ?_
      refine j_icmp_gt hx 92 dX1_read_10 rfl (by omega) ⟨by decide, by decide⟩ (fun h2 => ?_) (fun h2 => ?_)
      · skip
        exact j_vret hx hq rfl (by decide) (by decide) dX1_read_92 ⟨rfl, rfl, hS_s3, (zFr_t (zFr_u zFr_rf e_s1 ha (by decide)) hF_s3 (by decide)), trivial⟩
      · skip
        refine j_aload_n hx 1 dX1_read_13 rfl ?_
        have f3 := zf hS_s3 hb1 (k := 4) rfl
        refine gN10_4 hx hG hb1 kf_RX1_33 rfl dX1_read_14 ?_
        refine j_if_ne hx 92 dX1_read_17 rfl (by omega) (fun h4 => ?_) (fun h4 => ?_)
        · skip
          exact j_vret hx hq rfl (by decide) (by decide) dX1_read_92 ⟨rfl, rfl, hS_s3, (zFr_t (zFr_u zFr_rf e_s1 ha (by decide)) hF_s3 (by decide)), trivial⟩
        · skip
          refine j_aload_n hx 1 dX1_read_20 rfl ?_
          refine j_callV hx hG (c_X9_peek hst b1) lk_RX1_38 hb1 (by decide) rfl rfl rfl rfl [] ⟨rfl, hG, hS_s3, hb1⟩ rfl rfl ⟨by decide, by decide⟩ ⟨by decide, by decide⟩ (k2 := 0) (n2 := 0) rfl rfl (Nat.le_of_ble_eq_true rfl) dX1_read_21 (kIM (fun v5 s7 hS_s7 hF_s7 q6 => ?_))
          refine j_iconst hx dX1_read_24 ?_
          refine j_icmp_eq hx 92 dX1_read_25 rfl (by omega) ⟨by decide, by decide⟩ (fun h7 => ?_) (fun h7 => ?_)
          · skip
            exact j_vret hx hq rfl (by decide) (by decide) dX1_read_92 ⟨rfl, rfl, hS_s7, (zFr_t (zFr_t (zFr_u zFr_rf e_s1 ha (by decide)) hF_s3 (by decide)) hF_s7 (by decide)), trivial⟩
          · skip
            refine j_aload_n hx 1 dX1_read_28 rfl ?_
            have f8 := zf hS_s7 hb1 (k := 3) rfl
            refine gN10_3 hx hG hb1 kf_RX1_42 rfl dX1_read_29 ?_
            refine j_istore hx [(4, .int (zI ((s7 b1 3)))), (0, .ref a), (1, .ref b1), (2, .int (zI x2)), (3, .int (zI v1))] dX1_read_32 (by decide) rfl ?_
            refine j_aload_n hx 2 dX1_read_34 rfl ?_
            refine j_iconst hx dX1_read_35 ?_
            refine j_sipush hx dX1_read_36 rfl ?_
            refine j_callV hx hG (c_X9_takeNumber hst b1 0 9999) lk_RX1_45 hb1 (by decide) rfl rfl rfl rfl [.int (zI 0), .int (zI 9999)] ⟨rfl, hG, hS_s7, hb1, (by omega), (by omega)⟩ rfl rfl ⟨by decide, by decide⟩ ⟨by decide, by decide⟩ (k2 := 0) (n2 := 0) rfl rfl (Nat.le_of_ble_eq_true rfl) dX1_read_39 (kIM (fun v9 s8 hS_s8 hF_s8 q10 => ?_))
            refine j_istore hx [(5, .int (zI v9)), (4, .int (zI ((s7 b1 3)))), (0, .ref a), (1, .ref b1), (2, .int (zI x2)), (3, .int (zI v1))] dX1_read_42 (by decide) rfl ?_
            refine j_aload_n hx 3 dX1_read_44 rfl ?_
            refine j_iload_n hx 5 dX1_read_45 rfl ?_
            refine j_bipush hx dX1_read_46 rfl ?_
            have c56_9 : ∀ (v11 : Int), (0 ≤ v11 ∧ v11 ≤ 1) → JJ X E 7 G s8 0 0 [(0, .ref a), (1, .ref b1), (2, .int (zI x2)), (3, .int (zI v1)), (4, .int (zI ((s7 b1 3)))), (5, .int (zI v9))] 56 [.int (zI v11), .ref b1] := by
              intro v11 fA10
              refine j_iconst hx dX1_read_56 ?_
              refine j_iload hx 4 dX1_read_57 rfl ?_
              refine j_callV hx hG (c_X9_failIf hst b1 v11 3 ((s7 b1 3))) lk_RX1_49 hb1 (by decide) rfl rfl rfl rfl [.int (zI v11), .int (zI 3), .int (zI ((s7 b1 3)))] ⟨rfl, hG, hS_s8, hb1, (by omega), (by omega), (by omega)⟩ rfl rfl ⟨by decide, by decide⟩ ⟨by decide, by decide⟩ (k2 := 0) (n2 := 0) rfl rfl (Nat.le_of_ble_eq_true rfl) dX1_read_59 (kVM (fun s11 hS_s11 hF_s11 q13 => ?_))
              refine j_aload_n hx 1 dX1_read_62 rfl ?_
              refine j_iconst hx dX1_read_63 ?_
              refine j_iload_n hx 2 dX1_read_64 rfl ?_
              refine j_iconst hx dX1_read_65 ?_
              refine j_isub hx (r := x2 - 1) dX1_read_66 rfl ?_
              refine j_norm (fun v14 f15 f16 f17 => ?_)
              refine j_callV hx hG (c_X9_takeNumber hst b1 0 v14) lk_RX1_45 hb1 (by decide) rfl rfl rfl rfl [.int (zI 0), .int (zI v14)] ⟨rfl, hG, hS_s11, hb1, (by omega), (by omega)⟩ rfl rfl ⟨by decide, by decide⟩ ⟨by decide, by decide⟩ (k2 := 0) (n2 := 0) rfl rfl (Nat.le_of_ble_eq_true rfl) dX1_read_67 (kIM (fun v18 s12 hS_s12 hF_s12 q19 => ?_))
              refine j_istore hx [(6, .int (zI v18)), (0, .ref a), (1, .ref b1), (2, .int (zI x2)), (3, .int (zI v1)), (4, .int (zI ((s7 b1 3)))), (5, .int (zI v9))] dX1_read_70 (by decide) rfl ?_
              refine j_aload_n hx 2 dX1_read_72 rfl ?_
              refine j_bipush hx dX1_read_73 rfl ?_
              refine j_callV hx hG (c_X9_needSign hst b1 59) lk_RX1_53 hb1 (by decide) rfl rfl rfl rfl [.int (zI 59)] ⟨rfl, hG, hS_s12, hb1, (by omega)⟩ rfl rfl ⟨by decide, by decide⟩ ⟨by decide, by decide⟩ (k2 := 0) (n2 := 0) rfl rfl (Nat.le_of_ble_eq_true rfl) dX1_read_75 (kVM (fun s13 hS_s13 hF_s13 q21 => ?_))
              refine j_aload_n hx 1 dX1_read_78 rfl ?_
              refine j_iload hx 6 dX1_read_79 rfl ?_
              refine j_iload hx 0 dX1_read_81 rfl ?_
              refine j_callV hx hG (c_X1_add hst a v9 v18) lk_RX1_29 ha (by decide) rfl rfl rfl rfl [.int (zI v9), .int (zI v18)] ⟨rfl, hG, hS_s13, ha, (by omega), (by omega)⟩ rfl rfl ⟨by decide, by decide⟩ ⟨by decide, by decide⟩ (k2 := 0) (n2 := 0) rfl rfl (Nat.le_of_ble_eq_true rfl) dX1_read_83 (kVM (fun s14 hS_s14 hF_s14 q23 => ?_))
              refine j_iinc hx 4 [(3, .int (zI (v1 + 1))), (6, .int (zI v18)), (0, .ref a), (1, .ref b1), (2, .int (zI x2)), (4, .int (zI ((s7 b1 3)))), (5, .int (zI v9))] dX1_read_86 rfl (by omega) (by decide) rfl ?_
              refine j_goto hx 7 dX1_read_89 rfl ?_
              exact j_sub [2, 3, 4, 0] [(0, .ref a), (1, .ref b1), (2, .int (zI x2)), (3, .int (zI (v1 + 1)))] rfl (ih_c7_2 (v1 + 1) s14 (by omega) (by omega) hS_s14 (zFr_t (zFr_t (zFr_t (zFr_t (zFr_t (zFr_t (zFr_t zFr_rf hF_s3 (by decide)) hF_s7 (by decide)) hF_s8 (by decide)) hF_s11 (by decide)) hF_s12 (by decide)) hF_s13 (by decide)) hF_s14 (by decide)))
            refine j_icmp_lt hx 55 dX1_read_48 rfl (by omega) ⟨by decide, by decide⟩ (fun h24 => ?_) (fun h24 => ?_)
            · skip
              refine j_iconst hx dX1_read_55 ?_
              exact j_sub [2, 3, 4, 5, 1, 0] [(0, .ref a), (1, .ref b1), (2, .int (zI x2)), (3, .int (zI v1)), (4, .int (zI ((s7 b1 3)))), (5, .int (zI v9))] rfl (c56_9 0 (by omega))
            · skip
              refine j_iconst hx dX1_read_51 ?_
              refine j_goto hx 56 dX1_read_52 rfl ?_
              exact j_sub [2, 3, 4, 5, 1, 0] [(0, .ref a), (1, .ref b1), (2, .int (zI x2)), (3, .int (zI v1)), (4, .int (zI ((s7 b1 3)))), (5, .int (zI v9))] rfl (c56_9 1 (by omega))
  exact j_sub [1, 2, 3, 0] [(0, .ref a), (1, .ref b1), (2, .int (zI x2)), (3, .int (zI 0))] rfl (c7_2 (2147483648 * 4) 0 s1 (by omega) (by omega) hS_s1 zFr_rf)

set_option maxHeartbeats 4000000 in
set_option maxRecDepth 20000 in
theorem c_X1_turnAt {E : zE} {l : Launch} (hst : l.stackTraces = false) (a : Nat) (x1 : Int) : Con E l yX1_turnAt cX1_turnAt 2 (some .int) { frames := 0, cells := 0, slots := 0, locals := 0 } (fun G s vs => vs = [.ref a, .int (zI x1)] ∧ zGK G ∧ zSK G s ∧ (gT G a = 2) ∧ ((-2147483648) ≤ x1 ∧ x1 ≤ 2147483647)) (fun G s _ => pI (fun r G2 s2 => G2 = G ∧ s2 = s ∧ ((-2147483648) ≤ r ∧ r ≤ 2147483647))) := by
  refine Con.mk hst (by decide) (fun G s vs h => by rw [h.1]; exact Nat.le_of_ble_eq_true rfl) ?_
  rintro X G s0 vs ⟨rfl, hG, hS0, ha, hx1⟩ rfl hx hq
  show JJ X E 2 G s0 0 0 [(0, .ref a), (1, .int (zI x1))] 0 []
  refine j_iload_n hx 1 dX1_turnAt_0 rfl ?_
  refine j_if_lt hx 30 dX1_turnAt_1 rfl (by omega) (fun h1 => ?_) (fun h1 => ?_)
  · skip
    refine j_iconst hx dX1_turnAt_30 ?_
    exact j_iret hx hq rfl (by decide) (by decide) dX1_turnAt_31 ⟨(-1), rfl, rfl, rfl, (by omega)⟩
  · skip
    refine j_iload_n hx 1 dX1_turnAt_4 rfl ?_
    refine j_aload_n hx 0 dX1_turnAt_5 rfl ?_
    have f2 := zf hS0 ha (k := 2) rfl
    refine g2_2 hx hG ha kf_RX1_18 rfl dX1_turnAt_6 ?_
    refine j_icmp_ge hx 30 dX1_turnAt_9 rfl (by omega) (by omega) (fun h3 => ?_) (fun h3 => ?_)
    · skip
      refine j_iconst hx dX1_turnAt_30 ?_
      exact j_iret hx hq rfl (by decide) (by decide) dX1_turnAt_31 ⟨(-1), rfl, rfl, rfl, (by omega)⟩
    · skip
      refine j_iload_n hx 1 dX1_turnAt_12 rfl ?_
      refine j_aload_n hx 0 dX1_turnAt_13 rfl ?_
      refine g2_0 hx hG ha kf_RX1_11 dX1_turnAt_14 ?_
      refine j_alen hx hG (zr (k := 0) (t2 := 47) hG ha rfl) (by decide) (by decide) (zlen hG (zr (k := 0) (t2 := 47) hG ha rfl) (n := 12) rfl rfl) dX1_turnAt_17 ?_
      refine j_icmp_ge hx 30 dX1_turnAt_18 rfl (by omega) ⟨by decide, by decide⟩ (fun h4 => ?_) (fun h4 => ?_)
      · skip
        refine j_iconst hx dX1_turnAt_30 ?_
        exact j_iret hx hq rfl (by decide) (by decide) dX1_turnAt_31 ⟨(-1), rfl, rfl, rfl, (by omega)⟩
      · skip
        refine j_aload_n hx 0 dX1_turnAt_21 rfl ?_
        refine g2_0 hx hG ha kf_RX1_11 dX1_turnAt_22 ?_
        refine j_iload_n hx 1 dX1_turnAt_25 rfl ?_
        have f5 := zaI (j := (x1).toNat) hS0 (zr (k := 0) (t2 := 47) hG ha rfl) rfl (zlen hG (zr (k := 0) (t2 := 47) hG ha rfl) (n := 12) rfl rfl) (show 0 ≤ x1 by omega) (by omega) rfl
        refine j_iald hx hG (zr (k := 0) (t2 := 47) hG ha rfl) (by decide) rfl (zlen hG (zr (k := 0) (t2 := 47) hG ha rfl) (n := 12) rfl rfl) (by omega) (by omega) (j := (x1).toNat) rfl rfl dX1_turnAt_26 ?_
        refine j_goto hx 31 dX1_turnAt_27 rfl ?_
        exact j_iret hx hq rfl (by decide) (by decide) dX1_turnAt_31 ⟨(s0 (gP G a 0) (x1).toNat), rfl, rfl, rfl, (by omega)⟩

set_option maxHeartbeats 4000000 in
set_option maxRecDepth 20000 in
theorem c_X1_playerAt {E : zE} {l : Launch} (hst : l.stackTraces = false) (a : Nat) (x1 : Int) : Con E l yX1_playerAt cX1_playerAt 2 (some .int) { frames := 0, cells := 0, slots := 0, locals := 0 } (fun G s vs => vs = [.ref a, .int (zI x1)] ∧ zGK G ∧ zSK G s ∧ (gT G a = 2) ∧ ((-2147483648) ≤ x1 ∧ x1 ≤ 2147483647)) (fun G s _ => pI (fun r G2 s2 => G2 = G ∧ s2 = s ∧ ((-2147483648) ≤ r ∧ r ≤ 2147483647))) := by
  refine Con.mk hst (by decide) (fun G s vs h => by rw [h.1]; exact Nat.le_of_ble_eq_true rfl) ?_
  rintro X G s0 vs ⟨rfl, hG, hS0, ha, hx1⟩ rfl hx hq
  show JJ X E 2 G s0 0 0 [(0, .ref a), (1, .int (zI x1))] 0 []
  refine j_iload_n hx 1 dX1_playerAt_0 rfl ?_
  refine j_if_lt hx 30 dX1_playerAt_1 rfl (by omega) (fun h1 => ?_) (fun h1 => ?_)
  · skip
    refine j_iconst hx dX1_playerAt_30 ?_
    exact j_iret hx hq rfl (by decide) (by decide) dX1_playerAt_31 ⟨(-1), rfl, rfl, rfl, (by omega)⟩
  · skip
    refine j_iload_n hx 1 dX1_playerAt_4 rfl ?_
    refine j_aload_n hx 0 dX1_playerAt_5 rfl ?_
    have f2 := zf hS0 ha (k := 2) rfl
    refine g2_2 hx hG ha kf_RX1_18 rfl dX1_playerAt_6 ?_
    refine j_icmp_ge hx 30 dX1_playerAt_9 rfl (by omega) (by omega) (fun h3 => ?_) (fun h3 => ?_)
    · skip
      refine j_iconst hx dX1_playerAt_30 ?_
      exact j_iret hx hq rfl (by decide) (by decide) dX1_playerAt_31 ⟨(-1), rfl, rfl, rfl, (by omega)⟩
    · skip
      refine j_iload_n hx 1 dX1_playerAt_12 rfl ?_
      refine j_aload_n hx 0 dX1_playerAt_13 rfl ?_
      refine g2_1 hx hG ha kf_RX1_15 dX1_playerAt_14 ?_
      refine j_alen hx hG (zr (k := 1) (t2 := 48) hG ha rfl) (by decide) (by decide) (zlen hG (zr (k := 1) (t2 := 48) hG ha rfl) (n := 12) rfl rfl) dX1_playerAt_17 ?_
      refine j_icmp_ge hx 30 dX1_playerAt_18 rfl (by omega) ⟨by decide, by decide⟩ (fun h4 => ?_) (fun h4 => ?_)
      · skip
        refine j_iconst hx dX1_playerAt_30 ?_
        exact j_iret hx hq rfl (by decide) (by decide) dX1_playerAt_31 ⟨(-1), rfl, rfl, rfl, (by omega)⟩
      · skip
        refine j_aload_n hx 0 dX1_playerAt_21 rfl ?_
        refine g2_1 hx hG ha kf_RX1_15 dX1_playerAt_22 ?_
        refine j_iload_n hx 1 dX1_playerAt_25 rfl ?_
        have f5 := zaI (j := (x1).toNat) hS0 (zr (k := 1) (t2 := 48) hG ha rfl) rfl (zlen hG (zr (k := 1) (t2 := 48) hG ha rfl) (n := 12) rfl rfl) (show 0 ≤ x1 by omega) (by omega) rfl
        refine j_iald hx hG (zr (k := 1) (t2 := 48) hG ha rfl) (by decide) rfl (zlen hG (zr (k := 1) (t2 := 48) hG ha rfl) (n := 12) rfl rfl) (by omega) (by omega) (j := (x1).toNat) rfl rfl dX1_playerAt_26 ?_
        refine j_goto hx 31 dX1_playerAt_27 rfl ?_
        exact j_iret hx hq rfl (by decide) (by decide) dX1_playerAt_31 ⟨(s0 (gP G a 1) (x1).toNat), rfl, rfl, rfl, (by omega)⟩

theorem lk_RX1_22 : LkV RX1 22 RX1 yX1_turnAt cX1_turnAt 2 (some .int) 1 := ⟨km_RX1_22, ki_yX1_turnAt, ks_RX1_yX1_turnAt, kn_RX1, kc_yX1_turnAt, rfl, by decide +kernel, by decide +kernel, by decide +kernel⟩
theorem lk_RX1_26 : LkV RX1 26 RX1 yX1_playerAt cX1_playerAt 2 (some .int) 1 := ⟨km_RX1_26, ki_yX1_playerAt, ks_RX1_yX1_playerAt, kn_RX1, kc_yX1_playerAt, rfl, by decide +kernel, by decide +kernel, by decide +kernel⟩
set_option maxHeartbeats 4000000 in
set_option maxRecDepth 20000 in
theorem c_X1_become {E : zE} {l : Launch} (hst : l.stackTraces = false) (a : Nat) (b1 : Nat) : Con E l yX1_become cX1_become 3 none { frames := 1, cells := 0, slots := 0, locals := 22 } (fun G s vs => vs = [.ref a, .ref b1] ∧ zGK G ∧ zSK G s ∧ (gT G a = 2) ∧ (gT G b1 = 2)) (fun G s _ => pV (fun G2 s2 => G2 = G ∧ zSK G s2 ∧ zFr [2, 47, 48] G s s2 ∧ True)) := by
  refine Con.mk hst (by decide) (fun G s vs h => by rw [h.1]; exact Nat.le_of_ble_eq_true rfl) ?_
  rintro X G s0 vs ⟨rfl, hG, hS0, ha, hb1⟩ rfl hx hq
  show JJ X E 3 G s0 0 0 [(0, .ref a), (1, .ref b1)] 0 []
  refine j_aload_n hx 0 dX1_become_0 rfl ?_
  refine j_iconst hx dX1_become_1 ?_
  refine p2_2 hx hG ha kf_RX1_18 dX1_become_2 ?_
  obtain ⟨s1, e_s1⟩ : ∃ z, z = zU s0 a 2 0 := ⟨_, rfl⟩
  rw [← e_s1]
  have hS_s1 : zSK G s1 := by rw [e_s1]; exact zSK_F hS0 ha rfl rfl rfl (by omega)
  refine j_iconst hx dX1_become_5 ?_
  refine j_istore_n hx [(2, .int (zI 0)), (0, .ref a), (1, .ref b1)] dX1_become_6 (by decide) rfl ?_
  have c7_2 : ∀ (m_c7_2 : Nat) (v1 : Int) (s3 : zS), 2147483648 - v1 < m_c7_2 → (0 ≤ v1 ∧ v1 ≤ 2147483647) → (zSK G s3) → (zFr [2, 47, 48] G s1 s3) → JJ X E 3 G s3 0 0 [(0, .ref a), (1, .ref b1), (2, .int (zI v1))] 7 [] := by
    intro m_c7_2
    induction m_c7_2 with
    | zero => intro v1 s3 hm_c7_2 fA4 hS_s3 hF_s3; exfalso; omega
    | succ m_c7_2 ih_c7_2 => 
      intro v1 s3 hm_c7_2 fA4 hS_s3 hF_s3
      refine j_iload_n hx 2 dX1_become_7 rfl ?_
      refine j_aload_n hx 1 dX1_become_8 rfl ?_
      have f2 := zf hS_s3 hb1 (k := 2) rfl
      refine g2_2 hx hG hb1 kf_RX1_18 rfl dX1_become_9 ?_
      refine j_icmp_ge hx 35 dX1_become_12 rfl (by omega) (by omega) (fun h3 => ?_) (fun h3 => ?_)
      · skip
        exact j_vret hx hq rfl (by decide) (by decide) dX1_become_35 ⟨rfl, rfl, hS_s3, (zFr_t (zFr_u zFr_rf e_s1 ha (by decide)) hF_s3 (by decide)), trivial⟩
      · skip
        refine j_aload_n hx 0 dX1_become_15 rfl ?_
        refine j_aload_n hx 1 dX1_become_16 rfl ?_
        refine j_iload_n hx 2 dX1_become_17 rfl ?_
        refine j_callV hx hG (c_X1_turnAt hst b1 v1) lk_RX1_22 hb1 (by decide) rfl rfl rfl rfl [.int (zI v1)] ⟨rfl, hG, hS_s3, hb1, (by omega)⟩ rfl rfl ⟨by decide, by decide⟩ ⟨by decide, by decide⟩ (k2 := 0) (n2 := 0) rfl rfl (Nat.le_of_ble_eq_true rfl) dX1_become_18 (kIP (fun v4 q5 => ?_))
        refine j_aload_n hx 1 dX1_become_21 rfl ?_
        refine j_iload_n hx 2 dX1_become_22 rfl ?_
        refine j_callV hx hG (c_X1_playerAt hst b1 v1) lk_RX1_26 hb1 (by decide) rfl rfl rfl rfl [.int (zI v1)] ⟨rfl, hG, hS_s3, hb1, (by omega)⟩ rfl rfl ⟨by decide, by decide⟩ ⟨by decide, by decide⟩ (k2 := 0) (n2 := 0) rfl rfl (Nat.le_of_ble_eq_true rfl) dX1_become_23 (kIP (fun v6 q7 => ?_))
        refine j_callV hx hG (c_X1_add hst a v4 v6) lk_RX1_29 ha (by decide) rfl rfl rfl rfl [.int (zI v4), .int (zI v6)] ⟨rfl, hG, hS_s3, ha, (by omega), (by omega)⟩ rfl rfl ⟨by decide, by decide⟩ ⟨by decide, by decide⟩ (k2 := 0) (n2 := 0) rfl rfl (Nat.le_of_ble_eq_true rfl) dX1_become_26 (kVM (fun s7 hS_s7 hF_s7 q9 => ?_))
        refine j_iinc hx 2 [(2, .int (zI (v1 + 1))), (0, .ref a), (1, .ref b1)] dX1_become_29 rfl (by omega) (by decide) rfl ?_
        refine j_goto hx 7 dX1_become_32 rfl ?_
        exact j_sub [1, 2, 0] [(0, .ref a), (1, .ref b1), (2, .int (zI (v1 + 1)))] rfl (ih_c7_2 (v1 + 1) s7 (by omega) (by omega) hS_s7 (zFr_t (zFr_t zFr_rf hF_s3 (by decide)) hF_s7 (by decide)))
  exact j_sub [1, 2, 0] [(0, .ref a), (1, .ref b1), (2, .int (zI 0))] rfl (c7_2 (2147483648 * 4) 0 s1 (by omega) (by omega) hS_s1 zFr_rf)

theorem lk_RX11_146 : LkV RX11 146 RX1 yX1_read cX1_read 7 none 2 := ⟨km_RX11_146, ki_yX1_read, ks_RX1_yX1_read, kn_RX1, kc_yX1_read, rfl, by decide +kernel, by decide +kernel, by decide +kernel⟩
theorem lk_RX11_149 : LkV RX11 149 RX1 yX1_become cX1_become 3 none 1 := ⟨km_RX11_149, ki_yX1_become, ks_RX1_yX1_become, kn_RX1, kc_yX1_become, rfl, by decide +kernel, by decide +kernel, by decide +kernel⟩
set_option maxHeartbeats 4000000 in
set_option maxRecDepth 20000 in
theorem c_X11_book {E : zE} {l : Launch} (hst : l.stackTraces = false) (a : Nat) (x1 : Int) : ConX E l yX11_book cX11_book 2 (some .int) { frames := 7, cells := 1, slots := 6, locals := 113 } (fun G s vs => vs = [.ref a, .int (zI x1)] ∧ zGK G ∧ zSK G s ∧ (gT G a = 12) ∧ ((-2147483648) ≤ x1 ∧ x1 ≤ 2147483647)) (fun G s _ => pI (fun r G2 s2 => G2 = G ∧ zSK G s2 ∧ zFr [2, 10, 47, 48] G s s2 ∧ ((-2147483648) ≤ r ∧ r ≤ 2147483647))) (fun G s _ Ex G2 s2 => G2 = G ∧ zSK G s2 ∧ zFr [2, 10, 12, 47, 48] G s s2 ∧ ((Ex = "java/lang/IllegalArgumentException" ∧ (True)))) := by
  refine ConX.mk hst (by decide) (fun G s vs h => by rw [h.1]; exact Nat.le_of_ble_eq_true rfl) ?_
  rintro X G s0 vs ⟨rfl, hG, hS0, ha, hx1⟩ rfl hx hq
  show JJ X E 2 G s0 0 0 [(0, .ref a), (1, .int (zI x1))] 0 []
  refine j_aload_n hx 0 dX11_book_0 rfl ?_
  refine j_iload_n hx 1 dX11_book_1 rfl ?_
  refine j_iconst hx dX11_book_2 ?_
  refine j_bipush hx dX11_book_3 rfl ?_
  refine j_aload_n hx 0 dX11_book_5 rfl ?_
  refine g12_0 hx hG ha kf_RX11_10 dX11_book_6 ?_
  have f1 := zf hS0 (zr (k := 0) (t2 := 10) hG ha rfl) (k := 1) rfl
  refine gN10_1 hx hG (zr (k := 0) (t2 := 10) hG ha rfl) kf_RX11_94 rfl dX11_book_9 ?_
  refine j_mmin hx km_RX11_137 kst_min kn_RJ9 kc_Lib_Math_min_name ⟨by decide, by decide⟩ (by omega) ⟨by decide, Nat.le_of_ble_eq_true rfl⟩ ⟨by decide, by decide⟩ dX11_book_12 (fun v2 f3 f4 f5 => ?_)
  refine j_callVX hx hq hG (c_X11_needRange hst a x1 0 v2) lk_RX11_98 ha (by decide) rfl rfl rfl rfl [.int (zI x1), .int (zI 0), .int (zI v2)] ⟨rfl, hG, hS0, ha, (by omega), (by omega), (by omega)⟩ rfl rfl ⟨by decide, by decide⟩ ⟨by decide, by decide⟩ (k2 := 1) (n2 := 6) rfl rfl (Nat.le_of_ble_eq_true rfl) ⟨by decide, by decide⟩ dX11_book_15 (by rintro Ex9 G9 s9 ⟨rfl, hS9, hF9, e9, c9⟩; exact ⟨rfl, hS9, (zFr_t zFr_rf hF9 (by decide)), ⟨e9, by first | trivial | omega⟩⟩) (kVP (fun q7 => ?_))
  refine j_aload_n hx 0 dX11_book_18 rfl ?_
  refine g12_0 hx hG ha kf_RX11_10 dX11_book_19 ?_
  refine j_iload_n hx 1 dX11_book_22 rfl ?_
  refine j_callV hx hG (c_X9_open hst (gP G a 0) x1) lk_RX11_102 (zr (k := 0) (t2 := 10) hG ha rfl) (by decide) rfl rfl rfl rfl [.int (zI x1)] ⟨rfl, hG, hS0, (zr (k := 0) (t2 := 10) hG ha rfl), (by omega)⟩ rfl rfl ⟨by decide, by decide⟩ ⟨by decide, by decide⟩ (k2 := 1) (n2 := 6) rfl rfl (Nat.le_of_ble_eq_true rfl) dX11_book_23 (kVM (fun s1 hS_s1 hF_s1 q9 => ?_))
  refine j_aload_n hx 0 dX11_book_26 rfl ?_
  refine g12_5 hx hG ha kf_RX11_40 dX11_book_27 ?_
  refine j_aload_n hx 0 dX11_book_30 rfl ?_
  refine g12_0 hx hG ha kf_RX11_10 dX11_book_31 ?_
  refine j_aload_n hx 0 dX11_book_34 rfl ?_
  refine g12_1 hx hG ha kf_RX11_19 dX11_book_35 ?_
  have f10 := zf hS0 (zr (k := 1) (t2 := 9) hG ha rfl) (k := 4) rfl
  refine gN9_4 hx hG (zr (k := 1) (t2 := 9) hG ha rfl) kf_RX11_127 (v := (s0 (gP G a 1) 4)) (by rw [(zFr_g hF_s1 (zr (k := 1) (t2 := 9) hG ha rfl) (by decide))]) dX11_book_38 ?_
  refine j_callV hx hG (c_X1_read hst (gP G a 5) (gP G a 0) ((s0 (gP G a 1) 4))) lk_RX11_146 (zr (k := 5) (t2 := 2) hG ha rfl) (by decide) rfl rfl rfl rfl [.ref (gP G a 0), .int (zI ((s0 (gP G a 1) 4)))] ⟨rfl, hG, hS_s1, (zr (k := 5) (t2 := 2) hG ha rfl), (zr (k := 0) (t2 := 10) hG ha rfl), (by omega)⟩ rfl rfl ⟨by decide, by decide⟩ ⟨by decide, by decide⟩ (k2 := 1) (n2 := 6) rfl rfl (Nat.le_of_ble_eq_true rfl) dX11_book_41 (kVM (fun s2 hS_s2 hF_s2 q12 => ?_))
  refine j_aload_n hx 0 dX11_book_44 rfl ?_
  refine g12_0 hx hG ha kf_RX11_10 dX11_book_45 ?_
  have f13 := zf hS_s2 (zr (k := 0) (t2 := 10) hG ha rfl) (k := 4) rfl
  refine gN10_4 hx hG (zr (k := 0) (t2 := 10) hG ha rfl) kf_RX11_109 rfl dX11_book_48 ?_
  refine j_if_ne hx 65 dX11_book_51 rfl (by omega) (fun h14 => ?_) (fun h14 => ?_)
  · skip
    refine j_aload_n hx 0 dX11_book_65 rfl ?_
    refine g12_0 hx hG ha kf_RX11_10 dX11_book_66 ?_
    refine j_aload_n hx 0 dX11_book_69 rfl ?_
    refine g12_4 hx hG ha kf_RX11_36 dX11_book_70 ?_
    have f15 := zf hS_s2 (zr (k := 4) (t2 := 2) hG ha rfl) (k := 2) rfl
    refine gN2_2 hx hG (zr (k := 4) (t2 := 2) hG ha rfl) kf_RX11_118 rfl dX11_book_73 ?_
    refine j_callV hx hG (c_X9_close hst (gP G a 0) ((s2 (gP G a 4) 2))) lk_RX11_130 (zr (k := 0) (t2 := 10) hG ha rfl) (by decide) rfl rfl rfl rfl [.int (zI ((s2 (gP G a 4) 2)))] ⟨rfl, hG, hS_s2, (zr (k := 0) (t2 := 10) hG ha rfl), (by omega)⟩ rfl rfl ⟨by decide, by decide⟩ ⟨by decide, by decide⟩ (k2 := 1) (n2 := 6) rfl rfl (Nat.le_of_ble_eq_true rfl) dX11_book_76 (kIM (fun v16 s3 hS_s3 hF_s3 q17 => ?_))
    exact j_iret hx hq.r rfl (by decide) (by decide) dX11_book_79 ⟨v16, rfl, rfl, hS_s3, (zFr_t (zFr_t (zFr_t zFr_rf hF_s1 (by decide)) hF_s2 (by decide)) hF_s3 (by decide)), (by omega)⟩
  · skip
    refine j_aload_n hx 0 dX11_book_54 rfl ?_
    refine g12_4 hx hG ha kf_RX11_36 dX11_book_55 ?_
    refine j_aload_n hx 0 dX11_book_58 rfl ?_
    refine g12_5 hx hG ha kf_RX11_40 dX11_book_59 ?_
    refine j_callV hx hG (c_X1_become hst (gP G a 4) (gP G a 5)) lk_RX11_149 (zr (k := 4) (t2 := 2) hG ha rfl) (by decide) rfl rfl rfl rfl [.ref (gP G a 5)] ⟨rfl, hG, hS_s2, (zr (k := 4) (t2 := 2) hG ha rfl), (zr (k := 5) (t2 := 2) hG ha rfl)⟩ rfl rfl ⟨by decide, by decide⟩ ⟨by decide, by decide⟩ (k2 := 1) (n2 := 6) rfl rfl (Nat.le_of_ble_eq_true rfl) dX11_book_62 (kVM (fun s4 hS_s4 hF_s4 q19 => ?_))
    refine j_aload_n hx 0 dX11_book_65 rfl ?_
    refine g12_0 hx hG ha kf_RX11_10 dX11_book_66 ?_
    refine j_aload_n hx 0 dX11_book_69 rfl ?_
    refine g12_4 hx hG ha kf_RX11_36 dX11_book_70 ?_
    have f20 := zf hS_s4 (zr (k := 4) (t2 := 2) hG ha rfl) (k := 2) rfl
    refine gN2_2 hx hG (zr (k := 4) (t2 := 2) hG ha rfl) kf_RX11_118 rfl dX11_book_73 ?_
    refine j_callV hx hG (c_X9_close hst (gP G a 0) ((s4 (gP G a 4) 2))) lk_RX11_130 (zr (k := 0) (t2 := 10) hG ha rfl) (by decide) rfl rfl rfl rfl [.int (zI ((s4 (gP G a 4) 2)))] ⟨rfl, hG, hS_s4, (zr (k := 0) (t2 := 10) hG ha rfl), (by omega)⟩ rfl rfl ⟨by decide, by decide⟩ ⟨by decide, by decide⟩ (k2 := 1) (n2 := 6) rfl rfl (Nat.le_of_ble_eq_true rfl) dX11_book_76 (kIM (fun v21 s5 hS_s5 hF_s5 q22 => ?_))
    exact j_iret hx hq.r rfl (by decide) (by decide) dX11_book_79 ⟨v21, rfl, rfl, hS_s5, (zFr_t (zFr_t (zFr_t (zFr_t zFr_rf hF_s1 (by decide)) hF_s2 (by decide)) hF_s4 (by decide)) hF_s5 (by decide)), (by omega)⟩

set_option maxHeartbeats 4000000 in
set_option maxRecDepth 20000 in
theorem c_X11_fault {E : zE} {l : Launch} (hst : l.stackTraces = false) (a : Nat) : Con E l yX11_fault cX11_fault 1 (some .int) { frames := 0, cells := 0, slots := 0, locals := 0 } (fun G s vs => vs = [.ref a] ∧ zGK G ∧ zSK G s ∧ (gT G a = 12)) (fun G s _ => pI (fun r G2 s2 => G2 = G ∧ s2 = s ∧ ((-2147483648) ≤ r ∧ r ≤ 2147483647))) := by
  refine Con.mk hst (by decide) (fun G s vs h => by rw [h.1]; exact Nat.le_of_ble_eq_true rfl) ?_
  rintro X G s0 vs ⟨rfl, hG, hS0, ha⟩ rfl hx hq
  show JJ X E 1 G s0 0 0 [(0, .ref a)] 0 []
  refine j_aload_n hx 0 dX11_fault_0 rfl ?_
  refine g12_0 hx hG ha kf_RX11_10 dX11_fault_1 ?_
  have f1 := zf hS0 (zr (k := 0) (t2 := 10) hG ha rfl) (k := 5) rfl
  refine gN10_5 hx hG (zr (k := 0) (t2 := 10) hG ha rfl) kf_RX11_152 rfl dX11_fault_4 ?_
  exact j_iret hx hq rfl (by decide) (by decide) dX11_fault_7 ⟨(s0 (gP G a 0) 5), rfl, rfl, rfl, (by omega)⟩

set_option maxHeartbeats 4000000 in
set_option maxRecDepth 20000 in
theorem c_X0_isOut {E : zE} {l : Launch} (hst : l.stackTraces = false) (a : Nat) (x1 : Int) : Con E l yX0_isOut cX0_isOut 2 (some .boolean) { frames := 0, cells := 0, slots := 0, locals := 0 } (fun G s vs => vs = [.ref a, .int (zI x1)] ∧ zGK G ∧ zSK G s ∧ (gT G a = 1) ∧ ((-2147483648) ≤ x1 ∧ x1 ≤ 2147483647)) (fun G s _ => pI (fun r G2 s2 => G2 = G ∧ s2 = s ∧ (0 ≤ r ∧ r ≤ 1) ∧ ((r = 0 → 0 ≤ x1 ∧ x1 ≤ 2)))) := by
  refine Con.mk hst (by decide) (fun G s vs h => by rw [h.1]; exact Nat.le_of_ble_eq_true rfl) ?_
  rintro X G s0 vs ⟨rfl, hG, hS0, ha, hx1⟩ rfl hx hq
  show JJ X E 2 G s0 0 0 [(0, .ref a), (1, .int (zI x1))] 0 []
  refine j_iload_n hx 1 dX0_isOut_0 rfl ?_
  refine j_if_lt hx 12 dX0_isOut_1 rfl (by omega) (fun h1 => ?_) (fun h1 => ?_)
  · skip
    refine j_iconst hx dX0_isOut_12 ?_
    exact j_zret hx hq rfl (by decide) (by decide) dX0_isOut_13 (by omega) ⟨1, rfl, rfl, rfl, ⟨(by omega), (by omega)⟩⟩
  · skip
    refine j_iload_n hx 1 dX0_isOut_4 rfl ?_
    refine j_aload_n hx 0 dX0_isOut_5 rfl ?_
    have f2 := zf hS0 ha (k := 7) rfl
    refine g1_7 hx hG ha kf_RX0_50 rfl dX0_isOut_6 ?_
    refine j_icmp_lt hx 14 dX0_isOut_9 rfl (by omega) (by omega) (fun h3 => ?_) (fun h3 => ?_)
    · skip
      refine j_iload_n hx 1 dX0_isOut_14 rfl ?_
      refine j_if_ne hx 42 dX0_isOut_15 rfl (by omega) (fun h4 => ?_) (fun h4 => ?_)
      · skip
        refine j_iload_n hx 1 dX0_isOut_42 rfl ?_
        refine j_iconst hx dX0_isOut_43 ?_
        refine j_icmp_ne hx 73 dX0_isOut_44 rfl (by omega) ⟨by decide, by decide⟩ (fun h5 => ?_) (fun h5 => ?_)
        · skip
          refine j_aload_n hx 0 dX0_isOut_73 rfl ?_
          refine g1_2 hx hG ha kf_RX0_21 dX0_isOut_74 ?_
          have f6 := zf hS0 (zr (k := 2) (t2 := 7) hG ha rfl) (k := 1) rfl
          refine gN7_1 hx hG (zr (k := 2) (t2 := 7) hG ha rfl) kf_RX0_43 rfl dX0_isOut_77 ?_
          refine j_aload_n hx 0 dX0_isOut_80 rfl ?_
          refine g1_5 hx hG ha kf_RX0_30 dX0_isOut_81 ?_
          have f7 := zf hS0 (zr (k := 5) (t2 := 7) hG ha rfl) (k := 1) rfl
          refine gN7_1 hx hG (zr (k := 5) (t2 := 7) hG ha rfl) kf_RX0_43 rfl dX0_isOut_84 ?_
          refine j_iadd hx (r := (s0 (gP G a 2) 1) + (s0 (gP G a 5) 1)) dX0_isOut_87 (by omega) ?_
          refine j_if_ne hx 95 dX0_isOut_88 rfl (by omega) (fun h8 => ?_) (fun h8 => ?_)
          · skip
            refine j_iconst hx dX0_isOut_95 ?_
            exact j_zret hx hq rfl (by decide) (by decide) dX0_isOut_96 (by omega) ⟨0, rfl, rfl, rfl, ⟨(by omega), (by omega)⟩⟩
          · skip
            refine j_iconst hx dX0_isOut_91 ?_
            refine j_goto hx 96 dX0_isOut_92 rfl ?_
            exact j_zret hx hq rfl (by decide) (by decide) dX0_isOut_96 (by omega) ⟨1, rfl, rfl, rfl, ⟨(by omega), (by omega)⟩⟩
        · skip
          refine j_aload_n hx 0 dX0_isOut_47 rfl ?_
          refine g1_1 hx hG ha kf_RX0_18 dX0_isOut_48 ?_
          have f9 := zf hS0 (zr (k := 1) (t2 := 7) hG ha rfl) (k := 1) rfl
          refine gN7_1 hx hG (zr (k := 1) (t2 := 7) hG ha rfl) kf_RX0_43 rfl dX0_isOut_51 ?_
          refine j_aload_n hx 0 dX0_isOut_54 rfl ?_
          refine g1_4 hx hG ha kf_RX0_27 dX0_isOut_55 ?_
          have f10 := zf hS0 (zr (k := 4) (t2 := 7) hG ha rfl) (k := 1) rfl
          refine gN7_1 hx hG (zr (k := 4) (t2 := 7) hG ha rfl) kf_RX0_43 rfl dX0_isOut_58 ?_
          refine j_iadd hx (r := (s0 (gP G a 1) 1) + (s0 (gP G a 4) 1)) dX0_isOut_61 (by omega) ?_
          refine j_if_ne hx 69 dX0_isOut_62 rfl (by omega) (fun h11 => ?_) (fun h11 => ?_)
          · skip
            refine j_iconst hx dX0_isOut_69 ?_
            refine j_goto hx 96 dX0_isOut_70 rfl ?_
            exact j_zret hx hq rfl (by decide) (by decide) dX0_isOut_96 (by omega) ⟨0, rfl, rfl, rfl, ⟨(by omega), (by omega)⟩⟩
          · skip
            refine j_iconst hx dX0_isOut_65 ?_
            refine j_goto hx 96 dX0_isOut_66 rfl ?_
            exact j_zret hx hq rfl (by decide) (by decide) dX0_isOut_96 (by omega) ⟨1, rfl, rfl, rfl, ⟨(by omega), (by omega)⟩⟩
      · skip
        refine j_aload_n hx 0 dX0_isOut_18 rfl ?_
        refine g1_0 hx hG ha kf_RX0_12 dX0_isOut_19 ?_
        have f12 := zf hS0 (zr (k := 0) (t2 := 7) hG ha rfl) (k := 1) rfl
        refine gN7_1 hx hG (zr (k := 0) (t2 := 7) hG ha rfl) kf_RX0_43 rfl dX0_isOut_22 ?_
        refine j_aload_n hx 0 dX0_isOut_25 rfl ?_
        refine g1_3 hx hG ha kf_RX0_24 dX0_isOut_26 ?_
        have f13 := zf hS0 (zr (k := 3) (t2 := 7) hG ha rfl) (k := 1) rfl
        refine gN7_1 hx hG (zr (k := 3) (t2 := 7) hG ha rfl) kf_RX0_43 rfl dX0_isOut_29 ?_
        refine j_iadd hx (r := (s0 (gP G a 0) 1) + (s0 (gP G a 3) 1)) dX0_isOut_32 (by omega) ?_
        refine j_if_ne hx 40 dX0_isOut_33 rfl (by omega) (fun h14 => ?_) (fun h14 => ?_)
        · skip
          refine j_iconst hx dX0_isOut_40 ?_
          exact j_zret hx hq rfl (by decide) (by decide) dX0_isOut_41 (by omega) ⟨0, rfl, rfl, rfl, ⟨(by omega), (by omega)⟩⟩
        · skip
          refine j_iconst hx dX0_isOut_36 ?_
          refine j_goto hx 41 dX0_isOut_37 rfl ?_
          exact j_zret hx hq rfl (by decide) (by decide) dX0_isOut_41 (by omega) ⟨1, rfl, rfl, rfl, ⟨(by omega), (by omega)⟩⟩
    · skip
      refine j_iconst hx dX0_isOut_12 ?_
      exact j_zret hx hq rfl (by decide) (by decide) dX0_isOut_13 (by omega) ⟨1, rfl, rfl, rfl, ⟨(by omega), (by omega)⟩⟩

theorem lk_RX0_60 : LkV RX0 60 RX0 yX0_isOut cX0_isOut 2 (some .boolean) 1 := ⟨km_RX0_60, ki_yX0_isOut, ks_RX0_yX0_isOut, kn_RX0, kc_yX0_isOut, rfl, by decide +kernel, by decide +kernel, by decide +kernel⟩
set_option maxHeartbeats 4000000 in
set_option maxRecDepth 20000 in
theorem c_X0_remaining {E : zE} {l : Launch} (hst : l.stackTraces = false) (a : Nat) : Con E l yX0_remaining cX0_remaining 3 (some .int) { frames := 1, cells := 0, slots := 0, locals := 21 } (fun G s vs => vs = [.ref a] ∧ zGK G ∧ zSK G s ∧ (gT G a = 1)) (fun G s _ => pI (fun r G2 s2 => G2 = G ∧ s2 = s ∧ ((-2147483648) ≤ r ∧ r ≤ 2147483647))) := by
  refine Con.mk hst (by decide) (fun G s vs h => by rw [h.1]; exact Nat.le_of_ble_eq_true rfl) ?_
  rintro X G s0 vs ⟨rfl, hG, hS0, ha⟩ rfl hx hq
  show JJ X E 3 G s0 0 0 [(0, .ref a)] 0 []
  refine j_iconst hx dX0_remaining_0 ?_
  refine j_istore_n hx [(1, .int (zI 0)), (0, .ref a)] dX0_remaining_1 (by decide) rfl ?_
  refine j_iconst hx dX0_remaining_2 ?_
  refine j_istore_n hx [(2, .int (zI 0)), (1, .int (zI 0)), (0, .ref a)] dX0_remaining_3 (by decide) rfl ?_
  have c4_1 : ∀ (m_c4_1 : Nat) (v1 : Int) (v2 : Int), 2147483648 - v2 < m_c4_1 → ((-2147483648) ≤ v1 ∧ v1 ≤ 2147483647) → (0 ≤ v2 ∧ v2 ≤ 3) → JJ X E 3 G s0 0 0 [(0, .ref a), (1, .int (zI v1)), (2, .int (zI v2))] 4 [] := by
    intro m_c4_1
    induction m_c4_1 with
    | zero => intro v1 v2 hm_c4_1 fA2 fA3; exfalso; omega
    | succ m_c4_1 ih_c4_1 => 
      intro v1 v2 hm_c4_1 fA2 fA3
      refine j_iload_n hx 2 dX0_remaining_4 rfl ?_
      refine j_aload_n hx 0 dX0_remaining_5 rfl ?_
      have f3 := zf hS0 ha (k := 7) rfl
      refine g1_7 hx hG ha kf_RX0_50 rfl dX0_remaining_6 ?_
      refine j_icmp_ge hx 34 dX0_remaining_9 rfl (by omega) (by omega) (fun h4 => ?_) (fun h4 => ?_)
      · skip
        refine j_iload_n hx 1 dX0_remaining_34 rfl ?_
        exact j_iret hx hq rfl (by decide) (by decide) dX0_remaining_35 ⟨v1, rfl, rfl, rfl, (by omega)⟩
      · skip
        refine j_iload_n hx 1 dX0_remaining_12 rfl ?_
        refine j_aload_n hx 0 dX0_remaining_13 rfl ?_
        refine j_iload_n hx 2 dX0_remaining_14 rfl ?_
        refine j_callV hx hG (c_X0_isOut hst a v2) lk_RX0_60 ha (by decide) rfl rfl rfl rfl [.int (zI v2)] ⟨rfl, hG, hS0, ha, (by omega)⟩ rfl rfl ⟨by decide, by decide⟩ ⟨by decide, by decide⟩ (k2 := 0) (n2 := 0) rfl rfl (Nat.le_of_ble_eq_true rfl) dX0_remaining_15 (kIP (fun v5 q6 => ?_))
        have c26_4 : ∀ (v7 : Int), (0 ≤ v7 ∧ v7 ≤ 1) → JJ X E 3 G s0 0 0 [(0, .ref a), (2, .int (zI v2))] 26 [.int (zI v7), .int (zI v1)] := by
          intro v7 fA5
          refine j_iadd hx (r := v1 + v7) dX0_remaining_26 rfl ?_
          refine j_norm (fun v8 f9 f10 f11 => ?_)
          refine j_istore_n hx [(1, .int (zI v8)), (0, .ref a), (2, .int (zI v2))] dX0_remaining_27 (by decide) rfl ?_
          refine j_iinc hx 2 [(2, .int (zI (v2 + 1))), (1, .int (zI v8)), (0, .ref a)] dX0_remaining_28 rfl (by omega) (by decide) rfl ?_
          refine j_goto hx 4 dX0_remaining_31 rfl ?_
          exact j_sub [2, 1, 0] [(0, .ref a), (1, .int (zI v8)), (2, .int (zI (v2 + 1)))] rfl (ih_c4_1 v8 (v2 + 1) (by omega) (by omega) (by omega))
        refine j_if_eq hx 25 dX0_remaining_18 rfl (by omega) (fun h12 => ?_) (fun h12 => ?_)
        · skip
          refine j_iconst hx dX0_remaining_25 ?_
          exact j_sub [0, 2] [(0, .ref a), (2, .int (zI v2))] rfl (c26_4 1 (by omega))
        · skip
          refine j_iconst hx dX0_remaining_21 ?_
          refine j_goto hx 26 dX0_remaining_22 rfl ?_
          exact j_sub [0, 2] [(0, .ref a), (2, .int (zI v2))] rfl (c26_4 0 (by omega))
  exact j_sub [2, 1, 0] [(0, .ref a), (1, .int (zI 0)), (2, .int (zI 0))] rfl (c4_1 (2147483648 * 4) 0 0 (by omega) (by omega) (by omega))

set_option maxHeartbeats 4000000 in
set_option maxRecDepth 20000 in
theorem c_X0_firstIn {E : zE} {l : Launch} (hst : l.stackTraces = false) (a : Nat) (x1 : Int) (x2 : Int) : Con E l yX0_firstIn cX0_firstIn 5 (some .int) { frames := 1, cells := 0, slots := 0, locals := 21 } (fun G s vs => vs = [.ref a, .int (zI x1), .int (zI x2)] ∧ zGK G ∧ zSK G s ∧ (gT G a = 1) ∧ ((-2147483648) ≤ x1 ∧ x1 ≤ 2147483647) ∧ ((-2147483648) ≤ x2 ∧ x2 ≤ 2147483647)) (fun G s _ => pI (fun r G2 s2 => G2 = G ∧ s2 = s ∧ ((-1) ≤ r ∧ r ≤ 2))) := by
  refine Con.mk hst (by decide) (fun G s vs h => by rw [h.1]; exact Nat.le_of_ble_eq_true rfl) ?_
  rintro X G s0 vs ⟨rfl, hG, hS0, ha, hx1, hx2⟩ rfl hx hq
  show JJ X E 5 G s0 0 0 [(0, .ref a), (1, .int (zI x1)), (2, .int (zI x2))] 0 []
  refine j_iload_n hx 1 dX0_firstIn_0 rfl ?_
  refine j_istore_n hx [(3, .int (zI x1)), (0, .ref a), (1, .int (zI x1)), (2, .int (zI x2))] dX0_firstIn_1 (by decide) rfl ?_
  refine j_iconst hx dX0_firstIn_2 ?_
  refine j_istore hx [(4, .int (zI 0)), (3, .int (zI x1)), (0, .ref a), (1, .int (zI x1)), (2, .int (zI x2))] dX0_firstIn_3 (by decide) rfl ?_
  have c5_1 : ∀ (m_c5_1 : Nat) (v1 : Int) (v2 : Int), 2147483648 - v2 < m_c5_1 → ((-2147483648) ≤ v1 ∧ v1 ≤ 2147483647) → (0 ≤ v2 ∧ v2 ≤ 3) → JJ X E 5 G s0 0 0 [(0, .ref a), (2, .int (zI x2)), (3, .int (zI v1)), (4, .int (zI v2))] 5 [] := by
    intro m_c5_1
    induction m_c5_1 with
    | zero => intro v1 v2 hm_c5_1 fA2 fA3; exfalso; omega
    | succ m_c5_1 ih_c5_1 => 
      intro v1 v2 hm_c5_1 fA2 fA3
      refine j_iload hx 3 dX0_firstIn_5 rfl ?_
      refine j_iload_n hx 1 dX0_firstIn_7 rfl ?_
      refine j_icmp_ge hx 55 dX0_firstIn_8 rfl (by omega) (by omega) (fun h3 => ?_) (fun h3 => ?_)
      · skip
        refine j_iconst hx dX0_firstIn_55 ?_
        exact j_iret hx hq rfl (by decide) (by decide) dX0_firstIn_56 ⟨(-1), rfl, rfl, rfl, (by omega)⟩
      · skip
        refine j_iload hx 3 dX0_firstIn_11 rfl ?_
        refine j_iconst hx dX0_firstIn_13 ?_
        refine j_icmp_ge hx 55 dX0_firstIn_14 rfl (by omega) ⟨by decide, by decide⟩ (fun h4 => ?_) (fun h4 => ?_)
        · skip
          refine j_iconst hx dX0_firstIn_55 ?_
          exact j_iret hx hq rfl (by decide) (by decide) dX0_firstIn_56 ⟨(-1), rfl, rfl, rfl, (by omega)⟩
        · skip
          refine j_iload_n hx 2 dX0_firstIn_17 rfl ?_
          refine j_aload_n hx 0 dX0_firstIn_18 rfl ?_
          have f5 := zf hS0 ha (k := 7) rfl
          refine g1_7 hx hG ha kf_RX0_50 rfl dX0_firstIn_19 ?_
          have c35_4 : ∀ (v6 : Int), ((-2147483648) ≤ v6 ∧ v6 ≤ 2147483647) → JJ X E 5 G s0 0 0 [(0, .ref a), (2, .int (zI x2)), (4, .int (zI v2))] 35 [.int (zI v6)] := by
            intro v6 fA5
            refine j_istore_n hx [(3, .int (zI v6)), (0, .ref a), (2, .int (zI x2)), (4, .int (zI v2))] dX0_firstIn_35 (by decide) rfl ?_
            refine j_aload_n hx 1 dX0_firstIn_36 rfl ?_
            refine j_iload_n hx 0 dX0_firstIn_37 rfl ?_
            refine j_callV hx hG (c_X0_isOut hst a v6) lk_RX0_60 ha (by decide) rfl rfl rfl rfl [.int (zI v6)] ⟨rfl, hG, hS0, ha, (by omega)⟩ rfl rfl ⟨by decide, by decide⟩ ⟨by decide, by decide⟩ (k2 := 0) (n2 := 0) rfl rfl (Nat.le_of_ble_eq_true rfl) dX0_firstIn_38 (kIP (fun v7 q8 => ?_))
            refine j_if_ne hx 46 dX0_firstIn_41 rfl (by omega) (fun h9 => ?_) (fun h9 => ?_)
            · skip
              refine j_iincN hx 0 (fun v10 => [(3, .int (zI v10)), (0, .ref a), (2, .int (zI x2)), (4, .int (zI v2))]) dX0_firstIn_46 rfl (by decide) (fun _ => rfl) (fun v10 f11 f12 f13 => ?_)
              refine j_iinc hx 3 [(4, .int (zI (v2 + 1))), (3, .int (zI v10)), (0, .ref a), (2, .int (zI x2))] dX0_firstIn_49 rfl (by omega) (by decide) rfl ?_
              refine j_goto hx 5 dX0_firstIn_52 rfl ?_
              exact j_sub [2, 3, 1, 0] [(0, .ref a), (2, .int (zI x2)), (3, .int (zI v10)), (4, .int (zI (v2 + 1)))] rfl (ih_c5_1 v10 (v2 + 1) (by omega) (by omega) (by omega))
            · skip
              refine j_iload_n hx 0 dX0_firstIn_44 rfl ?_
              exact j_iret hx hq rfl (by decide) (by decide) dX0_firstIn_45 ⟨v6, rfl, rfl, rfl, (by omega)⟩
          refine j_icmp_lt hx 34 dX0_firstIn_22 rfl (by omega) (by omega) (fun h14 => ?_) (fun h14 => ?_)
          · skip
            refine j_iload_n hx 2 dX0_firstIn_34 rfl ?_
            exact j_sub [0, 1, 3] [(0, .ref a), (2, .int (zI x2)), (4, .int (zI v2))] rfl (c35_4 v1 (by omega))
          · skip
            refine j_iload_n hx 2 dX0_firstIn_25 rfl ?_
            refine j_aload_n hx 0 dX0_firstIn_26 rfl ?_
            refine g1_7 hx hG ha kf_RX0_50 rfl dX0_firstIn_27 ?_
            refine j_isub hx (r := v1 - (s0 a 7)) dX0_firstIn_30 (by omega) ?_
            refine j_goto hx 35 dX0_firstIn_31 rfl ?_
            exact j_sub [0, 1, 3] [(0, .ref a), (2, .int (zI x2)), (4, .int (zI v2))] rfl (c35_4 (v1 - (s0 a 7)) (by omega))
  exact j_sub [2, 4, 1, 0] [(0, .ref a), (2, .int (zI x2)), (3, .int (zI x1)), (4, .int (zI 0))] rfl (c5_1 (2147483648 * 4) x1 0 (by omega) (by omega) (by omega))

theorem lk_RX0_68 : LkV RX0 68 RX0 yX0_remaining cX0_remaining 3 (some .int) 0 := ⟨km_RX0_68, ki_yX0_remaining, ks_RX0_yX0_remaining, kn_RX0, kc_yX0_remaining, rfl, by decide +kernel, by decide +kernel, by decide +kernel⟩
theorem lk_RX0_64 : LkV RX0 64 RX0 yX0_firstIn cX0_firstIn 5 (some .int) 2 := ⟨km_RX0_64, ki_yX0_firstIn, ks_RX0_yX0_firstIn, kn_RX0, kc_yX0_firstIn, rfl, by decide +kernel, by decide +kernel, by decide +kernel⟩
set_option maxHeartbeats 4000000 in
set_option maxRecDepth 20000 in
theorem c_X0_whose {E : zE} {l : Launch} (hst : l.stackTraces = false) (a : Nat) : Con E l yX0_whose cX0_whose 1 (some .int) { frames := 2, cells := 0, slots := 0, locals := 45 } (fun G s vs => vs = [.ref a] ∧ zGK G ∧ zSK G s ∧ (gT G a = 1)) (fun G s _ => pI (fun r G2 s2 => G2 = G ∧ s2 = s ∧ ((-1) ≤ r ∧ r ≤ 2))) := by
  refine Con.mk hst (by decide) (fun G s vs h => by rw [h.1]; exact Nat.le_of_ble_eq_true rfl) ?_
  rintro X G s0 vs ⟨rfl, hG, hS0, ha⟩ rfl hx hq
  show JJ X E 1 G s0 0 0 [(0, .ref a)] 0 []
  refine j_aload_n hx 0 dX0_whose_0 rfl ?_
  refine j_callV hx hG (c_X0_remaining hst a) lk_RX0_68 ha (by decide) rfl rfl rfl rfl [] ⟨rfl, hG, hS0, ha⟩ rfl rfl ⟨by decide, by decide⟩ ⟨by decide, by decide⟩ (k2 := 0) (n2 := 0) rfl rfl (Nat.le_of_ble_eq_true rfl) dX0_whose_1 (kIP (fun v1 q2 => ?_))
  refine j_iconst hx dX0_whose_4 ?_
  refine j_icmp_gt hx 12 dX0_whose_5 rfl (by omega) ⟨by decide, by decide⟩ (fun h3 => ?_) (fun h3 => ?_)
  · skip
    refine j_aload_n hx 0 dX0_whose_12 rfl ?_
    refine j_aload_n hx 0 dX0_whose_13 rfl ?_
    have f4 := zf hS0 ha (k := 8) rfl
    refine g1_8 hx hG ha kf_RX0_53 rfl dX0_whose_14 ?_
    refine j_aload_n hx 0 dX0_whose_17 rfl ?_
    have f5 := zf hS0 ha (k := 7) rfl
    refine g1_7 hx hG ha kf_RX0_50 rfl dX0_whose_18 ?_
    refine j_callV hx hG (c_X0_firstIn hst a ((s0 a 8)) ((s0 a 7))) lk_RX0_64 ha (by decide) rfl rfl rfl rfl [.int (zI ((s0 a 8))), .int (zI ((s0 a 7)))] ⟨rfl, hG, hS0, ha, (by omega), (by omega)⟩ rfl rfl ⟨by decide, by decide⟩ ⟨by decide, by decide⟩ (k2 := 0) (n2 := 0) rfl rfl (Nat.le_of_ble_eq_true rfl) dX0_whose_21 (kIP (fun v6 q7 => ?_))
    exact j_iret hx hq rfl (by decide) (by decide) dX0_whose_24 ⟨v6, rfl, rfl, rfl, (by omega)⟩
  · skip
    refine j_iconst hx dX0_whose_8 ?_
    refine j_goto hx 24 dX0_whose_9 rfl ?_
    exact j_iret hx hq rfl (by decide) (by decide) dX0_whose_24 ⟨(-1), rfl, rfl, rfl, (by omega)⟩

set_option maxHeartbeats 4000000 in
set_option maxRecDepth 20000 in
theorem c_X3_lawOf {E : zE} {l : Launch} (hst : l.stackTraces = false) (a : Nat) (x1 : Int) : Con E l yX3_lawOf cX3_lawOf 2 (some .int) { frames := 0, cells := 0, slots := 0, locals := 0 } (fun G s vs => vs = [.ref a, .int (zI x1)] ∧ zGK G ∧ zSK G s ∧ (gT G a = 4) ∧ ((-2147483648) ≤ x1 ∧ x1 ≤ 2147483647)) (fun G s _ => pI (fun r G2 s2 => G2 = G ∧ s2 = s ∧ ((-2147483648) ≤ r ∧ r ≤ 2147483647))) := by
  refine Con.mk hst (by decide) (fun G s vs h => by rw [h.1]; exact Nat.le_of_ble_eq_true rfl) ?_
  rintro X G s0 vs ⟨rfl, hG, hS0, ha, hx1⟩ rfl hx hq
  show JJ X E 2 G s0 0 0 [(0, .ref a), (1, .int (zI x1))] 0 []
  refine j_iload_n hx 1 dX3_lawOf_0 rfl ?_
  refine j_if_lt hx 22 dX3_lawOf_1 rfl (by omega) (fun h1 => ?_) (fun h1 => ?_)
  · skip
    refine j_iconst hx dX3_lawOf_22 ?_
    exact j_iret hx hq rfl (by decide) (by decide) dX3_lawOf_23 ⟨0, rfl, rfl, rfl, (by omega)⟩
  · skip
    refine j_iload_n hx 1 dX3_lawOf_4 rfl ?_
    refine j_aload_n hx 0 dX3_lawOf_5 rfl ?_
    refine g4_2 hx hG ha kf_RX3_18 dX3_lawOf_6 ?_
    refine j_alen hx hG (zr (k := 2) (t2 := 44) hG ha rfl) (by decide) (by decide) (zlen hG (zr (k := 2) (t2 := 44) hG ha rfl) (n := 3) rfl rfl) dX3_lawOf_9 ?_
    refine j_icmp_ge hx 22 dX3_lawOf_10 rfl (by omega) ⟨by decide, by decide⟩ (fun h2 => ?_) (fun h2 => ?_)
    · skip
      refine j_iconst hx dX3_lawOf_22 ?_
      exact j_iret hx hq rfl (by decide) (by decide) dX3_lawOf_23 ⟨0, rfl, rfl, rfl, (by omega)⟩
    · skip
      refine j_aload_n hx 0 dX3_lawOf_13 rfl ?_
      refine g4_2 hx hG ha kf_RX3_18 dX3_lawOf_14 ?_
      refine j_iload_n hx 1 dX3_lawOf_17 rfl ?_
      have f3 := zaI (j := (x1).toNat) hS0 (zr (k := 2) (t2 := 44) hG ha rfl) rfl (zlen hG (zr (k := 2) (t2 := 44) hG ha rfl) (n := 3) rfl rfl) (show 0 ≤ x1 by omega) (by omega) rfl
      refine j_iald hx hG (zr (k := 2) (t2 := 44) hG ha rfl) (by decide) rfl (zlen hG (zr (k := 2) (t2 := 44) hG ha rfl) (n := 3) rfl rfl) (by omega) (by omega) (j := (x1).toNat) rfl rfl dX3_lawOf_18 ?_
      refine j_goto hx 23 dX3_lawOf_19 rfl ?_
      exact j_iret hx hq rfl (by decide) (by decide) dX3_lawOf_23 ⟨(s0 (gP G a 2) (x1).toNat), rfl, rfl, rfl, (by omega)⟩

theorem lk_RX11_159 : LkV RX11 159 RX0 yX0_allCards cX0_allCards 3 (some .int) 0 := ⟨km_RX11_159, ki_yX0_allCards, ks_RX0_yX0_allCards, kn_RX0, kc_yX0_allCards, rfl, by decide +kernel, by decide +kernel, by decide +kernel⟩
theorem lk_RX11_168 : LkV RX11 168 RX0 yX0_whose cX0_whose 1 (some .int) 0 := ⟨km_RX11_168, ki_yX0_whose, ks_RX0_yX0_whose, kn_RX0, kc_yX0_whose, rfl, by decide +kernel, by decide +kernel, by decide +kernel⟩
theorem lk_RX11_178 : LkV RX11 178 RX3 yX3_lawOf cX3_lawOf 2 (some .int) 1 := ⟨km_RX11_178, ki_yX3_lawOf, ks_RX3_yX3_lawOf, kn_RX3, kc_yX3_lawOf, rfl, by decide +kernel, by decide +kernel, by decide +kernel⟩
set_option maxHeartbeats 4000000 in
set_option maxRecDepth 20000 in
theorem c_X11_told {E : zE} {l : Launch} (hst : l.stackTraces = false) (a : Nat) (x1 : Int) : ConX E l yX11_told cX11_told 2 (some .int) { frames := 7, cells := 1, slots := 6, locals := 113 } (fun G s vs => vs = [.ref a, .int (zI x1)] ∧ zGK G ∧ zSK G s ∧ (gT G a = 12) ∧ ((-2147483648) ≤ x1 ∧ x1 ≤ 2147483647)) (fun G s _ => pI (fun r G2 s2 => G2 = G ∧ s2 = s ∧ ((-2147483648) ≤ r ∧ r ≤ 2147483647))) (fun G s _ Ex G2 s2 => G2 = G ∧ zSK G s2 ∧ zFr [12] G s s2 ∧ ((Ex = "java/lang/IllegalArgumentException" ∧ (True)))) := by
  refine ConX.mk hst (by decide) (fun G s vs h => by rw [h.1]; exact Nat.le_of_ble_eq_true rfl) ?_
  rintro X G s0 vs ⟨rfl, hG, hS0, ha, hx1⟩ rfl hx hq
  show JJ X E 2 G s0 0 0 [(0, .ref a), (1, .int (zI x1))] 0 []
  refine j_aload_n hx 0 dX11_told_0 rfl ?_
  refine j_iload_n hx 1 dX11_told_1 rfl ?_
  refine j_iconst hx dX11_told_2 ?_
  refine j_bipush hx dX11_told_3 rfl ?_
  refine j_callVX hx hq hG (c_X11_needRange hst a x1 0 8) lk_RX11_98 ha (by decide) rfl rfl rfl rfl [.int (zI x1), .int (zI 0), .int (zI 8)] ⟨rfl, hG, hS0, ha, (by omega), (by omega), (by omega)⟩ rfl rfl ⟨by decide, by decide⟩ ⟨by decide, by decide⟩ (k2 := 1) (n2 := 6) rfl rfl (Nat.le_of_ble_eq_true rfl) ⟨by decide, by decide⟩ dX11_told_5 (by rintro Ex9 G9 s9 ⟨rfl, hS9, hF9, e9, c9⟩; exact ⟨rfl, hS9, (zFr_t zFr_rf hF9 (by decide)), ⟨e9, by first | trivial | omega⟩⟩) (kVP (fun q2 => ?_))
  refine j_iload_n hx 1 dX11_told_8 rfl ?_
  have h3 : (x1 = 0) ∨ (x1 = 1) ∨ (x1 = 2) ∨ (x1 = 3) ∨ (x1 = 4) ∨ (x1 = 5) ∨ (x1 = 6) ∨ (x1 = 7) ∨ (x1 < 0 ∨ 7 < x1) := by omega
  rcases h3 with h3 | h3 | h3 | h3 | h3 | h3 | h3 | h3 | h3
  · skip
    refine j_switchIn hx 56 dX11_told_9 (by omega) (by omega) (by omega) (by rw [h3]; rfl) rfl ?_
    refine j_aload_n hx 0 dX11_told_56 rfl ?_
    refine g12_1 hx hG ha kf_RX11_19 dX11_told_57 ?_
    have f4 := zf hS0 (zr (k := 1) (t2 := 9) hG ha rfl) (k := 4) rfl
    refine gN9_4 hx hG (zr (k := 1) (t2 := 9) hG ha rfl) kf_RX11_127 rfl dX11_told_60 ?_
    exact j_iret hx hq.r rfl (by decide) (by decide) dX11_told_63 ⟨(s0 (gP G a 1) 4), rfl, rfl, rfl, (by omega)⟩
  · skip
    refine j_switchIn hx 64 dX11_told_9 (by omega) (by omega) (by omega) (by rw [h3]; rfl) rfl ?_
    refine j_aload_n hx 0 dX11_told_64 rfl ?_
    refine g12_6 hx hG ha kf_RX11_48 dX11_told_65 ?_
    refine gN4_1 hx hG (zr (k := 6) (t2 := 4) hG ha rfl) kf_RX11_155 dX11_told_68 ?_
    refine j_callV hx hG (c_X0_allCards hst (gP G (gP G a 6) 1)) lk_RX11_159 (zr (k := 1) (t2 := 1) hG (zr (k := 6) (t2 := 4) hG ha rfl) rfl) (by decide) rfl rfl rfl rfl [] ⟨rfl, hG, hS0, (zr (k := 1) (t2 := 1) hG (zr (k := 6) (t2 := 4) hG ha rfl) rfl)⟩ rfl rfl ⟨by decide, by decide⟩ ⟨by decide, by decide⟩ (k2 := 1) (n2 := 6) rfl rfl (Nat.le_of_ble_eq_true rfl) dX11_told_71 (kIP (fun v5 q6 => ?_))
    exact j_iret hx hq.r rfl (by decide) (by decide) dX11_told_74 ⟨v5, rfl, rfl, rfl, (by omega)⟩
  · skip
    refine j_switchIn hx 75 dX11_told_9 (by omega) (by omega) (by omega) (by rw [h3]; rfl) rfl ?_
    refine j_aload_n hx 0 dX11_told_75 rfl ?_
    refine g12_6 hx hG ha kf_RX11_48 dX11_told_76 ?_
    have f7 := zf hS0 (zr (k := 6) (t2 := 4) hG ha rfl) (k := 10) rfl
    refine gN4_10 hx hG (zr (k := 6) (t2 := 4) hG ha rfl) kf_RX11_165 rfl dX11_told_79 ?_
    exact j_iret hx hq.r rfl (by decide) (by decide) dX11_told_82 ⟨(s0 (gP G a 6) 10), rfl, rfl, rfl, (by omega)⟩
  · skip
    refine j_switchIn hx 83 dX11_told_9 (by omega) (by omega) (by omega) (by rw [h3]; rfl) rfl ?_
    refine j_aload_n hx 0 dX11_told_83 rfl ?_
    refine g12_6 hx hG ha kf_RX11_48 dX11_told_84 ?_
    refine gN4_1 hx hG (zr (k := 6) (t2 := 4) hG ha rfl) kf_RX11_155 dX11_told_87 ?_
    refine j_callV hx hG (c_X0_whose hst (gP G (gP G a 6) 1)) lk_RX11_168 (zr (k := 1) (t2 := 1) hG (zr (k := 6) (t2 := 4) hG ha rfl) rfl) (by decide) rfl rfl rfl rfl [] ⟨rfl, hG, hS0, (zr (k := 1) (t2 := 1) hG (zr (k := 6) (t2 := 4) hG ha rfl) rfl)⟩ rfl rfl ⟨by decide, by decide⟩ ⟨by decide, by decide⟩ (k2 := 1) (n2 := 6) rfl rfl (Nat.le_of_ble_eq_true rfl) dX11_told_90 (kIP (fun v8 q9 => ?_))
    exact j_iret hx hq.r rfl (by decide) (by decide) dX11_told_93 ⟨v8, rfl, rfl, rfl, (by omega)⟩
  · skip
    refine j_switchIn hx 94 dX11_told_9 (by omega) (by omega) (by omega) (by rw [h3]; rfl) rfl ?_
    refine j_aload_n hx 0 dX11_told_94 rfl ?_
    refine g12_6 hx hG ha kf_RX11_48 dX11_told_95 ?_
    refine gN4_1 hx hG (zr (k := 6) (t2 := 4) hG ha rfl) kf_RX11_155 dX11_told_98 ?_
    refine gN1_6 hx hG (zr (k := 1) (t2 := 1) hG (zr (k := 6) (t2 := 4) hG ha rfl) rfl) kf_RX11_171 dX11_told_101 ?_
    have f10 := zf hS0 (zr (k := 6) (t2 := 7) hG (zr (k := 1) (t2 := 1) hG (zr (k := 6) (t2 := 4) hG ha rfl) rfl) rfl) (k := 1) rfl
    refine gN7_1 hx hG (zr (k := 6) (t2 := 7) hG (zr (k := 1) (t2 := 1) hG (zr (k := 6) (t2 := 4) hG ha rfl) rfl) rfl) kf_RX11_175 rfl dX11_told_104 ?_
    exact j_iret hx hq.r rfl (by decide) (by decide) dX11_told_107 ⟨(s0 (gP G (gP G (gP G a 6) 1) 6) 1), rfl, rfl, rfl, (by omega)⟩
  · skip
    refine j_switchIn hx 108 dX11_told_9 (by omega) (by omega) (by omega) (by rw [h3]; rfl) rfl ?_
    refine j_aload_n hx 0 dX11_told_108 rfl ?_
    refine g12_6 hx hG ha kf_RX11_48 dX11_told_109 ?_
    refine j_iconst hx dX11_told_112 ?_
    refine j_callV hx hG (c_X3_lawOf hst (gP G a 6) 0) lk_RX11_178 (zr (k := 6) (t2 := 4) hG ha rfl) (by decide) rfl rfl rfl rfl [.int (zI 0)] ⟨rfl, hG, hS0, (zr (k := 6) (t2 := 4) hG ha rfl), (by omega)⟩ rfl rfl ⟨by decide, by decide⟩ ⟨by decide, by decide⟩ (k2 := 1) (n2 := 6) rfl rfl (Nat.le_of_ble_eq_true rfl) dX11_told_113 (kIP (fun v11 q12 => ?_))
    exact j_iret hx hq.r rfl (by decide) (by decide) dX11_told_116 ⟨v11, rfl, rfl, rfl, (by omega)⟩
  · skip
    refine j_switchIn hx 117 dX11_told_9 (by omega) (by omega) (by omega) (by rw [h3]; rfl) rfl ?_
    refine j_aload_n hx 0 dX11_told_117 rfl ?_
    refine g12_6 hx hG ha kf_RX11_48 dX11_told_118 ?_
    refine j_iconst hx dX11_told_121 ?_
    refine j_callV hx hG (c_X3_lawOf hst (gP G a 6) 1) lk_RX11_178 (zr (k := 6) (t2 := 4) hG ha rfl) (by decide) rfl rfl rfl rfl [.int (zI 1)] ⟨rfl, hG, hS0, (zr (k := 6) (t2 := 4) hG ha rfl), (by omega)⟩ rfl rfl ⟨by decide, by decide⟩ ⟨by decide, by decide⟩ (k2 := 1) (n2 := 6) rfl rfl (Nat.le_of_ble_eq_true rfl) dX11_told_122 (kIP (fun v13 q14 => ?_))
    exact j_iret hx hq.r rfl (by decide) (by decide) dX11_told_125 ⟨v13, rfl, rfl, rfl, (by omega)⟩
  · skip
    refine j_switchIn hx 126 dX11_told_9 (by omega) (by omega) (by omega) (by rw [h3]; rfl) rfl ?_
    refine j_aload_n hx 0 dX11_told_126 rfl ?_
    refine g12_6 hx hG ha kf_RX11_48 dX11_told_127 ?_
    refine j_iconst hx dX11_told_130 ?_
    refine j_callV hx hG (c_X3_lawOf hst (gP G a 6) 2) lk_RX11_178 (zr (k := 6) (t2 := 4) hG ha rfl) (by decide) rfl rfl rfl rfl [.int (zI 2)] ⟨rfl, hG, hS0, (zr (k := 6) (t2 := 4) hG ha rfl), (by omega)⟩ rfl rfl ⟨by decide, by decide⟩ ⟨by decide, by decide⟩ (k2 := 1) (n2 := 6) rfl rfl (Nat.le_of_ble_eq_true rfl) dX11_told_131 (kIP (fun v15 q16 => ?_))
    exact j_iret hx hq.r rfl (by decide) (by decide) dX11_told_134 ⟨v15, rfl, rfl, rfl, (by omega)⟩
  · skip
    refine j_switchOut hx 135 dX11_told_9 (by omega) (by omega) rfl ?_
    refine j_aload_n hx 0 dX11_told_135 rfl ?_
    refine g12_1 hx hG ha kf_RX11_19 dX11_told_136 ?_
    have f17 := zf hS0 (zr (k := 1) (t2 := 9) hG ha rfl) (k := 5) rfl
    refine gN9_5 hx hG (zr (k := 1) (t2 := 9) hG ha rfl) kf_RX11_181 rfl dX11_told_139 ?_
    exact j_iret hx hq.r rfl (by decide) (by decide) dX11_told_142 ⟨(s0 (gP G a 1) 5), rfl, rfl, rfl, (by omega)⟩

set_option maxHeartbeats 4000000 in
set_option maxRecDepth 20000 in
theorem c_X8_trait {E : zE} {l : Launch} (hst : l.stackTraces = false) (a : Nat) (x1 : Int) (x2 : Int) : Con E l yX8_trait cX8_trait 4 (some .int) { frames := 0, cells := 0, slots := 0, locals := 0 } (fun G s vs => vs = [.ref a, .int (zI x1), .int (zI x2)] ∧ zGK G ∧ zSK G s ∧ (gT G a = 9) ∧ ((-2147483648) ≤ x1 ∧ x1 ≤ 2147483647) ∧ ((-2147483648) ≤ x2 ∧ x2 ≤ 2147483647)) (fun G s _ => pI (fun r G2 s2 => G2 = G ∧ s2 = s ∧ ((-2147483648) ≤ r ∧ r ≤ 2147483647))) := by
  refine Con.mk hst (by decide) (fun G s vs h => by rw [h.1]; exact Nat.le_of_ble_eq_true rfl) ?_
  rintro X G s0 vs ⟨rfl, hG, hS0, ha, hx1, hx2⟩ rfl hx hq
  show JJ X E 4 G s0 0 0 [(0, .ref a), (1, .int (zI x1)), (2, .int (zI x2))] 0 []
  refine j_iload_n hx 1 dX8_trait_0 rfl ?_
  refine j_iconst hx dX8_trait_1 ?_
  refine j_imul hx (r := 5 * x1) dX8_trait_2 (by omega) ?_
  refine j_norm (fun v1 f2 f3 f4 => ?_)
  refine j_iload_n hx 2 dX8_trait_3 rfl ?_
  refine j_iadd hx (r := v1 + x2) dX8_trait_4 rfl ?_
  refine j_norm (fun v5 f6 f7 f8 => ?_)
  refine j_istore_n hx [(3, .int (zI v5)), (0, .ref a), (1, .int (zI x1)), (2, .int (zI x2))] dX8_trait_5 (by decide) rfl ?_
  refine j_iload_n hx 0 dX8_trait_6 rfl ?_
  refine j_if_lt hx 28 dX8_trait_7 rfl (by omega) (fun h9 => ?_) (fun h9 => ?_)
  · skip
    refine j_iconst hx dX8_trait_28 ?_
    exact j_iret hx hq rfl (by decide) (by decide) dX8_trait_29 ⟨0, rfl, rfl, rfl, (by omega)⟩
  · skip
    refine j_iload_n hx 0 dX8_trait_10 rfl ?_
    refine j_aload_n hx 1 dX8_trait_11 rfl ?_
    refine g9_0 hx hG ha kf_RX8_11 dX8_trait_12 ?_
    refine j_alen hx hG (zr (k := 0) (t2 := 42) hG ha rfl) (by decide) (by decide) (zlen hG (zr (k := 0) (t2 := 42) hG ha rfl) (n := 15) rfl rfl) dX8_trait_15 ?_
    refine j_icmp_ge hx 28 dX8_trait_16 rfl (by omega) ⟨by decide, by decide⟩ (fun h10 => ?_) (fun h10 => ?_)
    · skip
      refine j_iconst hx dX8_trait_28 ?_
      exact j_iret hx hq rfl (by decide) (by decide) dX8_trait_29 ⟨0, rfl, rfl, rfl, (by omega)⟩
    · skip
      refine j_aload_n hx 1 dX8_trait_19 rfl ?_
      refine g9_0 hx hG ha kf_RX8_11 dX8_trait_20 ?_
      refine j_iload_n hx 0 dX8_trait_23 rfl ?_
      have f11 := zaI (j := (v5).toNat) hS0 (zr (k := 0) (t2 := 42) hG ha rfl) rfl (zlen hG (zr (k := 0) (t2 := 42) hG ha rfl) (n := 15) rfl rfl) (show 0 ≤ v5 by omega) (by omega) rfl
      refine j_iald hx hG (zr (k := 0) (t2 := 42) hG ha rfl) (by decide) rfl (zlen hG (zr (k := 0) (t2 := 42) hG ha rfl) (n := 15) rfl rfl) (by omega) (by omega) (j := (v5).toNat) rfl rfl dX8_trait_24 ?_
      refine j_goto hx 29 dX8_trait_25 rfl ?_
      exact j_iret hx hq rfl (by decide) (by decide) dX8_trait_29 ⟨(s0 (gP G a 0) (v5).toNat), rfl, rfl, rfl, (by omega)⟩

theorem lk_RX11_134 : LkV RX11 134 RX11 yX11_needPlayer cX11_needPlayer 2 none 1 := ⟨km_RX11_134, ki_yX11_needPlayer, ks_RX11_yX11_needPlayer, kn_RX11, kc_yX11_needPlayer, rfl, by decide +kernel, by decide +kernel, by decide +kernel⟩
theorem lk_RX11_194 : LkV RX11 194 RX0 yX0_isOut cX0_isOut 2 (some .boolean) 1 := ⟨km_RX11_194, ki_yX0_isOut, ks_RX0_yX0_isOut, kn_RX0, kc_yX0_isOut, rfl, by decide +kernel, by decide +kernel, by decide +kernel⟩
theorem lk_RX11_191 : LkV RX11 191 RX0 yX0_heapOf cX0_heapOf 2 (some (.object "SnapHeaps$Pile")) 1 := ⟨km_RX11_191, ki_yX0_heapOf, ks_RX0_yX0_heapOf, kn_RX0, kc_yX0_heapOf, rfl, by decide +kernel, by decide +kernel, by decide +kernel⟩
theorem lk_RX11_187 : LkV RX11 187 RX0 yX0_rowOf cX0_rowOf 2 (some (.object "SnapHeaps$Pile")) 1 := ⟨km_RX11_187, ki_yX0_rowOf, ks_RX0_yX0_rowOf, kn_RX0, kc_yX0_rowOf, rfl, by decide +kernel, by decide +kernel, by decide +kernel⟩
theorem lk_RX11_184 : LkV RX11 184 RX8 yX8_trait cX8_trait 4 (some .int) 2 := ⟨km_RX11_184, ki_yX8_trait, ks_RX8_yX8_trait, kn_RX8, kc_yX8_trait, rfl, by decide +kernel, by decide +kernel, by decide +kernel⟩
set_option maxHeartbeats 4000000 in
set_option maxRecDepth 20000 in
theorem c_X11_player {E : zE} {l : Launch} (hst : l.stackTraces = false) (a : Nat) (x1 : Int) (x2 : Int) : ConX E l yX11_player cX11_player 3 (some .int) { frames := 7, cells := 2, slots := 12, locals := 113 } (fun G s vs => vs = [.ref a, .int (zI x1), .int (zI x2)] ∧ zGK G ∧ zSK G s ∧ (gT G a = 12) ∧ ((-2147483648) ≤ x1 ∧ x1 ≤ 2147483647) ∧ ((-2147483648) ≤ x2 ∧ x2 ≤ 2147483647)) (fun G s _ => pI (fun r G2 s2 => G2 = G ∧ s2 = s ∧ ((-2147483648) ≤ r ∧ r ≤ 2147483647))) (fun G s _ Ex G2 s2 => G2 = G ∧ zSK G s2 ∧ zFr [12] G s s2 ∧ ((Ex = "java/lang/IllegalArgumentException" ∧ (True)) ∨ (Ex = "java/util/NoSuchElementException" ∧ (True)))) := by
  refine ConX.mk hst (by decide) (fun G s vs h => by rw [h.1]; exact Nat.le_of_ble_eq_true rfl) ?_
  rintro X G s0 vs ⟨rfl, hG, hS0, ha, hx1, hx2⟩ rfl hx hq
  show JJ X E 3 G s0 0 0 [(0, .ref a), (1, .int (zI x1)), (2, .int (zI x2))] 0 []
  refine j_aload_n hx 0 dX11_player_0 rfl ?_
  refine j_iload_n hx 1 dX11_player_1 rfl ?_
  refine j_callVX hx hq hG (c_X11_needPlayer hst a x1) lk_RX11_134 ha (by decide) rfl rfl rfl rfl [.int (zI x1)] ⟨rfl, hG, hS0, ha, (by omega)⟩ rfl rfl ⟨by decide, by decide⟩ ⟨by decide, by decide⟩ (k2 := 1) (n2 := 6) rfl rfl (Nat.le_of_ble_eq_true rfl) ⟨by decide, by decide⟩ dX11_player_2 (by rintro Ex9 G9 s9 ⟨rfl, hS9, hF9, e9, c9⟩; exact ⟨rfl, hS9, (zFr_t zFr_rf hF9 (by decide)), Or.inr ⟨e9, by first | trivial | omega⟩⟩) (kVP (fun q2 => ?_))
  refine j_aload_n hx 0 dX11_player_5 rfl ?_
  refine j_iload_n hx 2 dX11_player_6 rfl ?_
  refine j_iconst hx dX11_player_7 ?_
  refine j_bipush hx dX11_player_8 rfl ?_
  refine j_callVX hx hq hG (c_X11_needRange hst a x2 0 7) lk_RX11_98 ha (by decide) rfl rfl rfl rfl [.int (zI x2), .int (zI 0), .int (zI 7)] ⟨rfl, hG, hS0, ha, (by omega), (by omega), (by omega)⟩ rfl rfl ⟨by decide, by decide⟩ ⟨by decide, by decide⟩ (k2 := 2) (n2 := 12) rfl rfl (Nat.le_of_ble_eq_true rfl) ⟨by decide, by decide⟩ dX11_player_10 (by rintro Ex9 G9 s9 ⟨rfl, hS9, hF9, e9, c9⟩; exact ⟨rfl, hS9, (zFr_t zFr_rf hF9 (by decide)), Or.inl ⟨e9, by first | trivial | omega⟩⟩) (kVP (fun q4 => ?_))
  refine j_iload_n hx 2 dX11_player_13 rfl ?_
  refine j_iconst hx dX11_player_14 ?_
  refine j_icmp_gt hx 28 dX11_player_15 rfl (by omega) ⟨by decide, by decide⟩ (fun h5 => ?_) (fun h5 => ?_)
  · skip
    refine j_iload_n hx 2 dX11_player_28 rfl ?_
    refine j_iconst hx dX11_player_29 ?_
    refine j_icmp_ne hx 48 dX11_player_30 rfl (by omega) ⟨by decide, by decide⟩ (fun h6 => ?_) (fun h6 => ?_)
    · skip
      refine j_iload_n hx 2 dX11_player_48 rfl ?_
      refine j_bipush hx dX11_player_49 rfl ?_
      refine j_icmp_ne hx 69 dX11_player_51 rfl (by omega) ⟨by decide, by decide⟩ (fun h7 => ?_) (fun h7 => ?_)
      · skip
        refine j_aload_n hx 0 dX11_player_69 rfl ?_
        refine g12_6 hx hG ha kf_RX11_48 dX11_player_70 ?_
        refine gN4_1 hx hG (zr (k := 6) (t2 := 4) hG ha rfl) kf_RX11_155 dX11_player_73 ?_
        refine j_iload_n hx 1 dX11_player_76 rfl ?_
        refine j_callV hx hG (c_X0_isOut hst (gP G (gP G a 6) 1) x1) lk_RX11_194 (zr (k := 1) (t2 := 1) hG (zr (k := 6) (t2 := 4) hG ha rfl) rfl) (by decide) rfl rfl rfl rfl [.int (zI x1)] ⟨rfl, hG, hS0, (zr (k := 1) (t2 := 1) hG (zr (k := 6) (t2 := 4) hG ha rfl) rfl), (by omega)⟩ rfl rfl ⟨by decide, by decide⟩ ⟨by decide, by decide⟩ (k2 := 2) (n2 := 12) rfl rfl (Nat.le_of_ble_eq_true rfl) dX11_player_77 (kIP (fun v8 q9 => ?_))
        refine j_if_eq hx 87 dX11_player_80 rfl (by omega) (fun h10 => ?_) (fun h10 => ?_)
        · skip
          refine j_iconst hx dX11_player_87 ?_
          exact j_iret hx hq.r rfl (by decide) (by decide) dX11_player_88 ⟨0, rfl, rfl, rfl, (by omega)⟩
        · skip
          refine j_iconst hx dX11_player_83 ?_
          refine j_goto hx 88 dX11_player_84 rfl ?_
          exact j_iret hx hq.r rfl (by decide) (by decide) dX11_player_88 ⟨1, rfl, rfl, rfl, (by omega)⟩
      · skip
        refine j_aload_n hx 0 dX11_player_54 rfl ?_
        refine g12_6 hx hG ha kf_RX11_48 dX11_player_55 ?_
        refine gN4_1 hx hG (zr (k := 6) (t2 := 4) hG ha rfl) kf_RX11_155 dX11_player_58 ?_
        refine j_iload_n hx 1 dX11_player_61 rfl ?_
        refine j_callV hx hG (c_X0_heapOf hst (gP G (gP G a 6) 1) x1) lk_RX11_191 (zr (k := 1) (t2 := 1) hG (zr (k := 6) (t2 := 4) hG ha rfl) rfl) (by decide) rfl rfl rfl rfl [.int (zI x1)] ⟨rfl, hG, hS0, (zr (k := 1) (t2 := 1) hG (zr (k := 6) (t2 := 4) hG ha rfl) rfl), (by omega)⟩ rfl rfl ⟨by decide, by decide⟩ ⟨by decide, by decide⟩ (k2 := 2) (n2 := 12) rfl rfl (Nat.le_of_ble_eq_true rfl) dX11_player_62 (kRP (fun r11 q12 => ?_))
        have f13 := zf hS0 q12 (k := 1) rfl
        refine gN7_1 hx hG q12 kf_RX11_175 rfl dX11_player_65 ?_
        exact j_iret hx hq.r rfl (by decide) (by decide) dX11_player_68 ⟨(s0 r11 1), rfl, rfl, rfl, (by omega)⟩
    · skip
      refine j_aload_n hx 0 dX11_player_33 rfl ?_
      refine g12_6 hx hG ha kf_RX11_48 dX11_player_34 ?_
      refine gN4_1 hx hG (zr (k := 6) (t2 := 4) hG ha rfl) kf_RX11_155 dX11_player_37 ?_
      refine j_iload_n hx 1 dX11_player_40 rfl ?_
      refine j_callV hx hG (c_X0_rowOf hst (gP G (gP G a 6) 1) x1) lk_RX11_187 (zr (k := 1) (t2 := 1) hG (zr (k := 6) (t2 := 4) hG ha rfl) rfl) (by decide) rfl rfl rfl rfl [.int (zI x1)] ⟨rfl, hG, hS0, (zr (k := 1) (t2 := 1) hG (zr (k := 6) (t2 := 4) hG ha rfl) rfl), (by omega)⟩ rfl rfl ⟨by decide, by decide⟩ ⟨by decide, by decide⟩ (k2 := 2) (n2 := 12) rfl rfl (Nat.le_of_ble_eq_true rfl) dX11_player_41 (kRP (fun r14 q15 => ?_))
      have f16 := zf hS0 q15 (k := 1) rfl
      refine gN7_1 hx hG q15 kf_RX11_175 rfl dX11_player_44 ?_
      exact j_iret hx hq.r rfl (by decide) (by decide) dX11_player_47 ⟨(s0 r14 1), rfl, rfl, rfl, (by omega)⟩
  · skip
    refine j_aload_n hx 0 dX11_player_18 rfl ?_
    refine g12_1 hx hG ha kf_RX11_19 dX11_player_19 ?_
    refine j_iload_n hx 1 dX11_player_22 rfl ?_
    refine j_iload_n hx 2 dX11_player_23 rfl ?_
    refine j_callV hx hG (c_X8_trait hst (gP G a 1) x1 x2) lk_RX11_184 (zr (k := 1) (t2 := 9) hG ha rfl) (by decide) rfl rfl rfl rfl [.int (zI x1), .int (zI x2)] ⟨rfl, hG, hS0, (zr (k := 1) (t2 := 9) hG ha rfl), (by omega), (by omega)⟩ rfl rfl ⟨by decide, by decide⟩ ⟨by decide, by decide⟩ (k2 := 2) (n2 := 12) rfl rfl (Nat.le_of_ble_eq_true rfl) dX11_player_24 (kIP (fun v17 q18 => ?_))
    exact j_iret hx hq.r rfl (by decide) (by decide) dX11_player_27 ⟨v17, rfl, rfl, rfl, (by omega)⟩

set_option maxHeartbeats 4000000 in
set_option maxRecDepth 20000 in
theorem c_X6_kindAt {E : zE} {l : Launch} (hst : l.stackTraces = false) (a : Nat) (x1 : Int) : Con E l yX6_kindAt cX6_kindAt 2 (some .int) { frames := 0, cells := 0, slots := 0, locals := 0 } (fun G s vs => vs = [.ref a, .int (zI x1)] ∧ zGK G ∧ zSK G s ∧ (gT G a = 7) ∧ ((-2147483648) ≤ x1 ∧ x1 ≤ 2147483647)) (fun G s _ => pI (fun r G2 s2 => G2 = G ∧ s2 = s ∧ ((-2147483648) ≤ r ∧ r ≤ 2147483647))) := by
  refine Con.mk hst (by decide) (fun G s vs h => by rw [h.1]; exact Nat.le_of_ble_eq_true rfl) ?_
  rintro X G s0 vs ⟨rfl, hG, hS0, ha, hx1⟩ rfl hx hq
  show JJ X E 2 G s0 0 0 [(0, .ref a), (1, .int (zI x1))] 0 []
  refine j_iload_n hx 1 dX6_kindAt_0 rfl ?_
  refine j_if_lt hx 32 dX6_kindAt_1 rfl (by omega) (fun h1 => ?_) (fun h1 => ?_)
  · skip
    refine j_iconst hx dX6_kindAt_32 ?_
    exact j_iret hx hq rfl (by decide) (by decide) dX6_kindAt_33 ⟨(-1), rfl, rfl, rfl, (by omega)⟩
  · skip
    refine j_iload_n hx 1 dX6_kindAt_4 rfl ?_
    refine j_aload_n hx 0 dX6_kindAt_5 rfl ?_
    have f2 := zf hS0 ha (k := 1) rfl
    refine g7_1 hx hG ha kf_RX6_15 rfl dX6_kindAt_6 ?_
    refine j_icmp_ge hx 32 dX6_kindAt_9 rfl (by omega) (by omega) (fun h3 => ?_) (fun h3 => ?_)
    · skip
      refine j_iconst hx dX6_kindAt_32 ?_
      exact j_iret hx hq rfl (by decide) (by decide) dX6_kindAt_33 ⟨(-1), rfl, rfl, rfl, (by omega)⟩
    · skip
      refine j_iload_n hx 1 dX6_kindAt_12 rfl ?_
      refine j_aload_n hx 0 dX6_kindAt_13 rfl ?_
      refine g7_0 hx hG ha kf_RX6_9 dX6_kindAt_14 ?_
      refine j_alen hx hG (zr (k := 0) (t2 := 41) hG ha rfl) (by decide) (by decide) (zlen hG (zr (k := 0) (t2 := 41) hG ha rfl) (n := 60) rfl rfl) dX6_kindAt_17 ?_
      refine j_icmp_ge hx 32 dX6_kindAt_18 rfl (by omega) ⟨by decide, by decide⟩ (fun h4 => absurd h4 (by omega)) (fun h4 => ?_)
      refine j_aload_n hx 0 dX6_kindAt_21 rfl ?_
      refine g7_0 hx hG ha kf_RX6_9 dX6_kindAt_22 ?_
      refine j_iload_n hx 1 dX6_kindAt_25 rfl ?_
      have f5 := zaI (j := (x1).toNat) hS0 (zr (k := 0) (t2 := 41) hG ha rfl) rfl (zlen hG (zr (k := 0) (t2 := 41) hG ha rfl) (n := 60) rfl rfl) (show 0 ≤ x1 by omega) (by omega) rfl
      refine j_iald hx hG (zr (k := 0) (t2 := 41) hG ha rfl) (by decide) rfl (zlen hG (zr (k := 0) (t2 := 41) hG ha rfl) (n := 60) rfl rfl) (by omega) (by omega) (j := (x1).toNat) rfl rfl dX6_kindAt_26 ?_
      refine j_iconst hx dX6_kindAt_27 ?_
      refine j_ishr hx 1 2 dX6_kindAt_28 (by omega) rfl (by decide) (by decide) (fun v6 f7 f8 f9 f10 => ?_)
      refine j_goto hx 33 dX6_kindAt_29 rfl ?_
      exact j_iret hx hq rfl (by decide) (by decide) dX6_kindAt_33 ⟨v6, rfl, rfl, rfl, (by omega)⟩

theorem lk_RX11_197 : LkV RX11 197 RX6 yX6_kindAt cX6_kindAt 2 (some .int) 1 := ⟨km_RX11_197, ki_yX6_kindAt, ks_RX6_yX6_kindAt, kn_RX6, kc_yX6_kindAt, rfl, by decide +kernel, by decide +kernel, by decide +kernel⟩
set_option maxHeartbeats 4000000 in
set_option maxRecDepth 20000 in
theorem c_X11_row {E : zE} {l : Launch} (hst : l.stackTraces = false) (a : Nat) (x1 : Int) (x2 : Int) : ConX E l yX11_row cX11_row 3 (some .int) { frames := 7, cells := 1, slots := 6, locals := 111 } (fun G s vs => vs = [.ref a, .int (zI x1), .int (zI x2)] ∧ zGK G ∧ zSK G s ∧ (gT G a = 12) ∧ ((-2147483648) ≤ x1 ∧ x1 ≤ 2147483647) ∧ ((-2147483648) ≤ x2 ∧ x2 ≤ 2147483647)) (fun G s _ => pI (fun r G2 s2 => G2 = G ∧ s2 = s ∧ ((-2147483648) ≤ r ∧ r ≤ 2147483647))) (fun G s _ Ex G2 s2 => G2 = G ∧ zSK G s2 ∧ zFr [12] G s s2 ∧ ((Ex = "java/util/NoSuchElementException" ∧ (True)))) := by
  refine ConX.mk hst (by decide) (fun G s vs h => by rw [h.1]; exact Nat.le_of_ble_eq_true rfl) ?_
  rintro X G s0 vs ⟨rfl, hG, hS0, ha, hx1, hx2⟩ rfl hx hq
  show JJ X E 3 G s0 0 0 [(0, .ref a), (1, .int (zI x1)), (2, .int (zI x2))] 0 []
  refine j_aload_n hx 0 dX11_row_0 rfl ?_
  refine j_iload_n hx 1 dX11_row_1 rfl ?_
  refine j_callVX hx hq hG (c_X11_needPlayer hst a x1) lk_RX11_134 ha (by decide) rfl rfl rfl rfl [.int (zI x1)] ⟨rfl, hG, hS0, ha, (by omega)⟩ rfl rfl ⟨by decide, by decide⟩ ⟨by decide, by decide⟩ (k2 := 1) (n2 := 6) rfl rfl (Nat.le_of_ble_eq_true rfl) ⟨by decide, by decide⟩ dX11_row_2 (by rintro Ex9 G9 s9 ⟨rfl, hS9, hF9, e9, c9⟩; exact ⟨rfl, hS9, (zFr_t zFr_rf hF9 (by decide)), ⟨e9, by first | trivial | omega⟩⟩) (kVP (fun q2 => ?_))
  refine j_aload_n hx 0 dX11_row_5 rfl ?_
  refine g12_6 hx hG ha kf_RX11_48 dX11_row_6 ?_
  refine gN4_1 hx hG (zr (k := 6) (t2 := 4) hG ha rfl) kf_RX11_155 dX11_row_9 ?_
  refine j_iload_n hx 1 dX11_row_12 rfl ?_
  refine j_callV hx hG (c_X0_rowOf hst (gP G (gP G a 6) 1) x1) lk_RX11_187 (zr (k := 1) (t2 := 1) hG (zr (k := 6) (t2 := 4) hG ha rfl) rfl) (by decide) rfl rfl rfl rfl [.int (zI x1)] ⟨rfl, hG, hS0, (zr (k := 1) (t2 := 1) hG (zr (k := 6) (t2 := 4) hG ha rfl) rfl), (by omega)⟩ rfl rfl ⟨by decide, by decide⟩ ⟨by decide, by decide⟩ (k2 := 1) (n2 := 6) rfl rfl (Nat.le_of_ble_eq_true rfl) dX11_row_13 (kRP (fun r3 q4 => ?_))
  refine j_iload_n hx 2 dX11_row_16 rfl ?_
  refine j_callV hx hG (c_X6_kindAt hst r3 x2) lk_RX11_197 q4 (by decide) rfl rfl rfl rfl [.int (zI x2)] ⟨rfl, hG, hS0, q4, (by omega)⟩ rfl rfl ⟨by decide, by decide⟩ ⟨by decide, by decide⟩ (k2 := 1) (n2 := 6) rfl rfl (Nat.le_of_ble_eq_true rfl) dX11_row_17 (kIP (fun v5 q6 => ?_))
  exact j_iret hx hq.r rfl (by decide) (by decide) dX11_row_20 ⟨v5, rfl, rfl, rfl, (by omega)⟩

set_option maxHeartbeats 4000000 in
set_option maxRecDepth 20000 in
theorem c_X11_heap {E : zE} {l : Launch} (hst : l.stackTraces = false) (a : Nat) (x1 : Int) (x2 : Int) : ConX E l yX11_heap cX11_heap 3 (some .int) { frames := 7, cells := 1, slots := 6, locals := 111 } (fun G s vs => vs = [.ref a, .int (zI x1), .int (zI x2)] ∧ zGK G ∧ zSK G s ∧ (gT G a = 12) ∧ ((-2147483648) ≤ x1 ∧ x1 ≤ 2147483647) ∧ ((-2147483648) ≤ x2 ∧ x2 ≤ 2147483647)) (fun G s _ => pI (fun r G2 s2 => G2 = G ∧ s2 = s ∧ ((-2147483648) ≤ r ∧ r ≤ 2147483647))) (fun G s _ Ex G2 s2 => G2 = G ∧ zSK G s2 ∧ zFr [12] G s s2 ∧ ((Ex = "java/util/NoSuchElementException" ∧ (True)))) := by
  refine ConX.mk hst (by decide) (fun G s vs h => by rw [h.1]; exact Nat.le_of_ble_eq_true rfl) ?_
  rintro X G s0 vs ⟨rfl, hG, hS0, ha, hx1, hx2⟩ rfl hx hq
  show JJ X E 3 G s0 0 0 [(0, .ref a), (1, .int (zI x1)), (2, .int (zI x2))] 0 []
  refine j_aload_n hx 0 dX11_heap_0 rfl ?_
  refine j_iload_n hx 1 dX11_heap_1 rfl ?_
  refine j_callVX hx hq hG (c_X11_needPlayer hst a x1) lk_RX11_134 ha (by decide) rfl rfl rfl rfl [.int (zI x1)] ⟨rfl, hG, hS0, ha, (by omega)⟩ rfl rfl ⟨by decide, by decide⟩ ⟨by decide, by decide⟩ (k2 := 1) (n2 := 6) rfl rfl (Nat.le_of_ble_eq_true rfl) ⟨by decide, by decide⟩ dX11_heap_2 (by rintro Ex9 G9 s9 ⟨rfl, hS9, hF9, e9, c9⟩; exact ⟨rfl, hS9, (zFr_t zFr_rf hF9 (by decide)), ⟨e9, by first | trivial | omega⟩⟩) (kVP (fun q2 => ?_))
  refine j_aload_n hx 0 dX11_heap_5 rfl ?_
  refine g12_6 hx hG ha kf_RX11_48 dX11_heap_6 ?_
  refine gN4_1 hx hG (zr (k := 6) (t2 := 4) hG ha rfl) kf_RX11_155 dX11_heap_9 ?_
  refine j_iload_n hx 1 dX11_heap_12 rfl ?_
  refine j_callV hx hG (c_X0_heapOf hst (gP G (gP G a 6) 1) x1) lk_RX11_191 (zr (k := 1) (t2 := 1) hG (zr (k := 6) (t2 := 4) hG ha rfl) rfl) (by decide) rfl rfl rfl rfl [.int (zI x1)] ⟨rfl, hG, hS0, (zr (k := 1) (t2 := 1) hG (zr (k := 6) (t2 := 4) hG ha rfl) rfl), (by omega)⟩ rfl rfl ⟨by decide, by decide⟩ ⟨by decide, by decide⟩ (k2 := 1) (n2 := 6) rfl rfl (Nat.le_of_ble_eq_true rfl) dX11_heap_13 (kRP (fun r3 q4 => ?_))
  refine j_iload_n hx 2 dX11_heap_16 rfl ?_
  refine j_callV hx hG (c_X6_kindAt hst r3 x2) lk_RX11_197 q4 (by decide) rfl rfl rfl rfl [.int (zI x2)] ⟨rfl, hG, hS0, q4, (by omega)⟩ rfl rfl ⟨by decide, by decide⟩ ⟨by decide, by decide⟩ (k2 := 1) (n2 := 6) rfl rfl (Nat.le_of_ble_eq_true rfl) dX11_heap_17 (kIP (fun v5 q6 => ?_))
  exact j_iret hx hq.r rfl (by decide) (by decide) dX11_heap_20 ⟨v5, rfl, rfl, rfl, (by omega)⟩

set_option maxHeartbeats 4000000 in
set_option maxRecDepth 20000 in
theorem c_X11_pool {E : zE} {l : Launch} (hst : l.stackTraces = false) (a : Nat) (x1 : Int) : Con E l yX11_pool cX11_pool 2 (some .int) { frames := 1, cells := 0, slots := 0, locals := 21 } (fun G s vs => vs = [.ref a, .int (zI x1)] ∧ zGK G ∧ zSK G s ∧ (gT G a = 12) ∧ ((-2147483648) ≤ x1 ∧ x1 ≤ 2147483647)) (fun G s _ => pI (fun r G2 s2 => G2 = G ∧ s2 = s ∧ ((-2147483648) ≤ r ∧ r ≤ 2147483647))) := by
  refine Con.mk hst (by decide) (fun G s vs h => by rw [h.1]; exact Nat.le_of_ble_eq_true rfl) ?_
  rintro X G s0 vs ⟨rfl, hG, hS0, ha, hx1⟩ rfl hx hq
  show JJ X E 2 G s0 0 0 [(0, .ref a), (1, .int (zI x1))] 0 []
  refine j_aload_n hx 0 dX11_pool_0 rfl ?_
  refine g12_6 hx hG ha kf_RX11_48 dX11_pool_1 ?_
  refine gN4_1 hx hG (zr (k := 6) (t2 := 4) hG ha rfl) kf_RX11_155 dX11_pool_4 ?_
  refine gN1_6 hx hG (zr (k := 1) (t2 := 1) hG (zr (k := 6) (t2 := 4) hG ha rfl) rfl) kf_RX11_171 dX11_pool_7 ?_
  refine j_iload_n hx 1 dX11_pool_10 rfl ?_
  refine j_callV hx hG (c_X6_kindAt hst (gP G (gP G (gP G a 6) 1) 6) x1) lk_RX11_197 (zr (k := 6) (t2 := 7) hG (zr (k := 1) (t2 := 1) hG (zr (k := 6) (t2 := 4) hG ha rfl) rfl) rfl) (by decide) rfl rfl rfl rfl [.int (zI x1)] ⟨rfl, hG, hS0, (zr (k := 6) (t2 := 7) hG (zr (k := 1) (t2 := 1) hG (zr (k := 6) (t2 := 4) hG ha rfl) rfl) rfl), (by omega)⟩ rfl rfl ⟨by decide, by decide⟩ ⟨by decide, by decide⟩ (k2 := 0) (n2 := 0) rfl rfl (Nat.le_of_ble_eq_true rfl) dX11_pool_11 (kIP (fun v1 q2 => ?_))
  exact j_iret hx hq rfl (by decide) (by decide) dX11_pool_14 ⟨v1, rfl, rfl, rfl, (by omega)⟩

set_option maxHeartbeats 4000000 in
set_option maxRecDepth 20000 in
theorem c_X6_cardAt {E : zE} {l : Launch} (hst : l.stackTraces = false) (a : Nat) (x1 : Int) : Con E l yX6_cardAt cX6_cardAt 2 (some .int) { frames := 0, cells := 0, slots := 0, locals := 0 } (fun G s vs => vs = [.ref a, .int (zI x1)] ∧ zGK G ∧ zSK G s ∧ (gT G a = 7) ∧ ((-2147483648) ≤ x1 ∧ x1 ≤ 2147483647)) (fun G s _ => pI (fun r G2 s2 => G2 = G ∧ s2 = s ∧ ((-2147483648) ≤ r ∧ r ≤ 2147483647))) := by
  refine Con.mk hst (by decide) (fun G s vs h => by rw [h.1]; exact Nat.le_of_ble_eq_true rfl) ?_
  rintro X G s0 vs ⟨rfl, hG, hS0, ha, hx1⟩ rfl hx hq
  show JJ X E 2 G s0 0 0 [(0, .ref a), (1, .int (zI x1))] 0 []
  refine j_iload_n hx 1 dX6_cardAt_0 rfl ?_
  refine j_if_lt hx 30 dX6_cardAt_1 rfl (by omega) (fun h1 => ?_) (fun h1 => ?_)
  · skip
    refine j_iconst hx dX6_cardAt_30 ?_
    exact j_iret hx hq rfl (by decide) (by decide) dX6_cardAt_31 ⟨(-1), rfl, rfl, rfl, (by omega)⟩
  · skip
    refine j_iload_n hx 1 dX6_cardAt_4 rfl ?_
    refine j_aload_n hx 0 dX6_cardAt_5 rfl ?_
    have f2 := zf hS0 ha (k := 1) rfl
    refine g7_1 hx hG ha kf_RX6_15 rfl dX6_cardAt_6 ?_
    refine j_icmp_ge hx 30 dX6_cardAt_9 rfl (by omega) (by omega) (fun h3 => ?_) (fun h3 => ?_)
    · skip
      refine j_iconst hx dX6_cardAt_30 ?_
      exact j_iret hx hq rfl (by decide) (by decide) dX6_cardAt_31 ⟨(-1), rfl, rfl, rfl, (by omega)⟩
    · skip
      refine j_iload_n hx 1 dX6_cardAt_12 rfl ?_
      refine j_aload_n hx 0 dX6_cardAt_13 rfl ?_
      refine g7_0 hx hG ha kf_RX6_9 dX6_cardAt_14 ?_
      refine j_alen hx hG (zr (k := 0) (t2 := 41) hG ha rfl) (by decide) (by decide) (zlen hG (zr (k := 0) (t2 := 41) hG ha rfl) (n := 60) rfl rfl) dX6_cardAt_17 ?_
      refine j_icmp_ge hx 30 dX6_cardAt_18 rfl (by omega) ⟨by decide, by decide⟩ (fun h4 => absurd h4 (by omega)) (fun h4 => ?_)
      refine j_aload_n hx 0 dX6_cardAt_21 rfl ?_
      refine g7_0 hx hG ha kf_RX6_9 dX6_cardAt_22 ?_
      refine j_iload_n hx 1 dX6_cardAt_25 rfl ?_
      have f5 := zaI (j := (x1).toNat) hS0 (zr (k := 0) (t2 := 41) hG ha rfl) rfl (zlen hG (zr (k := 0) (t2 := 41) hG ha rfl) (n := 60) rfl rfl) (show 0 ≤ x1 by omega) (by omega) rfl
      refine j_iald hx hG (zr (k := 0) (t2 := 41) hG ha rfl) (by decide) rfl (zlen hG (zr (k := 0) (t2 := 41) hG ha rfl) (n := 60) rfl rfl) (by omega) (by omega) (j := (x1).toNat) rfl rfl dX6_cardAt_26 ?_
      refine j_goto hx 31 dX6_cardAt_27 rfl ?_
      exact j_iret hx hq rfl (by decide) (by decide) dX6_cardAt_31 ⟨(s0 (gP G a 0) (x1).toNat), rfl, rfl, rfl, (by omega)⟩

theorem lk_RX11_200 : LkV RX11 200 RX6 yX6_cardAt cX6_cardAt 2 (some .int) 1 := ⟨km_RX11_200, ki_yX6_cardAt, ks_RX6_yX6_cardAt, kn_RX6, kc_yX6_cardAt, rfl, by decide +kernel, by decide +kernel, by decide +kernel⟩
set_option maxHeartbeats 4000000 in
set_option maxRecDepth 20000 in
theorem c_X11_lain {E : zE} {l : Launch} (hst : l.stackTraces = false) (a : Nat) (x1 : Int) (x2 : Int) : ConX E l yX11_lain cX11_lain 4 (some .int) { frames := 7, cells := 1, slots := 6, locals := 111 } (fun G s vs => vs = [.ref a, .int (zI x1), .int (zI x2)] ∧ zGK G ∧ zSK G s ∧ (gT G a = 12) ∧ ((-2147483648) ≤ x1 ∧ x1 ≤ 2147483647) ∧ ((-2147483648) ≤ x2 ∧ x2 ≤ 2147483647)) (fun G s _ => pI (fun r G2 s2 => G2 = G ∧ s2 = s ∧ ((-2147483648) ≤ r ∧ r ≤ 2147483647))) (fun G s _ Ex G2 s2 => G2 = G ∧ zSK G s2 ∧ zFr [12] G s s2 ∧ ((Ex = "java/util/NoSuchElementException" ∧ (True)))) := by
  refine ConX.mk hst (by decide) (fun G s vs h => by rw [h.1]; exact Nat.le_of_ble_eq_true rfl) ?_
  rintro X G s0 vs ⟨rfl, hG, hS0, ha, hx1, hx2⟩ rfl hx hq
  show JJ X E 4 G s0 0 0 [(0, .ref a), (1, .int (zI x1)), (2, .int (zI x2))] 0 []
  refine j_aload_n hx 0 dX11_lain_0 rfl ?_
  refine j_iload_n hx 1 dX11_lain_1 rfl ?_
  refine j_callVX hx hq hG (c_X11_needPlayer hst a x1) lk_RX11_134 ha (by decide) rfl rfl rfl rfl [.int (zI x1)] ⟨rfl, hG, hS0, ha, (by omega)⟩ rfl rfl ⟨by decide, by decide⟩ ⟨by decide, by decide⟩ (k2 := 1) (n2 := 6) rfl rfl (Nat.le_of_ble_eq_true rfl) ⟨by decide, by decide⟩ dX11_lain_2 (by rintro Ex9 G9 s9 ⟨rfl, hS9, hF9, e9, c9⟩; exact ⟨rfl, hS9, (zFr_t zFr_rf hF9 (by decide)), ⟨e9, by first | trivial | omega⟩⟩) (kVP (fun q2 => ?_))
  refine j_aload_n hx 0 dX11_lain_5 rfl ?_
  refine g12_6 hx hG ha kf_RX11_48 dX11_lain_6 ?_
  refine gN4_1 hx hG (zr (k := 6) (t2 := 4) hG ha rfl) kf_RX11_155 dX11_lain_9 ?_
  refine j_iload_n hx 1 dX11_lain_12 rfl ?_
  refine j_callV hx hG (c_X0_rowOf hst (gP G (gP G a 6) 1) x1) lk_RX11_187 (zr (k := 1) (t2 := 1) hG (zr (k := 6) (t2 := 4) hG ha rfl) rfl) (by decide) rfl rfl rfl rfl [.int (zI x1)] ⟨rfl, hG, hS0, (zr (k := 1) (t2 := 1) hG (zr (k := 6) (t2 := 4) hG ha rfl) rfl), (by omega)⟩ rfl rfl ⟨by decide, by decide⟩ ⟨by decide, by decide⟩ (k2 := 1) (n2 := 6) rfl rfl (Nat.le_of_ble_eq_true rfl) dX11_lain_13 (kRP (fun r3 q4 => ?_))
  refine j_iload_n hx 2 dX11_lain_16 rfl ?_
  refine j_callV hx hG (c_X6_cardAt hst r3 x2) lk_RX11_200 q4 (by decide) rfl rfl rfl rfl [.int (zI x2)] ⟨rfl, hG, hS0, q4, (by omega)⟩ rfl rfl ⟨by decide, by decide⟩ ⟨by decide, by decide⟩ (k2 := 1) (n2 := 6) rfl rfl (Nat.le_of_ble_eq_true rfl) dX11_lain_17 (kIP (fun v5 q6 => ?_))
  refine j_istore_n hx [(3, .int (zI v5)), (0, .ref a), (1, .int (zI x1)), (2, .int (zI x2))] dX11_lain_20 (by decide) rfl ?_
  refine j_iload_n hx 0 dX11_lain_21 rfl ?_
  refine j_iconst hx dX11_lain_22 ?_
  refine j_icmp_ne hx 30 dX11_lain_23 rfl (by omega) ⟨by decide, by decide⟩ (fun h7 => ?_) (fun h7 => ?_)
  · skip
    refine j_iload_n hx 0 dX11_lain_30 rfl ?_
    refine j_iconst hx dX11_lain_31 ?_
    refine j_iand hx dX11_lain_32 (by omega) ⟨by decide, by decide⟩ (fun v8 f9 f10 f11 f12 _ => ?_)
    exact j_iret hx hq.r rfl (by decide) (by decide) dX11_lain_33 ⟨v8, rfl, rfl, rfl, (by omega)⟩
  · skip
    refine j_iconst hx dX11_lain_26 ?_
    refine j_goto hx 33 dX11_lain_27 rfl ?_
    exact j_iret hx hq.r rfl (by decide) (by decide) dX11_lain_33 ⟨(-1), rfl, rfl, rfl, (by omega)⟩

set_option maxHeartbeats 4000000 in
set_option maxRecDepth 20000 in
theorem c_X6_topKind {E : zE} {l : Launch} (hst : l.stackTraces = false) (a : Nat) : Con E l yX6_topKind cX6_topKind 1 (some .int) { frames := 0, cells := 0, slots := 0, locals := 0 } (fun G s vs => vs = [.ref a] ∧ zGK G ∧ zSK G s ∧ (gT G a = 7)) (fun G s _ => pI (fun r G2 s2 => G2 = G ∧ s2 = s ∧ ((-2147483648) ≤ r ∧ r ≤ 2147483647))) := by
  refine Con.mk hst (by decide) (fun G s vs h => by rw [h.1]; exact Nat.le_of_ble_eq_true rfl) ?_
  rintro X G s0 vs ⟨rfl, hG, hS0, ha⟩ rfl hx hq
  show JJ X E 1 G s0 0 0 [(0, .ref a)] 0 []
  refine j_aload_n hx 0 dX6_topKind_0 rfl ?_
  have f1 := zf hS0 ha (k := 1) rfl
  refine g7_1 hx hG ha kf_RX6_15 rfl dX6_topKind_1 ?_
  refine j_if_le hx 35 dX6_topKind_4 rfl (by omega) (fun h2 => ?_) (fun h2 => ?_)
  · skip
    refine j_iconst hx dX6_topKind_35 ?_
    exact j_iret hx hq rfl (by decide) (by decide) dX6_topKind_36 ⟨(-1), rfl, rfl, rfl, (by omega)⟩
  · skip
    refine j_aload_n hx 0 dX6_topKind_7 rfl ?_
    refine g7_1 hx hG ha kf_RX6_15 rfl dX6_topKind_8 ?_
    refine j_aload_n hx 0 dX6_topKind_11 rfl ?_
    refine g7_0 hx hG ha kf_RX6_9 dX6_topKind_12 ?_
    refine j_alen hx hG (zr (k := 0) (t2 := 41) hG ha rfl) (by decide) (by decide) (zlen hG (zr (k := 0) (t2 := 41) hG ha rfl) (n := 60) rfl rfl) dX6_topKind_15 ?_
    refine j_icmp_gt hx 35 dX6_topKind_16 rfl (by omega) ⟨by decide, by decide⟩ (fun h3 => absurd h3 (by omega)) (fun h3 => ?_)
    refine j_aload_n hx 0 dX6_topKind_19 rfl ?_
    refine g7_0 hx hG ha kf_RX6_9 dX6_topKind_20 ?_
    refine j_aload_n hx 0 dX6_topKind_23 rfl ?_
    refine g7_1 hx hG ha kf_RX6_15 rfl dX6_topKind_24 ?_
    refine j_iconst hx dX6_topKind_27 ?_
    refine j_isub hx (r := (s0 a 1) - 1) dX6_topKind_28 (by omega) ?_
    have f4 := zaI (j := ((s0 a 1) - 1).toNat) hS0 (zr (k := 0) (t2 := 41) hG ha rfl) rfl (zlen hG (zr (k := 0) (t2 := 41) hG ha rfl) (n := 60) rfl rfl) (show 0 ≤ (s0 a 1) - 1 by omega) (by omega) rfl
    refine j_iald hx hG (zr (k := 0) (t2 := 41) hG ha rfl) (by decide) rfl (zlen hG (zr (k := 0) (t2 := 41) hG ha rfl) (n := 60) rfl rfl) (by omega) (by omega) (j := ((s0 a 1) - 1).toNat) rfl rfl dX6_topKind_29 ?_
    refine j_iconst hx dX6_topKind_30 ?_
    refine j_ishr hx 1 2 dX6_topKind_31 (by omega) rfl (by decide) (by decide) (fun v5 f6 f7 f8 f9 => ?_)
    refine j_goto hx 36 dX6_topKind_32 rfl ?_
    exact j_iret hx hq rfl (by decide) (by decide) dX6_topKind_36 ⟨v5, rfl, rfl, rfl, (by omega)⟩
