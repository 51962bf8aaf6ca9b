theorem lk_RX0_75 : LkV RX0 75 RX6 yX6_topKind cX6_topKind 1 (some .int) 0 := ⟨km_RX0_75, ki_yX6_topKind, ks_RX6_yX6_topKind, kn_RX6, kc_yX6_topKind, rfl, by decide +kernel, by decide +kernel, by decide +kernel⟩
set_option maxHeartbeats 4000000 in
set_option maxRecDepth 20000 in
theorem c_X0_likeTopsIf {E : zE} {l : Launch} (hst : l.stackTraces = false) (a : Nat) (x1 : Int) (x2 : Int) : Con E l yX0_likeTopsIf cX0_likeTopsIf 6 (some .int) { frames := 1, cells := 0, slots := 0, locals := 20 } (fun G s vs => vs = [.ref a, .int (zI x1), .int (zI x2)] ∧ zGK G ∧ zSK G s ∧ (gT G a = 1) ∧ ((-2147483648) ≤ x1 ∧ x1 ≤ 2147483647) ∧ ((-2147483648) ≤ x2 ∧ x2 ≤ 2147483647)) (fun G s _ => pI (fun r G2 s2 => G2 = G ∧ s2 = s ∧ ((-2147483648) ≤ r ∧ r ≤ 2147483647))) := by
  refine Con.mk hst (by decide) (fun G s vs h => by rw [h.1]; exact Nat.le_of_ble_eq_true rfl) ?_
  rintro X G s0 vs ⟨rfl, hG, hS0, ha, hx1, hx2⟩ rfl hx hq
  show JJ X E 6 G s0 0 0 [(0, .ref a), (1, .int (zI x1)), (2, .int (zI x2))] 0 []
  refine j_iload_n hx 1 dX0_likeTopsIf_0 rfl ?_
  have c15_1 : ∀ (v1 : Int), ((-2147483648) ≤ v1 ∧ v1 ≤ 2147483647) → JJ X E 6 G s0 0 0 [(0, .ref a), (1, .int (zI x1)), (2, .int (zI x2))] 15 [.int (zI v1)] := by
    intro v1 fA2
    refine j_istore_n hx [(3, .int (zI v1)), (0, .ref a), (1, .int (zI x1)), (2, .int (zI x2))] dX0_likeTopsIf_15 (by decide) rfl ?_
    refine j_iload_n hx 2 dX0_likeTopsIf_16 rfl ?_
    refine j_iconst hx dX0_likeTopsIf_17 ?_
    have c32_3 : ∀ (v2 : Int), ((-2147483648) ≤ v2 ∧ v2 ≤ 2147483647) → JJ X E 6 G s0 0 0 [(0, .ref a), (1, .int (zI x1)), (2, .int (zI x2)), (3, .int (zI v1))] 32 [.int (zI v2)] := by
      intro v2 fA4
      refine j_istore hx [(4, .int (zI v2)), (0, .ref a), (1, .int (zI x1)), (2, .int (zI x2)), (3, .int (zI v1))] dX0_likeTopsIf_32 (by decide) rfl ?_
      refine j_iload_n hx 2 dX0_likeTopsIf_34 rfl ?_
      refine j_iconst hx dX0_likeTopsIf_35 ?_
      have c50_5 : ∀ (v3 : Int), ((-2147483648) ≤ v3 ∧ v3 ≤ 2147483647) → JJ X E 6 G s0 0 0 [(3, .int (zI v1)), (4, .int (zI v2))] 50 [.int (zI v3)] := by
        intro v3 fA6
        refine j_istore hx [(5, .int (zI v3)), (3, .int (zI v1)), (4, .int (zI v2))] dX0_likeTopsIf_50 (by decide) rfl ?_
        refine j_iload_n hx 1 dX0_likeTopsIf_52 rfl ?_
        refine j_iconst hx dX0_likeTopsIf_53 ?_
        have c65_7 : JJ X E 6 G s0 0 0 [(3, .int (zI v1)), (4, .int (zI v2)), (5, .int (zI v3))] 65 [] := by
          refine j_iload_n hx 0 dX0_likeTopsIf_65 rfl ?_
          refine j_iconst hx dX0_likeTopsIf_66 ?_
          have c78_8 : JJ X E 6 G s0 0 0 [(4, .int (zI v2)), (5, .int (zI v3))] 78 [] := by
            refine j_iload hx 0 dX0_likeTopsIf_78 rfl ?_
            refine j_iconst hx dX0_likeTopsIf_80 ?_
            refine j_icmp_eq hx 96 dX0_likeTopsIf_81 rfl (by omega) ⟨by decide, by decide⟩ (fun h4 => ?_) (fun h4 => ?_)
            · skip
              refine j_iconst hx dX0_likeTopsIf_96 ?_
              exact j_iret hx hq rfl (by decide) (by decide) dX0_likeTopsIf_97 ⟨(-1), rfl, rfl, rfl, (by omega)⟩
            · skip
              refine j_iload hx 0 dX0_likeTopsIf_84 rfl ?_
              refine j_iload hx 1 dX0_likeTopsIf_86 rfl ?_
              refine j_icmp_ne hx 96 dX0_likeTopsIf_88 rfl (by omega) (by omega) (fun h5 => ?_) (fun h5 => ?_)
              · skip
                refine j_iconst hx dX0_likeTopsIf_96 ?_
                exact j_iret hx hq rfl (by decide) (by decide) dX0_likeTopsIf_97 ⟨(-1), rfl, rfl, rfl, (by omega)⟩
              · skip
                refine j_bipush hx dX0_likeTopsIf_91 rfl ?_
                refine j_goto hx 97 dX0_likeTopsIf_93 rfl ?_
                exact j_iret hx hq rfl (by decide) (by decide) dX0_likeTopsIf_97 ⟨12, rfl, rfl, rfl, (by omega)⟩
          refine j_icmp_eq hx 78 dX0_likeTopsIf_67 rfl (by omega) ⟨by decide, by decide⟩ (fun h6 => ?_) (fun h6 => ?_)
          · skip
            exact j_sub [1, 2] [(4, .int (zI v2)), (5, .int (zI v3))] rfl (c78_8  )
          · skip
            refine j_iload_n hx 0 dX0_likeTopsIf_70 rfl ?_
            refine j_iload hx 2 dX0_likeTopsIf_71 rfl ?_
            refine j_icmp_ne hx 78 dX0_likeTopsIf_73 rfl (by omega) (by omega) (fun h7 => ?_) (fun h7 => ?_)
            · skip
              exact j_sub [1, 2] [(4, .int (zI v2)), (5, .int (zI v3))] rfl (c78_8  )
            · skip
              refine j_iconst hx dX0_likeTopsIf_76 ?_
              exact j_iret hx hq rfl (by decide) (by decide) dX0_likeTopsIf_77 ⟨2, rfl, rfl, rfl, (by omega)⟩
        refine j_icmp_eq hx 65 dX0_likeTopsIf_54 rfl (by omega) ⟨by decide, by decide⟩ (fun h8 => ?_) (fun h8 => ?_)
        · skip
          exact j_sub [1, 2, 0] [(3, .int (zI v1)), (4, .int (zI v2)), (5, .int (zI v3))] rfl (c65_7  )
        · skip
          refine j_iload_n hx 1 dX0_likeTopsIf_57 rfl ?_
          refine j_iload hx 2 dX0_likeTopsIf_58 rfl ?_
          refine j_icmp_ne hx 65 dX0_likeTopsIf_60 rfl (by omega) (by omega) (fun h9 => ?_) (fun h9 => ?_)
          · skip
            exact j_sub [1, 2, 0] [(3, .int (zI v1)), (4, .int (zI v2)), (5, .int (zI v3))] rfl (c65_7  )
          · skip
            refine j_iconst hx dX0_likeTopsIf_63 ?_
            exact j_iret hx hq rfl (by decide) (by decide) dX0_likeTopsIf_64 ⟨1, rfl, rfl, rfl, (by omega)⟩
      refine j_icmp_ne hx 43 dX0_likeTopsIf_36 rfl (by omega) ⟨by decide, by decide⟩ (fun h10 => ?_) (fun h10 => ?_)
      · skip
        refine j_aload_n hx 1 dX0_likeTopsIf_43 rfl ?_
        refine g1_5 hx hG ha kf_RX0_30 dX0_likeTopsIf_44 ?_
        refine j_callV hx hG (c_X6_topKind hst (gP G a 5)) lk_RX0_75 (zr (k := 5) (t2 := 7) hG ha rfl) (by decide) rfl rfl rfl rfl [] ⟨rfl, hG, hS0, (zr (k := 5) (t2 := 7) hG ha rfl)⟩ rfl rfl ⟨by decide, by decide⟩ ⟨by decide, by decide⟩ (k2 := 0) (n2 := 0) rfl rfl (Nat.le_of_ble_eq_true rfl) dX0_likeTopsIf_47 (kIP (fun v11 q12 => ?_))
        exact j_sub [4, 0] [(3, .int (zI v1)), (4, .int (zI v2))] rfl (c50_5 v11 (by omega))
      · skip
        refine j_iload_n hx 3 dX0_likeTopsIf_39 rfl ?_
        refine j_goto hx 50 dX0_likeTopsIf_40 rfl ?_
        exact j_sub [4, 0] [(3, .int (zI v1)), (4, .int (zI v2))] rfl (c50_5 x2 (by omega))
    refine j_icmp_ne hx 25 dX0_likeTopsIf_18 rfl (by omega) ⟨by decide, by decide⟩ (fun h13 => ?_) (fun h13 => ?_)
    · skip
      refine j_aload_n hx 1 dX0_likeTopsIf_25 rfl ?_
      refine g1_4 hx hG ha kf_RX0_27 dX0_likeTopsIf_26 ?_
      refine j_callV hx hG (c_X6_topKind hst (gP G a 4)) lk_RX0_75 (zr (k := 4) (t2 := 7) hG ha rfl) (by decide) rfl rfl rfl rfl [] ⟨rfl, hG, hS0, (zr (k := 4) (t2 := 7) hG ha rfl)⟩ rfl rfl ⟨by decide, by decide⟩ ⟨by decide, by decide⟩ (k2 := 0) (n2 := 0) rfl rfl (Nat.le_of_ble_eq_true rfl) dX0_likeTopsIf_29 (kIP (fun v14 q15 => ?_))
      exact j_sub [1, 2, 3, 0] [(0, .ref a), (1, .int (zI x1)), (2, .int (zI x2)), (3, .int (zI v1))] rfl (c32_3 v14 (by omega))
    · skip
      refine j_iload_n hx 3 dX0_likeTopsIf_21 rfl ?_
      refine j_goto hx 32 dX0_likeTopsIf_22 rfl ?_
      exact j_sub [1, 2, 3, 0] [(0, .ref a), (1, .int (zI x1)), (2, .int (zI x2)), (3, .int (zI v1))] rfl (c32_3 x2 (by omega))
  refine j_if_ne hx 8 dX0_likeTopsIf_1 rfl (by omega) (fun h16 => ?_) (fun h16 => ?_)
  · skip
    refine j_aload_n hx 0 dX0_likeTopsIf_8 rfl ?_
    refine g1_3 hx hG ha kf_RX0_24 dX0_likeTopsIf_9 ?_
    refine j_callV hx hG (c_X6_topKind hst (gP G a 3)) lk_RX0_75 (zr (k := 3) (t2 := 7) hG ha rfl) (by decide) rfl rfl rfl rfl [] ⟨rfl, hG, hS0, (zr (k := 3) (t2 := 7) hG ha rfl)⟩ rfl rfl ⟨by decide, by decide⟩ ⟨by decide, by decide⟩ (k2 := 0) (n2 := 0) rfl rfl (Nat.le_of_ble_eq_true rfl) dX0_likeTopsIf_12 (kIP (fun v17 q18 => ?_))
    exact j_sub [0, 1, 2] [(0, .ref a), (1, .int (zI x1)), (2, .int (zI x2))] rfl (c15_1 v17 (by omega))
  · skip
    refine j_iload_n hx 2 dX0_likeTopsIf_4 rfl ?_
    refine j_goto hx 15 dX0_likeTopsIf_5 rfl ?_
    exact j_sub [0, 1, 2] [(0, .ref a), (1, .int (zI x1)), (2, .int (zI x2))] rfl (c15_1 x2 (by omega))

theorem lk_RX0_72 : LkV RX0 72 RX0 yX0_likeTopsIf cX0_likeTopsIf 6 (some .int) 2 := ⟨km_RX0_72, ki_yX0_likeTopsIf, ks_RX0_yX0_likeTopsIf, kn_RX0, kc_yX0_likeTopsIf, rfl, by decide +kernel, by decide +kernel, by decide +kernel⟩
set_option maxHeartbeats 4000000 in
set_option maxRecDepth 20000 in
theorem c_X0_likeTops {E : zE} {l : Launch} (hst : l.stackTraces = false) (a : Nat) : Con E l yX0_likeTops cX0_likeTops 1 (some .int) { frames := 2, cells := 0, slots := 0, locals := 45 } (fun G s vs => vs = [.ref a] ∧ zGK G ∧ zSK G s ∧ (gT G a = 1)) (fun G s _ => pI (fun r G2 s2 => G2 = G ∧ s2 = s ∧ ((-2147483648) ≤ r ∧ r ≤ 2147483647))) := by
  refine Con.mk hst (by decide) (fun G s vs h => by rw [h.1]; exact Nat.le_of_ble_eq_true rfl) ?_
  rintro X G s0 vs ⟨rfl, hG, hS0, ha⟩ rfl hx hq
  show JJ X E 1 G s0 0 0 [(0, .ref a)] 0 []
  refine j_aload_n hx 0 dX0_likeTops_0 rfl ?_
  refine j_iconst hx dX0_likeTops_1 ?_
  refine j_iconst hx dX0_likeTops_2 ?_
  refine j_callV hx hG (c_X0_likeTopsIf hst a (-1) (-1)) lk_RX0_72 ha (by decide) rfl rfl rfl rfl [.int (zI (-1)), .int (zI (-1))] ⟨rfl, hG, hS0, ha, (by omega), (by omega)⟩ rfl rfl ⟨by decide, by decide⟩ ⟨by decide, by decide⟩ (k2 := 0) (n2 := 0) rfl rfl (Nat.le_of_ble_eq_true rfl) dX0_likeTops_3 (kIP (fun v1 q2 => ?_))
  exact j_iret hx hq rfl (by decide) (by decide) dX0_likeTops_6 ⟨v1, rfl, rfl, rfl, (by omega)⟩

theorem lk_RX11_203 : LkV RX11 203 RX0 yX0_likeTops cX0_likeTops 1 (some .int) 0 := ⟨km_RX11_203, ki_yX0_likeTops, ks_RX0_yX0_likeTops, kn_RX0, kc_yX0_likeTops, rfl, by decide +kernel, by decide +kernel, by decide +kernel⟩
set_option maxHeartbeats 4000000 in
set_option maxRecDepth 20000 in
theorem c_X11_alike {E : zE} {l : Launch} (hst : l.stackTraces = false) (a : Nat) : Con E l yX11_alike cX11_alike 1 (some .int) { frames := 3, cells := 0, slots := 0, locals := 65 } (fun G s vs => vs = [.ref a] ∧ zGK G ∧ zSK G s ∧ (gT G a = 12)) (fun G s _ => pI (fun r G2 s2 => G2 = G ∧ s2 = s ∧ ((-2147483648) ≤ r ∧ r ≤ 2147483647))) := by
  refine Con.mk hst (by decide) (fun G s vs h => by rw [h.1]; exact Nat.le_of_ble_eq_true rfl) ?_
  rintro X G s0 vs ⟨rfl, hG, hS0, ha⟩ rfl hx hq
  show JJ X E 1 G s0 0 0 [(0, .ref a)] 0 []
  refine j_aload_n hx 0 dX11_alike_0 rfl ?_
  refine g12_6 hx hG ha kf_RX11_48 dX11_alike_1 ?_
  refine gN4_1 hx hG (zr (k := 6) (t2 := 4) hG ha rfl) kf_RX11_155 dX11_alike_4 ?_
  refine j_callV hx hG (c_X0_likeTops hst (gP G (gP G a 6) 1)) lk_RX11_203 (zr (k := 1) (t2 := 1) hG (zr (k := 6) (t2 := 4) hG ha rfl) rfl) (by decide) rfl rfl rfl rfl [] ⟨rfl, hG, hS0, (zr (k := 1) (t2 := 1) hG (zr (k := 6) (t2 := 4) hG ha rfl) rfl)⟩ rfl rfl ⟨by decide, by decide⟩ ⟨by decide, by decide⟩ (k2 := 0) (n2 := 0) rfl rfl (Nat.le_of_ble_eq_true rfl) dX11_alike_7 (kIP (fun v1 q2 => ?_))
  exact j_iret hx hq rfl (by decide) (by decide) dX11_alike_10 ⟨v1, rfl, rfl, rfl, (by omega)⟩

set_option maxHeartbeats 4000000 in
set_option maxRecDepth 20000 in
theorem c_X0_twins {E : zE} {l : Launch} (hst : l.stackTraces = false) (a : Nat) : Con E l yX0_twins cX0_twins 5 (some .int) { frames := 1, cells := 0, slots := 0, locals := 20 } (fun G s vs => vs = [.ref a] ∧ zGK G ∧ zSK G s ∧ (gT G a = 1)) (fun G s _ => pI (fun r G2 s2 => G2 = G ∧ s2 = s ∧ ((-2147483648) ≤ r ∧ r ≤ 2147483647))) := by
  refine Con.mk hst (by decide) (fun G s vs h => by rw [h.1]; exact Nat.le_of_ble_eq_true rfl) ?_
  rintro X G s0 vs ⟨rfl, hG, hS0, ha⟩ rfl hx hq
  show JJ X E 5 G s0 0 0 [(0, .ref a)] 0 []
  refine j_aload_n hx 0 dX0_twins_0 rfl ?_
  refine g1_3 hx hG ha kf_RX0_24 dX0_twins_1 ?_
  refine j_callV hx hG (c_X6_topKind hst (gP G a 3)) lk_RX0_75 (zr (k := 3) (t2 := 7) hG ha rfl) (by decide) rfl rfl rfl rfl [] ⟨rfl, hG, hS0, (zr (k := 3) (t2 := 7) hG ha rfl)⟩ rfl rfl ⟨by decide, by decide⟩ ⟨by decide, by decide⟩ (k2 := 0) (n2 := 0) rfl rfl (Nat.le_of_ble_eq_true rfl) dX0_twins_4 (kIP (fun v1 q2 => ?_))
  refine j_istore_n hx [(1, .int (zI v1)), (0, .ref a)] dX0_twins_7 (by decide) rfl ?_
  refine j_aload_n hx 1 dX0_twins_8 rfl ?_
  refine g1_4 hx hG ha kf_RX0_27 dX0_twins_9 ?_
  refine j_callV hx hG (c_X6_topKind hst (gP G a 4)) lk_RX0_75 (zr (k := 4) (t2 := 7) hG ha rfl) (by decide) rfl rfl rfl rfl [] ⟨rfl, hG, hS0, (zr (k := 4) (t2 := 7) hG ha rfl)⟩ rfl rfl ⟨by decide, by decide⟩ ⟨by decide, by decide⟩ (k2 := 0) (n2 := 0) rfl rfl (Nat.le_of_ble_eq_true rfl) dX0_twins_12 (kIP (fun v3 q4 => ?_))
  refine j_istore_n hx [(2, .int (zI v3)), (1, .int (zI v1)), (0, .ref a)] dX0_twins_15 (by decide) rfl ?_
  refine j_aload_n hx 2 dX0_twins_16 rfl ?_
  refine g1_5 hx hG ha kf_RX0_30 dX0_twins_17 ?_
  refine j_callV hx hG (c_X6_topKind hst (gP G a 5)) lk_RX0_75 (zr (k := 5) (t2 := 7) hG ha rfl) (by decide) rfl rfl rfl rfl [] ⟨rfl, hG, hS0, (zr (k := 5) (t2 := 7) hG ha rfl)⟩ rfl rfl ⟨by decide, by decide⟩ ⟨by decide, by decide⟩ (k2 := 0) (n2 := 0) rfl rfl (Nat.le_of_ble_eq_true rfl) dX0_twins_20 (kIP (fun v5 q6 => ?_))
  refine j_istore_n hx [(3, .int (zI v5)), (2, .int (zI v3)), (1, .int (zI v1)), (0, .ref a)] dX0_twins_23 (by decide) rfl ?_
  refine j_iload_n hx 2 dX0_twins_24 rfl ?_
  refine j_iconst hx dX0_twins_25 ?_
  have c39_1 : ∀ (v7 : Int), (0 ≤ v7 ∧ v7 ≤ 3) → JJ X E 5 G s0 0 0 [(1, .int (zI v1)), (2, .int (zI v3)), (3, .int (zI v5))] 39 [.int (zI v7)] := by
    intro v7 fA2
    refine j_istore hx [(4, .int (zI v7)), (1, .int (zI v1)), (2, .int (zI v3)), (3, .int (zI v5))] dX0_twins_39 (by decide) rfl ?_
    refine j_iload hx 0 dX0_twins_41 rfl ?_
    refine j_iload_n hx 1 dX0_twins_43 rfl ?_
    refine j_iconst hx dX0_twins_44 ?_
    have c58_3 : ∀ (v8 : Int), (0 ≤ v8 ∧ v8 ≤ 5) → JJ X E 5 G s0 0 0 [(2, .int (zI v3)), (3, .int (zI v5))] 58 [.int (zI v8), .int (zI v7)] := by
      intro v8 fA4
      refine j_ior hx dX0_twins_58 (fun v9 f10 f11 => ?_)
      refine j_istore hx [(4, .int (zI v9)), (2, .int (zI v3)), (3, .int (zI v5))] dX0_twins_59 (by decide) rfl ?_
      refine j_iload_n hx 1 dX0_twins_61 rfl ?_
      refine j_iconst hx dX0_twins_62 ?_
      refine j_icmp_eq hx 79 dX0_twins_63 rfl (by omega) ⟨by decide, by decide⟩ (fun h12 => ?_) (fun h12 => ?_)
      · skip
        refine j_iload hx 0 dX0_twins_79 rfl ?_
        exact j_iret hx hq rfl (by decide) (by decide) dX0_twins_81 ⟨v9, rfl, rfl, rfl, (by omega)⟩
      · skip
        refine j_iload_n hx 1 dX0_twins_66 rfl ?_
        refine j_iload_n hx 2 dX0_twins_67 rfl ?_
        refine j_icmp_ne hx 79 dX0_twins_68 rfl (by omega) (by omega) (fun h13 => ?_) (fun h13 => ?_)
        · skip
          refine j_iload hx 0 dX0_twins_79 rfl ?_
          exact j_iret hx hq rfl (by decide) (by decide) dX0_twins_81 ⟨v9, rfl, rfl, rfl, (by omega)⟩
        · skip
          refine j_iload hx 0 dX0_twins_71 rfl ?_
          refine j_bipush hx dX0_twins_73 rfl ?_
          refine j_ior hx dX0_twins_75 (fun v14 f15 f16 => ?_)
          refine j_goto hx 81 dX0_twins_76 rfl ?_
          exact j_iret hx hq rfl (by decide) (by decide) dX0_twins_81 ⟨v14, rfl, rfl, rfl, (by omega)⟩
    have c57_5 : JJ X E 5 G s0 0 0 [(2, .int (zI v3)), (3, .int (zI v5))] 57 [.int (zI v7)] := by
      refine j_iconst hx dX0_twins_57 ?_
      exact j_sub [0, 1] [(2, .int (zI v3)), (3, .int (zI v5))] rfl (c58_3 0 (by omega))
    refine j_icmp_eq hx 57 dX0_twins_45 rfl (by omega) ⟨by decide, by decide⟩ (fun h17 => ?_) (fun h17 => ?_)
    · skip
      exact j_sub [2, 3] [(2, .int (zI v3)), (3, .int (zI v5))] rfl (c57_5  )
    · skip
      refine j_iload_n hx 1 dX0_twins_48 rfl ?_
      refine j_iload_n hx 3 dX0_twins_49 rfl ?_
      refine j_icmp_ne hx 57 dX0_twins_50 rfl (by omega) (by omega) (fun h18 => ?_) (fun h18 => ?_)
      · skip
        exact j_sub [2, 3] [(2, .int (zI v3)), (3, .int (zI v5))] rfl (c57_5  )
      · skip
        refine j_iconst hx dX0_twins_53 ?_
        refine j_goto hx 58 dX0_twins_54 rfl ?_
        exact j_sub [2, 3] [(2, .int (zI v3)), (3, .int (zI v5))] rfl (c58_3 5 (by omega))
  have c38_6 : JJ X E 5 G s0 0 0 [(1, .int (zI v1)), (2, .int (zI v3)), (3, .int (zI v5))] 38 [] := by
    refine j_iconst hx dX0_twins_38 ?_
    exact j_sub [0, 1, 2] [(1, .int (zI v1)), (2, .int (zI v3)), (3, .int (zI v5))] rfl (c39_1 0 (by omega))
  refine j_icmp_eq hx 38 dX0_twins_26 rfl (by omega) ⟨by decide, by decide⟩ (fun h19 => ?_) (fun h19 => ?_)
  · skip
    exact j_sub [2, 1, 0] [(1, .int (zI v1)), (2, .int (zI v3)), (3, .int (zI v5))] rfl (c38_6  )
  · skip
    refine j_iload_n hx 2 dX0_twins_29 rfl ?_
    refine j_iload_n hx 1 dX0_twins_30 rfl ?_
    refine j_icmp_ne hx 38 dX0_twins_31 rfl (by omega) (by omega) (fun h20 => ?_) (fun h20 => ?_)
    · skip
      exact j_sub [2, 1, 0] [(1, .int (zI v1)), (2, .int (zI v3)), (3, .int (zI v5))] rfl (c38_6  )
    · skip
      refine j_iconst hx dX0_twins_34 ?_
      refine j_goto hx 39 dX0_twins_35 rfl ?_
      exact j_sub [2, 1, 0] [(1, .int (zI v1)), (2, .int (zI v3)), (3, .int (zI v5))] rfl (c39_1 3 (by omega))

theorem lk_RX3_78 : LkV RX3 78 RX0 yX0_likeTops cX0_likeTops 1 (some .int) 0 := ⟨km_RX3_78, ki_yX0_likeTops, ks_RX0_yX0_likeTops, kn_RX0, kc_yX0_likeTops, rfl, by decide +kernel, by decide +kernel, by decide +kernel⟩
theorem lk_RX3_82 : LkV RX3 82 RX0 yX0_twins cX0_twins 5 (some .int) 0 := ⟨km_RX3_82, ki_yX0_twins, ks_RX0_yX0_twins, kn_RX0, kc_yX0_twins, rfl, by decide +kernel, by decide +kernel, by decide +kernel⟩
theorem lk_RX3_96 : LkV RX3 96 RX0 yX0_likeTopsIf cX0_likeTopsIf 6 (some .int) 2 := ⟨km_RX3_96, ki_yX0_likeTopsIf, ks_RX0_yX0_likeTopsIf, kn_RX0, kc_yX0_likeTopsIf, rfl, by decide +kernel, by decide +kernel, by decide +kernel⟩
theorem lk_RX3_87 : LkV RX3 87 RX0 yX0_rowOf cX0_rowOf 2 (some (.object "SnapHeaps$Pile")) 1 := ⟨km_RX3_87, ki_yX0_rowOf, ks_RX0_yX0_rowOf, kn_RX0, kc_yX0_rowOf, rfl, by decide +kernel, by decide +kernel, by decide +kernel⟩
theorem lk_RX3_91 : LkV RX3 91 RX6 yX6_cardAt cX6_cardAt 2 (some .int) 1 := ⟨km_RX3_91, ki_yX6_cardAt, ks_RX6_yX6_cardAt, kn_RX6, kc_yX6_cardAt, rfl, by decide +kernel, by decide +kernel, by decide +kernel⟩
set_option maxHeartbeats 4000000 in
set_option maxRecDepth 20000 in
theorem c_X3_look {E : zE} {l : Launch} (hst : l.stackTraces = false) (a : Nat) (x1 : Int) : Con E l yX3_look cX3_look 3 none { frames := 3, cells := 0, slots := 0, locals := 65 } (fun G s vs => vs = [.ref a, .int (zI x1)] ∧ zGK G ∧ zSK G s ∧ (gT G a = 4) ∧ ((-2147483648) ≤ x1 ∧ x1 ≤ 2147483647)) (fun G s _ => pV (fun G2 s2 => G2 = G ∧ zSK G s2 ∧ zFr [4] G s s2 ∧ True)) := by
  refine Con.mk hst (by decide) (fun G s vs h => by rw [h.1]; exact Nat.le_of_ble_eq_true rfl) ?_
  rintro X G s0 vs ⟨rfl, hG, hS0, ha, hx1⟩ rfl hx hq
  show JJ X E 3 G s0 0 0 [(0, .ref a), (1, .int (zI x1))] 0 []
  refine j_aload_n hx 0 dX3_look_0 rfl ?_
  refine j_aload_n hx 0 dX3_look_1 rfl ?_
  refine g4_1 hx hG ha kf_RX3_14 dX3_look_2 ?_
  refine j_callV hx hG (c_X0_likeTops hst (gP G a 1)) lk_RX3_78 (zr (k := 1) (t2 := 1) hG ha rfl) (by decide) rfl rfl rfl rfl [] ⟨rfl, hG, hS0, (zr (k := 1) (t2 := 1) hG ha rfl)⟩ rfl rfl ⟨by decide, by decide⟩ ⟨by decide, by decide⟩ (k2 := 0) (n2 := 0) rfl rfl (Nat.le_of_ble_eq_true rfl) dX3_look_5 (kIP (fun v1 q2 => ?_))
  refine p4_11 hx hG ha kf_RX3_37 dX3_look_8 ?_
  obtain ⟨s1, e_s1⟩ : ∃ z, z = zU s0 a 11 v1 := ⟨_, rfl⟩
  rw [← e_s1]
  have hS_s1 : zSK G s1 := by rw [e_s1]; exact zSK_F hS0 ha rfl rfl rfl (by omega)
  refine j_aload_n hx 0 dX3_look_11 rfl ?_
  refine j_aload_n hx 0 dX3_look_12 rfl ?_
  refine g4_1 hx hG ha kf_RX3_14 dX3_look_13 ?_
  refine j_callV hx hG (c_X0_twins hst (gP G a 1)) lk_RX3_82 (zr (k := 1) (t2 := 1) hG ha rfl) (by decide) rfl rfl rfl rfl [] ⟨rfl, hG, hS_s1, (zr (k := 1) (t2 := 1) hG ha rfl)⟩ rfl rfl ⟨by decide, by decide⟩ ⟨by decide, by decide⟩ (k2 := 0) (n2 := 0) rfl rfl (Nat.le_of_ble_eq_true rfl) dX3_look_16 (kIP (fun v3 q4 => ?_))
  refine p4_12 hx hG ha kf_RX3_85 dX3_look_19 ?_
  obtain ⟨s2, e_s2⟩ : ∃ z, z = zU s1 a 12 v3 := ⟨_, rfl⟩
  rw [← e_s2]
  have hS_s2 : zSK G s2 := by rw [e_s2]; exact zSK_F hS_s1 ha rfl rfl rfl (by omega)
  refine j_iload_n hx 1 dX3_look_22 rfl ?_
  refine j_iconst hx dX3_look_23 ?_
  have c43_3 : ∀ (v5 : Int), ((-2147483648) ≤ v5 ∧ v5 ≤ 2147483647) → JJ X E 3 G s2 0 0 [(0, .ref a), (1, .int (zI x1))] 43 [.int (zI v5)] := by
    intro v5 fA4
    refine j_istore_n hx [(2, .int (zI v5)), (0, .ref a), (1, .int (zI x1))] dX3_look_43 (by decide) rfl ?_
    refine j_aload_n hx 1 dX3_look_44 rfl ?_
    refine j_iload_n hx 0 dX3_look_45 rfl ?_
    refine j_iconst hx dX3_look_46 ?_
    refine j_icmp_eq hx 76 dX3_look_47 rfl (by omega) ⟨by decide, by decide⟩ (fun h6 => ?_) (fun h6 => ?_)
    · skip
      refine j_iconst hx dX3_look_76 ?_
      refine p4_13 hx hG ha kf_RX3_100 (by omega) dX3_look_77 ?_
      obtain ⟨s5, e_s5⟩ : ∃ z, z = zU s2 a 13 0 := ⟨_, rfl⟩
      rw [← e_s5]
      have hS_s5 : zSK G s5 := by rw [e_s5]; exact zSK_F hS_s2 ha rfl rfl rfl (by omega)
      exact j_vret hx hq rfl (by decide) (by decide) dX3_look_80 ⟨rfl, rfl, hS_s5, (zFr_u (zFr_u (zFr_u zFr_rf e_s1 ha (by decide)) e_s2 ha (by decide)) e_s5 ha (by decide)), trivial⟩
    · skip
      refine j_iload_n hx 0 dX3_look_50 rfl ?_
      refine j_iconst hx dX3_look_51 ?_
      refine j_iand hx dX3_look_52 (by omega) ⟨by decide, by decide⟩ (fun v7 f8 f9 f10 f11 _ => ?_)
      refine j_iconst hx dX3_look_53 ?_
      refine j_icmp_ne hx 76 dX3_look_54 rfl (by omega) ⟨by decide, by decide⟩ (fun h13 => ?_) (fun h13 => ?_)
      · skip
        refine j_iconst hx dX3_look_76 ?_
        refine p4_13 hx hG ha kf_RX3_100 (by omega) dX3_look_77 ?_
        obtain ⟨s6, e_s6⟩ : ∃ z, z = zU s2 a 13 0 := ⟨_, rfl⟩
        rw [← e_s6]
        have hS_s6 : zSK G s6 := by rw [e_s6]; exact zSK_F hS_s2 ha rfl rfl rfl (by omega)
        exact j_vret hx hq rfl (by decide) (by decide) dX3_look_80 ⟨rfl, rfl, hS_s6, (zFr_u (zFr_u (zFr_u zFr_rf e_s1 ha (by decide)) e_s2 ha (by decide)) e_s6 ha (by decide)), trivial⟩
      · skip
        refine j_aload_n hx 1 dX3_look_57 rfl ?_
        refine g4_1 hx hG ha kf_RX3_14 dX3_look_58 ?_
        refine j_iload_n hx 2 dX3_look_61 rfl ?_
        refine j_iload_n hx 0 dX3_look_62 rfl ?_
        refine j_iconst hx dX3_look_63 ?_
        refine j_ishr hx 1 2 dX3_look_64 (by omega) rfl (by decide) (by decide) (fun v14 f15 f16 f17 f18 => ?_)
        refine j_callV hx hG (c_X0_likeTopsIf hst (gP G a 1) x1 v14) lk_RX3_96 (zr (k := 1) (t2 := 1) hG ha rfl) (by decide) rfl rfl rfl rfl [.int (zI x1), .int (zI v14)] ⟨rfl, hG, hS_s2, (zr (k := 1) (t2 := 1) hG ha rfl), (by omega), (by omega)⟩ rfl rfl ⟨by decide, by decide⟩ ⟨by decide, by decide⟩ (k2 := 0) (n2 := 0) rfl rfl (Nat.le_of_ble_eq_true rfl) dX3_look_65 (kIP (fun v19 q20 => ?_))
        refine j_iconst hx dX3_look_68 ?_
        refine j_icmp_eq hx 76 dX3_look_69 rfl (by omega) ⟨by decide, by decide⟩ (fun h21 => ?_) (fun h21 => ?_)
        · skip
          refine j_iconst hx dX3_look_76 ?_
          refine p4_13 hx hG ha kf_RX3_100 (by omega) dX3_look_77 ?_
          obtain ⟨s7, e_s7⟩ : ∃ z, z = zU s2 a 13 0 := ⟨_, rfl⟩
          rw [← e_s7]
          have hS_s7 : zSK G s7 := by rw [e_s7]; exact zSK_F hS_s2 ha rfl rfl rfl (by omega)
          exact j_vret hx hq rfl (by decide) (by decide) dX3_look_80 ⟨rfl, rfl, hS_s7, (zFr_u (zFr_u (zFr_u zFr_rf e_s1 ha (by decide)) e_s2 ha (by decide)) e_s7 ha (by decide)), trivial⟩
        · skip
          refine j_iconst hx dX3_look_72 ?_
          refine j_goto hx 77 dX3_look_73 rfl ?_
          refine p4_13 hx hG ha kf_RX3_100 (by omega) dX3_look_77 ?_
          obtain ⟨s8, e_s8⟩ : ∃ z, z = zU s2 a 13 1 := ⟨_, rfl⟩
          rw [← e_s8]
          have hS_s8 : zSK G s8 := by rw [e_s8]; exact zSK_F hS_s2 ha rfl rfl rfl (by omega)
          exact j_vret hx hq rfl (by decide) (by decide) dX3_look_80 ⟨rfl, rfl, hS_s8, (zFr_u (zFr_u (zFr_u zFr_rf e_s1 ha (by decide)) e_s2 ha (by decide)) e_s8 ha (by decide)), trivial⟩
  refine j_icmp_ne hx 31 dX3_look_24 rfl (by omega) ⟨by decide, by decide⟩ (fun h22 => ?_) (fun h22 => ?_)
  · skip
    refine j_aload_n hx 0 dX3_look_31 rfl ?_
    refine g4_1 hx hG ha kf_RX3_14 dX3_look_32 ?_
    refine j_iload_n hx 1 dX3_look_35 rfl ?_
    refine j_callV hx hG (c_X0_rowOf hst (gP G a 1) x1) lk_RX3_87 (zr (k := 1) (t2 := 1) hG ha rfl) (by decide) rfl rfl rfl rfl [.int (zI x1)] ⟨rfl, hG, hS_s2, (zr (k := 1) (t2 := 1) hG ha rfl), (by omega)⟩ rfl rfl ⟨by decide, by decide⟩ ⟨by decide, by decide⟩ (k2 := 0) (n2 := 0) rfl rfl (Nat.le_of_ble_eq_true rfl) dX3_look_36 (kRP (fun r23 q24 => ?_))
    refine j_iconst hx dX3_look_39 ?_
    refine j_callV hx hG (c_X6_cardAt hst r23 0) lk_RX3_91 q24 (by decide) rfl rfl rfl rfl [.int (zI 0)] ⟨rfl, hG, hS_s2, q24, (by omega)⟩ rfl rfl ⟨by decide, by decide⟩ ⟨by decide, by decide⟩ (k2 := 0) (n2 := 0) rfl rfl (Nat.le_of_ble_eq_true rfl) dX3_look_40 (kIP (fun v25 q26 => ?_))
    exact j_sub [0, 1] [(0, .ref a), (1, .int (zI x1))] rfl (c43_3 v25 (by omega))
  · skip
    refine j_iconst hx dX3_look_27 ?_
    refine j_goto hx 43 dX3_look_28 rfl ?_
    exact j_sub [0, 1] [(0, .ref a), (1, .int (zI x1))] rfl (c43_3 (-1) (by omega))

theorem lk_RX3_107 : LkV RX3 107 RX0 yX0_heapOf cX0_heapOf 2 (some (.object "SnapHeaps$Pile")) 1 := ⟨km_RX3_107, ki_yX0_heapOf, ks_RX0_yX0_heapOf, kn_RX0, kc_yX0_heapOf, rfl, by decide +kernel, by decide +kernel, by decide +kernel⟩
theorem lk_RX3_110 : LkV RX3 110 RX6 yX6_topKind cX6_topKind 1 (some .int) 0 := ⟨km_RX3_110, ki_yX6_topKind, ks_RX6_yX6_topKind, kn_RX6, kc_yX6_topKind, rfl, by decide +kernel, by decide +kernel, by decide +kernel⟩
theorem lk_RX3_113 : LkV RX3 113 RX8 yX8_trait cX8_trait 4 (some .int) 2 := ⟨km_RX3_113, ki_yX8_trait, ks_RX8_yX8_trait, kn_RX8, kc_yX8_trait, rfl, by decide +kernel, by decide +kernel, by decide +kernel⟩
set_option maxHeartbeats 4000000 in
set_option maxRecDepth 20000 in
theorem c_X3_fact {E : zE} {l : Launch} (hst : l.stackTraces = false) (a : Nat) (x1 : Int) (x2 : Int) (x3 : Int) : Con E l yX3_fact cX3_fact 6 (some .boolean) { frames := 1, cells := 0, slots := 0, locals := 23 } (fun G s vs => vs = [.ref a, .int (zI x1), .int (zI x2), .int (zI x3)] ∧ zGK G ∧ zSK G s ∧ (gT G a = 4) ∧ ((-2147483648) ≤ x1 ∧ x1 ≤ 2147483647) ∧ ((-2147483648) ≤ x2 ∧ x2 ≤ 2147483647) ∧ ((-2147483648) ≤ x3 ∧ x3 ≤ 2147483647)) (fun G s _ => pI (fun r G2 s2 => G2 = G ∧ s2 = s ∧ (0 ≤ r ∧ r ≤ 1))) := by
  refine Con.mk hst (by decide) (fun G s vs h => by rw [h.1]; exact Nat.le_of_ble_eq_true rfl) ?_
  rintro X G s0 vs ⟨rfl, hG, hS0, ha, hx1, hx2, hx3⟩ rfl hx hq
  show JJ X E 6 G s0 0 0 [(0, .ref a), (1, .int (zI x1)), (2, .int (zI x2)), (3, .int (zI x3))] 0 []
  refine j_aload_n hx 0 dX3_fact_0 rfl ?_
  refine g4_1 hx hG ha kf_RX3_14 dX3_fact_1 ?_
  refine j_iload_n hx 3 dX3_fact_4 rfl ?_
  refine j_callV hx hG (c_X0_heapOf hst (gP G a 1) x3) lk_RX3_107 (zr (k := 1) (t2 := 1) hG ha rfl) (by decide) rfl rfl rfl rfl [.int (zI x3)] ⟨rfl, hG, hS0, (zr (k := 1) (t2 := 1) hG ha rfl), (by omega)⟩ rfl rfl ⟨by decide, by decide⟩ ⟨by decide, by decide⟩ (k2 := 0) (n2 := 0) rfl rfl (Nat.le_of_ble_eq_true rfl) dX3_fact_5 (kRP (fun r1 q2 => ?_))
  refine j_callV hx hG (c_X6_topKind hst r1) lk_RX3_110 q2 (by decide) rfl rfl rfl rfl [] ⟨rfl, hG, hS0, q2⟩ rfl rfl ⟨by decide, by decide⟩ ⟨by decide, by decide⟩ (k2 := 0) (n2 := 0) rfl rfl (Nat.le_of_ble_eq_true rfl) dX3_fact_8 (kIP (fun v3 q4 => ?_))
  refine j_istore hx [(4, .int (zI v3)), (0, .ref a), (1, .int (zI x1)), (2, .int (zI x2)), (3, .int (zI x3))] dX3_fact_11 (by decide) rfl ?_
  refine j_iload_n hx 2 dX3_fact_13 rfl ?_
  have h5 : (x1 = 0) ∨ (x1 = 1) ∨ (x1 = 2) ∨ (x1 = 3) ∨ (x1 = 4) ∨ (x1 = 5) ∨ (x1 = 6) ∨ (x1 = 7) ∨ (x1 = 8) ∨ (x1 = 9) ∨ (x1 < 0 ∨ 9 < x1) := by omega
  rcases h5 with h5 | h5 | h5 | h5 | h5 | h5 | h5 | h5 | h5 | h5 | h5
  · skip
    refine j_switchIn hx 68 dX3_fact_14 (by omega) (by omega) (by omega) (by rw [h5]; rfl) rfl ?_
    refine j_aload_n hx 1 dX3_fact_68 rfl ?_
    have f6 := zf hS0 ha (k := 11) rfl
    refine g4_11 hx hG ha kf_RX3_37 rfl dX3_fact_69 ?_
    refine j_iconst hx dX3_fact_72 ?_
    refine j_icmp_eq hx 80 dX3_fact_73 rfl (by omega) ⟨by decide, by decide⟩ (fun h7 => ?_) (fun h7 => ?_)
    · skip
      refine j_iconst hx dX3_fact_80 ?_
      exact j_zret hx hq rfl (by decide) (by decide) dX3_fact_81 (by omega) ⟨0, rfl, rfl, rfl, (by omega)⟩
    · skip
      refine j_iconst hx dX3_fact_76 ?_
      refine j_goto hx 81 dX3_fact_77 rfl ?_
      exact j_zret hx hq rfl (by decide) (by decide) dX3_fact_81 (by omega) ⟨1, rfl, rfl, rfl, (by omega)⟩
  · skip
    refine j_switchIn hx 82 dX3_fact_14 (by omega) (by omega) (by omega) (by rw [h5]; rfl) rfl ?_
    refine j_aload_n hx 1 dX3_fact_82 rfl ?_
    have f8 := zf hS0 ha (k := 12) rfl
    refine g4_12 hx hG ha kf_RX3_85 rfl dX3_fact_83 ?_
    refine j_iload_n hx 4 dX3_fact_86 rfl ?_
    refine j_ishrV hx dX3_fact_87 (fun v9 f10 f11 => ?_)
    refine j_iconst hx dX3_fact_88 ?_
    refine j_iand hx dX3_fact_89 (by omega) ⟨by decide, by decide⟩ (fun v12 f13 f14 f15 f16 _ => ?_)
    refine j_iconst hx dX3_fact_90 ?_
    refine j_icmp_ne hx 98 dX3_fact_91 rfl (by omega) ⟨by decide, by decide⟩ (fun h18 => ?_) (fun h18 => ?_)
    · skip
      refine j_iconst hx dX3_fact_98 ?_
      exact j_zret hx hq rfl (by decide) (by decide) dX3_fact_99 (by omega) ⟨0, rfl, rfl, rfl, (by omega)⟩
    · skip
      refine j_iconst hx dX3_fact_94 ?_
      refine j_goto hx 99 dX3_fact_95 rfl ?_
      exact j_zret hx hq rfl (by decide) (by decide) dX3_fact_99 (by omega) ⟨1, rfl, rfl, rfl, (by omega)⟩
  · skip
    refine j_switchIn hx 100 dX3_fact_14 (by omega) (by omega) (by omega) (by rw [h5]; rfl) rfl ?_
    refine j_iload hx 0 dX3_fact_100 rfl ?_
    refine j_iload_n hx 3 dX3_fact_102 rfl ?_
    refine j_icmp_ne hx 110 dX3_fact_103 rfl (by omega) (by omega) (fun h19 => ?_) (fun h19 => ?_)
    · skip
      refine j_iconst hx dX3_fact_110 ?_
      exact j_zret hx hq rfl (by decide) (by decide) dX3_fact_111 (by omega) ⟨0, rfl, rfl, rfl, (by omega)⟩
    · skip
      refine j_iconst hx dX3_fact_106 ?_
      refine j_goto hx 111 dX3_fact_107 rfl ?_
      exact j_zret hx hq rfl (by decide) (by decide) dX3_fact_111 (by omega) ⟨1, rfl, rfl, rfl, (by omega)⟩
  · skip
    refine j_switchIn hx 112 dX3_fact_14 (by omega) (by omega) (by omega) (by rw [h5]; rfl) rfl ?_
    refine j_aload_n hx 1 dX3_fact_112 rfl ?_
    refine g4_1 hx hG ha kf_RX3_14 dX3_fact_113 ?_
    refine j_iload_n hx 4 dX3_fact_116 rfl ?_
    refine j_callV hx hG (c_X0_rowOf hst (gP G a 1) x3) lk_RX3_87 (zr (k := 1) (t2 := 1) hG ha rfl) (by decide) rfl rfl rfl rfl [.int (zI x3)] ⟨rfl, hG, hS0, (zr (k := 1) (t2 := 1) hG ha rfl), (by omega)⟩ rfl rfl ⟨by decide, by decide⟩ ⟨by decide, by decide⟩ (k2 := 0) (n2 := 0) rfl rfl (Nat.le_of_ble_eq_true rfl) dX3_fact_117 (kRP (fun r20 q21 => ?_))
    refine j_iconst hx dX3_fact_120 ?_
    refine j_callV hx hG (c_X6_cardAt hst r20 0) lk_RX3_91 q21 (by decide) rfl rfl rfl rfl [.int (zI 0)] ⟨rfl, hG, hS0, q21, (by omega)⟩ rfl rfl ⟨by decide, by decide⟩ ⟨by decide, by decide⟩ (k2 := 0) (n2 := 0) rfl rfl (Nat.le_of_ble_eq_true rfl) dX3_fact_121 (kIP (fun v22 q23 => ?_))
    refine j_iload_n hx 3 dX3_fact_124 rfl ?_
    refine j_iconst hx dX3_fact_125 ?_
    refine j_imul hx (r := 2 * x2) dX3_fact_126 (by omega) ?_
    refine j_norm (fun v24 f25 f26 f27 => ?_)
    refine j_iconst hx dX3_fact_127 ?_
    refine j_iadd hx (r := v24 + 1) dX3_fact_128 rfl ?_
    refine j_norm (fun v28 f29 f30 f31 => ?_)
    refine j_icmp_ne hx 149 dX3_fact_129 rfl (by omega) (by omega) (fun h32 => ?_) (fun h32 => ?_)
    · skip
      refine j_iconst hx dX3_fact_149 ?_
      exact j_zret hx hq rfl (by decide) (by decide) dX3_fact_150 (by omega) ⟨0, rfl, rfl, rfl, (by omega)⟩
    · skip
      refine j_aload_n hx 1 dX3_fact_132 rfl ?_
      refine g4_0 hx hG ha kf_RX3_41 dX3_fact_133 ?_
      refine j_iload_n hx 4 dX3_fact_136 rfl ?_
      refine j_iconst hx dX3_fact_137 ?_
      refine j_callV hx hG (c_X8_trait hst (gP G a 0) x3 1) lk_RX3_113 (zr (k := 0) (t2 := 9) hG ha rfl) (by decide) rfl rfl rfl rfl [.int (zI x3), .int (zI 1)] ⟨rfl, hG, hS0, (zr (k := 0) (t2 := 9) hG ha rfl), (by omega), (by omega)⟩ rfl rfl ⟨by decide, by decide⟩ ⟨by decide, by decide⟩ (k2 := 0) (n2 := 0) rfl rfl (Nat.le_of_ble_eq_true rfl) dX3_fact_138 (kIP (fun v33 q34 => ?_))
      refine j_iconst hx dX3_fact_141 ?_
      refine j_icmp_lt hx 149 dX3_fact_142 rfl (by omega) ⟨by decide, by decide⟩ (fun h35 => ?_) (fun h35 => ?_)
      · skip
        refine j_iconst hx dX3_fact_149 ?_
        exact j_zret hx hq rfl (by decide) (by decide) dX3_fact_150 (by omega) ⟨0, rfl, rfl, rfl, (by omega)⟩
      · skip
        refine j_iconst hx dX3_fact_145 ?_
        refine j_goto hx 150 dX3_fact_146 rfl ?_
        exact j_zret hx hq rfl (by decide) (by decide) dX3_fact_150 (by omega) ⟨1, rfl, rfl, rfl, (by omega)⟩
  · skip
    refine j_switchIn hx 151 dX3_fact_14 (by omega) (by omega) (by omega) (by rw [h5]; rfl) rfl ?_
    refine j_aload_n hx 1 dX3_fact_151 rfl ?_
    have f36 := zf hS0 ha (k := 13) rfl
    refine g4_13 hx hG ha kf_RX3_100 rfl dX3_fact_152 ?_
    refine j_if_eq hx 175 dX3_fact_155 rfl (by omega) (fun h37 => ?_) (fun h37 => ?_)
    · skip
      refine j_iconst hx dX3_fact_175 ?_
      exact j_zret hx hq rfl (by decide) (by decide) dX3_fact_176 (by omega) ⟨0, rfl, rfl, rfl, (by omega)⟩
    · skip
      refine j_aload_n hx 1 dX3_fact_158 rfl ?_
      refine g4_0 hx hG ha kf_RX3_41 dX3_fact_159 ?_
      refine j_iload_n hx 4 dX3_fact_162 rfl ?_
      refine j_iconst hx dX3_fact_163 ?_
      refine j_callV hx hG (c_X8_trait hst (gP G a 0) x3 1) lk_RX3_113 (zr (k := 0) (t2 := 9) hG ha rfl) (by decide) rfl rfl rfl rfl [.int (zI x3), .int (zI 1)] ⟨rfl, hG, hS0, (zr (k := 0) (t2 := 9) hG ha rfl), (by omega), (by omega)⟩ rfl rfl ⟨by decide, by decide⟩ ⟨by decide, by decide⟩ (k2 := 0) (n2 := 0) rfl rfl (Nat.le_of_ble_eq_true rfl) dX3_fact_164 (kIP (fun v38 q39 => ?_))
      refine j_iconst hx dX3_fact_167 ?_
      refine j_icmp_lt hx 175 dX3_fact_168 rfl (by omega) ⟨by decide, by decide⟩ (fun h40 => ?_) (fun h40 => ?_)
      · skip
        refine j_iconst hx dX3_fact_175 ?_
        exact j_zret hx hq rfl (by decide) (by decide) dX3_fact_176 (by omega) ⟨0, rfl, rfl, rfl, (by omega)⟩
      · skip
        refine j_iconst hx dX3_fact_171 ?_
        refine j_goto hx 176 dX3_fact_172 rfl ?_
        exact j_zret hx hq rfl (by decide) (by decide) dX3_fact_176 (by omega) ⟨1, rfl, rfl, rfl, (by omega)⟩
  · skip
    refine j_switchIn hx 177 dX3_fact_14 (by omega) (by omega) (by omega) (by rw [h5]; rfl) rfl ?_
    refine j_aload_n hx 1 dX3_fact_177 rfl ?_
    refine g4_1 hx hG ha kf_RX3_14 dX3_fact_178 ?_
    refine j_iload_n hx 4 dX3_fact_181 rfl ?_
    refine j_callV hx hG (c_X0_heapOf hst (gP G a 1) x3) lk_RX3_107 (zr (k := 1) (t2 := 1) hG ha rfl) (by decide) rfl rfl rfl rfl [.int (zI x3)] ⟨rfl, hG, hS0, (zr (k := 1) (t2 := 1) hG ha rfl), (by omega)⟩ rfl rfl ⟨by decide, by decide⟩ ⟨by decide, by decide⟩ (k2 := 0) (n2 := 0) rfl rfl (Nat.le_of_ble_eq_true rfl) dX3_fact_182 (kRP (fun r41 q42 => ?_))
    have f43 := zf hS0 q42 (k := 1) rfl
    refine gN7_1 hx hG q42 kf_RX3_116 rfl dX3_fact_185 ?_
    refine j_iload_n hx 3 dX3_fact_188 rfl ?_
    refine j_icmp_ge hx 196 dX3_fact_189 rfl (by omega) (by omega) (fun h44 => ?_) (fun h44 => ?_)
    · skip
      refine j_iconst hx dX3_fact_196 ?_
      exact j_zret hx hq rfl (by decide) (by decide) dX3_fact_197 (by omega) ⟨0, rfl, rfl, rfl, (by omega)⟩
    · skip
      refine j_iconst hx dX3_fact_192 ?_
      refine j_goto hx 197 dX3_fact_193 rfl ?_
      exact j_zret hx hq rfl (by decide) (by decide) dX3_fact_197 (by omega) ⟨1, rfl, rfl, rfl, (by omega)⟩
  · skip
    refine j_switchIn hx 198 dX3_fact_14 (by omega) (by omega) (by omega) (by rw [h5]; rfl) rfl ?_
    refine j_aload_n hx 1 dX3_fact_198 rfl ?_
    refine g4_1 hx hG ha kf_RX3_14 dX3_fact_199 ?_
    refine j_iload_n hx 4 dX3_fact_202 rfl ?_
    refine j_callV hx hG (c_X0_heapOf hst (gP G a 1) x3) lk_RX3_107 (zr (k := 1) (t2 := 1) hG ha rfl) (by decide) rfl rfl rfl rfl [.int (zI x3)] ⟨rfl, hG, hS0, (zr (k := 1) (t2 := 1) hG ha rfl), (by omega)⟩ rfl rfl ⟨by decide, by decide⟩ ⟨by decide, by decide⟩ (k2 := 0) (n2 := 0) rfl rfl (Nat.le_of_ble_eq_true rfl) dX3_fact_203 (kRP (fun r45 q46 => ?_))
    have f47 := zf hS0 q46 (k := 1) rfl
    refine gN7_1 hx hG q46 kf_RX3_116 rfl dX3_fact_206 ?_
    refine j_iload_n hx 3 dX3_fact_209 rfl ?_
    refine j_icmp_le hx 217 dX3_fact_210 rfl (by omega) (by omega) (fun h48 => ?_) (fun h48 => ?_)
    · skip
      refine j_iconst hx dX3_fact_217 ?_
      exact j_zret hx hq rfl (by decide) (by decide) dX3_fact_218 (by omega) ⟨0, rfl, rfl, rfl, (by omega)⟩
    · skip
      refine j_iconst hx dX3_fact_213 ?_
      refine j_goto hx 218 dX3_fact_214 rfl ?_
      exact j_zret hx hq rfl (by decide) (by decide) dX3_fact_218 (by omega) ⟨1, rfl, rfl, rfl, (by omega)⟩
  · skip
    refine j_switchIn hx 219 dX3_fact_14 (by omega) (by omega) (by omega) (by rw [h5]; rfl) rfl ?_
    refine j_aload_n hx 1 dX3_fact_219 rfl ?_
    refine g4_1 hx hG ha kf_RX3_14 dX3_fact_220 ?_
    refine j_iload_n hx 4 dX3_fact_223 rfl ?_
    refine j_callV hx hG (c_X0_rowOf hst (gP G a 1) x3) lk_RX3_87 (zr (k := 1) (t2 := 1) hG ha rfl) (by decide) rfl rfl rfl rfl [.int (zI x3)] ⟨rfl, hG, hS0, (zr (k := 1) (t2 := 1) hG ha rfl), (by omega)⟩ rfl rfl ⟨by decide, by decide⟩ ⟨by decide, by decide⟩ (k2 := 0) (n2 := 0) rfl rfl (Nat.le_of_ble_eq_true rfl) dX3_fact_224 (kRP (fun r49 q50 => ?_))
    have f51 := zf hS0 q50 (k := 1) rfl
    refine gN7_1 hx hG q50 kf_RX3_116 rfl dX3_fact_227 ?_
    refine j_iload_n hx 3 dX3_fact_230 rfl ?_
    refine j_icmp_ge hx 238 dX3_fact_231 rfl (by omega) (by omega) (fun h52 => ?_) (fun h52 => ?_)
    · skip
      refine j_iconst hx dX3_fact_238 ?_
      exact j_zret hx hq rfl (by decide) (by decide) dX3_fact_239 (by omega) ⟨0, rfl, rfl, rfl, (by omega)⟩
    · skip
      refine j_iconst hx dX3_fact_234 ?_
      refine j_goto hx 239 dX3_fact_235 rfl ?_
      exact j_zret hx hq rfl (by decide) (by decide) dX3_fact_239 (by omega) ⟨1, rfl, rfl, rfl, (by omega)⟩
  · skip
    refine j_switchIn hx 240 dX3_fact_14 (by omega) (by omega) (by omega) (by rw [h5]; rfl) rfl ?_
    refine j_aload_n hx 1 dX3_fact_240 rfl ?_
    refine g4_1 hx hG ha kf_RX3_14 dX3_fact_241 ?_
    refine j_iload_n hx 4 dX3_fact_244 rfl ?_
    refine j_callV hx hG (c_X0_rowOf hst (gP G a 1) x3) lk_RX3_87 (zr (k := 1) (t2 := 1) hG ha rfl) (by decide) rfl rfl rfl rfl [.int (zI x3)] ⟨rfl, hG, hS0, (zr (k := 1) (t2 := 1) hG ha rfl), (by omega)⟩ rfl rfl ⟨by decide, by decide⟩ ⟨by decide, by decide⟩ (k2 := 0) (n2 := 0) rfl rfl (Nat.le_of_ble_eq_true rfl) dX3_fact_245 (kRP (fun r53 q54 => ?_))
    have f55 := zf hS0 q54 (k := 1) rfl
    refine gN7_1 hx hG q54 kf_RX3_116 rfl dX3_fact_248 ?_
    refine j_iload_n hx 3 dX3_fact_251 rfl ?_
    refine j_icmp_le hx 259 dX3_fact_252 rfl (by omega) (by omega) (fun h56 => ?_) (fun h56 => ?_)
    · skip
      refine j_iconst hx dX3_fact_259 ?_
      exact j_zret hx hq rfl (by decide) (by decide) dX3_fact_260 (by omega) ⟨0, rfl, rfl, rfl, (by omega)⟩
    · skip
      refine j_iconst hx dX3_fact_255 ?_
      refine j_goto hx 260 dX3_fact_256 rfl ?_
      exact j_zret hx hq rfl (by decide) (by decide) dX3_fact_260 (by omega) ⟨1, rfl, rfl, rfl, (by omega)⟩
  · skip
    refine j_switchIn hx 261 dX3_fact_14 (by omega) (by omega) (by omega) (by rw [h5]; rfl) rfl ?_
    refine j_aload_n hx 1 dX3_fact_261 rfl ?_
    refine g4_1 hx hG ha kf_RX3_14 dX3_fact_262 ?_
    refine gN1_6 hx hG (zr (k := 1) (t2 := 1) hG ha rfl) kf_RX3_119 dX3_fact_265 ?_
    have f57 := zf hS0 (zr (k := 6) (t2 := 7) hG (zr (k := 1) (t2 := 1) hG ha rfl) rfl) (k := 1) rfl
    refine gN7_1 hx hG (zr (k := 6) (t2 := 7) hG (zr (k := 1) (t2 := 1) hG ha rfl) rfl) kf_RX3_116 rfl dX3_fact_268 ?_
    refine j_iload_n hx 3 dX3_fact_271 rfl ?_
    refine j_icmp_le hx 279 dX3_fact_272 rfl (by omega) (by omega) (fun h58 => ?_) (fun h58 => ?_)
    · skip
      refine j_iconst hx dX3_fact_279 ?_
      exact j_zret hx hq rfl (by decide) (by decide) dX3_fact_280 (by omega) ⟨0, rfl, rfl, rfl, (by omega)⟩
    · skip
      refine j_iconst hx dX3_fact_275 ?_
      refine j_goto hx 280 dX3_fact_276 rfl ?_
      exact j_zret hx hq rfl (by decide) (by decide) dX3_fact_280 (by omega) ⟨1, rfl, rfl, rfl, (by omega)⟩
  · skip
    refine j_switchOut hx 281 dX3_fact_14 (by omega) (by omega) rfl ?_
    refine j_iload_n hx 3 dX3_fact_281 rfl ?_
    refine j_bipush hx dX3_fact_282 rfl ?_
    refine j_ishr hx 6 64 dX3_fact_284 (by omega) rfl (by decide) (by decide) (fun v59 f60 f61 f62 f63 => ?_)
    refine j_istore hx [(5, .int (zI v59)), (4, .int (zI v3)), (0, .ref a), (1, .int (zI x1)), (2, .int (zI x2)), (3, .int (zI x3))] dX3_fact_285 (by decide) rfl ?_
    refine j_iload hx 0 dX3_fact_287 rfl ?_
    refine j_if_le hx 310 dX3_fact_289 rfl (by omega) (fun h64 => ?_) (fun h64 => ?_)
    · skip
      refine j_iconst hx dX3_fact_310 ?_
      exact j_zret hx hq rfl (by decide) (by decide) dX3_fact_311 (by omega) ⟨0, rfl, rfl, rfl, (by omega)⟩
    · skip
      refine j_aload_n hx 2 dX3_fact_292 rfl ?_
      have f65 := zf hS0 ha (k := 10) rfl
      refine g4_10 hx hG ha kf_RX3_71 rfl dX3_fact_293 ?_
      refine j_iload hx 0 dX3_fact_296 rfl ?_
      refine j_irem hx dX3_fact_298 (by omega) (by omega) (by omega) (fun v66 f67 f68 f69 f70 => ?_)
      refine j_iload_n hx 4 dX3_fact_299 rfl ?_
      refine j_bipush hx dX3_fact_300 rfl ?_
      refine j_iand hx dX3_fact_302 (by omega) ⟨by decide, by decide⟩ (fun v72 f73 f74 f75 f76 _ => ?_)
      refine j_icmp_ne hx 310 dX3_fact_303 rfl (by omega) (by omega) (fun h78 => ?_) (fun h78 => ?_)
      · skip
        refine j_iconst hx dX3_fact_310 ?_
        exact j_zret hx hq rfl (by decide) (by decide) dX3_fact_311 (by omega) ⟨0, rfl, rfl, rfl, (by omega)⟩
      · skip
        refine j_iconst hx dX3_fact_306 ?_
        refine j_goto hx 311 dX3_fact_307 rfl ?_
        exact j_zret hx hq rfl (by decide) (by decide) dX3_fact_311 (by omega) ⟨1, rfl, rfl, rfl, (by omega)⟩

theorem lk_RX7_114 : LkV RX7 114 RX3 yX3_fact cX3_fact 6 (some .boolean) 3 := ⟨km_RX7_114, ki_yX3_fact, ks_RX3_yX3_fact, kn_RX3, kc_yX3_fact, rfl, by decide +kernel, by decide +kernel, by decide +kernel⟩
set_option maxHeartbeats 4000000 in
set_option maxRecDepth 20000 in
theorem c_X7_holds {E : zE} {l : Launch} (hst : l.stackTraces = false) (a : Nat) (b1 : Nat) (x2 : Int) : Con E l yX7_holds cX7_holds 7 (some .boolean) { frames := 2, cells := 0, slots := 0, locals := 48 } (fun G s vs => vs = [.ref a, .ref b1, .int (zI x2)] ∧ zGK G ∧ zSK G s ∧ (gT G a = 8) ∧ (gT G b1 = 4) ∧ ((-2147483648) ≤ x2 ∧ x2 ≤ 2147483647)) (fun G s _ => pI (fun r G2 s2 => G2 = G ∧ s2 = s ∧ (0 ≤ r ∧ r ≤ 1))) := by
  refine Con.mk hst (by decide) (fun G s vs h => by rw [h.1]; exact Nat.le_of_ble_eq_true rfl) ?_
  rintro X G s0 vs ⟨rfl, hG, hS0, ha, hb1, hx2⟩ rfl hx hq
  show JJ X E 7 G s0 0 0 [(0, .ref a), (1, .ref b1), (2, .int (zI x2))] 0 []
  refine j_lconst hx dX7_holds_0 ?_
  show JJ X E 7 G s0 0 0 [(0, .ref a), (1, .ref b1), (2, .int (zI x2))] 1 [.long (zL 0)]
  refine j_lstore_n hx [(3, .long (zL 0)), (0, .ref a), (1, .ref b1), (2, .int (zI x2))] dX7_holds_1 (by decide) rfl ?_
  refine j_iconst hx dX7_holds_2 ?_
  refine j_istore hx [(5, .int (zI 0)), (3, .long (zL 0)), (0, .ref a), (1, .ref b1), (2, .int (zI x2))] dX7_holds_3 (by decide) rfl ?_
  have c5_1 : ∀ (m_c5_1 : Nat) (w1 : Int) (v2 : Int), 2147483648 - v2 < m_c5_1 → ((-9223372036854775808) ≤ w1 ∧ w1 ≤ 9223372036854775807) → (0 ≤ v2 ∧ v2 ≤ 150) → JJ X E 7 G s0 0 0 [(0, .ref a), (1, .ref b1), (2, .int (zI x2)), (3, .long (zL w1)), (5, .int (zI v2))] 5 [] := by
    intro m_c5_1
    induction m_c5_1 with
    | zero => intro w1 v2 hm_c5_1 fA2 fA3; exfalso; omega
    | succ m_c5_1 ih_c5_1 => 
      intro w1 v2 hm_c5_1 fA2 fA3
      refine j_iload hx 4 dX7_holds_5 rfl ?_
      refine j_aload_n hx 0 dX7_holds_7 rfl ?_
      have f3 := zf hS0 ha (k := 1) rfl
      refine g8_1 hx hG ha kf_RX7_15 rfl dX7_holds_8 ?_
      have c126_4 : JJ X E 7 G s0 0 0 [(3, .long (zL w1))] 126 [] := by
        refine j_lload_n hx 0 dX7_holds_126 rfl ?_
        refine j_lconst hx dX7_holds_127 ?_
        show JJ X E 7 G s0 0 0 [(3, .long (zL w1))] 128 [.long (zL 1), .long (zL w1)]
        refine j_land hx dX7_holds_128 (fun w4 f5 f6 => ?_)
        refine j_lconst hx dX7_holds_129 ?_
        show JJ X E 7 G s0 0 0 [(3, .long (zL w1))] 130 [.long (zL 1), .long (zL w4)]
        refine j_lcmp hx dX7_holds_130 (by omega) (by omega) (fun v7 f8 f9 f10 => ?_)
        have f11 : -1 ≤ v7 ∧ v7 ≤ 1 := by omega
        refine j_if_ne hx 138 dX7_holds_131 rfl (by omega) (fun h12 => ?_) (fun h12 => ?_)
        · skip
          refine j_iconst hx dX7_holds_138 ?_
          exact j_zret hx hq rfl (by decide) (by decide) dX7_holds_139 (by omega) ⟨0, rfl, rfl, rfl, (by omega)⟩
        · skip
          refine j_iconst hx dX7_holds_134 ?_
          refine j_goto hx 139 dX7_holds_135 rfl ?_
          exact j_zret hx hq rfl (by decide) (by decide) dX7_holds_139 (by omega) ⟨1, rfl, rfl, rfl, (by omega)⟩
      refine j_icmp_ge hx 126 dX7_holds_11 rfl (by omega) (by omega) (fun h13 => ?_) (fun h13 => ?_)
      · skip
        exact j_sub [3] [(3, .long (zL w1))] rfl (c126_4  )
      · skip
        refine j_iload hx 4 dX7_holds_14 rfl ?_
        refine j_aload_n hx 0 dX7_holds_16 rfl ?_
        refine g8_0 hx hG ha kf_RX7_11 dX7_holds_17 ?_
        have f14 := zn46 hG (zr (k := 0) (t2 := 46) hG ha rfl)
        refine j_alen hx hG (zr (k := 0) (t2 := 46) hG ha rfl) (by decide) (by decide) rfl dX7_holds_20 ?_
        refine j_icmp_ge hx 126 dX7_holds_21 rfl (by omega) (by omega) (fun h15 => ?_) (fun h15 => ?_)
        · skip
          exact j_sub [3] [(3, .long (zL w1))] rfl (c126_4  )
        · skip
          refine j_aload_n hx 0 dX7_holds_24 rfl ?_
          refine g8_0 hx hG ha kf_RX7_11 dX7_holds_25 ?_
          refine j_iload hx 4 dX7_holds_28 rfl ?_
          have f16 := zaI (j := (v2).toNat) hS0 (zr (k := 0) (t2 := 46) hG ha rfl) rfl rfl (show 0 ≤ v2 by omega) (by omega) rfl
          refine j_iald hx hG (zr (k := 0) (t2 := 46) hG ha rfl) (by decide) rfl rfl (by omega) (by omega) (j := (v2).toNat) rfl rfl dX7_holds_30 ?_
          refine j_bipush hx dX7_holds_31 rfl ?_
          refine j_ishr hx 12 4096 dX7_holds_33 (by omega) rfl (by decide) (by decide) (fun v17 f18 f19 f20 f21 => ?_)
          refine j_istore hx [(6, .int (zI v17)), (0, .ref a), (1, .ref b1), (2, .int (zI x2)), (3, .long (zL w1)), (5, .int (zI v2))] dX7_holds_34 (by decide) rfl ?_
          refine j_iload hx 0 dX7_holds_36 rfl ?_
          refine j_bipush hx dX7_holds_38 rfl ?_
          have c120_5 : ∀ (w22 : Int), ((-9223372036854775808) ≤ w22 ∧ w22 ≤ 9223372036854775807) → JJ X E 7 G s0 0 0 [(0, .ref a), (1, .ref b1), (2, .int (zI x2)), (3, .long (zL w22)), (5, .int (zI v2))] 120 [] := by
            intro w22 fA6
            refine j_iinc hx 4 [(5, .int (zI (v2 + 1))), (0, .ref a), (1, .ref b1), (2, .int (zI x2)), (3, .long (zL w22))] dX7_holds_120 rfl (by omega) (by decide) rfl ?_
            refine j_goto hx 5 dX7_holds_123 rfl ?_
            exact j_sub [1, 2, 3, 4, 0] [(0, .ref a), (1, .ref b1), (2, .int (zI x2)), (3, .long (zL w22)), (5, .int (zI (v2 + 1)))] rfl (ih_c5_1 w22 (v2 + 1) (by omega) (by omega) (by omega))
          refine j_icmp_ne hx 50 dX7_holds_40 rfl (by omega) ⟨by decide, by decide⟩ (fun h23 => ?_) (fun h23 => ?_)
          · skip
            refine j_iload hx 0 dX7_holds_50 rfl ?_
            refine j_bipush hx dX7_holds_52 rfl ?_
            refine j_icmp_ne hx 70 dX7_holds_54 rfl (by omega) ⟨by decide, by decide⟩ (fun h24 => ?_) (fun h24 => ?_)
            · skip
              refine j_iload hx 0 dX7_holds_70 rfl ?_
              refine j_bipush hx dX7_holds_72 rfl ?_
              refine j_icmp_ne hx 88 dX7_holds_74 rfl (by omega) ⟨by decide, by decide⟩ (fun h25 => ?_) (fun h25 => ?_)
              · skip
                refine j_lload_n hx 4 dX7_holds_88 rfl ?_
                refine j_iconst hx dX7_holds_89 ?_
                refine j_lshl hx dX7_holds_90 (fun w26 f27 f28 => ?_)
                refine j_aload_n hx 2 dX7_holds_91 rfl ?_
                refine j_iload hx 0 dX7_holds_92 rfl ?_
                refine j_aload_n hx 1 dX7_holds_94 rfl ?_
                refine g8_0 hx hG ha kf_RX7_11 dX7_holds_95 ?_
                refine j_iload hx 5 dX7_holds_98 rfl ?_
                refine j_iald hx hG (zr (k := 0) (t2 := 46) hG ha rfl) (by decide) rfl rfl (by omega) (by omega) (j := (v2).toNat) rfl rfl dX7_holds_100 ?_
                refine j_sipush hx dX7_holds_101 rfl ?_
                refine j_iand hx dX7_holds_104 (by omega) ⟨by decide, by decide⟩ (fun v29 f30 f31 f32 f33 _ => ?_)
                refine j_iload_n hx 3 dX7_holds_105 rfl ?_
                refine j_callV hx hG (c_X3_fact hst b1 v17 v29 x2) lk_RX7_114 hb1 (by decide) rfl rfl rfl rfl [.int (zI v17), .int (zI v29), .int (zI x2)] ⟨rfl, hG, hS0, hb1, (by omega), (by omega), (by omega)⟩ rfl rfl ⟨by decide, by decide⟩ ⟨by decide, by decide⟩ (k2 := 0) (n2 := 0) rfl rfl (Nat.le_of_ble_eq_true rfl) dX7_holds_106 (kIP (fun v35 q36 => ?_))
                have c117_7 : ∀ (v37 : Int), (0 ≤ v37 ∧ v37 ≤ 1) → JJ X E 7 G s0 0 0 [(0, .ref a), (1, .ref b1), (2, .int (zI x2)), (5, .int (zI v2))] 117 [.int (zI v37), .long (zL w26)] := by
                  intro v37 fA8
                  refine j_i2l hx dX7_holds_117 (by omega) ?_
                  refine j_lor hx dX7_holds_118 (fun w38 f39 f40 => ?_)
                  refine j_lstore_n hx [(3, .long (zL w38)), (0, .ref a), (1, .ref b1), (2, .int (zI x2)), (5, .int (zI v2))] dX7_holds_119 (by decide) rfl ?_
                  exact j_sub [1, 2, 3, 0, 4] [(0, .ref a), (1, .ref b1), (2, .int (zI x2)), (3, .long (zL w38)), (5, .int (zI v2))] rfl (c120_5 w38 (by omega))
                refine j_if_eq hx 116 dX7_holds_109 rfl (by omega) (fun h41 => ?_) (fun h41 => ?_)
                · skip
                  refine j_iconst hx dX7_holds_116 ?_
                  exact j_sub [1, 2, 3, 5] [(0, .ref a), (1, .ref b1), (2, .int (zI x2)), (5, .int (zI v2))] rfl (c117_7 0 (by omega))
                · skip
                  refine j_iconst hx dX7_holds_112 ?_
                  refine j_goto hx 117 dX7_holds_113 rfl ?_
                  exact j_sub [1, 2, 3, 5] [(0, .ref a), (1, .ref b1), (2, .int (zI x2)), (5, .int (zI v2))] rfl (c117_7 1 (by omega))
              · skip
                refine j_lload_n hx 4 dX7_holds_77 rfl ?_
                refine j_iconst hx dX7_holds_78 ?_
                refine j_lushr hx dX7_holds_79 (fun w42 f43 f44 => ?_)
                refine j_lload_n hx 4 dX7_holds_80 rfl ?_
                refine j_lconst hx dX7_holds_81 ?_
                show JJ X E 7 G s0 0 0 [(6, .int (zI v17)), (0, .ref a), (1, .ref b1), (2, .int (zI x2)), (3, .long (zL w1)), (5, .int (zI v2))] 82 [.long (zL 1), .long (zL w1), .long (zL w42)]
                refine j_land hx dX7_holds_82 (fun w45 f46 f47 => ?_)
                refine j_lor hx dX7_holds_83 (fun w48 f49 f50 => ?_)
                refine j_lstore_n hx [(3, .long (zL w48)), (6, .int (zI v17)), (0, .ref a), (1, .ref b1), (2, .int (zI x2)), (5, .int (zI v2))] dX7_holds_84 (by decide) rfl ?_
                refine j_goto hx 120 dX7_holds_85 rfl ?_
                exact j_sub [2, 3, 4, 0, 5] [(0, .ref a), (1, .ref b1), (2, .int (zI x2)), (3, .long (zL w48)), (5, .int (zI v2))] rfl (c120_5 w48 (by omega))
            · skip
              refine j_lload_n hx 4 dX7_holds_57 rfl ?_
              refine j_iconst hx dX7_holds_58 ?_
              refine j_lushr hx dX7_holds_59 (fun w51 f52 f53 => ?_)
              refine j_lload_n hx 4 dX7_holds_60 rfl ?_
              refine j_ldc2 hx (c := (-2)) dX7_holds_61 kk_RX7_112 (by decide) ?_
              refine j_lor hx dX7_holds_64 (fun w54 f55 f56 => ?_)
              refine j_land hx dX7_holds_65 (fun w57 f58 f59 => ?_)
              refine j_lstore_n hx [(3, .long (zL w57)), (6, .int (zI v17)), (0, .ref a), (1, .ref b1), (2, .int (zI x2)), (5, .int (zI v2))] dX7_holds_66 (by decide) rfl ?_
              refine j_goto hx 120 dX7_holds_67 rfl ?_
              exact j_sub [2, 3, 4, 0, 5] [(0, .ref a), (1, .ref b1), (2, .int (zI x2)), (3, .long (zL w57)), (5, .int (zI v2))] rfl (c120_5 w57 (by omega))
          · skip
            refine j_lload_n hx 4 dX7_holds_43 rfl ?_
            refine j_lconst hx dX7_holds_44 ?_
            show JJ X E 7 G s0 0 0 [(6, .int (zI v17)), (0, .ref a), (1, .ref b1), (2, .int (zI x2)), (3, .long (zL w1)), (5, .int (zI v2))] 45 [.long (zL 1), .long (zL w1)]
            refine j_lxor hx dX7_holds_45 (fun w60 f61 f62 => ?_)
            refine j_lstore_n hx [(3, .long (zL w60)), (6, .int (zI v17)), (0, .ref a), (1, .ref b1), (2, .int (zI x2)), (5, .int (zI v2))] dX7_holds_46 (by decide) rfl ?_
            refine j_goto hx 120 dX7_holds_47 rfl ?_
            exact j_sub [2, 3, 4, 0, 5] [(0, .ref a), (1, .ref b1), (2, .int (zI x2)), (3, .long (zL w60)), (5, .int (zI v2))] rfl (c120_5 w60 (by omega))
  exact j_sub [2, 3, 4, 1, 0] [(0, .ref a), (1, .ref b1), (2, .int (zI x2)), (3, .long (zL 0)), (5, .int (zI 0))] rfl (c5_1 (2147483648 * 4) 0 0 (by omega) (by omega) (by omega))

theorem lk_RX3_103 : LkV RX3 103 RX7 yX7_holds cX7_holds 7 (some .boolean) 2 := ⟨km_RX3_103, ki_yX7_holds, ks_RX7_yX7_holds, kn_RX7, kc_yX7_holds, rfl, by decide +kernel, by decide +kernel, by decide +kernel⟩
set_option maxHeartbeats 4000000 in
set_option maxRecDepth 20000 in
theorem c_X3_wants {E : zE} {l : Launch} (hst : l.stackTraces = false) (a : Nat) (x1 : Int) (x2 : Int) : Con E l yX3_wants cX3_wants 5 (some .boolean) { frames := 3, cells := 0, slots := 0, locals := 74 } (fun G s vs => vs = [.ref a, .int (zI x1), .int (zI x2)] ∧ zGK G ∧ zSK G s ∧ (gT G a = 4) ∧ ((-2147483648) ≤ x1 ∧ x1 ≤ 2147483647) ∧ ((-2147483648) ≤ x2 ∧ x2 ≤ 2147483647)) (fun G s _ => pI (fun r G2 s2 => G2 = G ∧ s2 = s ∧ (0 ≤ r ∧ r ≤ 1))) := by
  refine Con.mk hst (by decide) (fun G s vs h => by rw [h.1]; exact Nat.le_of_ble_eq_true rfl) ?_
  rintro X G s0 vs ⟨rfl, hG, hS0, ha, hx1, hx2⟩ rfl hx hq
  show JJ X E 5 G s0 0 0 [(0, .ref a), (1, .int (zI x1)), (2, .int (zI x2))] 0 []
  refine j_iload_n hx 2 dX3_wants_0 rfl ?_
  refine j_iconst hx dX3_wants_1 ?_
  refine j_imul hx (r := 3 * x2) dX3_wants_2 (by omega) ?_
  refine j_norm (fun v1 f2 f3 f4 => ?_)
  refine j_iload_n hx 1 dX3_wants_3 rfl ?_
  refine j_iadd hx (r := v1 + x1) dX3_wants_4 rfl ?_
  refine j_norm (fun v5 f6 f7 f8 => ?_)
  refine j_istore_n hx [(3, .int (zI v5)), (0, .ref a), (1, .int (zI x1)), (2, .int (zI x2))] dX3_wants_5 (by decide) rfl ?_
  refine j_iload_n hx 0 dX3_wants_6 rfl ?_
  have c28_1 : JJ X E 5 G s0 0 0 [(0, .ref a), (1, .int (zI x1)), (2, .int (zI x2))] 28 [] := by
    refine j_null hx dX3_wants_28 ?_
    refine j_astoreN hx [(4, .null), (0, .ref a), (1, .int (zI x1)), (2, .int (zI x2))] dX3_wants_29 (by decide) rfl ?_
    refine j_aloadN hx 0 dX3_wants_31 rfl ?_
    refine j_ifnonnullN hx dX3_wants_33 ?_
    refine j_iload_n hx 3 dX3_wants_36 rfl ?_
    refine j_if_ne hx 52 dX3_wants_37 rfl (by omega) (fun h9 => ?_) (fun h9 => ?_)
    · skip
      refine j_iconst hx dX3_wants_52 ?_
      exact j_zret hx hq rfl (by decide) (by decide) dX3_wants_53 (by omega) ⟨0, rfl, rfl, rfl, (by omega)⟩
    · skip
      refine j_aload_n hx 1 dX3_wants_40 rfl ?_
      have f10 := zf hS0 ha (k := 11) rfl
      refine g4_11 hx hG ha kf_RX3_37 rfl dX3_wants_41 ?_
      refine j_iconst hx dX3_wants_44 ?_
      refine j_icmp_eq hx 52 dX3_wants_45 rfl (by omega) ⟨by decide, by decide⟩ (fun h11 => ?_) (fun h11 => ?_)
      · skip
        refine j_iconst hx dX3_wants_52 ?_
        exact j_zret hx hq rfl (by decide) (by decide) dX3_wants_53 (by omega) ⟨0, rfl, rfl, rfl, (by omega)⟩
      · skip
        refine j_iconst hx dX3_wants_48 ?_
        refine j_goto hx 53 dX3_wants_49 rfl ?_
        exact j_zret hx hq rfl (by decide) (by decide) dX3_wants_53 (by omega) ⟨1, rfl, rfl, rfl, (by omega)⟩
  refine j_if_lt hx 28 dX3_wants_7 rfl (by omega) (fun h12 => ?_) (fun h12 => ?_)
  · skip
    exact j_sub [1, 2, 3] [(0, .ref a), (1, .int (zI x1)), (2, .int (zI x2))] rfl (c28_1  )
  · skip
    refine j_iload_n hx 0 dX3_wants_10 rfl ?_
    refine j_aload_n hx 1 dX3_wants_11 rfl ?_
    refine g4_3 hx hG ha kf_RX3_24 dX3_wants_12 ?_
    refine j_alen hx hG (zr (k := 3) (t2 := 49) hG ha rfl) (by decide) (by decide) (zlen hG (zr (k := 3) (t2 := 49) hG ha rfl) (n := 6) rfl rfl) dX3_wants_15 ?_
    refine j_icmp_ge hx 28 dX3_wants_16 rfl (by omega) ⟨by decide, by decide⟩ (fun h13 => ?_) (fun h13 => ?_)
    · skip
      exact j_sub [1, 2, 3] [(0, .ref a), (1, .int (zI x1)), (2, .int (zI x2))] rfl (c28_1  )
    · skip
      refine j_aload_n hx 1 dX3_wants_19 rfl ?_
      refine g4_3 hx hG ha kf_RX3_24 dX3_wants_20 ?_
      refine j_iload_n hx 0 dX3_wants_23 rfl ?_
      refine j_aald hx hG hS0 (zr (k := 3) (t2 := 49) hG ha rfl) (by decide) (by decide) rfl (zlen hG (zr (k := 3) (t2 := 49) hG ha rfl) (n := 6) rfl rfl) (by omega) (by omega) dX3_wants_24 (fun h14 => ?_) (fun h15 h16 => ?_)
      · skip
        refine j_goto hx 29 dX3_wants_25 rfl ?_
        refine j_astoreN hx [(4, .null), (3, .int (zI v5)), (0, .ref a), (1, .int (zI x1)), (2, .int (zI x2))] dX3_wants_29 (by decide) rfl ?_
        refine j_aloadN hx 0 dX3_wants_31 rfl ?_
        refine j_ifnonnullN hx dX3_wants_33 ?_
        refine j_iload_n hx 4 dX3_wants_36 rfl ?_
        refine j_if_ne hx 52 dX3_wants_37 rfl (by omega) (fun h17 => ?_) (fun h17 => ?_)
        · skip
          refine j_iconst hx dX3_wants_52 ?_
          exact j_zret hx hq rfl (by decide) (by decide) dX3_wants_53 (by omega) ⟨0, rfl, rfl, rfl, (by omega)⟩
        · skip
          refine j_aload_n hx 2 dX3_wants_40 rfl ?_
          have f18 := zf hS0 ha (k := 11) rfl
          refine g4_11 hx hG ha kf_RX3_37 rfl dX3_wants_41 ?_
          refine j_iconst hx dX3_wants_44 ?_
          refine j_icmp_eq hx 52 dX3_wants_45 rfl (by omega) ⟨by decide, by decide⟩ (fun h19 => ?_) (fun h19 => ?_)
          · skip
            refine j_iconst hx dX3_wants_52 ?_
            exact j_zret hx hq rfl (by decide) (by decide) dX3_wants_53 (by omega) ⟨0, rfl, rfl, rfl, (by omega)⟩
          · skip
            refine j_iconst hx dX3_wants_48 ?_
            refine j_goto hx 53 dX3_wants_49 rfl ?_
            exact j_zret hx hq rfl (by decide) (by decide) dX3_wants_53 (by omega) ⟨1, rfl, rfl, rfl, (by omega)⟩
      · skip
        refine j_goto hx 29 dX3_wants_25 rfl ?_
        refine j_astore hx [(4, .ref (((s0 (gP G a 3) (v5).toNat).toNat - 1))), (3, .int (zI v5)), (0, .ref a), (1, .int (zI x1)), (2, .int (zI x2))] dX3_wants_29 (by decide) rfl ?_
        refine j_aload hx 0 dX3_wants_31 rfl ?_
        refine j_ifnonnull hx 54 dX3_wants_33 rfl ?_
        refine j_aload hx 0 dX3_wants_54 rfl ?_
        refine j_aload_n hx 2 dX3_wants_56 rfl ?_
        refine j_iload_n hx 3 dX3_wants_57 rfl ?_
        refine j_callV hx hG (c_X7_holds hst ((s0 (gP G a 3) (v5).toNat).toNat - 1) a x1) lk_RX3_103 h16 (by decide) rfl rfl rfl rfl [.ref a, .int (zI x1)] ⟨rfl, hG, hS0, h16, ha, (by omega)⟩ rfl rfl ⟨by decide, by decide⟩ ⟨by decide, by decide⟩ (k2 := 0) (n2 := 0) rfl rfl (Nat.le_of_ble_eq_true rfl) dX3_wants_58 (kIP (fun v20 q21 => ?_))
        exact j_zret hx hq rfl (by decide) (by decide) dX3_wants_61 (by omega) ⟨v20, rfl, rfl, rfl, (by omega)⟩

theorem lk_RX11_206 : LkV RX11 206 RX3 yX3_look cX3_look 3 none 1 := ⟨km_RX11_206, ki_yX3_look, ks_RX3_yX3_look, kn_RX3, kc_yX3_look, rfl, by decide +kernel, by decide +kernel, by decide +kernel⟩
theorem lk_RX11_209 : LkV RX11 209 RX3 yX3_wants cX3_wants 5 (some .boolean) 2 := ⟨km_RX11_209, ki_yX3_wants, ks_RX3_yX3_wants, kn_RX3, kc_yX3_wants, rfl, by decide +kernel, by decide +kernel, by decide +kernel⟩
set_option maxHeartbeats 4000000 in
set_option maxRecDepth 20000 in
theorem c_X11_would {E : zE} {l : Launch} (hst : l.stackTraces = false) (a : Nat) (x1 : Int) (x2 : Int) : ConX E l yX11_would cX11_would 3 (some .boolean) { frames := 7, cells := 2, slots := 12, locals := 113 } (fun G s vs => vs = [.ref a, .int (zI x1), .int (zI x2)] ∧ zGK G ∧ zSK G s ∧ (gT G a = 12) ∧ ((-2147483648) ≤ x1 ∧ x1 ≤ 2147483647) ∧ ((-2147483648) ≤ x2 ∧ x2 ≤ 2147483647)) (fun G s _ => pI (fun r G2 s2 => G2 = G ∧ zSK G s2 ∧ zFr [4] G s s2 ∧ (0 ≤ r ∧ r ≤ 1))) (fun G s _ Ex G2 s2 => G2 = G ∧ zSK G s2 ∧ zFr [4, 12] G s s2 ∧ ((Ex = "java/lang/IllegalArgumentException" ∧ (True)) ∨ (Ex = "java/util/NoSuchElementException" ∧ (True)))) := by
  refine ConX.mk hst (by decide) (fun G s vs h => by rw [h.1]; exact Nat.le_of_ble_eq_true rfl) ?_
  rintro X G s0 vs ⟨rfl, hG, hS0, ha, hx1, hx2⟩ rfl hx hq
  show JJ X E 3 G s0 0 0 [(0, .ref a), (1, .int (zI x1)), (2, .int (zI x2))] 0 []
  refine j_aload_n hx 0 dX11_would_0 rfl ?_
  refine j_iload_n hx 1 dX11_would_1 rfl ?_
  refine j_callVX hx hq hG (c_X11_needPlayer hst a x1) lk_RX11_134 ha (by decide) rfl rfl rfl rfl [.int (zI x1)] ⟨rfl, hG, hS0, ha, (by omega)⟩ rfl rfl ⟨by decide, by decide⟩ ⟨by decide, by decide⟩ (k2 := 1) (n2 := 6) rfl rfl (Nat.le_of_ble_eq_true rfl) ⟨by decide, by decide⟩ dX11_would_2 (by rintro Ex9 G9 s9 ⟨rfl, hS9, hF9, e9, c9⟩; exact ⟨rfl, hS9, (zFr_t zFr_rf hF9 (by decide)), Or.inr ⟨e9, by first | trivial | omega⟩⟩) (kVP (fun q2 => ?_))
  refine j_aload_n hx 0 dX11_would_5 rfl ?_
  refine j_iload_n hx 2 dX11_would_6 rfl ?_
  refine j_iconst hx dX11_would_7 ?_
  refine j_iconst hx dX11_would_8 ?_
  refine j_callVX hx hq hG (c_X11_needRange hst a x2 0 1) lk_RX11_98 ha (by decide) rfl rfl rfl rfl [.int (zI x2), .int (zI 0), .int (zI 1)] ⟨rfl, hG, hS0, ha, (by omega), (by omega), (by omega)⟩ rfl rfl ⟨by decide, by decide⟩ ⟨by decide, by decide⟩ (k2 := 2) (n2 := 12) rfl rfl (Nat.le_of_ble_eq_true rfl) ⟨by decide, by decide⟩ dX11_would_9 (by rintro Ex9 G9 s9 ⟨rfl, hS9, hF9, e9, c9⟩; exact ⟨rfl, hS9, (zFr_t zFr_rf hF9 (by decide)), Or.inl ⟨e9, by first | trivial | omega⟩⟩) (kVP (fun q4 => ?_))
  refine j_aload_n hx 0 dX11_would_12 rfl ?_
  refine g12_6 hx hG ha kf_RX11_48 dX11_would_13 ?_
  refine j_aload_n hx 0 dX11_would_16 rfl ?_
  refine g12_6 hx hG ha kf_RX11_48 dX11_would_17 ?_
  refine gN4_1 hx hG (zr (k := 6) (t2 := 4) hG ha rfl) kf_RX11_155 dX11_would_20 ?_
  refine j_callV hx hG (c_X0_whose hst (gP G (gP G a 6) 1)) lk_RX11_168 (zr (k := 1) (t2 := 1) hG (zr (k := 6) (t2 := 4) hG ha rfl) rfl) (by decide) rfl rfl rfl rfl [] ⟨rfl, hG, hS0, (zr (k := 1) (t2 := 1) hG (zr (k := 6) (t2 := 4) hG ha rfl) rfl)⟩ rfl rfl ⟨by decide, by decide⟩ ⟨by decide, by decide⟩ (k2 := 2) (n2 := 12) rfl rfl (Nat.le_of_ble_eq_true rfl) dX11_would_23 (kIP (fun v5 q6 => ?_))
  refine j_callV hx hG (c_X3_look hst (gP G a 6) v5) lk_RX11_206 (zr (k := 6) (t2 := 4) hG ha rfl) (by decide) rfl rfl rfl rfl [.int (zI v5)] ⟨rfl, hG, hS0, (zr (k := 6) (t2 := 4) hG ha rfl), (by omega)⟩ rfl rfl ⟨by decide, by decide⟩ ⟨by decide, by decide⟩ (k2 := 2) (n2 := 12) rfl rfl (Nat.le_of_ble_eq_true rfl) dX11_would_26 (kVM (fun s1 hS_s1 hF_s1 q8 => ?_))
  refine j_aload_n hx 0 dX11_would_29 rfl ?_
  refine g12_6 hx hG ha kf_RX11_48 dX11_would_30 ?_
  refine j_iload_n hx 1 dX11_would_33 rfl ?_
  refine j_iload_n hx 2 dX11_would_34 rfl ?_
  refine j_callV hx hG (c_X3_wants hst (gP G a 6) x1 x2) lk_RX11_209 (zr (k := 6) (t2 := 4) hG ha rfl) (by decide) rfl rfl rfl rfl [.int (zI x1), .int (zI x2)] ⟨rfl, hG, hS_s1, (zr (k := 6) (t2 := 4) hG ha rfl), (by omega), (by omega)⟩ rfl rfl ⟨by decide, by decide⟩ ⟨by decide, by decide⟩ (k2 := 2) (n2 := 12) rfl rfl (Nat.le_of_ble_eq_true rfl) dX11_would_35 (kIP (fun v9 q10 => ?_))
  exact j_zret hx hq.r rfl (by decide) (by decide) dX11_would_38 (by omega) ⟨v9, rfl, rfl, hS_s1, (zFr_t zFr_rf hF_s1 (by decide)), (by omega)⟩

set_option maxHeartbeats 4000000 in
set_option maxRecDepth 20000 in
theorem c_X3_setLaw {E : zE} {l : Launch} (hst : l.stackTraces = false) (a : Nat) (x1 : Int) (x2 : Int) : Con E l yX3_setLaw cX3_setLaw 3 none { frames := 0, cells := 0, slots := 0, locals := 0 } (fun G s vs => vs = [.ref a, .int (zI x1), .int (zI x2)] ∧ zGK G ∧ zSK G s ∧ (gT G a = 4) ∧ ((-2147483648) ≤ x1 ∧ x1 ≤ 2147483647) ∧ ((-2147483648) ≤ x2 ∧ x2 ≤ 2147483647)) (fun G s _ => pV (fun G2 s2 => G2 = G ∧ zSK G s2 ∧ zFr [44] G s s2 ∧ True)) := by
  refine Con.mk hst (by decide) (fun G s vs h => by rw [h.1]; exact Nat.le_of_ble_eq_true rfl) ?_
  rintro X G s0 vs ⟨rfl, hG, hS0, ha, hx1, hx2⟩ rfl hx hq
  show JJ X E 3 G s0 0 0 [(0, .ref a), (1, .int (zI x1)), (2, .int (zI x2))] 0 []
  refine j_iload_n hx 1 dX3_setLaw_0 rfl ?_
  refine j_if_lt hx 20 dX3_setLaw_1 rfl (by omega) (fun h1 => ?_) (fun h1 => ?_)
  · skip
    exact j_vret hx hq rfl (by decide) (by decide) dX3_setLaw_20 ⟨rfl, rfl, hS0, zFr_rf, trivial⟩
  · skip
    refine j_iload_n hx 1 dX3_setLaw_4 rfl ?_
    refine j_aload_n hx 0 dX3_setLaw_5 rfl ?_
    refine g4_2 hx hG ha kf_RX3_18 dX3_setLaw_6 ?_
    refine j_alen hx hG (zr (k := 2) (t2 := 44) hG ha rfl) (by decide) (by decide) (zlen hG (zr (k := 2) (t2 := 44) hG ha rfl) (n := 3) rfl rfl) dX3_setLaw_9 ?_
    refine j_icmp_ge hx 20 dX3_setLaw_10 rfl (by omega) ⟨by decide, by decide⟩ (fun h2 => ?_) (fun h2 => ?_)
    · skip
      exact j_vret hx hq rfl (by decide) (by decide) dX3_setLaw_20 ⟨rfl, rfl, hS0, zFr_rf, trivial⟩
    · skip
      refine j_aload_n hx 0 dX3_setLaw_13 rfl ?_
      refine g4_2 hx hG ha kf_RX3_18 dX3_setLaw_14 ?_
      refine j_iload_n hx 1 dX3_setLaw_17 rfl ?_
      refine j_iload_n hx 2 dX3_setLaw_18 rfl ?_
      refine j_iast hx hG (zr (k := 2) (t2 := 44) hG ha rfl) (by decide) rfl (zlen hG (zr (k := 2) (t2 := 44) hG ha rfl) (n := 3) rfl rfl) (by omega) (by omega) (j := (x1).toNat) rfl dX3_setLaw_19 ?_
      obtain ⟨s1, e_s1⟩ : ∃ z, z = zU s0 (gP G a 2) (x1).toNat x2 := ⟨_, rfl⟩
      rw [← e_s1]
      have hS_s1 : zSK G s1 := by rw [e_s1]; exact zSK_A hS0 (zr (k := 2) (t2 := 44) hG ha rfl) rfl rfl rfl (by omega)
      exact j_vret hx hq rfl (by decide) (by decide) dX3_setLaw_20 ⟨rfl, rfl, hS_s1, (zFr_u zFr_rf e_s1 (zr (k := 2) (t2 := 44) hG ha rfl) (by decide)), trivial⟩

theorem lk_RX11_213 : LkV RX11 213 RX3 yX3_setLaw cX3_setLaw 3 none 2 := ⟨km_RX11_213, ki_yX3_setLaw, ks_RX3_yX3_setLaw, kn_RX3, kc_yX3_setLaw, rfl, by decide +kernel, by decide +kernel, by decide +kernel⟩
set_option maxHeartbeats 4000000 in
set_option maxRecDepth 20000 in
theorem c_X11_law {E : zE} {l : Launch} (hst : l.stackTraces = false) (a : Nat) (x1 : Int) (x2 : Int) : ConX E l yX11_law cX11_law 4 (some .int) { frames := 7, cells := 2, slots := 12, locals := 113 } (fun G s vs => vs = [.ref a, .int (zI x1), .int (zI x2)] ∧ zGK G ∧ zSK G s ∧ (gT G a = 12) ∧ ((-2147483648) ≤ x1 ∧ x1 ≤ 2147483647) ∧ ((-2147483648) ≤ x2 ∧ x2 ≤ 2147483647)) (fun G s _ => pI (fun r G2 s2 => G2 = G ∧ zSK G s2 ∧ zFr [5, 44] G s s2 ∧ ((-2147483648) ≤ r ∧ r ≤ 2147483647))) (fun G s _ Ex G2 s2 => G2 = G ∧ zSK G s2 ∧ zFr [5, 12, 44] G s s2 ∧ ((Ex = "java/lang/IllegalArgumentException" ∧ (True)))) := by
  refine ConX.mk hst (by decide) (fun G s vs h => by rw [h.1]; exact Nat.le_of_ble_eq_true rfl) ?_
  rintro X G s0 vs ⟨rfl, hG, hS0, ha, hx1, hx2⟩ rfl hx hq
  show JJ X E 4 G s0 0 0 [(0, .ref a), (1, .int (zI x1)), (2, .int (zI x2))] 0 []
  refine j_aload_n hx 0 dX11_law_0 rfl ?_
  refine j_iload_n hx 1 dX11_law_1 rfl ?_
  refine j_iconst hx dX11_law_2 ?_
  refine j_iconst hx dX11_law_3 ?_
  refine j_callVX hx hq hG (c_X11_needRange hst a x1 0 2) lk_RX11_98 ha (by decide) rfl rfl rfl rfl [.int (zI x1), .int (zI 0), .int (zI 2)] ⟨rfl, hG, hS0, ha, (by omega), (by omega), (by omega)⟩ rfl rfl ⟨by decide, by decide⟩ ⟨by decide, by decide⟩ (k2 := 1) (n2 := 6) rfl rfl (Nat.le_of_ble_eq_true rfl) ⟨by decide, by decide⟩ dX11_law_4 (by rintro Ex9 G9 s9 ⟨rfl, hS9, hF9, e9, c9⟩; exact ⟨rfl, hS9, (zFr_t zFr_rf hF9 (by decide)), ⟨e9, by first | trivial | omega⟩⟩) (kVP (fun q2 => ?_))
  refine j_aload_n hx 0 dX11_law_7 rfl ?_
  refine j_iload_n hx 2 dX11_law_8 rfl ?_
  refine j_iconst hx dX11_law_9 ?_
  refine j_iconst hx dX11_law_10 ?_
  refine j_callVX hx hq hG (c_X11_needRange hst a x2 0 2) lk_RX11_98 ha (by decide) rfl rfl rfl rfl [.int (zI x2), .int (zI 0), .int (zI 2)] ⟨rfl, hG, hS0, ha, (by omega), (by omega), (by omega)⟩ rfl rfl ⟨by decide, by decide⟩ ⟨by decide, by decide⟩ (k2 := 2) (n2 := 12) rfl rfl (Nat.le_of_ble_eq_true rfl) ⟨by decide, by decide⟩ dX11_law_11 (by rintro Ex9 G9 s9 ⟨rfl, hS9, hF9, e9, c9⟩; exact ⟨rfl, hS9, (zFr_t zFr_rf hF9 (by decide)), ⟨e9, by first | trivial | omega⟩⟩) (kVP (fun q4 => ?_))
  refine j_aload_n hx 0 dX11_law_14 rfl ?_
  refine g12_6 hx hG ha kf_RX11_48 dX11_law_15 ?_
  refine j_iload_n hx 1 dX11_law_18 rfl ?_
  refine j_callV hx hG (c_X3_lawOf hst (gP G a 6) x1) lk_RX11_178 (zr (k := 6) (t2 := 4) hG ha rfl) (by decide) rfl rfl rfl rfl [.int (zI x1)] ⟨rfl, hG, hS0, (zr (k := 6) (t2 := 4) hG ha rfl), (by omega)⟩ rfl rfl ⟨by decide, by decide⟩ ⟨by decide, by decide⟩ (k2 := 2) (n2 := 12) rfl rfl (Nat.le_of_ble_eq_true rfl) dX11_law_19 (kIP (fun v5 q6 => ?_))
  refine j_istore_n hx [(3, .int (zI v5)), (0, .ref a), (1, .int (zI x1)), (2, .int (zI x2))] dX11_law_22 (by decide) rfl ?_
  refine j_aload_n hx 1 dX11_law_23 rfl ?_
  refine g12_6 hx hG ha kf_RX11_48 dX11_law_24 ?_
  refine j_iload_n hx 2 dX11_law_27 rfl ?_
  refine j_iload_n hx 3 dX11_law_28 rfl ?_
  refine j_callV hx hG (c_X3_setLaw hst (gP G a 6) x1 x2) lk_RX11_213 (zr (k := 6) (t2 := 4) hG ha rfl) (by decide) rfl rfl rfl rfl [.int (zI x1), .int (zI x2)] ⟨rfl, hG, hS0, (zr (k := 6) (t2 := 4) hG ha rfl), (by omega), (by omega)⟩ rfl rfl ⟨by decide, by decide⟩ ⟨by decide, by decide⟩ (k2 := 2) (n2 := 12) rfl rfl (Nat.le_of_ble_eq_true rfl) dX11_law_29 (kVM (fun s1 hS_s1 hF_s1 q8 => ?_))
  refine j_aload_n hx 1 dX11_law_32 rfl ?_
  refine g12_9 hx hG ha kf_RX11_69 dX11_law_33 ?_
  refine j_aload_n hx 1 dX11_law_36 rfl ?_
  refine g12_6 hx hG ha kf_RX11_48 dX11_law_37 ?_
  have f9 := zf hS0 (zr (k := 6) (t2 := 4) hG ha rfl) (k := 10) rfl
  refine gN4_10 hx hG (zr (k := 6) (t2 := 4) hG ha rfl) kf_RX11_165 (v := (s0 (gP G a 6) 10)) (by rw [(zFr_g hF_s1 (zr (k := 6) (t2 := 4) hG ha rfl) (by decide))]) dX11_law_40 ?_
  refine j_callV hx hG (c_X4_settle hst (gP G a 9) ((s0 (gP G a 6) 10))) lk_RX11_124 (zr (k := 9) (t2 := 5) hG ha rfl) (by decide) rfl rfl rfl rfl [.int (zI ((s0 (gP G a 6) 10)))] ⟨rfl, hG, hS_s1, (zr (k := 9) (t2 := 5) hG ha rfl), (by omega)⟩ rfl rfl ⟨by decide, by decide⟩ ⟨by decide, by decide⟩ (k2 := 2) (n2 := 12) rfl rfl (Nat.le_of_ble_eq_true rfl) dX11_law_43 (kVM (fun s2 hS_s2 hF_s2 q11 => ?_))
  refine j_iload_n hx 0 dX11_law_46 rfl ?_
  exact j_iret hx hq.r rfl (by decide) (by decide) dX11_law_47 ⟨v5, rfl, rfl, hS_s2, (zFr_t (zFr_t zFr_rf hF_s1 (by decide)) hF_s2 (by decide)), (by omega)⟩

set_option maxHeartbeats 4000000 in
set_option maxRecDepth 20000 in
theorem c_X11_draws {E : zE} {l : Launch} (hst : l.stackTraces = false) (a : Nat) (x1 : Int) : Con E l yX11_draws cX11_draws 2 none { frames := 1, cells := 0, slots := 0, locals := 21 } (fun G s vs => vs = [.ref a, .int (zI x1)] ∧ zGK G ∧ zSK G s ∧ (gT G a = 12) ∧ ((-2147483648) ≤ x1 ∧ x1 ≤ 2147483647)) (fun G s _ => pV (fun G2 s2 => G2 = G ∧ zSK G s2 ∧ zFr [4, 5] G s s2 ∧ True)) := by
  refine Con.mk hst (by decide) (fun G s vs h => by rw [h.1]; exact Nat.le_of_ble_eq_true rfl) ?_
  rintro X G s0 vs ⟨rfl, hG, hS0, ha, hx1⟩ rfl hx hq
  show JJ X E 2 G s0 0 0 [(0, .ref a), (1, .int (zI x1))] 0 []
  refine j_aload_n hx 0 dX11_draws_0 rfl ?_
  refine g12_6 hx hG ha kf_RX11_48 dX11_draws_1 ?_
  refine j_iconst hx dX11_draws_4 ?_
  refine pN4_8 hx hG (zr (k := 6) (t2 := 4) hG ha rfl) kf_RX11_217 (by omega) dX11_draws_5 ?_
  obtain ⟨s1, e_s1⟩ : ∃ z, z = zU s0 (gP G a 6) 8 1 := ⟨_, rfl⟩
  rw [← e_s1]
  have hS_s1 : zSK G s1 := by rw [e_s1]; exact zSK_F hS0 (zr (k := 6) (t2 := 4) hG ha rfl) rfl rfl rfl (by omega)
  refine j_aload_n hx 0 dX11_draws_8 rfl ?_
  refine g12_6 hx hG ha kf_RX11_48 dX11_draws_9 ?_
  refine j_iload_n hx 1 dX11_draws_12 rfl ?_
  refine pN4_9 hx hG (zr (k := 6) (t2 := 4) hG ha rfl) kf_RX11_221 dX11_draws_13 ?_
  obtain ⟨s2, e_s2⟩ : ∃ z, z = zU s1 (gP G a 6) 9 x1 := ⟨_, rfl⟩
  rw [← e_s2]
  have hS_s2 : zSK G s2 := by rw [e_s2]; exact zSK_F hS_s1 (zr (k := 6) (t2 := 4) hG ha rfl) rfl rfl rfl (by omega)
  refine j_aload_n hx 0 dX11_draws_16 rfl ?_
  refine g12_9 hx hG ha kf_RX11_69 dX11_draws_17 ?_
  refine j_aload_n hx 0 dX11_draws_20 rfl ?_
  refine g12_6 hx hG ha kf_RX11_48 dX11_draws_21 ?_
  have f1 := zf hS0 (zr (k := 6) (t2 := 4) hG ha rfl) (k := 10) rfl
  refine gN4_10 hx hG (zr (k := 6) (t2 := 4) hG ha rfl) kf_RX11_165 (v := (s0 (gP G a 6) 10)) (by rw [e_s2, zU_at (Or.inr (by decide)), e_s1, zU_at (Or.inr (by decide))]) dX11_draws_24 ?_
  refine j_callV hx hG (c_X4_settle hst (gP G a 9) ((s0 (gP G a 6) 10))) lk_RX11_124 (zr (k := 9) (t2 := 5) hG ha rfl) (by decide) rfl rfl rfl rfl [.int (zI ((s0 (gP G a 6) 10)))] ⟨rfl, hG, hS_s2, (zr (k := 9) (t2 := 5) hG ha rfl), (by omega)⟩ rfl rfl ⟨by decide, by decide⟩ ⟨by decide, by decide⟩ (k2 := 0) (n2 := 0) rfl rfl (Nat.le_of_ble_eq_true rfl) dX11_draws_27 (kVM (fun s3 hS_s3 hF_s3 q3 => ?_))
  exact j_vret hx hq rfl (by decide) (by decide) dX11_draws_30 ⟨rfl, rfl, hS_s3, (zFr_t (zFr_u (zFr_u zFr_rf e_s1 (zr (k := 6) (t2 := 4) hG ha rfl) (by decide)) e_s2 (zr (k := 6) (t2 := 4) hG ha rfl) (by decide)) hF_s3 (by decide)), trivial⟩

set_option maxHeartbeats 4000000 in
set_option maxRecDepth 20000 in
theorem c_X11_still {E : zE} {l : Launch} (hst : l.stackTraces = false) (a : Nat) : Con E l yX11_still cX11_still 2 (some .int) { frames := 1, cells := 0, slots := 0, locals := 21 } (fun G s vs => vs = [.ref a] ∧ zGK G ∧ zSK G s ∧ (gT G a = 12)) (fun G s _ => pI (fun r G2 s2 => G2 = G ∧ zSK G s2 ∧ zFr [4, 5] G s s2 ∧ ((-2147483648) ≤ r ∧ r ≤ 2147483647))) := by
  refine Con.mk hst (by decide) (fun G s vs h => by rw [h.1]; exact Nat.le_of_ble_eq_true rfl) ?_
  rintro X G s0 vs ⟨rfl, hG, hS0, ha⟩ rfl hx hq
  show JJ X E 2 G s0 0 0 [(0, .ref a)] 0 []
  refine j_aload_n hx 0 dX11_still_0 rfl ?_
  refine g12_6 hx hG ha kf_RX11_48 dX11_still_1 ?_
  have f1 := zf hS0 (zr (k := 6) (t2 := 4) hG ha rfl) (k := 8) rfl
  refine gN4_8 hx hG (zr (k := 6) (t2 := 4) hG ha rfl) kf_RX11_217 rfl dX11_still_4 ?_
  have c15_1 : ∀ (v2 : Int), (0 ≤ v2 ∧ v2 ≤ 1) → JJ X E 2 G s0 0 0 [(0, .ref a)] 15 [.int (zI v2)] := by
    intro v2 fA2
    refine j_istore_n hx [(1, .int (zI v2)), (0, .ref a)] dX11_still_15 (by decide) rfl ?_
    refine j_aload_n hx 1 dX11_still_16 rfl ?_
    refine g12_6 hx hG ha kf_RX11_48 dX11_still_17 ?_
    refine j_iconst hx dX11_still_20 ?_
    refine pN4_8 hx hG (zr (k := 6) (t2 := 4) hG ha rfl) kf_RX11_217 (by omega) dX11_still_21 ?_
    obtain ⟨s3, e_s3⟩ : ∃ z, z = zU s0 (gP G a 6) 8 0 := ⟨_, rfl⟩
    rw [← e_s3]
    have hS_s3 : zSK G s3 := by rw [e_s3]; exact zSK_F hS0 (zr (k := 6) (t2 := 4) hG ha rfl) rfl rfl rfl (by omega)
    refine j_aload_n hx 1 dX11_still_24 rfl ?_
    refine g12_9 hx hG ha kf_RX11_69 dX11_still_25 ?_
    refine j_aload_n hx 1 dX11_still_28 rfl ?_
    refine g12_6 hx hG ha kf_RX11_48 dX11_still_29 ?_
    have f3 := zf hS0 (zr (k := 6) (t2 := 4) hG ha rfl) (k := 10) rfl
    refine gN4_10 hx hG (zr (k := 6) (t2 := 4) hG ha rfl) kf_RX11_165 (v := (s0 (gP G a 6) 10)) (by rw [e_s3, zU_at (Or.inr (by decide))]) dX11_still_32 ?_
    refine j_callV hx hG (c_X4_settle hst (gP G a 9) ((s0 (gP G a 6) 10))) lk_RX11_124 (zr (k := 9) (t2 := 5) hG ha rfl) (by decide) rfl rfl rfl rfl [.int (zI ((s0 (gP G a 6) 10)))] ⟨rfl, hG, hS_s3, (zr (k := 9) (t2 := 5) hG ha rfl), (by omega)⟩ rfl rfl ⟨by decide, by decide⟩ ⟨by decide, by decide⟩ (k2 := 0) (n2 := 0) rfl rfl (Nat.le_of_ble_eq_true rfl) dX11_still_35 (kVM (fun s4 hS_s4 hF_s4 q5 => ?_))
    refine j_iload_n hx 0 dX11_still_38 rfl ?_
    exact j_iret hx hq rfl (by decide) (by decide) dX11_still_39 ⟨v2, rfl, rfl, hS_s4, (zFr_t (zFr_u zFr_rf e_s3 (zr (k := 6) (t2 := 4) hG ha rfl) (by decide)) hF_s4 (by decide)), (by omega)⟩
  refine j_if_eq hx 14 dX11_still_7 rfl (by omega) (fun h6 => ?_) (fun h6 => ?_)
  · skip
    refine j_iconst hx dX11_still_14 ?_
    exact j_sub [0] [(0, .ref a)] rfl (c15_1 0 (by omega))
  · skip
    refine j_iconst hx dX11_still_10 ?_
    refine j_goto hx 15 dX11_still_11 rfl ?_
    exact j_sub [0] [(0, .ref a)] rfl (c15_1 1 (by omega))

theorem lk_RX0_92 : LkV RX0 92 RX0 yX0_whose cX0_whose 1 (some .int) 0 := ⟨km_RX0_92, ki_yX0_whose, ks_RX0_yX0_whose, kn_RX0, kc_yX0_whose, rfl, by decide +kernel, by decide +kernel, by decide +kernel⟩
set_option maxHeartbeats 4000000 in
set_option maxRecDepth 20000 in
theorem c_X0_pack {E : zE} {l : Launch} (hst : l.stackTraces = false) (a : Nat) (b1 : Nat) (x2 : Int) : Con E l yX0_pack cX0_pack 12 none { frames := 3, cells := 0, slots := 0, locals := 65 } (fun G s vs => vs = [.ref a, .ref b1, .int (zI x2)] ∧ zGK G ∧ zSK G s ∧ (gT G a = 1) ∧ (gT G b1 = 53) ∧ ((-2147483648) ≤ x2 ∧ x2 ≤ 2147483647)) (fun G s _ => pV (fun G2 s2 => G2 = G ∧ zSK G s2 ∧ zFr [53] G s s2 ∧ True)) := by
  refine Con.mk hst (by decide) (fun G s vs h => by rw [h.1]; exact Nat.le_of_ble_eq_true rfl) ?_
  rintro X G s0 vs ⟨rfl, hG, hS0, ha, hb1, hx2⟩ rfl hx hq
  show JJ X E 12 G s0 0 0 [(0, .ref a), (1, .ref b1), (2, .int (zI x2))] 0 []
  refine j_iload_n hx 2 dX0_pack_0 rfl ?_
  refine j_if_lt hx 13 dX0_pack_1 rfl (by omega) (fun h1 => ?_) (fun h1 => ?_)
  · skip
    exact j_vret hx hq rfl (by decide) (by decide) dX0_pack_13 ⟨rfl, rfl, hS0, zFr_rf, trivial⟩
  · skip
    refine j_iload_n hx 2 dX0_pack_4 rfl ?_
    refine j_aload_n hx 1 dX0_pack_5 rfl ?_
    have f2 := znb hG b1
    refine j_alen hx hG hb1 (by decide) (by decide) rfl dX0_pack_6 ?_
    refine j_bipush hx dX0_pack_7 rfl ?_
    refine j_isub hx (r := (gN G b1 : Int) - 7) dX0_pack_9 (by omega) ?_
    refine j_icmp_le hx 14 dX0_pack_10 rfl (by omega) (by omega) (fun h3 => ?_) (fun h3 => ?_)
    · skip
      refine j_iconst hx dX0_pack_14 ?_
      refine j_istore_n hx [(3, .int (zI 0)), (0, .ref a), (1, .ref b1), (2, .int (zI x2))] dX0_pack_15 (by decide) rfl ?_
      have c16_1 : ∀ (m_c16_1 : Nat) (v4 : Int) (s2 : zS), 2147483648 - v4 < m_c16_1 → (0 ≤ v4 ∧ v4 ≤ 7) → (zSK G s2) → (zFr [53] G s0 s2) → JJ X E 12 G s2 0 0 [(0, .ref a), (1, .ref b1), (2, .int (zI x2)), (3, .int (zI v4))] 16 [] := by
        intro m_c16_1
        induction m_c16_1 with
        | zero => intro v4 s2 hm_c16_1 fA3 hS_s2 hF_s2; exfalso; omega
        | succ m_c16_1 ih_c16_1 => 
          intro v4 s2 hm_c16_1 fA3 hS_s2 hF_s2
          refine j_iload_n hx 3 dX0_pack_16 rfl ?_
          refine j_bipush hx dX0_pack_17 rfl ?_
          refine j_icmp_ge hx 34 dX0_pack_19 rfl (by omega) ⟨by decide, by decide⟩ (fun h5 => ?_) (fun h5 => ?_)
          · skip
            refine j_aload_n hx 0 dX0_pack_34 rfl ?_
            refine j_callV hx hG (c_X0_whose hst a) lk_RX0_92 ha (by decide) rfl rfl rfl rfl [] ⟨rfl, hG, hS_s2, ha⟩ rfl rfl ⟨by decide, by decide⟩ ⟨by decide, by decide⟩ (k2 := 0) (n2 := 0) rfl rfl (Nat.le_of_ble_eq_true rfl) dX0_pack_35 (kIP (fun v6 q7 => ?_))
            refine j_iconst hx dX0_pack_38 ?_
            refine j_iadd hx (r := v6 + 1) dX0_pack_39 rfl ?_
            refine j_i2l hx dX0_pack_40 (by omega) ?_
            refine j_bipush hx dX0_pack_41 rfl ?_
            refine j_lshl hx dX0_pack_43 (fun w8 f9 f10 => ?_)
            refine j_lstore_n hx [(3, .long (zL w8)), (0, .ref a), (1, .ref b1), (2, .int (zI x2))] dX0_pack_44 (by decide) rfl ?_
            refine j_lconst hx dX0_pack_45 ?_
            show JJ X E 12 G s2 0 0 [(3, .long (zL w8)), (0, .ref a), (1, .ref b1), (2, .int (zI x2))] 46 [.long (zL 0)]
            refine j_lstore hx [(5, .long (zL 0)), (3, .long (zL w8)), (0, .ref a), (1, .ref b1), (2, .int (zI x2))] dX0_pack_46 (by decide) rfl ?_
            refine j_iconst hx dX0_pack_48 ?_
            refine j_istore hx [(7, .int (zI 0)), (5, .long (zL 0)), (3, .long (zL w8)), (0, .ref a), (1, .ref b1), (2, .int (zI x2))] dX0_pack_49 (by decide) rfl ?_
            refine j_iconst hx dX0_pack_51 ?_
            refine j_istore hx [(8, .int (zI 0)), (7, .int (zI 0)), (5, .long (zL 0)), (3, .long (zL w8)), (0, .ref a), (1, .ref b1), (2, .int (zI x2))] dX0_pack_52 (by decide) rfl ?_
            refine j_iconst hx dX0_pack_54 ?_
            refine j_istore hx [(9, .int (zI 0)), (8, .int (zI 0)), (7, .int (zI 0)), (5, .long (zL 0)), (3, .long (zL w8)), (0, .ref a), (1, .ref b1), (2, .int (zI x2))] dX0_pack_55 (by decide) rfl ?_
            have c57_6 : ∀ (m_c57_6 : Nat) (w11 : Int) (w12 : Int) (v13 : Int) (v14 : Int) (v15 : Int) (s7 : zS), 2147483648 - v15 < m_c57_6 → ((-9223372036854775808) ≤ w11 ∧ w11 ≤ 9223372036854775807) → ((-9223372036854775808) ≤ w12 ∧ w12 ≤ 9223372036854775807) → ((-2147483648) ≤ v13 ∧ v13 ≤ 2147483647) → (0 ≤ v14 ∧ v14 ≤ 5) → (0 ≤ v15 ∧ v15 ≤ 7) → (zSK G s7) → (zFr [53] G s2 s7) → JJ X E 12 G s7 0 0 [(0, .ref a), (1, .ref b1), (2, .int (zI x2)), (3, .long (zL w11)), (5, .long (zL w12)), (7, .int (zI v13)), (8, .int (zI v14)), (9, .int (zI v15))] 57 [] := by
              intro m_c57_6
              induction m_c57_6 with
              | zero => intro w11 w12 v13 v14 v15 s7 hm_c57_6 fA8 fA9 fA10 fA11 fA12 hS_s7 hF_s7; exfalso; omega
              | succ m_c57_6 ih_c57_6 => 
                intro w11 w12 v13 v14 v15 s7 hm_c57_6 fA8 fA9 fA10 fA11 fA12 hS_s7 hF_s7
                refine j_iload hx 7 dX0_pack_57 rfl ?_
                refine j_bipush hx dX0_pack_59 rfl ?_
                refine j_icmp_ge hx 175 dX0_pack_61 rfl (by omega) ⟨by decide, by decide⟩ (fun h16 => ?_) (fun h16 => ?_)
                · skip
                  refine j_aload_n hx 1 dX0_pack_175 rfl ?_
                  refine j_iload_n hx 2 dX0_pack_176 rfl ?_
                  refine j_iconst hx dX0_pack_177 ?_
                  refine j_iadd hx (r := x2 + 5) dX0_pack_178 rfl ?_
                  refine j_lload_n hx 3 dX0_pack_179 rfl ?_
                  refine j_last hx hG hb1 (by decide) rfl rfl (by omega) (by omega) (j := (x2 + 5).toNat) rfl dX0_pack_180 ?_
                  obtain ⟨s15, e_s15⟩ : ∃ z, z = zU s7 b1 (x2 + 5).toNat w11 := ⟨_, rfl⟩
                  rw [← e_s15]
                  have hS_s15 : zSK G s15 := by rw [e_s15]; exact zSK_A hS_s7 hb1 rfl rfl rfl (by omega)
                  exact j_vret hx hq rfl (by decide) (by decide) dX0_pack_181 ⟨rfl, rfl, hS_s15, (zFr_u (zFr_t (zFr_t zFr_rf hF_s2 (by decide)) hF_s7 (by decide)) e_s15 hb1 (by decide)), trivial⟩
                · skip
                  refine j_aload_n hx 0 dX0_pack_64 rfl ?_
                  refine j_iload hx 7 dX0_pack_65 rfl ?_
                  refine j_callV hx hG (c_X0_pileOf hst a v15) lk_RX0_47 ha (by decide) rfl rfl rfl rfl [.int (zI v15)] ⟨rfl, hG, hS_s7, ha, (by omega)⟩ rfl rfl ⟨by decide, by decide⟩ ⟨by decide, by decide⟩ (k2 := 0) (n2 := 0) rfl rfl (Nat.le_of_ble_eq_true rfl) dX0_pack_67 (kRP (fun r17 q18 => ?_))
                  refine j_astore hx [(10, .ref r17), (0, .ref a), (1, .ref b1), (2, .int (zI x2)), (3, .long (zL w11)), (5, .long (zL w12)), (7, .int (zI v13)), (8, .int (zI v14)), (9, .int (zI v15))] dX0_pack_70 (by decide) rfl ?_
                  refine j_lload_n hx 4 dX0_pack_72 rfl ?_
                  refine j_aload hx 0 dX0_pack_73 rfl ?_
                  have f19 := zf hS0 q18 (k := 1) rfl
                  refine gN7_1 hx hG q18 kf_RX0_43 (v := (s0 r17 1)) (by rw [(zFr_g hF_s7 q18 (by decide)), (zFr_g hF_s2 q18 (by decide))]) dX0_pack_75 ?_
                  refine j_i2l hx dX0_pack_78 (by omega) ?_
                  refine j_bipush hx dX0_pack_79 rfl ?_
                  refine j_iload hx 8 dX0_pack_81 rfl ?_
                  refine j_imul hx (r := 6 * v15) dX0_pack_83 rfl ?_
                  refine j_lshl hx dX0_pack_84 (fun w20 f21 f22 => ?_)
                  refine j_lor hx dX0_pack_85 (fun w23 f24 f25 => ?_)
                  refine j_lstore_n hx [(3, .long (zL w23)), (10, .ref r17), (0, .ref a), (1, .ref b1), (2, .int (zI x2)), (5, .long (zL w12)), (7, .int (zI v13)), (8, .int (zI v14)), (9, .int (zI v15))] dX0_pack_86 (by decide) rfl ?_
                  refine j_iconst hx dX0_pack_87 ?_
                  refine j_istore hx [(11, .int (zI 0)), (3, .long (zL w23)), (10, .ref r17), (0, .ref a), (1, .ref b1), (2, .int (zI x2)), (5, .long (zL w12)), (7, .int (zI v13)), (8, .int (zI v14)), (9, .int (zI v15))] dX0_pack_88 (by decide) rfl ?_
                  have c90_16 : ∀ (m_c90_16 : Nat) (w26 : Int) (v27 : Int) (v28 : Int) (v29 : Int) (s17 : zS), 2147483648 - v29 < m_c90_16 → ((-9223372036854775808) ≤ w26 ∧ w26 ≤ 9223372036854775807) → ((-2147483648) ≤ v27 ∧ v27 ≤ 2147483647) → (0 ≤ v28 ∧ v28 ≤ 5) → (0 ≤ v29 ∧ v29 ≤ 60) → (zSK G s17) → (zFr [53] G s7 s17) → JJ X E 12 G s17 0 0 [(0, .ref a), (1, .ref b1), (2, .int (zI x2)), (3, .long (zL w23)), (5, .long (zL w26)), (7, .int (zI v27)), (8, .int (zI v28)), (9, .int (zI v15)), (10, .ref r17), (11, .int (zI v29))] 90 [] := by
                    intro m_c90_16
                    induction m_c90_16 with
                    | zero => intro w26 v27 v28 v29 s17 hm_c90_16 fA18 fA19 fA20 fA21 hS_s17 hF_s17; exfalso; omega
                    | succ m_c90_16 ih_c90_16 => 
                      intro w26 v27 v28 v29 s17 hm_c90_16 fA18 fA19 fA20 fA21 hS_s17 hF_s17
                      refine j_iload hx 9 dX0_pack_90 rfl ?_
                      refine j_aload hx 8 dX0_pack_92 rfl ?_
                      refine gN7_1 hx hG q18 kf_RX0_43 (v := (s0 r17 1)) (by rw [(zFr_g hF_s17 q18 (by decide)), (zFr_g hF_s7 q18 (by decide)), (zFr_g hF_s2 q18 (by decide))]) dX0_pack_94 ?_
                      have c169_24 : JJ X E 12 G s17 0 0 [(0, .ref a), (1, .ref b1), (2, .int (zI x2)), (3, .long (zL w23)), (5, .long (zL w26)), (7, .int (zI v27)), (8, .int (zI v28)), (9, .int (zI v15))] 169 [] := by
                        refine j_iinc hx 7 [(9, .int (zI (v15 + 1))), (0, .ref a), (1, .ref b1), (2, .int (zI x2)), (3, .long (zL w23)), (5, .long (zL w26)), (7, .int (zI v27)), (8, .int (zI v28))] dX0_pack_169 rfl (by omega) (by decide) rfl ?_
                        refine j_goto hx 57 dX0_pack_172 rfl ?_
                        exact j_sub [1, 2, 3, 4, 5, 6, 7, 0] [(0, .ref a), (1, .ref b1), (2, .int (zI x2)), (3, .long (zL w23)), (5, .long (zL w26)), (7, .int (zI v27)), (8, .int (zI v28)), (9, .int (zI (v15 + 1)))] rfl (ih_c57_6 w23 w26 v27 v28 (v15 + 1) s17 (by omega) (by omega) (by omega) (by omega) (by omega) (by omega) hS_s17 (zFr_t (zFr_t zFr_rf hF_s7 (by decide)) hF_s17 (by decide)))
                      refine j_icmp_ge hx 169 dX0_pack_97 rfl (by omega) (by omega) (fun h30 => ?_) (fun h30 => ?_)
                      · skip
                        exact j_sub [0, 1, 2, 3, 4, 5, 6, 7] [(0, .ref a), (1, .ref b1), (2, .int (zI x2)), (3, .long (zL w23)), (5, .long (zL w26)), (7, .int (zI v27)), (8, .int (zI v28)), (9, .int (zI v15))] rfl (c169_24  )
                      · skip
                        refine j_iload hx 9 dX0_pack_100 rfl ?_
                        refine j_aload hx 8 dX0_pack_102 rfl ?_
                        refine gN7_0 hx hG q18 kf_RX0_106 dX0_pack_104 ?_
                        refine j_alen hx hG (zr (k := 0) (t2 := 41) hG q18 rfl) (by decide) (by decide) (zlen hG (zr (k := 0) (t2 := 41) hG q18 rfl) (n := 60) rfl rfl) dX0_pack_107 ?_
                        refine j_icmp_ge hx 169 dX0_pack_108 rfl (by omega) ⟨by decide, by decide⟩ (fun h31 => absurd h31 (by omega)) (fun h31 => ?_)
                        refine j_iload hx 6 dX0_pack_111 rfl ?_
                        refine j_iconst hx dX0_pack_113 ?_
                        refine j_icmp_ge hx 169 dX0_pack_114 rfl (by omega) ⟨by decide, by decide⟩ (fun h32 => ?_) (fun h32 => ?_)
                        · skip
                          exact j_sub [0, 1, 2, 3, 4, 5, 6, 7] [(0, .ref a), (1, .ref b1), (2, .int (zI x2)), (3, .long (zL w23)), (5, .long (zL w26)), (7, .int (zI v27)), (8, .int (zI v28)), (9, .int (zI v15))] rfl (c169_24  )
                        · skip
                          refine j_lload hx 4 dX0_pack_117 rfl ?_
                          refine j_aload hx 8 dX0_pack_119 rfl ?_
                          refine gN7_0 hx hG q18 kf_RX0_106 dX0_pack_121 ?_
                          refine j_iload hx 9 dX0_pack_124 rfl ?_
                          have f33 := zaI (j := (v29).toNat) hS0 (zr (k := 0) (t2 := 41) hG q18 rfl) rfl (zlen hG (zr (k := 0) (t2 := 41) hG q18 rfl) (n := 60) rfl rfl) (show 0 ≤ v29 by omega) (by omega) rfl
                          refine j_iald hx hG (zr (k := 0) (t2 := 41) hG q18 rfl) (by decide) rfl (zlen hG (zr (k := 0) (t2 := 41) hG q18 rfl) (n := 60) rfl rfl) (by omega) (by omega) (j := (v29).toNat) rfl (v := (s0 (gP G r17 0) (v29).toNat)) (by rw [(zFr_g hF_s17 (zr (k := 0) (t2 := 41) hG q18 rfl) (by decide)), (zFr_g hF_s7 (zr (k := 0) (t2 := 41) hG q18 rfl) (by decide)), (zFr_g hF_s2 (zr (k := 0) (t2 := 41) hG q18 rfl) (by decide))]) dX0_pack_126 ?_
                          refine j_i2l hx dX0_pack_127 (by omega) ?_
                          refine j_iconst hx dX0_pack_128 ?_
                          refine j_iload hx 5 dX0_pack_129 rfl ?_
                          refine j_imul hx (r := 5 * v27) dX0_pack_131 rfl ?_
                          refine j_norm (fun v34 f35 f36 f37 => ?_)
                          refine j_lshl hx dX0_pack_132 (fun w38 f39 f40 => ?_)
                          refine j_lor hx dX0_pack_133 (fun w41 f42 f43 => ?_)
                          refine j_lstore hx [(5, .long (zL w41)), (0, .ref a), (1, .ref b1), (2, .int (zI x2)), (3, .long (zL w23)), (7, .int (zI v27)), (8, .int (zI v28)), (9, .int (zI v15)), (10, .ref r17), (11, .int (zI v29))] dX0_pack_134 (by decide) rfl ?_
                          refine j_aload_n hx 2 dX0_pack_136 rfl ?_
                          refine j_iload_n hx 3 dX0_pack_137 rfl ?_
                          refine j_iload hx 6 dX0_pack_138 rfl ?_
                          refine j_iadd hx (r := x2 + v28) dX0_pack_140 rfl ?_
                          refine j_lload hx 0 dX0_pack_141 rfl ?_
                          refine j_last hx hG hb1 (by decide) rfl rfl (by omega) (by omega) (j := (x2 + v28).toNat) rfl dX0_pack_143 ?_
                          obtain ⟨s25, e_s25⟩ : ∃ z, z = zU s17 b1 (x2 + v28).toNat w41 := ⟨_, rfl⟩
                          rw [← e_s25]
                          have hS_s25 : zSK G s25 := by rw [e_s25]; exact zSK_A hS_s17 hb1 rfl rfl rfl (by omega)
                          refine j_iincN hx 5 (fun v44 => [(7, .int (zI v44)), (5, .long (zL w41)), (0, .ref a), (1, .ref b1), (2, .int (zI x2)), (3, .long (zL w23)), (8, .int (zI v28)), (9, .int (zI v15)), (10, .ref r17), (11, .int (zI v29))]) dX0_pack_144 rfl (by decide) (fun _ => rfl) (fun v44 f45 f46 f47 => ?_)
                          refine j_iload hx 0 dX0_pack_147 rfl ?_
                          refine j_bipush hx dX0_pack_149 rfl ?_
                          have c163_26 : ∀ (w48 : Int) (v49 : Int) (v50 : Int), ((-9223372036854775808) ≤ w48 ∧ w48 ≤ 9223372036854775807) → ((-2147483648) ≤ v49 ∧ v49 ≤ 2147483647) → (0 ≤ v50 ∧ v50 ≤ 5) → JJ X E 12 G s25 0 0 [(0, .ref a), (1, .ref b1), (2, .int (zI x2)), (3, .long (zL w23)), (5, .long (zL w48)), (7, .int (zI v49)), (8, .int (zI v50)), (9, .int (zI v15)), (10, .ref r17), (11, .int (zI v29))] 163 [] := by
                            intro w48 v49 v50 fA27 fA28 fA29
                            refine j_iinc hx 9 [(11, .int (zI (v29 + 1))), (0, .ref a), (1, .ref b1), (2, .int (zI x2)), (3, .long (zL w23)), (5, .long (zL w48)), (7, .int (zI v49)), (8, .int (zI v50)), (9, .int (zI v15)), (10, .ref r17)] dX0_pack_163 rfl (by omega) (by decide) rfl ?_
                            refine j_goto hx 90 dX0_pack_166 rfl ?_
                            exact j_sub [1, 2, 3, 4, 5, 6, 7, 8, 9, 0] [(0, .ref a), (1, .ref b1), (2, .int (zI x2)), (3, .long (zL w23)), (5, .long (zL w48)), (7, .int (zI v49)), (8, .int (zI v50)), (9, .int (zI v15)), (10, .ref r17), (11, .int (zI (v29 + 1)))] rfl (ih_c90_16 w48 v49 v50 (v29 + 1) s25 (by omega) (by omega) (by omega) (by omega) (by omega) hS_s25 (zFr_u (zFr_t zFr_rf hF_s17 (by decide)) e_s25 hb1 (by decide)))
                          refine j_icmp_ne hx 163 dX0_pack_151 rfl (by omega) ⟨by decide, by decide⟩ (fun h51 => ?_) (fun h51 => ?_)
                          · skip
                            exact j_sub [2, 3, 4, 5, 1, 0, 6, 7, 8, 9] [(0, .ref a), (1, .ref b1), (2, .int (zI x2)), (3, .long (zL w23)), (5, .long (zL w41)), (7, .int (zI v44)), (8, .int (zI v28)), (9, .int (zI v15)), (10, .ref r17), (11, .int (zI v29))] rfl (c163_26 w41 v44 v28 (by omega) (by omega) (by omega))
                          · skip
                            refine j_lconst hx dX0_pack_154 ?_
                            show JJ X E 12 G s25 0 0 [(7, .int (zI v44)), (5, .long (zL w41)), (0, .ref a), (1, .ref b1), (2, .int (zI x2)), (3, .long (zL w23)), (8, .int (zI v28)), (9, .int (zI v15)), (10, .ref r17), (11, .int (zI v29))] 155 [.long (zL 0)]
                            refine j_lstore hx [(5, .long (zL 0)), (7, .int (zI v44)), (0, .ref a), (1, .ref b1), (2, .int (zI x2)), (3, .long (zL w23)), (8, .int (zI v28)), (9, .int (zI v15)), (10, .ref r17), (11, .int (zI v29))] dX0_pack_155 (by decide) rfl ?_
                            refine j_iconst hx dX0_pack_157 ?_
                            refine j_istore hx [(7, .int (zI 0)), (5, .long (zL 0)), (0, .ref a), (1, .ref b1), (2, .int (zI x2)), (3, .long (zL w23)), (8, .int (zI v28)), (9, .int (zI v15)), (10, .ref r17), (11, .int (zI v29))] dX0_pack_158 (by decide) rfl ?_
                            refine j_iinc hx 6 [(8, .int (zI (v28 + 1))), (7, .int (zI 0)), (5, .long (zL 0)), (0, .ref a), (1, .ref b1), (2, .int (zI x2)), (3, .long (zL w23)), (9, .int (zI v15)), (10, .ref r17), (11, .int (zI v29))] dX0_pack_160 rfl (by omega) (by decide) rfl ?_
                            exact j_sub [3, 4, 5, 6, 2, 1, 0, 7, 8, 9] [(0, .ref a), (1, .ref b1), (2, .int (zI x2)), (3, .long (zL w23)), (5, .long (zL 0)), (7, .int (zI 0)), (8, .int (zI (v28 + 1))), (9, .int (zI v15)), (10, .ref r17), (11, .int (zI v29))] rfl (c163_26 0 0 (v28 + 1) (by omega) (by omega) (by omega))
                  exact j_sub [3, 4, 5, 1, 6, 7, 8, 9, 2, 0] [(0, .ref a), (1, .ref b1), (2, .int (zI x2)), (3, .long (zL w23)), (5, .long (zL w12)), (7, .int (zI v13)), (8, .int (zI v14)), (9, .int (zI v15)), (10, .ref r17), (11, .int (zI 0))] rfl (c90_16 (2147483648 * 4) w12 v13 v14 0 s7 (by omega) (by omega) (by omega) (by omega) (by omega) hS_s7 zFr_rf)
            exact j_sub [5, 6, 7, 4, 3, 2, 1, 0] [(0, .ref a), (1, .ref b1), (2, .int (zI x2)), (3, .long (zL w8)), (5, .long (zL 0)), (7, .int (zI 0)), (8, .int (zI 0)), (9, .int (zI 0))] rfl (c57_6 (2147483648 * 4) w8 0 0 0 0 s2 (by omega) (by omega) (by omega) (by omega) (by omega) (by omega) hS_s2 zFr_rf)
          · skip
            refine j_aload_n hx 1 dX0_pack_22 rfl ?_
            refine j_iload_n hx 2 dX0_pack_23 rfl ?_
            refine j_iload_n hx 3 dX0_pack_24 rfl ?_
            refine j_iadd hx (r := x2 + v4) dX0_pack_25 rfl ?_
            refine j_lconst hx dX0_pack_26 ?_
            show JJ X E 12 G s2 0 0 [(0, .ref a), (1, .ref b1), (2, .int (zI x2)), (3, .int (zI v4))] 27 [.long (zL 0), .int (zI (x2 + v4)), .ref b1]
            refine j_last hx hG hb1 (by decide) rfl rfl (by omega) (by omega) (j := (x2 + v4).toNat) rfl dX0_pack_27 ?_
            obtain ⟨s30, e_s30⟩ : ∃ z, z = zU s2 b1 (x2 + v4).toNat 0 := ⟨_, rfl⟩
            rw [← e_s30]
            have hS_s30 : zSK G s30 := by rw [e_s30]; exact zSK_A hS_s2 hb1 rfl rfl rfl (by omega)
            refine j_iinc hx 3 [(3, .int (zI (v4 + 1))), (0, .ref a), (1, .ref b1), (2, .int (zI x2))] dX0_pack_28 rfl (by omega) (by decide) rfl ?_
            refine j_goto hx 16 dX0_pack_31 rfl ?_
            exact j_sub [1, 2, 3, 0] [(0, .ref a), (1, .ref b1), (2, .int (zI x2)), (3, .int (zI (v4 + 1)))] rfl (ih_c16_1 (v4 + 1) s30 (by omega) (by omega) hS_s30 (zFr_u (zFr_t zFr_rf hF_s2 (by decide)) e_s30 hb1 (by decide)))
      exact j_sub [1, 2, 3, 0] [(0, .ref a), (1, .ref b1), (2, .int (zI x2)), (3, .int (zI 0))] rfl (c16_1 (2147483648 * 4) 0 s0 (by omega) (by omega) hS0 zFr_rf)
    · skip
      exact j_vret hx hq rfl (by decide) (by decide) dX0_pack_13 ⟨rfl, rfl, hS0, zFr_rf, trivial⟩

set_option maxHeartbeats 4000000 in
set_option maxRecDepth 20000 in
theorem c_X3_tallyOf {E : zE} {l : Launch} (hst : l.stackTraces = false) (a : Nat) (x1 : Int) : Con E l yX3_tallyOf cX3_tallyOf 2 (some .int) { frames := 0, cells := 0, slots := 0, locals := 0 } (fun G s vs => vs = [.ref a, .int (zI x1)] ∧ zGK G ∧ zSK G s ∧ (gT G a = 4) ∧ ((-2147483648) ≤ x1 ∧ x1 ≤ 2147483647)) (fun G s _ => pI (fun r G2 s2 => G2 = G ∧ s2 = s ∧ ((-2147483648) ≤ r ∧ r ≤ 2147483647))) := by
  refine Con.mk hst (by decide) (fun G s vs h => by rw [h.1]; exact Nat.le_of_ble_eq_true rfl) ?_
  rintro X G s0 vs ⟨rfl, hG, hS0, ha, hx1⟩ rfl hx hq
  show JJ X E 2 G s0 0 0 [(0, .ref a), (1, .int (zI x1))] 0 []
  refine j_iload_n hx 1 dX3_tallyOf_0 rfl ?_
  refine j_if_lt hx 22 dX3_tallyOf_1 rfl (by omega) (fun h1 => ?_) (fun h1 => ?_)
  · skip
    refine j_iconst hx dX3_tallyOf_22 ?_
    exact j_iret hx hq rfl (by decide) (by decide) dX3_tallyOf_23 ⟨0, rfl, rfl, rfl, (by omega)⟩
  · skip
    refine j_iload_n hx 1 dX3_tallyOf_4 rfl ?_
    refine j_aload_n hx 0 dX3_tallyOf_5 rfl ?_
    refine g4_4 hx hG ha kf_RX3_28 dX3_tallyOf_6 ?_
    refine j_alen hx hG (zr (k := 4) (t2 := 50) hG ha rfl) (by decide) (by decide) (zlen hG (zr (k := 4) (t2 := 50) hG ha rfl) (n := 21) rfl rfl) dX3_tallyOf_9 ?_
    refine j_icmp_ge hx 22 dX3_tallyOf_10 rfl (by omega) ⟨by decide, by decide⟩ (fun h2 => ?_) (fun h2 => ?_)
    · skip
      refine j_iconst hx dX3_tallyOf_22 ?_
      exact j_iret hx hq rfl (by decide) (by decide) dX3_tallyOf_23 ⟨0, rfl, rfl, rfl, (by omega)⟩
    · skip
      refine j_aload_n hx 0 dX3_tallyOf_13 rfl ?_
      refine g4_4 hx hG ha kf_RX3_28 dX3_tallyOf_14 ?_
      refine j_iload_n hx 1 dX3_tallyOf_17 rfl ?_
      have f3 := zaI (j := (x1).toNat) hS0 (zr (k := 4) (t2 := 50) hG ha rfl) rfl (zlen hG (zr (k := 4) (t2 := 50) hG ha rfl) (n := 21) rfl rfl) (show 0 ≤ x1 by omega) (by omega) rfl
      refine j_iald hx hG (zr (k := 4) (t2 := 50) hG ha rfl) (by decide) rfl (zlen hG (zr (k := 4) (t2 := 50) hG ha rfl) (n := 21) rfl rfl) (by omega) (by omega) (j := (x1).toNat) rfl rfl dX3_tallyOf_18 ?_
      refine j_goto hx 23 dX3_tallyOf_19 rfl ?_
      exact j_iret hx hq rfl (by decide) (by decide) dX3_tallyOf_23 ⟨(s0 (gP G a 4) (x1).toNat), rfl, rfl, rfl, (by omega)⟩

theorem lk_RX4_78 : LkV RX4 78 RX0 yX0_pack cX0_pack 12 none 2 := ⟨km_RX4_78, ki_yX0_pack, ks_RX0_yX0_pack, kn_RX0, kc_yX0_pack, rfl, by decide +kernel, by decide +kernel, by decide +kernel⟩
theorem lk_RX4_87 : LkV RX4 87 RX3 yX3_tallyOf cX3_tallyOf 2 (some .int) 1 := ⟨km_RX4_87, ki_yX3_tallyOf, ks_RX3_yX3_tallyOf, kn_RX3, kc_yX3_tallyOf, rfl, by decide +kernel, by decide +kernel, by decide +kernel⟩
set_option maxHeartbeats 4000000 in
set_option maxRecDepth 20000 in
theorem c_X4_mark {E : zE} {l : Launch} (hst : l.stackTraces = false) (a : Nat) (b1 : Nat) : Con E l yX4_mark cX4_mark 5 none { frames := 4, cells := 0, slots := 0, locals := 96 } (fun G s vs => vs = [.ref a, .ref b1] ∧ zGK G ∧ zSK G s ∧ (gT G a = 5) ∧ (gT G b1 = 4)) (fun G s _ => pV (fun G2 s2 => G2 = G ∧ zSK G s2 ∧ zFr [5, 53, 59, 60] G s s2 ∧ True)) := by
  refine Con.mk hst (by decide) (fun G s vs h => by rw [h.1]; exact Nat.le_of_ble_eq_true rfl) ?_
  rintro X G s0 vs ⟨rfl, hG, hS0, ha, hb1⟩ rfl hx hq
  show JJ X E 5 G s0 0 0 [(0, .ref a), (1, .ref b1)] 0 []
  refine j_aload_n hx 0 dX4_mark_0 rfl ?_
  have f1 := zf hS0 ha (k := 4) rfl
  refine g5_4 hx hG ha kf_RX4_31 rfl dX4_mark_1 ?_
  refine j_bipush hx dX4_mark_4 rfl ?_
  refine j_imul hx (r := 7 * (s0 a 4)) dX4_mark_6 (by omega) ?_
  refine j_norm (fun v2 f3 f4 f5 => ?_)
  refine j_istore_n hx [(2, .int (zI v2)), (0, .ref a), (1, .ref b1)] dX4_mark_7 (by decide) rfl ?_
  refine j_aload_n hx 1 dX4_mark_8 rfl ?_
  refine g5_4 hx hG ha kf_RX4_31 rfl dX4_mark_9 ?_
  refine j_if_lt hx 39 dX4_mark_12 rfl (by omega) (fun h6 => ?_) (fun h6 => ?_)
  · skip
    exact j_vret hx hq rfl (by decide) (by decide) dX4_mark_39 ⟨rfl, rfl, hS0, zFr_rf, trivial⟩
  · skip
    refine j_aload_n hx 1 dX4_mark_15 rfl ?_
    refine g5_4 hx hG ha kf_RX4_31 rfl dX4_mark_16 ?_
    refine j_aload_n hx 1 dX4_mark_19 rfl ?_
    refine g5_3 hx hG ha kf_RX4_24 dX4_mark_20 ?_
    refine j_alen hx hG (zr (k := 3) (t2 := 60) hG ha rfl) (by decide) (by decide) (zlen hG (zr (k := 3) (t2 := 60) hG ha rfl) (n := 512) rfl rfl) dX4_mark_23 ?_
    refine j_icmp_ge hx 39 dX4_mark_24 rfl (by omega) ⟨by decide, by decide⟩ (fun h7 => ?_) (fun h7 => ?_)
    · skip
      exact j_vret hx hq rfl (by decide) (by decide) dX4_mark_39 ⟨rfl, rfl, hS0, zFr_rf, trivial⟩
    · skip
      refine j_iload_n hx 0 dX4_mark_27 rfl ?_
      refine j_aload_n hx 1 dX4_mark_28 rfl ?_
      refine g5_1 hx hG ha kf_RX4_15 dX4_mark_29 ?_
      have f8 := znb hG (gP G a 1)
      refine j_alen hx hG (zr (k := 1) (t2 := 53) hG ha rfl) (by decide) (by decide) rfl dX4_mark_32 ?_
      refine j_bipush hx dX4_mark_33 rfl ?_
      refine j_isub hx (r := (gN G (gP G a 1) : Int) - 7) dX4_mark_35 (by omega) ?_
      refine j_icmp_le hx 40 dX4_mark_36 rfl (by omega) (by omega) (fun h9 => ?_) (fun h9 => ?_)
      · skip
        refine j_aload_n hx 2 dX4_mark_40 rfl ?_
        refine gN4_1 hx hG hb1 kf_RX4_74 dX4_mark_41 ?_
        refine j_aload_n hx 1 dX4_mark_44 rfl ?_
        refine g5_1 hx hG ha kf_RX4_15 dX4_mark_45 ?_
        refine j_iload_n hx 0 dX4_mark_48 rfl ?_
        refine j_callV hx hG (c_X0_pack hst (gP G b1 1) (gP G a 1) v2) lk_RX4_78 (zr (k := 1) (t2 := 1) hG hb1 rfl) (by decide) rfl rfl rfl rfl [.ref (gP G a 1), .int (zI v2)] ⟨rfl, hG, hS0, (zr (k := 1) (t2 := 1) hG hb1 rfl), (zr (k := 1) (t2 := 53) hG ha rfl), (by omega)⟩ rfl rfl ⟨by decide, by decide⟩ ⟨by decide, by decide⟩ (k2 := 0) (n2 := 0) rfl rfl (Nat.le_of_ble_eq_true rfl) dX4_mark_49 (kVM (fun s1 hS_s1 hF_s1 q11 => ?_))
        refine j_aload_n hx 1 dX4_mark_52 rfl ?_
        refine g5_1 hx hG ha kf_RX4_15 dX4_mark_53 ?_
        refine j_iload_n hx 0 dX4_mark_56 rfl ?_
        refine j_bipush hx dX4_mark_57 rfl ?_
        refine j_iadd hx (r := v2 + 6) dX4_mark_59 rfl ?_
        refine j_aload_n hx 2 dX4_mark_60 rfl ?_
        have f12 := zf hS0 hb1 (k := 9) rfl
        refine gN4_9 hx hG hb1 kf_RX4_84 (v := (s0 b1 9)) (by rw [(zFr_g hF_s1 hb1 (by decide))]) dX4_mark_61 ?_
        refine j_i2l hx dX4_mark_64 (by omega) ?_
        refine j_last hx hG (zr (k := 1) (t2 := 53) hG ha rfl) (by decide) rfl rfl (by omega) (by omega) (j := (v2 + 6).toNat) rfl dX4_mark_65 ?_
        obtain ⟨s2, e_s2⟩ : ∃ z, z = zU s1 (gP G a 1) (v2 + 6).toNat ((s0 b1 9)) := ⟨_, rfl⟩
        rw [← e_s2]
        have hS_s2 : zSK G s2 := by rw [e_s2]; exact zSK_A hS_s1 (zr (k := 1) (t2 := 53) hG ha rfl) rfl rfl rfl (by omega)
        refine j_iconst hx dX4_mark_66 ?_
        refine j_istore_n hx [(3, .int (zI 0)), (2, .int (zI v2)), (0, .ref a), (1, .ref b1)] dX4_mark_67 (by decide) rfl ?_
        have c68_3 : ∀ (m_c68_3 : Nat) (v13 : Int) (s4 : zS), 2147483648 - v13 < m_c68_3 → (0 ≤ v13 ∧ v13 ≤ 21) → (zSK G s4) → (zFr [59] G s2 s4) → JJ X E 5 G s4 0 0 [(0, .ref a), (1, .ref b1), (3, .int (zI v13))] 68 [] := by
          intro m_c68_3
          induction m_c68_3 with
          | zero => intro v13 s4 hm_c68_3 fA5 hS_s4 hF_s4; exfalso; omega
          | succ m_c68_3 ih_c68_3 => 
            intro v13 s4 hm_c68_3 fA5 hS_s4 hF_s4
            refine j_iload_n hx 2 dX4_mark_68 rfl ?_
            refine j_bipush hx dX4_mark_69 rfl ?_
            refine j_icmp_ge hx 113 dX4_mark_71 rfl (by omega) ⟨by decide, by decide⟩ (fun h14 => ?_) (fun h14 => ?_)
            · skip
              refine j_aload_n hx 0 dX4_mark_113 rfl ?_
              refine g5_3 hx hG ha kf_RX4_24 dX4_mark_114 ?_
              refine j_aload_n hx 0 dX4_mark_117 rfl ?_
              refine g5_4 hx hG ha kf_RX4_31 (v := (s0 a 4)) (by rw [(zFr_g hF_s4 ha (by decide)), e_s2, zU_at (Or.inl (zne (zr (k := 1) (t2 := 53) hG ha rfl) ha (by decide))), (zFr_g hF_s1 ha (by decide))]) dX4_mark_118 ?_
              refine j_aload_n hx 1 dX4_mark_121 rfl ?_
              have f15 := zf hS0 hb1 (k := 10) rfl
              refine gN4_10 hx hG hb1 kf_RX4_46 (v := (s0 b1 10)) (by rw [(zFr_g hF_s4 hb1 (by decide)), e_s2, zU_at (Or.inl (zne (zr (k := 1) (t2 := 53) hG ha rfl) hb1 (by decide))), (zFr_g hF_s1 hb1 (by decide))]) dX4_mark_122 ?_
              refine j_iast hx hG (zr (k := 3) (t2 := 60) hG ha rfl) (by decide) rfl (zlen hG (zr (k := 3) (t2 := 60) hG ha rfl) (n := 512) rfl rfl) (by omega) (by omega) (j := ((s0 a 4)).toNat) rfl dX4_mark_125 ?_
              obtain ⟨s8, e_s8⟩ : ∃ z, z = zU s4 (gP G a 3) ((s0 a 4)).toNat ((s0 b1 10)) := ⟨_, rfl⟩
              rw [← e_s8]
              have hS_s8 : zSK G s8 := by rw [e_s8]; exact zSK_A hS_s4 (zr (k := 3) (t2 := 60) hG ha rfl) rfl rfl rfl (by omega)
              refine j_aload_n hx 0 dX4_mark_126 rfl ?_
              refine j_dup hx dX4_mark_127 rfl ?_
              refine g5_4 hx hG ha kf_RX4_31 (v := (s0 a 4)) (by rw [e_s8, zU_at (Or.inl (zne (zr (k := 3) (t2 := 60) hG ha rfl) ha (by decide))), (zFr_g hF_s4 ha (by decide)), e_s2, zU_at (Or.inl (zne (zr (k := 1) (t2 := 53) hG ha rfl) ha (by decide))), (zFr_g hF_s1 ha (by decide))]) dX4_mark_128 ?_
              refine j_iconst hx dX4_mark_131 ?_
              refine j_iadd hx (r := (s0 a 4) + 1) dX4_mark_132 (by omega) ?_
              refine p5_4 hx hG ha kf_RX4_31 dX4_mark_133 ?_
              obtain ⟨s9, e_s9⟩ : ∃ z, z = zU s8 a 4 ((s0 a 4) + 1) := ⟨_, rfl⟩
              rw [← e_s9]
              have hS_s9 : zSK G s9 := by rw [e_s9]; exact zSK_F hS_s8 ha rfl rfl rfl (by omega)
              exact j_vret hx hq rfl (by decide) (by decide) dX4_mark_136 ⟨rfl, rfl, hS_s9, (zFr_u (zFr_u (zFr_t (zFr_u (zFr_t zFr_rf hF_s1 (by decide)) e_s2 (zr (k := 1) (t2 := 53) hG ha rfl) (by decide)) hF_s4 (by decide)) e_s8 (zr (k := 3) (t2 := 60) hG ha rfl) (by decide)) e_s9 ha (by decide)), trivial⟩
            · skip
              refine j_aload_n hx 0 dX4_mark_74 rfl ?_
              refine g5_4 hx hG ha kf_RX4_31 (v := (s0 a 4)) (by rw [(zFr_g hF_s4 ha (by decide)), e_s2, zU_at (Or.inl (zne (zr (k := 1) (t2 := 53) hG ha rfl) ha (by decide))), (zFr_g hF_s1 ha (by decide))]) dX4_mark_75 ?_
              refine j_bipush hx dX4_mark_78 rfl ?_
              refine j_imul hx (r := 21 * (s0 a 4)) dX4_mark_80 (by omega) ?_
              refine j_iload_n hx 2 dX4_mark_81 rfl ?_
              refine j_iadd hx (r := 21 * (s0 a 4) + v13) dX4_mark_82 (by omega) ?_
              refine j_istore hx [(4, .int (zI (21 * (s0 a 4) + v13))), (0, .ref a), (1, .ref b1), (3, .int (zI v13))] dX4_mark_83 (by decide) rfl ?_
              refine j_iload hx 0 dX4_mark_85 rfl ?_
              refine j_aload_n hx 1 dX4_mark_87 rfl ?_
              refine g5_2 hx hG ha kf_RX4_20 dX4_mark_88 ?_
              refine j_alen hx hG (zr (k := 2) (t2 := 59) hG ha rfl) (by decide) (by decide) (zlen hG (zr (k := 2) (t2 := 59) hG ha rfl) (n := 10752) rfl rfl) dX4_mark_91 ?_
              have c107_10 : ∀ (s11 : zS), (zSK G s11) → (zFr [59] G s4 s11) → JJ X E 5 G s11 0 0 [(0, .ref a), (1, .ref b1), (3, .int (zI v13))] 107 [] := by
                intro s11 hS_s11 hF_s11
                refine j_iinc hx 2 [(3, .int (zI (v13 + 1))), (0, .ref a), (1, .ref b1)] dX4_mark_107 rfl (by omega) (by decide) rfl ?_
                refine j_goto hx 68 dX4_mark_110 rfl ?_
                exact j_sub [1, 2, 0] [(0, .ref a), (1, .ref b1), (3, .int (zI (v13 + 1)))] rfl (ih_c68_3 (v13 + 1) s11 (by omega) (by omega) hS_s11 (zFr_t (zFr_t zFr_rf hF_s4 (by decide)) hF_s11 (by decide)))
              refine j_icmp_ge hx 107 dX4_mark_92 rfl (by omega) ⟨by decide, by decide⟩ (fun h16 => absurd h16 (by omega)) (fun h16 => ?_)
              refine j_aload_n hx 1 dX4_mark_95 rfl ?_
              refine g5_2 hx hG ha kf_RX4_20 dX4_mark_96 ?_
              refine j_iload hx 0 dX4_mark_99 rfl ?_
              refine j_aload_n hx 2 dX4_mark_101 rfl ?_
              refine j_iload_n hx 3 dX4_mark_102 rfl ?_
              refine j_callV hx hG (c_X3_tallyOf hst b1 v13) lk_RX4_87 hb1 (by decide) rfl rfl rfl rfl [.int (zI v13)] ⟨rfl, hG, hS_s4, hb1, (by omega)⟩ rfl rfl ⟨by decide, by decide⟩ ⟨by decide, by decide⟩ (k2 := 0) (n2 := 0) rfl rfl (Nat.le_of_ble_eq_true rfl) dX4_mark_103 (kIP (fun v17 q18 => ?_))
              refine j_iast hx hG (zr (k := 2) (t2 := 59) hG ha rfl) (by decide) rfl (zlen hG (zr (k := 2) (t2 := 59) hG ha rfl) (n := 10752) rfl rfl) (by omega) (by omega) (j := (21 * (s0 a 4) + v13).toNat) rfl dX4_mark_106 ?_
              obtain ⟨s14, e_s14⟩ : ∃ z, z = zU s4 (gP G a 2) (21 * (s0 a 4) + v13).toNat v17 := ⟨_, rfl⟩
              rw [← e_s14]
              have hS_s14 : zSK G s14 := by rw [e_s14]; exact zSK_A hS_s4 (zr (k := 2) (t2 := 59) hG ha rfl) rfl rfl rfl (by omega)
              exact j_sub [1, 2, 3] [(0, .ref a), (1, .ref b1), (3, .int (zI v13))] rfl (c107_10 s14 hS_s14 (zFr_u zFr_rf e_s14 (zr (k := 2) (t2 := 59) hG ha rfl) (by decide)))
        exact j_sub [2, 3, 0] [(0, .ref a), (1, .ref b1), (3, .int (zI 0))] rfl (c68_3 (2147483648 * 4) 0 s2 (by omega) (by omega) hS_s2 zFr_rf)
      · skip
        exact j_vret hx hq rfl (by decide) (by decide) dX4_mark_39 ⟨rfl, rfl, hS0, zFr_rf, trivial⟩

set_option maxHeartbeats 4000000 in
set_option maxRecDepth 20000 in
theorem c_X6_takeAll {E : zE} {l : Launch} (hst : l.stackTraces = false) (a : Nat) (b1 : Nat) : Con E l yX6_takeAll cX6_takeAll 3 none { frames := 1, cells := 0, slots := 0, locals := 21 } (fun G s vs => vs = [.ref a, .ref b1] ∧ zGK G ∧ zSK G s ∧ (gT G a = 7) ∧ (gT G b1 = 7)) (fun G s _ => pV (fun G2 s2 => G2 = G ∧ zSK G s2 ∧ zFr [7, 41] G s s2 ∧ True)) := by
  refine Con.mk hst (by decide) (fun G s vs h => by rw [h.1]; exact Nat.le_of_ble_eq_true rfl) ?_
  rintro X G s0 vs ⟨rfl, hG, hS0, ha, hb1⟩ rfl hx hq
  show JJ X E 3 G s0 0 0 [(0, .ref a), (1, .ref b1)] 0 []
  refine j_iconst hx dX6_takeAll_0 ?_
  refine j_istore_n hx [(2, .int (zI 0)), (0, .ref a), (1, .ref b1)] dX6_takeAll_1 (by decide) rfl ?_
  have c2_1 : ∀ (m_c2_1 : Nat) (v1 : Int) (s2 : zS), 2147483648 - v1 < m_c2_1 → (0 ≤ v1 ∧ v1 ≤ 60) → (zSK G s2) → (zFr [7, 41] G s0 s2) → JJ X E 3 G s2 0 0 [(0, .ref a), (1, .ref b1), (2, .int (zI v1))] 2 [] := by
    intro m_c2_1
    induction m_c2_1 with
    | zero => intro v1 s2 hm_c2_1 fA3 hS_s2 hF_s2; exfalso; omega
    | succ m_c2_1 ih_c2_1 => 
      intro v1 s2 hm_c2_1 fA3 hS_s2 hF_s2
      refine j_iload_n hx 2 dX6_takeAll_2 rfl ?_
      refine j_aload_n hx 1 dX6_takeAll_3 rfl ?_
      have f2 := zf hS_s2 hb1 (k := 1) rfl
      refine g7_1 hx hG hb1 kf_RX6_15 rfl dX6_takeAll_4 ?_
      refine j_icmp_ge hx 35 dX6_takeAll_7 rfl (by omega) (by omega) (fun h3 => ?_) (fun h3 => ?_)
      · skip
        refine j_aload_n hx 1 dX6_takeAll_35 rfl ?_
        refine j_iconst hx dX6_takeAll_36 ?_
        refine p7_1 hx hG hb1 kf_RX6_15 dX6_takeAll_37 ?_
        obtain ⟨s6, e_s6⟩ : ∃ z, z = zU s2 b1 1 0 := ⟨_, rfl⟩
        rw [← e_s6]
        have hS_s6 : zSK G s6 := by rw [e_s6]; exact zSK_F hS_s2 hb1 rfl rfl rfl (by omega)
        exact j_vret hx hq rfl (by decide) (by decide) dX6_takeAll_40 ⟨rfl, rfl, hS_s6, (zFr_u (zFr_t zFr_rf hF_s2 (by decide)) e_s6 hb1 (by decide)), trivial⟩
      · skip
        refine j_iload_n hx 2 dX6_takeAll_10 rfl ?_
        refine j_aload_n hx 1 dX6_takeAll_11 rfl ?_
        refine g7_0 hx hG hb1 kf_RX6_9 dX6_takeAll_12 ?_
        refine j_alen hx hG (zr (k := 0) (t2 := 41) hG hb1 rfl) (by decide) (by decide) (zlen hG (zr (k := 0) (t2 := 41) hG hb1 rfl) (n := 60) rfl rfl) dX6_takeAll_15 ?_
        refine j_icmp_ge hx 35 dX6_takeAll_16 rfl (by omega) ⟨by decide, by decide⟩ (fun h4 => absurd h4 (by omega)) (fun h4 => ?_)
        refine j_aload_n hx 0 dX6_takeAll_19 rfl ?_
        refine j_aload_n hx 1 dX6_takeAll_20 rfl ?_
        refine g7_0 hx hG hb1 kf_RX6_9 dX6_takeAll_21 ?_
        refine j_iload_n hx 2 dX6_takeAll_24 rfl ?_
        have f5 := zaI (j := (v1).toNat) hS_s2 (zr (k := 0) (t2 := 41) hG hb1 rfl) rfl (zlen hG (zr (k := 0) (t2 := 41) hG hb1 rfl) (n := 60) rfl rfl) (show 0 ≤ v1 by omega) (by omega) rfl
        refine j_iald hx hG (zr (k := 0) (t2 := 41) hG hb1 rfl) (by decide) rfl (zlen hG (zr (k := 0) (t2 := 41) hG hb1 rfl) (n := 60) rfl rfl) (by omega) (by omega) (j := (v1).toNat) rfl rfl dX6_takeAll_25 ?_
        refine j_callV hx hG (c_X6_put hst a ((s2 (gP G b1 0) (v1).toNat))) lk_RX6_19 ha (by decide) rfl rfl rfl rfl [.int (zI ((s2 (gP G b1 0) (v1).toNat)))] ⟨rfl, hG, hS_s2, ha, (by omega)⟩ rfl rfl ⟨by decide, by decide⟩ ⟨by decide, by decide⟩ (k2 := 0) (n2 := 0) rfl rfl (Nat.le_of_ble_eq_true rfl) dX6_takeAll_26 (kVM (fun s7 hS_s7 hF_s7 q7 => ?_))
        refine j_iinc hx 2 [(2, .int (zI (v1 + 1))), (0, .ref a), (1, .ref b1)] dX6_takeAll_29 rfl (by omega) (by decide) rfl ?_
        refine j_goto hx 2 dX6_takeAll_32 rfl ?_
        exact j_sub [1, 2, 0] [(0, .ref a), (1, .ref b1), (2, .int (zI (v1 + 1)))] rfl (ih_c2_1 (v1 + 1) s7 (by omega) (by omega) hS_s7 (zFr_t (zFr_t zFr_rf hF_s2 (by decide)) hF_s7 (by decide)))
  exact j_sub [1, 2, 0] [(0, .ref a), (1, .ref b1), (2, .int (zI 0))] rfl (c2_1 (2147483648 * 4) 0 s0 (by omega) (by omega) hS0 zFr_rf)

theorem lk_RX0_82 : LkV RX0 82 RX6 yX6_takeAll cX6_takeAll 3 none 1 := ⟨km_RX0_82, ki_yX6_takeAll, ks_RX6_yX6_takeAll, kn_RX6, kc_yX6_takeAll, rfl, by decide +kernel, by decide +kernel, by decide +kernel⟩
set_option maxHeartbeats 4000000 in
set_option maxRecDepth 20000 in
theorem c_X0_turnOver {E : zE} {l : Launch} (hst : l.stackTraces = false) (a : Nat) (x1 : Int) : Con E l yX0_turnOver cX0_turnOver 2 none { frames := 2, cells := 0, slots := 0, locals := 43 } (fun G s vs => vs = [.ref a, .int (zI x1)] ∧ zGK G ∧ zSK G s ∧ (gT G a = 1) ∧ ((-2147483648) ≤ x1 ∧ x1 ≤ 2147483647)) (fun G s _ => pV (fun G2 s2 => G2 = G ∧ zSK G s2 ∧ zFr [7, 41] G s s2 ∧ True)) := by
  refine Con.mk hst (by decide) (fun G s vs h => by rw [h.1]; exact Nat.le_of_ble_eq_true rfl) ?_
  rintro X G s0 vs ⟨rfl, hG, hS0, ha, hx1⟩ rfl hx hq
  show JJ X E 2 G s0 0 0 [(0, .ref a), (1, .int (zI x1))] 0 []
  refine j_aload_n hx 0 dX0_turnOver_0 rfl ?_
  refine j_iload_n hx 1 dX0_turnOver_1 rfl ?_
  refine j_callV hx hG (c_X0_rowOf hst a x1) lk_RX0_36 ha (by decide) rfl rfl rfl rfl [.int (zI x1)] ⟨rfl, hG, hS0, ha, (by omega)⟩ rfl rfl ⟨by decide, by decide⟩ ⟨by decide, by decide⟩ (k2 := 0) (n2 := 0) rfl rfl (Nat.le_of_ble_eq_true rfl) dX0_turnOver_2 (kRP (fun r1 q2 => ?_))
  have f3 := zf hS0 q2 (k := 1) rfl
  refine gN7_1 hx hG q2 kf_RX0_43 rfl dX0_turnOver_5 ?_
  refine j_if_ne hx 24 dX0_turnOver_8 rfl (by omega) (fun h4 => ?_) (fun h4 => ?_)
  · skip
    exact j_vret hx hq rfl (by decide) (by decide) dX0_turnOver_24 ⟨rfl, rfl, hS0, zFr_rf, trivial⟩
  · skip
    refine j_aload_n hx 0 dX0_turnOver_11 rfl ?_
    refine j_iload_n hx 1 dX0_turnOver_12 rfl ?_
    refine j_callV hx hG (c_X0_rowOf hst a x1) lk_RX0_36 ha (by decide) rfl rfl rfl rfl [.int (zI x1)] ⟨rfl, hG, hS0, ha, (by omega)⟩ rfl rfl ⟨by decide, by decide⟩ ⟨by decide, by decide⟩ (k2 := 0) (n2 := 0) rfl rfl (Nat.le_of_ble_eq_true rfl) dX0_turnOver_13 (kRP (fun r5 q6 => ?_))
    refine j_aload_n hx 0 dX0_turnOver_16 rfl ?_
    refine j_iload_n hx 1 dX0_turnOver_17 rfl ?_
    refine j_callV hx hG (c_X0_heapOf hst a x1) lk_RX0_40 ha (by decide) rfl rfl rfl rfl [.int (zI x1)] ⟨rfl, hG, hS0, ha, (by omega)⟩ rfl rfl ⟨by decide, by decide⟩ ⟨by decide, by decide⟩ (k2 := 0) (n2 := 0) rfl rfl (Nat.le_of_ble_eq_true rfl) dX0_turnOver_18 (kRP (fun r7 q8 => ?_))
    refine j_callV hx hG (c_X6_takeAll hst r5 r7) lk_RX0_82 q6 (by decide) rfl rfl rfl rfl [.ref r7] ⟨rfl, hG, hS0, q6, q8⟩ rfl rfl ⟨by decide, by decide⟩ ⟨by decide, by decide⟩ (k2 := 0) (n2 := 0) rfl rfl (Nat.le_of_ble_eq_true rfl) dX0_turnOver_21 (kVM (fun s1 hS_s1 hF_s1 q10 => ?_))
    exact j_vret hx hq rfl (by decide) (by decide) dX0_turnOver_24 ⟨rfl, rfl, hS_s1, (zFr_t zFr_rf hF_s1 (by decide)), trivial⟩

set_option maxHeartbeats 4000000 in
set_option maxRecDepth 20000 in
theorem c_X3_setDelay {E : zE} {l : Launch} (hst : l.stackTraces = false) (a : Nat) (x1 : Int) (x2 : Int) : Con E l yX3_setDelay cX3_setDelay 3 none { frames := 0, cells := 0, slots := 0, locals := 0 } (fun G s vs => vs = [.ref a, .int (zI x1), .int (zI x2)] ∧ zGK G ∧ zSK G s ∧ (gT G a = 4) ∧ ((-2147483648) ≤ x1 ∧ x1 ≤ 2147483647) ∧ ((-2147483648) ≤ x2 ∧ x2 ≤ 2147483647)) (fun G s _ => pV (fun G2 s2 => G2 = G ∧ zSK G s2 ∧ zFr [52] G s s2 ∧ True)) := by
  refine Con.mk hst (by decide) (fun G s vs h => by rw [h.1]; exact Nat.le_of_ble_eq_true rfl) ?_
  rintro X G s0 vs ⟨rfl, hG, hS0, ha, hx1, hx2⟩ rfl hx hq
  show JJ X E 3 G s0 0 0 [(0, .ref a), (1, .int (zI x1)), (2, .int (zI x2))] 0 []
  refine j_iload_n hx 1 dX3_setDelay_0 rfl ?_
  refine j_if_lt hx 20 dX3_setDelay_1 rfl (by omega) (fun h1 => ?_) (fun h1 => ?_)
  · skip
    exact j_vret hx hq rfl (by decide) (by decide) dX3_setDelay_20 ⟨rfl, rfl, hS0, zFr_rf, trivial⟩
  · skip
    refine j_iload_n hx 1 dX3_setDelay_4 rfl ?_
    refine j_aload_n hx 0 dX3_setDelay_5 rfl ?_
    refine g4_6 hx hG ha kf_RX3_34 dX3_setDelay_6 ?_
    refine j_alen hx hG (zr (k := 6) (t2 := 52) hG ha rfl) (by decide) (by decide) (zlen hG (zr (k := 6) (t2 := 52) hG ha rfl) (n := 3) rfl rfl) dX3_setDelay_9 ?_
    refine j_icmp_ge hx 20 dX3_setDelay_10 rfl (by omega) ⟨by decide, by decide⟩ (fun h2 => ?_) (fun h2 => ?_)
    · skip
      exact j_vret hx hq rfl (by decide) (by decide) dX3_setDelay_20 ⟨rfl, rfl, hS0, zFr_rf, trivial⟩
    · skip
      refine j_aload_n hx 0 dX3_setDelay_13 rfl ?_
      refine g4_6 hx hG ha kf_RX3_34 dX3_setDelay_14 ?_
      refine j_iload_n hx 1 dX3_setDelay_17 rfl ?_
      refine j_iload_n hx 2 dX3_setDelay_18 rfl ?_
      refine j_iast hx hG (zr (k := 6) (t2 := 52) hG ha rfl) (by decide) rfl (zlen hG (zr (k := 6) (t2 := 52) hG ha rfl) (n := 3) rfl rfl) (by omega) (by omega) (j := (x1).toNat) rfl dX3_setDelay_19 ?_
      obtain ⟨s1, e_s1⟩ : ∃ z, z = zU s0 (gP G a 6) (x1).toNat x2 := ⟨_, rfl⟩
      rw [← e_s1]
      have hS_s1 : zSK G s1 := by rw [e_s1]; exact zSK_A hS0 (zr (k := 6) (t2 := 52) hG ha rfl) rfl rfl rfl (by omega)
      exact j_vret hx hq rfl (by decide) (by decide) dX3_setDelay_20 ⟨rfl, rfl, hS_s1, (zFr_u zFr_rf e_s1 (zr (k := 6) (t2 := 52) hG ha rfl) (by decide)), trivial⟩

theorem lk_RX3_151 : LkV RX3 151 RX0 yX0_isOut cX0_isOut 2 (some .boolean) 1 := ⟨km_RX3_151, ki_yX0_isOut, ks_RX0_yX0_isOut, kn_RX0, kc_yX0_isOut, rfl, by decide +kernel, by decide +kernel, by decide +kernel⟩
theorem lk_RX3_159 : LkV RX3 159 RX3 yX3_setDelay cX3_setDelay 3 none 2 := ⟨km_RX3_159, ki_yX3_setDelay, ks_RX3_yX3_setDelay, kn_RX3, kc_yX3_setDelay, rfl, by decide +kernel, by decide +kernel, by decide +kernel⟩
theorem lk_RX3_155 : LkV RX3 155 RX3 yX3_wants cX3_wants 5 (some .boolean) 2 := ⟨km_RX3_155, ki_yX3_wants, ks_RX3_yX3_wants, kn_RX3, kc_yX3_wants, rfl, by decide +kernel, by decide +kernel, by decide +kernel⟩
set_option maxHeartbeats 4000000 in
set_option maxRecDepth 20000 in
theorem c_X3_callAhead {E : zE} {l : Launch} (hst : l.stackTraces = false) (a : Nat) : Con E l yX3_callAhead cX3_callAhead 2 none { frames := 4, cells := 0, slots := 0, locals := 98 } (fun G s vs => vs = [.ref a] ∧ zGK G ∧ zSK G s ∧ (gT G a = 4)) (fun G s _ => pV (fun G2 s2 => G2 = G ∧ zSK G s2 ∧ zFr [52] G s s2 ∧ True)) := by
  refine Con.mk hst (by decide) (fun G s vs h => by rw [h.1]; exact Nat.le_of_ble_eq_true rfl) ?_
  rintro X G s0 vs ⟨rfl, hG, hS0, ha⟩ rfl hx hq
  show JJ X E 2 G s0 0 0 [(0, .ref a)] 0 []
  refine j_iconst hx dX3_callAhead_0 ?_
  refine j_istore_n hx [(1, .int (zI 0)), (0, .ref a)] dX3_callAhead_1 (by decide) rfl ?_
  have c2_1 : ∀ (m_c2_1 : Nat) (v1 : Int) (s2 : zS), 2147483648 - v1 < m_c2_1 → (0 ≤ v1 ∧ v1 ≤ 3) → (zSK G s2) → (zFr [52] G s0 s2) → JJ X E 2 G s2 0 0 [(0, .ref a), (1, .int (zI v1))] 2 [] := by
    intro m_c2_1
    induction m_c2_1 with
    | zero => intro v1 s2 hm_c2_1 fA3 hS_s2 hF_s2; exfalso; omega
    | succ m_c2_1 ih_c2_1 => 
      intro v1 s2 hm_c2_1 fA3 hS_s2 hF_s2
      refine j_iload_n hx 1 dX3_callAhead_2 rfl ?_
      refine j_aload_n hx 0 dX3_callAhead_3 rfl ?_
      refine g4_0 hx hG ha kf_RX3_41 dX3_callAhead_4 ?_
      have f2 := zf hS0 (zr (k := 0) (t2 := 9) hG ha rfl) (k := 4) rfl
      refine gN9_4 hx hG (zr (k := 0) (t2 := 9) hG ha rfl) kf_RX3_148 (v := (s0 (gP G a 0) 4)) (by rw [(zFr_g hF_s2 (zr (k := 0) (t2 := 9) hG ha rfl) (by decide))]) dX3_callAhead_7 ?_
      refine j_icmp_ge hx 50 dX3_callAhead_10 rfl (by omega) (by omega) (fun h3 => ?_) (fun h3 => ?_)
      · skip
        exact j_vret hx hq rfl (by decide) (by decide) dX3_callAhead_50 ⟨rfl, rfl, hS_s2, (zFr_t zFr_rf hF_s2 (by decide)), trivial⟩
      · skip
        refine j_aload_n hx 0 dX3_callAhead_13 rfl ?_
        refine j_iload_n hx 1 dX3_callAhead_14 rfl ?_
        refine j_aload_n hx 0 dX3_callAhead_15 rfl ?_
        refine g4_1 hx hG ha kf_RX3_14 dX3_callAhead_16 ?_
        refine j_iload_n hx 1 dX3_callAhead_19 rfl ?_
        refine j_callV hx hG (c_X0_isOut hst (gP G a 1) v1) lk_RX3_151 (zr (k := 1) (t2 := 1) hG ha rfl) (by decide) rfl rfl rfl rfl [.int (zI v1)] ⟨rfl, hG, hS_s2, (zr (k := 1) (t2 := 1) hG ha rfl), (by omega)⟩ rfl rfl ⟨by decide, by decide⟩ ⟨by decide, by decide⟩ (k2 := 0) (n2 := 0) rfl rfl (Nat.le_of_ble_eq_true rfl) dX3_callAhead_20 (kIP (fun v4 q5 => ?_))
        have c41_6 : ∀ (v6 : Int), ((-1) ≤ v6 ∧ v6 ≤ 99) → JJ X E 2 G s2 0 0 [(0, .ref a), (1, .int (zI v1))] 41 [.int (zI v6), .int (zI v1), .ref a] := by
          intro v6 fA7
          refine j_callV hx hG (c_X3_setDelay hst a v1 v6) lk_RX3_159 ha (by decide) rfl rfl rfl rfl [.int (zI v1), .int (zI v6)] ⟨rfl, hG, hS_s2, ha, (by omega), (by omega)⟩ rfl rfl ⟨by decide, by decide⟩ ⟨by decide, by decide⟩ (k2 := 0) (n2 := 0) rfl rfl (Nat.le_of_ble_eq_true rfl) dX3_callAhead_41 (kVM (fun s8 hS_s8 hF_s8 q8 => ?_))
          refine j_iinc hx 1 [(1, .int (zI (v1 + 1))), (0, .ref a)] dX3_callAhead_44 rfl (by omega) (by decide) rfl ?_
          refine j_goto hx 2 dX3_callAhead_47 rfl ?_
          exact j_sub [1, 0] [(0, .ref a), (1, .int (zI (v1 + 1)))] rfl (ih_c2_1 (v1 + 1) s8 (by omega) (by omega) hS_s8 (zFr_t (zFr_t zFr_rf hF_s2 (by decide)) hF_s8 (by decide)))
        have c39_9 : JJ X E 2 G s2 0 0 [(0, .ref a), (1, .int (zI v1))] 39 [.int (zI v1), .ref a] := by
          refine j_bipush hx dX3_callAhead_39 rfl ?_
          exact j_sub [0, 1] [(0, .ref a), (1, .int (zI v1))] rfl (c41_6 99 (by omega))
        refine j_if_ne hx 39 dX3_callAhead_23 rfl (by omega) (fun h9 => ?_) (fun h9 => ?_)
        · skip
          exact j_sub [0, 1] [(0, .ref a), (1, .int (zI v1))] rfl (c39_9  )
        · skip
          refine j_aload_n hx 0 dX3_callAhead_26 rfl ?_
          refine j_iload_n hx 1 dX3_callAhead_27 rfl ?_
          refine j_iconst hx dX3_callAhead_28 ?_
          refine j_callV hx hG (c_X3_wants hst a v1 1) lk_RX3_155 ha (by decide) rfl rfl rfl rfl [.int (zI v1), .int (zI 1)] ⟨rfl, hG, hS_s2, ha, (by omega), (by omega)⟩ rfl rfl ⟨by decide, by decide⟩ ⟨by decide, by decide⟩ (k2 := 0) (n2 := 0) rfl rfl (Nat.le_of_ble_eq_true rfl) dX3_callAhead_29 (kIP (fun v10 q11 => ?_))
          refine j_if_eq hx 39 dX3_callAhead_32 rfl (by omega) (fun h12 => ?_) (fun h12 => ?_)
          · skip
            exact j_sub [0, 1] [(0, .ref a), (1, .int (zI v1))] rfl (c39_9  )
          · skip
            refine j_iconst hx dX3_callAhead_35 ?_
            refine j_goto hx 41 dX3_callAhead_36 rfl ?_
            exact j_sub [0, 1] [(0, .ref a), (1, .int (zI v1))] rfl (c41_6 (-1) (by omega))
  exact j_sub [1, 0] [(0, .ref a), (1, .int (zI 0))] rfl (c2_1 (2147483648 * 4) 0 s0 (by omega) (by omega) hS0 zFr_rf)

set_option maxHeartbeats 4000000 in
set_option maxRecDepth 20000 in
theorem c_X6_takeFirst {E : zE} {l : Launch} (hst : l.stackTraces = false) (a : Nat) : Con E l yX6_takeFirst cX6_takeFirst 3 (some .int) { frames := 0, cells := 0, slots := 0, locals := 0 } (fun G s vs => vs = [.ref a] ∧ zGK G ∧ zSK G s ∧ (gT G a = 7)) (fun G s _ => pI (fun r G2 s2 => G2 = G ∧ zSK G s2 ∧ zFr [7, 41] G s s2 ∧ ((-2147483648) ≤ r ∧ r ≤ 2147483647))) := by
  refine Con.mk hst (by decide) (fun G s vs h => by rw [h.1]; exact Nat.le_of_ble_eq_true rfl) ?_
  rintro X G s0 vs ⟨rfl, hG, hS0, ha⟩ rfl hx hq
  show JJ X E 3 G s0 0 0 [(0, .ref a)] 0 []
  refine j_aload_n hx 0 dX6_takeFirst_0 rfl ?_
  have f1 := zf hS0 ha (k := 1) rfl
  refine g7_1 hx hG ha kf_RX6_15 rfl dX6_takeFirst_1 ?_
  refine j_if_le hx 19 dX6_takeFirst_4 rfl (by omega) (fun h2 => ?_) (fun h2 => ?_)
  · skip
    refine j_iconst hx dX6_takeFirst_19 ?_
    exact j_iret hx hq rfl (by decide) (by decide) dX6_takeFirst_20 ⟨(-1), rfl, rfl, hS0, zFr_rf, (by omega)⟩
  · skip
    refine j_aload_n hx 0 dX6_takeFirst_7 rfl ?_
    refine g7_1 hx hG ha kf_RX6_15 rfl dX6_takeFirst_8 ?_
    refine j_aload_n hx 0 dX6_takeFirst_11 rfl ?_
    refine g7_0 hx hG ha kf_RX6_9 dX6_takeFirst_12 ?_
    refine j_alen hx hG (zr (k := 0) (t2 := 41) hG ha rfl) (by decide) (by decide) (zlen hG (zr (k := 0) (t2 := 41) hG ha rfl) (n := 60) rfl rfl) dX6_takeFirst_15 ?_
    refine j_icmp_le hx 21 dX6_takeFirst_16 rfl (by omega) ⟨by decide, by decide⟩ (fun h3 => ?_) (fun h3 => absurd h3 (by omega))
    refine j_aload_n hx 0 dX6_takeFirst_21 rfl ?_
    refine g7_0 hx hG ha kf_RX6_9 dX6_takeFirst_22 ?_
    refine j_iconst hx dX6_takeFirst_25 ?_
    have f4 := zaI (j := 0) hS0 (zr (k := 0) (t2 := 41) hG ha rfl) rfl (zlen hG (zr (k := 0) (t2 := 41) hG ha rfl) (n := 60) rfl rfl) (show 0 ≤ 0 by omega) (by omega) rfl
    refine j_iald hx hG (zr (k := 0) (t2 := 41) hG ha rfl) (by decide) rfl (zlen hG (zr (k := 0) (t2 := 41) hG ha rfl) (n := 60) rfl rfl) (by omega) (by omega) (j := 0) rfl rfl dX6_takeFirst_26 ?_
    refine j_istore_n hx [(1, .int (zI ((s0 (gP G a 0) 0)))), (0, .ref a)] dX6_takeFirst_27 (by decide) rfl ?_
    refine j_iconst hx dX6_takeFirst_28 ?_
    refine j_istore_n hx [(2, .int (zI 1)), (1, .int (zI ((s0 (gP G a 0) 0)))), (0, .ref a)] dX6_takeFirst_29 (by decide) rfl ?_
    have c30_1 : ∀ (m_c30_1 : Nat) (v5 : Int) (s2 : zS), 2147483648 - v5 < m_c30_1 → (1 ≤ v5 ∧ v5 ≤ 60) → (zSK G s2) → (zFr [41] G s0 s2) → JJ X E 3 G s2 0 0 [(0, .ref a), (1, .int (zI ((s0 (gP G a 0) 0)))), (2, .int (zI v5))] 30 [] := by
      intro m_c30_1
      induction m_c30_1 with
      | zero => intro v5 s2 hm_c30_1 fA3 hS_s2 hF_s2; exfalso; omega
      | succ m_c30_1 ih_c30_1 => 
        intro v5 s2 hm_c30_1 fA3 hS_s2 hF_s2
        refine j_iload_n hx 2 dX6_takeFirst_30 rfl ?_
        refine j_aload_n hx 0 dX6_takeFirst_31 rfl ?_
        refine g7_1 hx hG ha kf_RX6_15 (v := (s0 a 1)) (by rw [(zFr_g hF_s2 ha (by decide))]) dX6_takeFirst_32 ?_
        refine j_icmp_ge hx 58 dX6_takeFirst_35 rfl (by omega) (by omega) (fun h6 => ?_) (fun h6 => ?_)
        · skip
          refine j_aload_n hx 0 dX6_takeFirst_58 rfl ?_
          refine j_dup hx dX6_takeFirst_59 rfl ?_
          refine g7_1 hx hG ha kf_RX6_15 (v := (s0 a 1)) (by rw [(zFr_g hF_s2 ha (by decide))]) dX6_takeFirst_60 ?_
          refine j_iconst hx dX6_takeFirst_63 ?_
          refine j_isub hx (r := (s0 a 1) - 1) dX6_takeFirst_64 (by omega) ?_
          refine p7_1 hx hG ha kf_RX6_15 dX6_takeFirst_65 ?_
          obtain ⟨s6, e_s6⟩ : ∃ z, z = zU s2 a 1 ((s0 a 1) - 1) := ⟨_, rfl⟩
          rw [← e_s6]
          have hS_s6 : zSK G s6 := by rw [e_s6]; exact zSK_F hS_s2 ha rfl rfl rfl (by omega)
          refine j_iload_n hx 1 dX6_takeFirst_68 rfl ?_
          exact j_iret hx hq rfl (by decide) (by decide) dX6_takeFirst_69 ⟨(s0 (gP G a 0) 0), rfl, rfl, hS_s6, (zFr_u (zFr_t zFr_rf hF_s2 (by decide)) e_s6 ha (by decide)), (by omega)⟩
        · skip
          refine j_aload_n hx 0 dX6_takeFirst_38 rfl ?_
          refine g7_0 hx hG ha kf_RX6_9 dX6_takeFirst_39 ?_
          refine j_iload_n hx 2 dX6_takeFirst_42 rfl ?_
          refine j_iconst hx dX6_takeFirst_43 ?_
          refine j_isub hx (r := v5 - 1) dX6_takeFirst_44 rfl ?_
          refine j_aload_n hx 0 dX6_takeFirst_45 rfl ?_
          refine g7_0 hx hG ha kf_RX6_9 dX6_takeFirst_46 ?_
          refine j_iload_n hx 2 dX6_takeFirst_49 rfl ?_
          have f7 := zaI (j := (v5).toNat) hS_s2 (zr (k := 0) (t2 := 41) hG ha rfl) rfl (zlen hG (zr (k := 0) (t2 := 41) hG ha rfl) (n := 60) rfl rfl) (show 0 ≤ v5 by omega) (by omega) rfl
          refine j_iald hx hG (zr (k := 0) (t2 := 41) hG ha rfl) (by decide) rfl (zlen hG (zr (k := 0) (t2 := 41) hG ha rfl) (n := 60) rfl rfl) (by omega) (by omega) (j := (v5).toNat) rfl rfl dX6_takeFirst_50 ?_
          refine j_iast hx hG (zr (k := 0) (t2 := 41) hG ha rfl) (by decide) rfl (zlen hG (zr (k := 0) (t2 := 41) hG ha rfl) (n := 60) rfl rfl) (by omega) (by omega) (j := (v5 - 1).toNat) rfl dX6_takeFirst_51 ?_
          obtain ⟨s7, e_s7⟩ : ∃ z, z = zU s2 (gP G a 0) (v5 - 1).toNat ((s2 (gP G a 0) (v5).toNat)) := ⟨_, rfl⟩
          rw [← e_s7]
          have hS_s7 : zSK G s7 := by rw [e_s7]; exact zSK_A hS_s2 (zr (k := 0) (t2 := 41) hG ha rfl) rfl rfl rfl (by omega)
          refine j_iinc hx 2 [(2, .int (zI (v5 + 1))), (0, .ref a), (1, .int (zI ((s0 (gP G a 0) 0))))] dX6_takeFirst_52 rfl (by omega) (by decide) rfl ?_
          refine j_goto hx 30 dX6_takeFirst_55 rfl ?_
          exact j_sub [1, 2, 0] [(0, .ref a), (1, .int (zI ((s0 (gP G a 0) 0)))), (2, .int (zI (v5 + 1)))] rfl (ih_c30_1 (v5 + 1) s7 (by omega) (by omega) hS_s7 (zFr_u (zFr_t zFr_rf hF_s2 (by decide)) e_s7 (zr (k := 0) (t2 := 41) hG ha rfl) (by decide)))
    exact j_sub [2, 1, 0] [(0, .ref a), (1, .int (zI ((s0 (gP G a 0) 0)))), (2, .int (zI 1))] rfl (c30_1 (2147483648 * 4) 1 s0 (by omega) (by omega) hS0 zFr_rf)

theorem lk_RX0_85 : LkV RX0 85 RX6 yX6_takeFirst cX6_takeFirst 3 (some .int) 0 := ⟨km_RX0_85, ki_yX6_takeFirst, ks_RX6_yX6_takeFirst, kn_RX6, kc_yX6_takeFirst, rfl, by decide +kernel, by decide +kernel, by decide +kernel⟩
theorem lk_RX0_88 : LkV RX0 88 RX6 yX6_put cX6_put 2 none 1 := ⟨km_RX0_88, ki_yX6_put, ks_RX6_yX6_put, kn_RX6, kc_yX6_put, rfl, by decide +kernel, by decide +kernel, by decide +kernel⟩
set_option maxHeartbeats 4000000 in
set_option maxRecDepth 20000 in
theorem c_X0_lay {E : zE} {l : Launch} (hst : l.stackTraces = false) (a : Nat) (x1 : Int) : Con E l yX0_lay cX0_lay 3 (some .int) { frames := 1, cells := 0, slots := 0, locals := 22 } (fun G s vs => vs = [.ref a, .int (zI x1)] ∧ zGK G ∧ zSK G s ∧ (gT G a = 1) ∧ (0 ≤ x1 ∧ x1 ≤ 2)) (fun G s _ => pI (fun r G2 s2 => G2 = G ∧ zSK G s2 ∧ zFr [1, 7, 41] G s s2 ∧ ((-2147483648) ≤ r ∧ r ≤ 2147483647))) := by
  refine Con.mk hst (by decide) (fun G s vs h => by rw [h.1]; exact Nat.le_of_ble_eq_true rfl) ?_
  rintro X G s0 vs ⟨rfl, hG, hS0, ha, hx1⟩ rfl hx hq
  show JJ X E 3 G s0 0 0 [(0, .ref a), (1, .int (zI x1))] 0 []
  refine j_aload_n hx 0 dX0_lay_0 rfl ?_
  refine j_iload_n hx 1 dX0_lay_1 rfl ?_
  refine j_callV hx hG (c_X0_rowOf hst a x1) lk_RX0_36 ha (by decide) rfl rfl rfl rfl [.int (zI x1)] ⟨rfl, hG, hS0, ha, (by omega)⟩ rfl rfl ⟨by decide, by decide⟩ ⟨by decide, by decide⟩ (k2 := 0) (n2 := 0) rfl rfl (Nat.le_of_ble_eq_true rfl) dX0_lay_2 (kRP (fun r1 q2 => ?_))
  refine j_callV hx hG (c_X6_takeFirst hst r1) lk_RX0_85 q2 (by decide) rfl rfl rfl rfl [] ⟨rfl, hG, hS0, q2⟩ rfl rfl ⟨by decide, by decide⟩ ⟨by decide, by decide⟩ (k2 := 0) (n2 := 0) rfl rfl (Nat.le_of_ble_eq_true rfl) dX0_lay_5 (kIM (fun v3 s1 hS_s1 hF_s1 q4 => ?_))
  refine j_istore_n hx [(2, .int (zI v3)), (0, .ref a), (1, .int (zI x1))] dX0_lay_8 (by decide) rfl ?_
  refine j_iload_n hx 0 dX0_lay_9 rfl ?_
  refine j_iconst hx dX0_lay_10 ?_
  refine j_icmp_eq hx 25 dX0_lay_11 rfl (by omega) ⟨by decide, by decide⟩ (fun h5 => ?_) (fun h5 => ?_)
  · skip
    refine j_aload_n hx 1 dX0_lay_25 rfl ?_
    refine j_iload_n hx 2 dX0_lay_26 rfl ?_
    refine j_iconst hx dX0_lay_27 ?_
    refine j_iadd hx (r := x1 + 1) dX0_lay_28 rfl ?_
    refine p1_8 hx hG ha kf_RX0_53 dX0_lay_29 ?_
    obtain ⟨s2, e_s2⟩ : ∃ z, z = zU s1 a 8 (x1 + 1) := ⟨_, rfl⟩
    rw [← e_s2]
    have hS_s2 : zSK G s2 := by rw [e_s2]; exact zSK_F hS_s1 ha rfl rfl rfl (by omega)
    refine j_iload_n hx 0 dX0_lay_32 rfl ?_
    exact j_iret hx hq rfl (by decide) (by decide) dX0_lay_33 ⟨v3, rfl, rfl, hS_s2, (zFr_u (zFr_t zFr_rf hF_s1 (by decide)) e_s2 ha (by decide)), (by omega)⟩
  · skip
    refine j_aload_n hx 1 dX0_lay_14 rfl ?_
    refine j_iload_n hx 2 dX0_lay_15 rfl ?_
    refine j_callV hx hG (c_X0_heapOf hst a x1) lk_RX0_40 ha (by decide) rfl rfl rfl rfl [.int (zI x1)] ⟨rfl, hG, hS_s1, ha, (by omega)⟩ rfl rfl ⟨by decide, by decide⟩ ⟨by decide, by decide⟩ (k2 := 0) (n2 := 0) rfl rfl (Nat.le_of_ble_eq_true rfl) dX0_lay_16 (kRP (fun r6 q7 => ?_))
    refine j_iload_n hx 0 dX0_lay_19 rfl ?_
    refine j_iconst hx dX0_lay_20 ?_
    refine j_ior hx dX0_lay_21 (fun v8 f9 f10 => ?_)
    refine j_callV hx hG (c_X6_put hst r6 v8) lk_RX0_88 q7 (by decide) rfl rfl rfl rfl [.int (zI v8)] ⟨rfl, hG, hS_s1, q7, (by omega)⟩ rfl rfl ⟨by decide, by decide⟩ ⟨by decide, by decide⟩ (k2 := 0) (n2 := 0) rfl rfl (Nat.le_of_ble_eq_true rfl) dX0_lay_22 (kVM (fun s3 hS_s3 hF_s3 q12 => ?_))
    refine j_aload_n hx 1 dX0_lay_25 rfl ?_
    refine j_iload_n hx 2 dX0_lay_26 rfl ?_
    refine j_iconst hx dX0_lay_27 ?_
    refine j_iadd hx (r := x1 + 1) dX0_lay_28 rfl ?_
    refine p1_8 hx hG ha kf_RX0_53 dX0_lay_29 ?_
    obtain ⟨s4, e_s4⟩ : ∃ z, z = zU s3 a 8 (x1 + 1) := ⟨_, rfl⟩
    rw [← e_s4]
    have hS_s4 : zSK G s4 := by rw [e_s4]; exact zSK_F hS_s3 ha rfl rfl rfl (by omega)
    refine j_iload_n hx 0 dX0_lay_32 rfl ?_
    exact j_iret hx hq rfl (by decide) (by decide) dX0_lay_33 ⟨v3, rfl, rfl, hS_s4, (zFr_u (zFr_t (zFr_t zFr_rf hF_s1 (by decide)) hF_s3 (by decide)) e_s4 ha (by decide)), (by omega)⟩

set_option maxHeartbeats 4000000 in
set_option maxRecDepth 20000 in
theorem c_X0_following {E : zE} {l : Launch} (hst : l.stackTraces = false) (a : Nat) (x1 : Int) : Con E l yX0_following cX0_following 2 (some .int) { frames := 2, cells := 0, slots := 0, locals := 45 } (fun G s vs => vs = [.ref a, .int (zI x1)] ∧ zGK G ∧ zSK G s ∧ (gT G a = 1) ∧ ((-2147483648) ≤ x1 ∧ x1 ≤ 2147483647)) (fun G s _ => pI (fun r G2 s2 => G2 = G ∧ s2 = s ∧ ((-1) ≤ r ∧ r ≤ 2))) := by
  refine Con.mk hst (by decide) (fun G s vs h => by rw [h.1]; exact Nat.le_of_ble_eq_true rfl) ?_
  rintro X G s0 vs ⟨rfl, hG, hS0, ha, hx1⟩ rfl hx hq
  show JJ X E 2 G s0 0 0 [(0, .ref a), (1, .int (zI x1))] 0 []
  refine j_aload_n hx 0 dX0_following_0 rfl ?_
  refine j_iload_n hx 1 dX0_following_1 rfl ?_
  refine j_iconst hx dX0_following_2 ?_
  refine j_iadd hx (r := x1 + 1) dX0_following_3 rfl ?_
  refine j_norm (fun v1 f2 f3 f4 => ?_)
  refine j_aload_n hx 0 dX0_following_4 rfl ?_
  have f5 := zf hS0 ha (k := 7) rfl
  refine g1_7 hx hG ha kf_RX0_50 rfl dX0_following_5 ?_
  refine j_iconst hx dX0_following_8 ?_
  refine j_isub hx (r := (s0 a 7) - 1) dX0_following_9 (by omega) ?_
  refine j_callV hx hG (c_X0_firstIn hst a v1 ((s0 a 7) - 1)) lk_RX0_64 ha (by decide) rfl rfl rfl rfl [.int (zI v1), .int (zI ((s0 a 7) - 1))] ⟨rfl, hG, hS0, ha, (by omega), (by omega)⟩ rfl rfl ⟨by decide, by decide⟩ ⟨by decide, by decide⟩ (k2 := 0) (n2 := 0) rfl rfl (Nat.le_of_ble_eq_true rfl) dX0_following_10 (kIP (fun v6 q7 => ?_))
  exact j_iret hx hq rfl (by decide) (by decide) dX0_following_13 ⟨v6, rfl, rfl, rfl, (by omega)⟩

set_option maxHeartbeats 4000000 in
set_option maxRecDepth 20000 in
theorem c_X3_delayOf {E : zE} {l : Launch} (hst : l.stackTraces = false) (a : Nat) (x1 : Int) : Con E l yX3_delayOf cX3_delayOf 2 (some .int) { frames := 0, cells := 0, slots := 0, locals := 0 } (fun G s vs => vs = [.ref a, .int (zI x1)] ∧ zGK G ∧ zSK G s ∧ (gT G a = 4) ∧ ((-2147483648) ≤ x1 ∧ x1 ≤ 2147483647)) (fun G s _ => pI (fun r G2 s2 => G2 = G ∧ s2 = s ∧ ((-2147483648) ≤ r ∧ r ≤ 2147483647))) := by
  refine Con.mk hst (by decide) (fun G s vs h => by rw [h.1]; exact Nat.le_of_ble_eq_true rfl) ?_
  rintro X G s0 vs ⟨rfl, hG, hS0, ha, hx1⟩ rfl hx hq
  show JJ X E 2 G s0 0 0 [(0, .ref a), (1, .int (zI x1))] 0 []
  refine j_iload_n hx 1 dX3_delayOf_0 rfl ?_
  refine j_if_lt hx 22 dX3_delayOf_1 rfl (by omega) (fun h1 => ?_) (fun h1 => ?_)
  · skip
    refine j_bipush hx dX3_delayOf_22 rfl ?_
    exact j_iret hx hq rfl (by decide) (by decide) dX3_delayOf_24 ⟨99, rfl, rfl, rfl, (by omega)⟩
  · skip
    refine j_iload_n hx 1 dX3_delayOf_4 rfl ?_
    refine j_aload_n hx 0 dX3_delayOf_5 rfl ?_
    refine g4_6 hx hG ha kf_RX3_34 dX3_delayOf_6 ?_
    refine j_alen hx hG (zr (k := 6) (t2 := 52) hG ha rfl) (by decide) (by decide) (zlen hG (zr (k := 6) (t2 := 52) hG ha rfl) (n := 3) rfl rfl) dX3_delayOf_9 ?_
    refine j_icmp_ge hx 22 dX3_delayOf_10 rfl (by omega) ⟨by decide, by decide⟩ (fun h2 => ?_) (fun h2 => ?_)
    · skip
      refine j_bipush hx dX3_delayOf_22 rfl ?_
      exact j_iret hx hq rfl (by decide) (by decide) dX3_delayOf_24 ⟨99, rfl, rfl, rfl, (by omega)⟩
    · skip
      refine j_aload_n hx 0 dX3_delayOf_13 rfl ?_
      refine g4_6 hx hG ha kf_RX3_34 dX3_delayOf_14 ?_
      refine j_iload_n hx 1 dX3_delayOf_17 rfl ?_
      have f3 := zaI (j := (x1).toNat) hS0 (zr (k := 6) (t2 := 52) hG ha rfl) rfl (zlen hG (zr (k := 6) (t2 := 52) hG ha rfl) (n := 3) rfl rfl) (show 0 ≤ x1 by omega) (by omega) rfl
      refine j_iald hx hG (zr (k := 6) (t2 := 52) hG ha rfl) (by decide) rfl (zlen hG (zr (k := 6) (t2 := 52) hG ha rfl) (n := 3) rfl rfl) (by omega) (by omega) (j := (x1).toNat) rfl rfl dX3_delayOf_18 ?_
      refine j_goto hx 24 dX3_delayOf_19 rfl ?_
      exact j_iret hx hq rfl (by decide) (by decide) dX3_delayOf_24 ⟨(s0 (gP G a 6) (x1).toNat), rfl, rfl, rfl, (by omega)⟩

set_option maxHeartbeats 4000000 in
set_option maxRecDepth 20000 in
theorem c_X3_drawnDelay {E : zE} {l : Launch} (hst : l.stackTraces = false) (a : Nat) : Con E l yX3_drawnDelay cX3_drawnDelay 1 (some .int) { frames := 0, cells := 0, slots := 0, locals := 0 } (fun G s vs => vs = [.ref a] ∧ zGK G ∧ zSK G s ∧ (gT G a = 4)) (fun G s _ => pI (fun r G2 s2 => G2 = G ∧ zSK G s2 ∧ zFr [4] G s s2 ∧ ((-2147483648) ≤ r ∧ r ≤ 2147483647))) := by
  refine Con.mk hst (by decide) (fun G s vs h => by rw [h.1]; exact Nat.le_of_ble_eq_true rfl) ?_
  rintro X G s0 vs ⟨rfl, hG, hS0, ha⟩ rfl hx hq
  show JJ X E 1 G s0 0 0 [(0, .ref a)] 0 []
  refine j_aload_n hx 0 dX3_drawnDelay_0 rfl ?_
  have f1 := zf hS0 ha (k := 8) rfl
  refine g4_8 hx hG ha kf_RX3_65 rfl dX3_drawnDelay_1 ?_
  refine j_if_ne hx 9 dX3_drawnDelay_4 rfl (by omega) (fun h2 => ?_) (fun h2 => ?_)
  · skip
    refine j_aload_n hx 0 dX3_drawnDelay_9 rfl ?_
    refine j_aload_n hx 0 dX3_drawnDelay_10 rfl ?_
    have f3 := zf hS0 ha (k := 9) rfl
    refine g4_9 hx hG ha kf_RX3_68 rfl dX3_drawnDelay_11 ?_
    refine j_ldc hx (c := 1103515245) dX3_drawnDelay_14 kk_RX3_172 (by decide) ?_
    refine j_imul hx (r := 1103515245 * (s0 a 9)) dX3_drawnDelay_16 (by omega) ?_
    refine j_norm (fun v4 f5 f6 f7 => ?_)
    refine j_sipush hx dX3_drawnDelay_17 rfl ?_
    refine j_iadd hx (r := v4 + 12345) dX3_drawnDelay_20 rfl ?_
    refine j_norm (fun v8 f9 f10 f11 => ?_)
    refine p4_9 hx hG ha kf_RX3_68 dX3_drawnDelay_21 ?_
    obtain ⟨s1, e_s1⟩ : ∃ z, z = zU s0 a 9 v8 := ⟨_, rfl⟩
    rw [← e_s1]
    have hS_s1 : zSK G s1 := by rw [e_s1]; exact zSK_F hS0 ha rfl rfl rfl (by omega)
    refine j_aload_n hx 0 dX3_drawnDelay_24 rfl ?_
    refine g4_9 hx hG ha kf_RX3_68 (v := v8) (by rw [e_s1, zU_eq]) dX3_drawnDelay_25 ?_
    refine j_bipush hx dX3_drawnDelay_28 rfl ?_
    refine j_iushr hx dX3_drawnDelay_30 (fun v12 f13 f14 => ?_)
    refine j_iconst hx dX3_drawnDelay_31 ?_
    refine j_iand hx dX3_drawnDelay_32 (by omega) ⟨by decide, by decide⟩ (fun v15 f16 f17 f18 f19 _ => ?_)
    exact j_iret hx hq rfl (by decide) (by decide) dX3_drawnDelay_33 ⟨v15, rfl, rfl, hS_s1, (zFr_u zFr_rf e_s1 ha (by decide)), (by omega)⟩
  · skip
    refine j_iconst hx dX3_drawnDelay_7 ?_
    exact j_iret hx hq rfl (by decide) (by decide) dX3_drawnDelay_8 ⟨0, rfl, rfl, hS0, zFr_rf, (by omega)⟩

set_option maxHeartbeats 4000000 in
set_option maxRecDepth 20000 in
theorem c_X3_addTally {E : zE} {l : Launch} (hst : l.stackTraces = false) (a : Nat) (x1 : Int) (x2 : Int) : Con E l yX3_addTally cX3_addTally 3 none { frames := 0, cells := 0, slots := 0, locals := 0 } (fun G s vs => vs = [.ref a, .int (zI x1), .int (zI x2)] ∧ zGK G ∧ zSK G s ∧ (gT G a = 4) ∧ ((-2147483648) ≤ x1 ∧ x1 ≤ 2147483647) ∧ ((-2147483648) ≤ x2 ∧ x2 ≤ 2147483647)) (fun G s _ => pV (fun G2 s2 => G2 = G ∧ zSK G s2 ∧ zFr [50] G s s2 ∧ True)) := by
  refine Con.mk hst (by decide) (fun G s vs h => by rw [h.1]; exact Nat.le_of_ble_eq_true rfl) ?_
  rintro X G s0 vs ⟨rfl, hG, hS0, ha, hx1, hx2⟩ rfl hx hq
  show JJ X E 3 G s0 0 0 [(0, .ref a), (1, .int (zI x1)), (2, .int (zI x2))] 0 []
  refine j_iload_n hx 1 dX3_addTally_0 rfl ?_
  refine j_if_lt hx 23 dX3_addTally_1 rfl (by omega) (fun h1 => ?_) (fun h1 => ?_)
  · skip
    exact j_vret hx hq rfl (by decide) (by decide) dX3_addTally_23 ⟨rfl, rfl, hS0, zFr_rf, trivial⟩
  · skip
    refine j_iload_n hx 1 dX3_addTally_4 rfl ?_
    refine j_aload_n hx 0 dX3_addTally_5 rfl ?_
    refine g4_4 hx hG ha kf_RX3_28 dX3_addTally_6 ?_
    refine j_alen hx hG (zr (k := 4) (t2 := 50) hG ha rfl) (by decide) (by decide) (zlen hG (zr (k := 4) (t2 := 50) hG ha rfl) (n := 21) rfl rfl) dX3_addTally_9 ?_
    refine j_icmp_ge hx 23 dX3_addTally_10 rfl (by omega) ⟨by decide, by decide⟩ (fun h2 => ?_) (fun h2 => ?_)
    · skip
      exact j_vret hx hq rfl (by decide) (by decide) dX3_addTally_23 ⟨rfl, rfl, hS0, zFr_rf, trivial⟩
    · skip
      refine j_aload_n hx 0 dX3_addTally_13 rfl ?_
      refine g4_4 hx hG ha kf_RX3_28 dX3_addTally_14 ?_
      refine j_iload_n hx 1 dX3_addTally_17 rfl ?_
      refine j_dup2 hx dX3_addTally_18 rfl rfl ?_
      have f3 := zaI (j := (x1).toNat) hS0 (zr (k := 4) (t2 := 50) hG ha rfl) rfl (zlen hG (zr (k := 4) (t2 := 50) hG ha rfl) (n := 21) rfl rfl) (show 0 ≤ x1 by omega) (by omega) rfl
      refine j_iald hx hG (zr (k := 4) (t2 := 50) hG ha rfl) (by decide) rfl (zlen hG (zr (k := 4) (t2 := 50) hG ha rfl) (n := 21) rfl rfl) (by omega) (by omega) (j := (x1).toNat) rfl rfl dX3_addTally_19 ?_
      refine j_iload_n hx 2 dX3_addTally_20 rfl ?_
      refine j_iadd hx (r := (s0 (gP G a 4) (x1).toNat) + x2) dX3_addTally_21 (by omega) ?_
      refine j_norm (fun v4 f5 f6 f7 => ?_)
      refine j_iast hx hG (zr (k := 4) (t2 := 50) hG ha rfl) (by decide) rfl (zlen hG (zr (k := 4) (t2 := 50) hG ha rfl) (n := 21) rfl rfl) (by omega) (by omega) (j := (x1).toNat) rfl dX3_addTally_22 ?_
      obtain ⟨s1, e_s1⟩ : ∃ z, z = zU s0 (gP G a 4) (x1).toNat v4 := ⟨_, rfl⟩
      rw [← e_s1]
      have hS_s1 : zSK G s1 := by rw [e_s1]; exact zSK_A hS0 (zr (k := 4) (t2 := 50) hG ha rfl) rfl rfl rfl (by omega)
      exact j_vret hx hq rfl (by decide) (by decide) dX3_addTally_23 ⟨rfl, rfl, hS_s1, (zFr_u zFr_rf e_s1 (zr (k := 4) (t2 := 50) hG ha rfl) (by decide)), trivial⟩
