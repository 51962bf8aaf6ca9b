set_option maxHeartbeats 4000000 in
set_option maxRecDepth 20000 in
theorem c_X8_payoff {E : zE} {l : Launch} (hst : l.stackTraces = false) (a : Nat) (x1 : Int) (x2 : Int) (x3 : Int) : Con E l yX8_payoff cX8_payoff 6 (some .int) { frames := 0, cells := 0, slots := 0, locals := 0 } (fun G s vs => vs = [.ref a, .int (zI x1), .int (zI x2), .int (zI x3)] ∧ zGK G ∧ zSK G s ∧ (gT G a = 9) ∧ ((-2147483648) ≤ x1 ∧ x1 ≤ 2147483647) ∧ ((-2147483648) ≤ x2 ∧ x2 ≤ 2147483647) ∧ ((-2147483648) ≤ x3 ∧ x3 ≤ 2147483647)) (fun G s _ => pI (fun r G2 s2 => G2 = G ∧ s2 = s ∧ ((-2147483648) ≤ r ∧ r ≤ 2147483647))) := by
  refine Con.mk hst (by decide) (fun G s vs h => by rw [h.1]; exact Nat.le_of_ble_eq_true rfl) ?_
  rintro X G s0 vs ⟨rfl, hG, hS0, ha, hx1, hx2, hx3⟩ rfl hx hq
  show JJ X E 6 G s0 0 0 [(0, .ref a), (1, .int (zI x1)), (2, .int (zI x2)), (3, .int (zI x3))] 0 []
  refine j_iconst hx dX8_payoff_0 ?_
  refine j_istore hx [(4, .int (zI 0)), (0, .ref a), (1, .int (zI x1)), (2, .int (zI x2)), (3, .int (zI x3))] dX8_payoff_1 (by decide) rfl ?_
  refine j_iconst hx dX8_payoff_3 ?_
  refine j_istore hx [(5, .int (zI 0)), (4, .int (zI 0)), (0, .ref a), (1, .int (zI x1)), (2, .int (zI x2)), (3, .int (zI x3))] dX8_payoff_4 (by decide) rfl ?_
  have c6_1 : ∀ (m_c6_1 : Nat) (v1 : Int) (v2 : Int), 2147483648 - v2 < m_c6_1 → ((-2147483648) ≤ v1 ∧ v1 ≤ 2147483647) → (0 ≤ v2 ∧ v2 ≤ 12) → JJ X E 6 G s0 0 0 [(0, .ref a), (1, .int (zI x1)), (2, .int (zI x2)), (3, .int (zI x3)), (4, .int (zI v1)), (5, .int (zI v2))] 6 [] := by
    intro m_c6_1
    induction m_c6_1 with
    | zero => intro v1 v2 hm_c6_1 fA2 fA3; exfalso; omega
    | succ m_c6_1 ih_c6_1 => 
      intro v1 v2 hm_c6_1 fA2 fA3
      refine j_iload hx 5 dX8_payoff_6 rfl ?_
      refine j_aload_n hx 0 dX8_payoff_8 rfl ?_
      have f3 := zf hS0 ha (k := 5) rfl
      refine g9_5 hx hG ha kf_RX8_40 rfl dX8_payoff_9 ?_
      refine j_icmp_ge hx 110 dX8_payoff_12 rfl (by omega) (by omega) (fun h4 => ?_) (fun h4 => ?_)
      · skip
        refine j_iload hx 4 dX8_payoff_110 rfl ?_
        exact j_iret hx hq rfl (by decide) (by decide) dX8_payoff_112 ⟨v1, rfl, rfl, rfl, (by omega)⟩
      · skip
        refine j_iload hx 5 dX8_payoff_15 rfl ?_
        refine j_aload_n hx 0 dX8_payoff_17 rfl ?_
        refine g9_1 hx hG ha kf_RX8_15 dX8_payoff_18 ?_
        refine j_alen hx hG (zr (k := 1) (t2 := 43) hG ha rfl) (by decide) (by decide) (zlen hG (zr (k := 1) (t2 := 43) hG ha rfl) (n := 12) rfl rfl) dX8_payoff_21 ?_
        refine j_icmp_ge hx 110 dX8_payoff_22 rfl (by omega) ⟨by decide, by decide⟩ (fun h5 => absurd h5 (by omega)) (fun h5 => ?_)
        refine j_iload_n hx 1 dX8_payoff_25 rfl ?_
        refine j_aload_n hx 0 dX8_payoff_26 rfl ?_
        refine g9_5 hx hG ha kf_RX8_40 rfl dX8_payoff_27 ?_
        refine j_icmp_ge hx 110 dX8_payoff_30 rfl (by omega) (by omega) (fun h6 => ?_) (fun h6 => ?_)
        · skip
          refine j_iload hx 4 dX8_payoff_110 rfl ?_
          exact j_iret hx hq rfl (by decide) (by decide) dX8_payoff_112 ⟨v1, rfl, rfl, rfl, (by omega)⟩
        · skip
          refine j_iload_n hx 1 dX8_payoff_33 rfl ?_
          refine j_iload hx 5 dX8_payoff_34 rfl ?_
          have c104_4 : ∀ (v7 : Int), ((-2147483648) ≤ v7 ∧ v7 ≤ 2147483647) → JJ X E 6 G s0 0 0 [(0, .ref a), (1, .int (zI x1)), (2, .int (zI x2)), (3, .int (zI x3)), (4, .int (zI v7)), (5, .int (zI v2))] 104 [] := by
            intro v7 fA5
            refine j_iinc hx 5 [(5, .int (zI (v2 + 1))), (0, .ref a), (1, .int (zI x1)), (2, .int (zI x2)), (3, .int (zI x3)), (4, .int (zI v7))] dX8_payoff_104 rfl (by omega) (by decide) rfl ?_
            refine j_goto hx 6 dX8_payoff_107 rfl ?_
            exact j_sub [1, 2, 3, 4, 5, 0] [(0, .ref a), (1, .int (zI x1)), (2, .int (zI x2)), (3, .int (zI x3)), (4, .int (zI v7)), (5, .int (zI (v2 + 1)))] rfl (ih_c6_1 v7 (v2 + 1) (by omega) (by omega) (by omega))
          refine j_icmp_ge hx 56 dX8_payoff_36 rfl (by omega) (by omega) (fun h8 => ?_) (fun h8 => ?_)
          · skip
            refine j_iload_n hx 2 dX8_payoff_56 rfl ?_
            refine j_iload hx 5 dX8_payoff_57 rfl ?_
            have c67_6 : JJ X E 6 G s0 0 0 [(0, .ref a), (1, .int (zI x1)), (2, .int (zI x2)), (3, .int (zI x3)), (4, .int (zI v1)), (5, .int (zI v2))] 67 [] := by
              refine j_iload hx 4 dX8_payoff_67 rfl ?_
              refine j_bipush hx dX8_payoff_69 rfl ?_
              refine j_aload_n hx 0 dX8_payoff_71 rfl ?_
              refine g9_1 hx hG ha kf_RX8_15 dX8_payoff_72 ?_
              refine j_iload hx 5 dX8_payoff_75 rfl ?_
              have f9 := zaI (j := (v2).toNat) hS0 (zr (k := 1) (t2 := 43) hG ha rfl) rfl (zlen hG (zr (k := 1) (t2 := 43) hG ha rfl) (n := 12) rfl rfl) (show 0 ≤ v2 by omega) (by omega) rfl
              refine j_iald hx hG (zr (k := 1) (t2 := 43) hG ha rfl) (by decide) rfl (zlen hG (zr (k := 1) (t2 := 43) hG ha rfl) (n := 12) rfl rfl) (by omega) (by omega) (j := (v2).toNat) rfl rfl dX8_payoff_77 ?_
              refine j_imul hx (r := 10 * (s0 (gP G a 1) (v2).toNat)) dX8_payoff_78 (by omega) ?_
              refine j_norm (fun v10 f11 f12 f13 => ?_)
              refine j_iadd hx (r := v1 + v10) dX8_payoff_79 rfl ?_
              refine j_norm (fun v14 f15 f16 f17 => ?_)
              refine j_istore hx [(4, .int (zI v14)), (0, .ref a), (1, .int (zI x1)), (2, .int (zI x2)), (3, .int (zI x3)), (5, .int (zI v2))] dX8_payoff_80 (by decide) rfl ?_
              refine j_goto hx 104 dX8_payoff_82 rfl ?_
              exact j_sub [1, 2, 3, 4, 0, 5] [(0, .ref a), (1, .int (zI x1)), (2, .int (zI x2)), (3, .int (zI x3)), (4, .int (zI v14)), (5, .int (zI v2))] rfl (c104_4 v14 (by omega))
            refine j_icmp_lt hx 67 dX8_payoff_59 rfl (by omega) (by omega) (fun h18 => ?_) (fun h18 => ?_)
            · skip
              exact j_sub [0, 1, 2, 3, 4, 5] [(0, .ref a), (1, .int (zI x1)), (2, .int (zI x2)), (3, .int (zI x3)), (4, .int (zI v1)), (5, .int (zI v2))] rfl (c67_6  )
            · skip
              refine j_iload_n hx 2 dX8_payoff_62 rfl ?_
              refine j_iload_n hx 1 dX8_payoff_63 rfl ?_
              refine j_icmp_le hx 85 dX8_payoff_64 rfl (by omega) (by omega) (fun h19 => ?_) (fun h19 => ?_)
              · skip
                refine j_iload_n hx 2 dX8_payoff_85 rfl ?_
                refine j_iload_n hx 1 dX8_payoff_86 rfl ?_
                refine j_icmp_ne hx 104 dX8_payoff_87 rfl (by omega) (by omega) (fun h20 => ?_) (fun h20 => ?_)
                · skip
                  exact j_sub [0, 1, 2, 3, 4, 5] [(0, .ref a), (1, .int (zI x1)), (2, .int (zI x2)), (3, .int (zI x3)), (4, .int (zI v1)), (5, .int (zI v2))] rfl (c104_4 v1 (by omega))
                · skip
                  refine j_iload hx 4 dX8_payoff_90 rfl ?_
                  refine j_iconst hx dX8_payoff_92 ?_
                  refine j_aload_n hx 0 dX8_payoff_93 rfl ?_
                  refine g9_1 hx hG ha kf_RX8_15 dX8_payoff_94 ?_
                  refine j_iload hx 5 dX8_payoff_97 rfl ?_
                  have f21 := zaI (j := (v2).toNat) hS0 (zr (k := 1) (t2 := 43) hG ha rfl) rfl (zlen hG (zr (k := 1) (t2 := 43) hG ha rfl) (n := 12) rfl rfl) (show 0 ≤ v2 by omega) (by omega) rfl
                  refine j_iald hx hG (zr (k := 1) (t2 := 43) hG ha rfl) (by decide) rfl (zlen hG (zr (k := 1) (t2 := 43) hG ha rfl) (n := 12) rfl rfl) (by omega) (by omega) (j := (v2).toNat) rfl rfl dX8_payoff_99 ?_
                  refine j_imul hx (r := 5 * (s0 (gP G a 1) (v2).toNat)) dX8_payoff_100 (by omega) ?_
                  refine j_norm (fun v22 f23 f24 f25 => ?_)
                  refine j_iadd hx (r := v1 + v22) dX8_payoff_101 rfl ?_
                  refine j_norm (fun v26 f27 f28 f29 => ?_)
                  refine j_istore hx [(4, .int (zI v26)), (0, .ref a), (1, .int (zI x1)), (2, .int (zI x2)), (3, .int (zI x3)), (5, .int (zI v2))] dX8_payoff_102 (by decide) rfl ?_
                  exact j_sub [1, 2, 3, 4, 0, 5] [(0, .ref a), (1, .int (zI x1)), (2, .int (zI x2)), (3, .int (zI x3)), (4, .int (zI v26)), (5, .int (zI v2))] rfl (c104_4 v26 (by omega))
              · skip
                exact j_sub [0, 1, 2, 3, 4, 5] [(0, .ref a), (1, .int (zI x1)), (2, .int (zI x2)), (3, .int (zI x3)), (4, .int (zI v1)), (5, .int (zI v2))] rfl (c67_6  )
          · skip
            refine j_iload hx 4 dX8_payoff_39 rfl ?_
            refine j_iload_n hx 3 dX8_payoff_41 rfl ?_
            refine j_aload_n hx 0 dX8_payoff_42 rfl ?_
            refine g9_1 hx hG ha kf_RX8_15 dX8_payoff_43 ?_
            refine j_iload hx 5 dX8_payoff_46 rfl ?_
            have f30 := zaI (j := (v2).toNat) hS0 (zr (k := 1) (t2 := 43) hG ha rfl) rfl (zlen hG (zr (k := 1) (t2 := 43) hG ha rfl) (n := 12) rfl rfl) (show 0 ≤ v2 by omega) (by omega) rfl
            refine j_iald hx hG (zr (k := 1) (t2 := 43) hG ha rfl) (by decide) rfl (zlen hG (zr (k := 1) (t2 := 43) hG ha rfl) (n := 12) rfl rfl) (by omega) (by omega) (j := (v2).toNat) rfl rfl dX8_payoff_48 ?_
            refine j_imul hx (r := (x3 * ((s0 (gP G a 1) (v2).toNat)))) dX8_payoff_49 rfl ?_
            refine j_norm (fun v31 f32 f33 f34 => ?_)
            refine j_isub hx (r := v1 - v31) dX8_payoff_50 rfl ?_
            refine j_norm (fun v35 f36 f37 f38 => ?_)
            refine j_istore hx [(4, .int (zI v35)), (0, .ref a), (1, .int (zI x1)), (2, .int (zI x2)), (3, .int (zI x3)), (5, .int (zI v2))] dX8_payoff_51 (by decide) rfl ?_
            refine j_goto hx 104 dX8_payoff_53 rfl ?_
            exact j_sub [1, 2, 3, 4, 0, 5] [(0, .ref a), (1, .int (zI x1)), (2, .int (zI x2)), (3, .int (zI x3)), (4, .int (zI v35)), (5, .int (zI v2))] rfl (c104_4 v35 (by omega))
  exact j_sub [2, 3, 4, 5, 1, 0] [(0, .ref a), (1, .int (zI x1)), (2, .int (zI x2)), (3, .int (zI x3)), (4, .int (zI 0)), (5, .int (zI 0))] rfl (c6_1 (2147483648 * 4) 0 0 (by omega) (by omega) (by omega))

theorem lk_RX11_276 : LkV RX11 276 RX8 yX8_payoff cX8_payoff 6 (some .int) 3 := ⟨km_RX11_276, ki_yX8_payoff, ks_RX8_yX8_payoff, kn_RX8, kc_yX8_payoff, rfl, by decide +kernel, by decide +kernel, by decide +kernel⟩
set_option maxHeartbeats 4000000 in
set_option maxRecDepth 20000 in
theorem c_X11_moments {E : zE} {l : Launch} (hst : l.stackTraces = false) (a : Nat) (x1 : Int) (x2 : Int) (x3 : Int) : ConX E l yX11_moments cX11_moments 4 (some .int) { frames := 7, cells := 3, slots := 18, locals := 113 } (fun G s vs => vs = [.ref a, .int (zI x1), .int (zI x2), .int (zI x3)] ∧ zGK G ∧ zSK G s ∧ (gT G a = 12) ∧ ((-2147483648) ≤ x1 ∧ x1 ≤ 2147483647) ∧ ((-2147483648) ≤ x2 ∧ x2 ≤ 2147483647) ∧ ((-2147483648) ≤ x3 ∧ x3 ≤ 2147483647)) (fun G s _ => pI (fun r G2 s2 => G2 = G ∧ s2 = s ∧ ((-2147483648) ≤ r ∧ r ≤ 2147483647))) (fun G s _ Ex G2 s2 => G2 = G ∧ zSK G s2 ∧ zFr [12] G s s2 ∧ ((Ex = "java/lang/IllegalArgumentException" ∧ (True)))) := by
  refine ConX.mk hst (by decide) (fun G s vs h => by rw [h.1]; exact Nat.le_of_ble_eq_true rfl) ?_
  rintro X G s0 vs ⟨rfl, hG, hS0, ha, hx1, hx2, hx3⟩ rfl hx hq
  show JJ X E 4 G s0 0 0 [(0, .ref a), (1, .int (zI x1)), (2, .int (zI x2)), (3, .int (zI x3))] 0 []
  refine j_aload_n hx 0 dX11_moments_0 rfl ?_
  refine j_iload_n hx 1 dX11_moments_1 rfl ?_
  refine j_iconst hx dX11_moments_2 ?_
  refine j_aload_n hx 0 dX11_moments_3 rfl ?_
  refine g12_1 hx hG ha kf_RX11_19 dX11_moments_4 ?_
  have f1 := zf hS0 (zr (k := 1) (t2 := 9) hG ha rfl) (k := 5) rfl
  refine gN9_5 hx hG (zr (k := 1) (t2 := 9) hG ha rfl) kf_RX11_181 rfl dX11_moments_7 ?_
  refine j_callVX hx hq hG (c_X11_needRange hst a x1 0 ((s0 (gP G a 1) 5))) lk_RX11_98 ha (by decide) rfl rfl rfl rfl [.int (zI x1), .int (zI 0), .int (zI ((s0 (gP G a 1) 5)))] ⟨rfl, hG, hS0, ha, (by omega), (by omega), (by omega)⟩ rfl rfl ⟨by decide, by decide⟩ ⟨by decide, by decide⟩ (k2 := 1) (n2 := 6) rfl rfl (Nat.le_of_ble_eq_true rfl) ⟨by decide, by decide⟩ dX11_moments_10 (by rintro Ex9 G9 s9 ⟨rfl, hS9, hF9, e9, c9⟩; exact ⟨rfl, hS9, (zFr_t zFr_rf hF9 (by decide)), ⟨e9, by first | trivial | omega⟩⟩) (kVP (fun q3 => ?_))
  refine j_aload_n hx 0 dX11_moments_13 rfl ?_
  refine j_iload_n hx 2 dX11_moments_14 rfl ?_
  refine j_iconst hx dX11_moments_15 ?_
  refine j_aload_n hx 0 dX11_moments_16 rfl ?_
  refine g12_1 hx hG ha kf_RX11_19 dX11_moments_17 ?_
  refine gN9_5 hx hG (zr (k := 1) (t2 := 9) hG ha rfl) kf_RX11_181 rfl dX11_moments_20 ?_
  refine j_callVX hx hq hG (c_X11_needRange hst a x2 0 ((s0 (gP G a 1) 5))) lk_RX11_98 ha (by decide) rfl rfl rfl rfl [.int (zI x2), .int (zI 0), .int (zI ((s0 (gP G a 1) 5)))] ⟨rfl, hG, hS0, ha, (by omega), (by omega), (by omega)⟩ rfl rfl ⟨by decide, by decide⟩ ⟨by decide, by decide⟩ (k2 := 2) (n2 := 12) rfl rfl (Nat.le_of_ble_eq_true rfl) ⟨by decide, by decide⟩ dX11_moments_23 (by rintro Ex9 G9 s9 ⟨rfl, hS9, hF9, e9, c9⟩; exact ⟨rfl, hS9, (zFr_t zFr_rf hF9 (by decide)), ⟨e9, by first | trivial | omega⟩⟩) (kVP (fun q5 => ?_))
  refine j_aload_n hx 0 dX11_moments_26 rfl ?_
  refine j_iload_n hx 3 dX11_moments_27 rfl ?_
  refine j_iconst hx dX11_moments_28 ?_
  refine j_bipush hx dX11_moments_29 rfl ?_
  refine j_callVX hx hq hG (c_X11_needRange hst a x3 0 99) lk_RX11_98 ha (by decide) rfl rfl rfl rfl [.int (zI x3), .int (zI 0), .int (zI 99)] ⟨rfl, hG, hS0, ha, (by omega), (by omega), (by omega)⟩ rfl rfl ⟨by decide, by decide⟩ ⟨by decide, by decide⟩ (k2 := 3) (n2 := 18) rfl rfl (Nat.le_of_ble_eq_true rfl) ⟨by decide, by decide⟩ dX11_moments_31 (by rintro Ex9 G9 s9 ⟨rfl, hS9, hF9, e9, c9⟩; exact ⟨rfl, hS9, (zFr_t zFr_rf hF9 (by decide)), ⟨e9, by first | trivial | omega⟩⟩) (kVP (fun q7 => ?_))
  refine j_aload_n hx 0 dX11_moments_34 rfl ?_
  refine g12_1 hx hG ha kf_RX11_19 dX11_moments_35 ?_
  refine j_iload_n hx 1 dX11_moments_38 rfl ?_
  refine j_iload_n hx 2 dX11_moments_39 rfl ?_
  refine j_iload_n hx 3 dX11_moments_40 rfl ?_
  refine j_callV hx hG (c_X8_payoff hst (gP G a 1) x1 x2 x3) lk_RX11_276 (zr (k := 1) (t2 := 9) hG ha rfl) (by decide) rfl rfl rfl rfl [.int (zI x1), .int (zI x2), .int (zI x3)] ⟨rfl, hG, hS0, (zr (k := 1) (t2 := 9) hG ha rfl), (by omega), (by omega), (by omega)⟩ rfl rfl ⟨by decide, by decide⟩ ⟨by decide, by decide⟩ (k2 := 3) (n2 := 18) rfl rfl (Nat.le_of_ble_eq_true rfl) dX11_moments_41 (kIP (fun v8 q9 => ?_))
  exact j_iret hx hq.r rfl (by decide) (by decide) dX11_moments_44 ⟨v8, rfl, rfl, rfl, (by omega)⟩

theorem lk_RX8_151 : LkV RX8 151 RX8 yX8_payoff cX8_payoff 6 (some .int) 3 := ⟨km_RX8_151, ki_yX8_payoff, ks_RX8_yX8_payoff, kn_RX8, kc_yX8_payoff, rfl, by decide +kernel, by decide +kernel, by decide +kernel⟩
set_option maxHeartbeats 4000000 in
set_option maxRecDepth 20000 in
theorem c_X8_isBest {E : zE} {l : Launch} (hst : l.stackTraces = false) (a : Nat) (x1 : Int) (x2 : Int) (x3 : Int) : Con E l yX8_isBest cX8_isBest 6 (some .boolean) { frames := 1, cells := 0, slots := 0, locals := 25 } (fun G s vs => vs = [.ref a, .int (zI x1), .int (zI x2), .int (zI x3)] ∧ zGK G ∧ zSK G s ∧ (gT G a = 9) ∧ ((-2147483648) ≤ x1 ∧ x1 ≤ 2147483647) ∧ ((-2147483648) ≤ x2 ∧ x2 ≤ 2147483647) ∧ ((-2147483648) ≤ x3 ∧ x3 ≤ 2147483647)) (fun G s _ => pI (fun r G2 s2 => G2 = G ∧ s2 = s ∧ (0 ≤ r ∧ r ≤ 1))) := by
  refine Con.mk hst (by decide) (fun G s vs h => by rw [h.1]; exact Nat.le_of_ble_eq_true rfl) ?_
  rintro X G s0 vs ⟨rfl, hG, hS0, ha, hx1, hx2, hx3⟩ rfl hx hq
  show JJ X E 6 G s0 0 0 [(0, .ref a), (1, .int (zI x1)), (2, .int (zI x2)), (3, .int (zI x3))] 0 []
  refine j_aload_n hx 0 dX8_isBest_0 rfl ?_
  refine j_iload_n hx 1 dX8_isBest_1 rfl ?_
  refine j_iload_n hx 2 dX8_isBest_2 rfl ?_
  refine j_iload_n hx 3 dX8_isBest_3 rfl ?_
  refine j_callV hx hG (c_X8_payoff hst a x1 x2 x3) lk_RX8_151 ha (by decide) rfl rfl rfl rfl [.int (zI x1), .int (zI x2), .int (zI x3)] ⟨rfl, hG, hS0, ha, (by omega), (by omega), (by omega)⟩ rfl rfl ⟨by decide, by decide⟩ ⟨by decide, by decide⟩ (k2 := 0) (n2 := 0) rfl rfl (Nat.le_of_ble_eq_true rfl) dX8_isBest_4 (kIP (fun v1 q2 => ?_))
  refine j_istore hx [(4, .int (zI v1)), (0, .ref a), (1, .int (zI x1)), (2, .int (zI x2)), (3, .int (zI x3))] dX8_isBest_7 (by decide) rfl ?_
  refine j_iconst hx dX8_isBest_9 ?_
  refine j_istore hx [(5, .int (zI 0)), (4, .int (zI v1)), (0, .ref a), (1, .int (zI x1)), (2, .int (zI x2)), (3, .int (zI x3))] dX8_isBest_10 (by decide) rfl ?_
  have c12_1 : ∀ (m_c12_1 : Nat) (v3 : Int), 2147483648 - v3 < m_c12_1 → (0 ≤ v3 ∧ v3 ≤ 13) → JJ X E 6 G s0 0 0 [(0, .ref a), (2, .int (zI x2)), (3, .int (zI x3)), (4, .int (zI v1)), (5, .int (zI v3))] 12 [] := by
    intro m_c12_1
    induction m_c12_1 with
    | zero => intro v3 hm_c12_1 fA2; exfalso; omega
    | succ m_c12_1 ih_c12_1 => 
      intro v3 hm_c12_1 fA2
      refine j_iload hx 4 dX8_isBest_12 rfl ?_
      refine j_aload_n hx 0 dX8_isBest_14 rfl ?_
      have f4 := zf hS0 ha (k := 5) rfl
      refine g9_5 hx hG ha kf_RX8_40 rfl dX8_isBest_15 ?_
      refine j_icmp_gt hx 42 dX8_isBest_18 rfl (by omega) (by omega) (fun h5 => ?_) (fun h5 => ?_)
      · skip
        refine j_iconst hx dX8_isBest_42 ?_
        exact j_zret hx hq rfl (by decide) (by decide) dX8_isBest_43 (by omega) ⟨1, rfl, rfl, rfl, (by omega)⟩
      · skip
        refine j_aload_n hx 0 dX8_isBest_21 rfl ?_
        refine j_iload hx 4 dX8_isBest_22 rfl ?_
        refine j_iload_n hx 1 dX8_isBest_24 rfl ?_
        refine j_iload_n hx 2 dX8_isBest_25 rfl ?_
        refine j_callV hx hG (c_X8_payoff hst a v3 x2 x3) lk_RX8_151 ha (by decide) rfl rfl rfl rfl [.int (zI v3), .int (zI x2), .int (zI x3)] ⟨rfl, hG, hS0, ha, (by omega), (by omega), (by omega)⟩ rfl rfl ⟨by decide, by decide⟩ ⟨by decide, by decide⟩ (k2 := 0) (n2 := 0) rfl rfl (Nat.le_of_ble_eq_true rfl) dX8_isBest_26 (kIP (fun v6 q7 => ?_))
        refine j_iload hx 3 dX8_isBest_29 rfl ?_
        refine j_icmp_le hx 36 dX8_isBest_31 rfl (by omega) (by omega) (fun h8 => ?_) (fun h8 => ?_)
        · skip
          refine j_iinc hx 4 [(5, .int (zI (v3 + 1))), (0, .ref a), (2, .int (zI x2)), (3, .int (zI x3)), (4, .int (zI v1))] dX8_isBest_36 rfl (by omega) (by decide) rfl ?_
          refine j_goto hx 12 dX8_isBest_39 rfl ?_
          exact j_sub [1, 2, 3, 4, 0] [(0, .ref a), (2, .int (zI x2)), (3, .int (zI x3)), (4, .int (zI v1)), (5, .int (zI (v3 + 1)))] rfl (ih_c12_1 (v3 + 1) (by omega) (by omega))
        · skip
          refine j_iconst hx dX8_isBest_34 ?_
          exact j_zret hx hq rfl (by decide) (by decide) dX8_isBest_35 (by omega) ⟨0, rfl, rfl, rfl, (by omega)⟩
  exact j_sub [2, 4, 5, 1, 0] [(0, .ref a), (2, .int (zI x2)), (3, .int (zI x3)), (4, .int (zI v1)), (5, .int (zI 0))] rfl (c12_1 (2147483648 * 4) 0 (by omega) (by omega))

theorem lk_RX11_280 : LkV RX11 280 RX8 yX8_isBest cX8_isBest 6 (some .boolean) 3 := ⟨km_RX11_280, ki_yX8_isBest, ks_RX8_yX8_isBest, kn_RX8, kc_yX8_isBest, rfl, by decide +kernel, by decide +kernel, by decide +kernel⟩
set_option maxHeartbeats 4000000 in
set_option maxRecDepth 20000 in
theorem c_X11_rests {E : zE} {l : Launch} (hst : l.stackTraces = false) (a : Nat) (x1 : Int) (x2 : Int) : ConX E l yX11_rests cX11_rests 7 (some .int) { frames := 7, cells := 2, slots := 12, locals := 113 } (fun G s vs => vs = [.ref a, .int (zI x1), .int (zI x2)] ∧ zGK G ∧ zSK G s ∧ (gT G a = 12) ∧ ((-2147483648) ≤ x1 ∧ x1 ≤ 2147483647) ∧ ((-2147483648) ≤ x2 ∧ x2 ≤ 2147483647)) (fun G s _ => pI (fun r G2 s2 => G2 = G ∧ s2 = s ∧ ((-2147483648) ≤ r ∧ r ≤ 2147483647))) (fun G s _ Ex G2 s2 => G2 = G ∧ zSK G s2 ∧ zFr [12] G s s2 ∧ ((Ex = "java/lang/IllegalArgumentException" ∧ (True)))) := by
  refine ConX.mk hst (by decide) (fun G s vs h => by rw [h.1]; exact Nat.le_of_ble_eq_true rfl) ?_
  rintro X G s0 vs ⟨rfl, hG, hS0, ha, hx1, hx2⟩ rfl hx hq
  show JJ X E 7 G s0 0 0 [(0, .ref a), (1, .int (zI x1)), (2, .int (zI x2))] 0 []
  refine j_aload_n hx 0 dX11_rests_0 rfl ?_
  refine j_iload_n hx 1 dX11_rests_1 rfl ?_
  refine j_iconst hx dX11_rests_2 ?_
  refine j_bipush hx dX11_rests_3 rfl ?_
  refine j_callVX hx hq hG (c_X11_needRange hst a x1 0 99) lk_RX11_98 ha (by decide) rfl rfl rfl rfl [.int (zI x1), .int (zI 0), .int (zI 99)] ⟨rfl, hG, hS0, ha, (by omega), (by omega), (by omega)⟩ rfl rfl ⟨by decide, by decide⟩ ⟨by decide, by decide⟩ (k2 := 1) (n2 := 6) rfl rfl (Nat.le_of_ble_eq_true rfl) ⟨by decide, by decide⟩ dX11_rests_5 (by rintro Ex9 G9 s9 ⟨rfl, hS9, hF9, e9, c9⟩; exact ⟨rfl, hS9, (zFr_t zFr_rf hF9 (by decide)), ⟨e9, by first | trivial | omega⟩⟩) (kVP (fun q2 => ?_))
  refine j_aload_n hx 0 dX11_rests_8 rfl ?_
  refine j_iload_n hx 2 dX11_rests_9 rfl ?_
  refine j_iconst hx dX11_rests_10 ?_
  refine j_iconst hx dX11_rests_11 ?_
  refine j_callVX hx hq hG (c_X11_needRange hst a x2 0 1) lk_RX11_98 ha (by decide) rfl rfl rfl rfl [.int (zI x2), .int (zI 0), .int (zI 1)] ⟨rfl, hG, hS0, ha, (by omega), (by omega), (by omega)⟩ rfl rfl ⟨by decide, by decide⟩ ⟨by decide, by decide⟩ (k2 := 2) (n2 := 12) rfl rfl (Nat.le_of_ble_eq_true rfl) ⟨by decide, by decide⟩ dX11_rests_12 (by rintro Ex9 G9 s9 ⟨rfl, hS9, hF9, e9, c9⟩; exact ⟨rfl, hS9, (zFr_t zFr_rf hF9 (by decide)), ⟨e9, by first | trivial | omega⟩⟩) (kVP (fun q4 => ?_))
  refine j_iconst hx dX11_rests_15 ?_
  refine j_istore_n hx [(3, .int (zI 0)), (0, .ref a), (1, .int (zI x1)), (2, .int (zI x2))] dX11_rests_16 (by decide) rfl ?_
  refine j_iconst hx dX11_rests_17 ?_
  refine j_istore hx [(4, .int (zI (-1))), (3, .int (zI 0)), (0, .ref a), (1, .int (zI x1)), (2, .int (zI x2))] dX11_rests_18 (by decide) rfl ?_
  refine j_iconst hx dX11_rests_20 ?_
  refine j_istore hx [(5, .int (zI 0)), (4, .int (zI (-1))), (3, .int (zI 0)), (0, .ref a), (1, .int (zI x1)), (2, .int (zI x2))] dX11_rests_21 (by decide) rfl ?_
  have c23_1 : ∀ (m_c23_1 : Nat) (v5 : Int) (v6 : Int) (v7 : Int), 2147483648 - v7 < m_c23_1 → ((-2147483648) ≤ v5 ∧ v5 ≤ 2147483647) → ((-1) ≤ v6 ∧ v6 ≤ 3000) → (0 ≤ v7 ∧ v7 ≤ 13) → JJ X E 7 G s0 2 12 [(0, .ref a), (1, .int (zI x1)), (2, .int (zI x2)), (3, .int (zI v5)), (4, .int (zI v6)), (5, .int (zI v7))] 23 [] := by
    intro m_c23_1
    induction m_c23_1 with
    | zero => intro v5 v6 v7 hm_c23_1 fA2 fA3 fA4; exfalso; omega
    | succ m_c23_1 ih_c23_1 => 
      intro v5 v6 v7 hm_c23_1 fA2 fA3 fA4
      refine j_iload hx 5 dX11_rests_23 rfl ?_
      refine j_aload_n hx 0 dX11_rests_25 rfl ?_
      refine g12_1 hx hG ha kf_RX11_19 dX11_rests_26 ?_
      have f8 := zf hS0 (zr (k := 1) (t2 := 9) hG ha rfl) (k := 5) rfl
      refine gN9_5 hx hG (zr (k := 1) (t2 := 9) hG ha rfl) kf_RX11_181 rfl dX11_rests_29 ?_
      refine j_icmp_gt hx 114 dX11_rests_32 rfl (by omega) (by omega) (fun h9 => ?_) (fun h9 => ?_)
      · skip
        refine j_iload_n hx 2 dX11_rests_114 rfl ?_
        refine j_if_ne hx 122 dX11_rests_115 rfl (by omega) (fun h10 => ?_) (fun h10 => ?_)
        · skip
          refine j_iload hx 4 dX11_rests_122 rfl ?_
          exact j_iret hx hq.r rfl (by decide) (by decide) dX11_rests_124 ⟨v6, rfl, rfl, rfl, (by omega)⟩
        · skip
          refine j_iload_n hx 3 dX11_rests_118 rfl ?_
          refine j_goto hx 124 dX11_rests_119 rfl ?_
          exact j_iret hx hq.r rfl (by decide) (by decide) dX11_rests_124 ⟨v5, rfl, rfl, rfl, (by omega)⟩
      · skip
        refine j_iconst hx dX11_rests_35 ?_
        refine j_istore hx [(6, .int (zI 0)), (0, .ref a), (1, .int (zI x1)), (2, .int (zI x2)), (3, .int (zI v5)), (4, .int (zI v6)), (5, .int (zI v7))] dX11_rests_36 (by decide) rfl ?_
        have c38_5 : ∀ (m_c38_5 : Nat) (v11 : Int) (v12 : Int) (v13 : Int), 2147483648 - v13 < m_c38_5 → ((-2147483648) ≤ v11 ∧ v11 ≤ 2147483647) → ((-1) ≤ v12 ∧ v12 ≤ 3000) → (0 ≤ v13 ∧ v13 ≤ 13) → JJ X E 7 G s0 2 12 [(0, .ref a), (1, .int (zI x1)), (2, .int (zI x2)), (3, .int (zI v11)), (4, .int (zI v12)), (5, .int (zI v7)), (6, .int (zI v13))] 38 [] := by
          intro m_c38_5
          induction m_c38_5 with
          | zero => intro v11 v12 v13 hm_c38_5 fA6 fA7 fA8; exfalso; omega
          | succ m_c38_5 ih_c38_5 => 
            intro v11 v12 v13 hm_c38_5 fA6 fA7 fA8
            refine j_iload hx 6 dX11_rests_38 rfl ?_
            refine j_aload_n hx 0 dX11_rests_40 rfl ?_
            refine g12_1 hx hG ha kf_RX11_19 dX11_rests_41 ?_
            refine gN9_5 hx hG (zr (k := 1) (t2 := 9) hG ha rfl) kf_RX11_181 rfl dX11_rests_44 ?_
            refine j_icmp_gt hx 108 dX11_rests_47 rfl (by omega) (by omega) (fun h14 => ?_) (fun h14 => ?_)
            · skip
              refine j_iinc hx 5 [(5, .int (zI (v7 + 1))), (0, .ref a), (1, .int (zI x1)), (2, .int (zI x2)), (3, .int (zI v11)), (4, .int (zI v12)), (6, .int (zI v13))] dX11_rests_108 rfl (by omega) (by decide) rfl ?_
              refine j_goto hx 23 dX11_rests_111 rfl ?_
              exact j_sub [1, 2, 3, 4, 5, 0] [(0, .ref a), (1, .int (zI x1)), (2, .int (zI x2)), (3, .int (zI v11)), (4, .int (zI v12)), (5, .int (zI (v7 + 1)))] rfl (ih_c23_1 v11 v12 (v7 + 1) (by omega) (by omega) (by omega) (by omega))
            · skip
              refine j_aload_n hx 0 dX11_rests_50 rfl ?_
              refine g12_1 hx hG ha kf_RX11_19 dX11_rests_51 ?_
              refine j_iload hx 5 dX11_rests_54 rfl ?_
              refine j_iload hx 6 dX11_rests_56 rfl ?_
              refine j_iload_n hx 1 dX11_rests_58 rfl ?_
              refine j_callV hx hG (c_X8_isBest hst (gP G a 1) v7 v13 x1) lk_RX11_280 (zr (k := 1) (t2 := 9) hG ha rfl) (by decide) rfl rfl rfl rfl [.int (zI v7), .int (zI v13), .int (zI x1)] ⟨rfl, hG, hS0, (zr (k := 1) (t2 := 9) hG ha rfl), (by omega), (by omega), (by omega)⟩ rfl rfl ⟨by decide, by decide⟩ ⟨by decide, by decide⟩ (k2 := 2) (n2 := 12) rfl rfl (Nat.le_of_ble_eq_true rfl) dX11_rests_59 (kIP (fun v15 q16 => ?_))
              have c102_9 : ∀ (v17 : Int) (v18 : Int), ((-2147483648) ≤ v17 ∧ v17 ≤ 2147483647) → ((-1) ≤ v18 ∧ v18 ≤ 3000) → JJ X E 7 G s0 2 12 [(0, .ref a), (1, .int (zI x1)), (2, .int (zI x2)), (3, .int (zI v17)), (4, .int (zI v18)), (5, .int (zI v7)), (6, .int (zI v13))] 102 [] := by
                intro v17 v18 fA10 fA11
                refine j_iinc hx 6 [(6, .int (zI (v13 + 1))), (0, .ref a), (1, .int (zI x1)), (2, .int (zI x2)), (3, .int (zI v17)), (4, .int (zI v18)), (5, .int (zI v7))] dX11_rests_102 rfl (by omega) (by decide) rfl ?_
                refine j_goto hx 38 dX11_rests_105 rfl ?_
                exact j_sub [1, 2, 3, 4, 5, 6, 0] [(0, .ref a), (1, .int (zI x1)), (2, .int (zI x2)), (3, .int (zI v17)), (4, .int (zI v18)), (5, .int (zI v7)), (6, .int (zI (v13 + 1)))] rfl (ih_c38_5 v17 v18 (v13 + 1) (by omega) (by omega) (by omega) (by omega))
              refine j_if_eq hx 102 dX11_rests_62 rfl (by omega) (fun h19 => ?_) (fun h19 => ?_)
              · skip
                exact j_sub [0, 1, 2, 3, 4, 5, 6] [(0, .ref a), (1, .int (zI x1)), (2, .int (zI x2)), (3, .int (zI v11)), (4, .int (zI v12)), (5, .int (zI v7)), (6, .int (zI v13))] rfl (c102_9 v11 v12 (by omega) (by omega))
              · skip
                refine j_aload_n hx 0 dX11_rests_65 rfl ?_
                refine g12_1 hx hG ha kf_RX11_19 dX11_rests_66 ?_
                refine j_iload hx 6 dX11_rests_69 rfl ?_
                refine j_iload hx 5 dX11_rests_71 rfl ?_
                refine j_iload_n hx 1 dX11_rests_73 rfl ?_
                refine j_callV hx hG (c_X8_isBest hst (gP G a 1) v13 v7 x1) lk_RX11_280 (zr (k := 1) (t2 := 9) hG ha rfl) (by decide) rfl rfl rfl rfl [.int (zI v13), .int (zI v7), .int (zI x1)] ⟨rfl, hG, hS0, (zr (k := 1) (t2 := 9) hG ha rfl), (by omega), (by omega), (by omega)⟩ rfl rfl ⟨by decide, by decide⟩ ⟨by decide, by decide⟩ (k2 := 2) (n2 := 12) rfl rfl (Nat.le_of_ble_eq_true rfl) dX11_rests_74 (kIP (fun v20 q21 => ?_))
                refine j_if_eq hx 102 dX11_rests_77 rfl (by omega) (fun h22 => ?_) (fun h22 => ?_)
                · skip
                  exact j_sub [0, 1, 2, 3, 4, 5, 6] [(0, .ref a), (1, .int (zI x1)), (2, .int (zI x2)), (3, .int (zI v11)), (4, .int (zI v12)), (5, .int (zI v7)), (6, .int (zI v13))] rfl (c102_9 v11 v12 (by omega) (by omega))
                · skip
                  refine j_iload_n hx 3 dX11_rests_80 rfl ?_
                  have c97_12 : ∀ (v23 : Int), ((-1) ≤ v23 ∧ v23 ≤ 3000) → JJ X E 7 G s0 2 12 [(0, .ref a), (1, .int (zI x1)), (2, .int (zI x2)), (3, .int (zI v11)), (5, .int (zI v7)), (6, .int (zI v13))] 97 [.int (zI v23)] := by
                    intro v23 fA13
                    refine j_istore hx [(4, .int (zI v23)), (0, .ref a), (1, .int (zI x1)), (2, .int (zI x2)), (3, .int (zI v11)), (5, .int (zI v7)), (6, .int (zI v13))] dX11_rests_97 (by decide) rfl ?_
                    refine j_iincN hx 4 (fun v24 => [(3, .int (zI v24)), (4, .int (zI v23)), (0, .ref a), (1, .int (zI x1)), (2, .int (zI x2)), (5, .int (zI v7)), (6, .int (zI v13))]) dX11_rests_99 rfl (by decide) (fun _ => rfl) (fun v24 f25 f26 f27 => ?_)
                    exact j_sub [2, 3, 4, 0, 1, 5, 6] [(0, .ref a), (1, .int (zI x1)), (2, .int (zI x2)), (3, .int (zI v24)), (4, .int (zI v23)), (5, .int (zI v7)), (6, .int (zI v13))] rfl (c102_9 v24 v23 (by omega) (by omega))
                  refine j_if_ne hx 95 dX11_rests_81 rfl (by omega) (fun h28 => ?_) (fun h28 => ?_)
                  · skip
                    refine j_iload hx 4 dX11_rests_95 rfl ?_
                    exact j_sub [0, 1, 2, 3, 5, 6] [(0, .ref a), (1, .int (zI x1)), (2, .int (zI x2)), (3, .int (zI v11)), (5, .int (zI v7)), (6, .int (zI v13))] rfl (c97_12 v12 (by omega))
                  · skip
                    refine j_bipush hx dX11_rests_84 rfl ?_
                    refine j_iload hx 5 dX11_rests_86 rfl ?_
                    refine j_imul hx (r := 100 * v7) dX11_rests_88 rfl ?_
                    refine j_iload hx 6 dX11_rests_89 rfl ?_
                    refine j_iadd hx (r := 100 * v7 + v13) dX11_rests_91 (by omega) ?_
                    refine j_goto hx 97 dX11_rests_92 rfl ?_
                    exact j_sub [0, 1, 2, 3, 5, 6] [(0, .ref a), (1, .int (zI x1)), (2, .int (zI x2)), (3, .int (zI v11)), (5, .int (zI v7)), (6, .int (zI v13))] rfl (c97_12 (100 * v7 + v13) (by omega))
        exact j_sub [1, 2, 3, 4, 5, 6, 0] [(0, .ref a), (1, .int (zI x1)), (2, .int (zI x2)), (3, .int (zI v5)), (4, .int (zI v6)), (5, .int (zI v7)), (6, .int (zI 0))] rfl (c38_5 (2147483648 * 4) v5 v6 0 (by omega) (by omega) (by omega) (by omega))
  exact j_sub [3, 4, 5, 2, 1, 0] [(0, .ref a), (1, .int (zI x1)), (2, .int (zI x2)), (3, .int (zI 0)), (4, .int (zI (-1))), (5, .int (zI 0))] rfl (c23_1 (2147483648 * 4) 0 (-1) 0 (by omega) (by omega) (by omega) (by omega))

set_option maxHeartbeats 4000000 in
set_option maxRecDepth 20000 in
theorem c_X0_cardsOf {E : zE} {l : Launch} (hst : l.stackTraces = false) (a : Nat) (x1 : Int) : Con E l yX0_cardsOf cX0_cardsOf 2 (some .int) { frames := 1, cells := 0, slots := 0, locals := 21 } (fun G s vs => vs = [.ref a, .int (zI x1)] ∧ zGK G ∧ zSK G s ∧ (gT G a = 1) ∧ ((-2147483648) ≤ x1 ∧ x1 ≤ 2147483647)) (fun G s _ => pI (fun r G2 s2 => G2 = G ∧ s2 = s ∧ ((-2147483648) ≤ r ∧ r ≤ 2147483647))) := by
  refine Con.mk hst (by decide) (fun G s vs h => by rw [h.1]; exact Nat.le_of_ble_eq_true rfl) ?_
  rintro X G s0 vs ⟨rfl, hG, hS0, ha, hx1⟩ rfl hx hq
  show JJ X E 2 G s0 0 0 [(0, .ref a), (1, .int (zI x1))] 0 []
  refine j_aload_n hx 0 dX0_cardsOf_0 rfl ?_
  refine j_iload_n hx 1 dX0_cardsOf_1 rfl ?_
  refine j_callV hx hG (c_X0_rowOf hst a x1) lk_RX0_36 ha (by decide) rfl rfl rfl rfl [.int (zI x1)] ⟨rfl, hG, hS0, ha, (by omega)⟩ rfl rfl ⟨by decide, by decide⟩ ⟨by decide, by decide⟩ (k2 := 0) (n2 := 0) rfl rfl (Nat.le_of_ble_eq_true rfl) dX0_cardsOf_2 (kRP (fun r1 q2 => ?_))
  have f3 := zf hS0 q2 (k := 1) rfl
  refine gN7_1 hx hG q2 kf_RX0_43 rfl dX0_cardsOf_5 ?_
  refine j_aload_n hx 0 dX0_cardsOf_8 rfl ?_
  refine j_iload_n hx 1 dX0_cardsOf_9 rfl ?_
  refine j_callV hx hG (c_X0_heapOf hst a x1) lk_RX0_40 ha (by decide) rfl rfl rfl rfl [.int (zI x1)] ⟨rfl, hG, hS0, ha, (by omega)⟩ rfl rfl ⟨by decide, by decide⟩ ⟨by decide, by decide⟩ (k2 := 0) (n2 := 0) rfl rfl (Nat.le_of_ble_eq_true rfl) dX0_cardsOf_10 (kRP (fun r4 q5 => ?_))
  have f6 := zf hS0 q5 (k := 1) rfl
  refine gN7_1 hx hG q5 kf_RX0_43 rfl dX0_cardsOf_13 ?_
  refine j_iadd hx (r := (s0 r1 1) + (s0 r4 1)) dX0_cardsOf_16 (by omega) ?_
  exact j_iret hx hq rfl (by decide) (by decide) dX0_cardsOf_17 ⟨(s0 r1 1) + (s0 r4 1), rfl, rfl, rfl, (by omega)⟩

set_option maxHeartbeats 4000000 in
set_option maxRecDepth 20000 in
theorem c_X10_keepBetter {E : zE} {l : Launch} (hst : l.stackTraces = false) (a : Nat) (x1 : Int) (x2 : Int) : Con E l yX10_keepBetter cX10_keepBetter 3 none { frames := 0, cells := 0, slots := 0, locals := 0 } (fun G s vs => vs = [.ref a, .int (zI x1), .int (zI x2)] ∧ zGK G ∧ zSK G s ∧ (gT G a = 11) ∧ ((-2147483648) ≤ x1 ∧ x1 ≤ 2147483647) ∧ ((-2147483648) ≤ x2 ∧ x2 ≤ 2147483647)) (fun G s _ => pV (fun G2 s2 => G2 = G ∧ zSK G s2 ∧ zFr [11] G s s2 ∧ True)) := by
  refine Con.mk hst (by decide) (fun G s vs h => by rw [h.1]; exact Nat.le_of_ble_eq_true rfl) ?_
  rintro X G s0 vs ⟨rfl, hG, hS0, ha, hx1, hx2⟩ rfl hx hq
  show JJ X E 3 G s0 0 0 [(0, .ref a), (1, .int (zI x1)), (2, .int (zI x2))] 0 []
  refine j_iload_n hx 1 dX10_keepBetter_0 rfl ?_
  refine j_aload_n hx 0 dX10_keepBetter_1 rfl ?_
  have f1 := zf hS0 ha (k := 5) rfl
  refine g11_5 hx hG ha kf_RX10_48 rfl dX10_keepBetter_2 ?_
  refine j_icmp_gt hx 24 dX10_keepBetter_5 rfl (by omega) (by omega) (fun h2 => ?_) (fun h2 => ?_)
  · skip
    refine j_aload_n hx 0 dX10_keepBetter_24 rfl ?_
    refine j_iload_n hx 1 dX10_keepBetter_25 rfl ?_
    refine p11_5 hx hG ha kf_RX10_48 dX10_keepBetter_26 ?_
    obtain ⟨s1, e_s1⟩ : ∃ z, z = zU s0 a 5 x1 := ⟨_, rfl⟩
    rw [← e_s1]
    have hS_s1 : zSK G s1 := by rw [e_s1]; exact zSK_F hS0 ha rfl rfl rfl (by omega)
    refine j_aload_n hx 0 dX10_keepBetter_29 rfl ?_
    refine j_iload_n hx 2 dX10_keepBetter_30 rfl ?_
    refine p11_6 hx hG ha kf_RX10_51 dX10_keepBetter_31 ?_
    obtain ⟨s2, e_s2⟩ : ∃ z, z = zU s1 a 6 x2 := ⟨_, rfl⟩
    rw [← e_s2]
    have hS_s2 : zSK G s2 := by rw [e_s2]; exact zSK_F hS_s1 ha rfl rfl rfl (by omega)
    exact j_vret hx hq rfl (by decide) (by decide) dX10_keepBetter_34 ⟨rfl, rfl, hS_s2, (zFr_u (zFr_u zFr_rf e_s1 ha (by decide)) e_s2 ha (by decide)), trivial⟩
  · skip
    refine j_iload_n hx 1 dX10_keepBetter_8 rfl ?_
    refine j_aload_n hx 0 dX10_keepBetter_9 rfl ?_
    refine g11_5 hx hG ha kf_RX10_48 rfl dX10_keepBetter_10 ?_
    refine j_icmp_ne hx 34 dX10_keepBetter_13 rfl (by omega) (by omega) (fun h3 => ?_) (fun h3 => ?_)
    · skip
      exact j_vret hx hq rfl (by decide) (by decide) dX10_keepBetter_34 ⟨rfl, rfl, hS0, zFr_rf, trivial⟩
    · skip
      refine j_iload_n hx 2 dX10_keepBetter_16 rfl ?_
      refine j_aload_n hx 0 dX10_keepBetter_17 rfl ?_
      have f4 := zf hS0 ha (k := 6) rfl
      refine g11_6 hx hG ha kf_RX10_51 rfl dX10_keepBetter_18 ?_
      refine j_icmp_ge hx 34 dX10_keepBetter_21 rfl (by omega) (by omega) (fun h5 => ?_) (fun h5 => ?_)
      · skip
        exact j_vret hx hq rfl (by decide) (by decide) dX10_keepBetter_34 ⟨rfl, rfl, hS0, zFr_rf, trivial⟩
      · skip
        refine j_aload_n hx 0 dX10_keepBetter_24 rfl ?_
        refine j_iload_n hx 1 dX10_keepBetter_25 rfl ?_
        refine p11_5 hx hG ha kf_RX10_48 dX10_keepBetter_26 ?_
        obtain ⟨s3, e_s3⟩ : ∃ z, z = zU s0 a 5 x1 := ⟨_, rfl⟩
        rw [← e_s3]
        have hS_s3 : zSK G s3 := by rw [e_s3]; exact zSK_F hS0 ha rfl rfl rfl (by omega)
        refine j_aload_n hx 0 dX10_keepBetter_29 rfl ?_
        refine j_iload_n hx 2 dX10_keepBetter_30 rfl ?_
        refine p11_6 hx hG ha kf_RX10_51 dX10_keepBetter_31 ?_
        obtain ⟨s4, e_s4⟩ : ∃ z, z = zU s3 a 6 x2 := ⟨_, rfl⟩
        rw [← e_s4]
        have hS_s4 : zSK G s4 := by rw [e_s4]; exact zSK_F hS_s3 ha rfl rfl rfl (by omega)
        exact j_vret hx hq rfl (by decide) (by decide) dX10_keepBetter_34 ⟨rfl, rfl, hS_s4, (zFr_u (zFr_u zFr_rf e_s3 ha (by decide)) e_s4 ha (by decide)), trivial⟩

theorem lk_RX10_58 : LkV RX10 58 RX0 yX0_cardsOf cX0_cardsOf 2 (some .int) 1 := ⟨km_RX10_58, ki_yX0_cardsOf, ks_RX0_yX0_cardsOf, kn_RX0, kc_yX0_cardsOf, rfl, by decide +kernel, by decide +kernel, by decide +kernel⟩
theorem lk_RX10_62 : LkV RX10 62 RX10 yX10_keepBetter cX10_keepBetter 3 none 2 := ⟨km_RX10_62, ki_yX10_keepBetter, ks_RX10_yX10_keepBetter, kn_RX10, kc_yX10_keepBetter, rfl, by decide +kernel, by decide +kernel, by decide +kernel⟩
set_option maxHeartbeats 4000000 in
set_option maxRecDepth 20000 in
theorem c_X10_choose_12 {E : zE} {l : Launch} (hst : l.stackTraces = false) (a : Nat) (x1 : Int) (x2 : Int) (x3 : Int) : Con E l yX10_choose cX10_choose 8 none { frames := 2, cells := 0, slots := 0, locals := 42 } (fun G s vs => vs = [.ref a, .int (zI x1), .int (zI x2), .int (zI x3)] ∧ zGK G ∧ zSK G s ∧ (gT G a = 11) ∧ (12 ≤ x1 ∧ x1 ≤ 12) ∧ ((-2147483648) ≤ x2 ∧ x2 ≤ 2147483647) ∧ (0 ≤ x3 ∧ x3 ≤ 4)) (fun G s _ => pV (fun G2 s2 => G2 = G ∧ zSK G s2 ∧ zFr [11] G s s2 ∧ True)) := by
  refine Con.mk hst (by decide) (fun G s vs h => by rw [h.1]; exact Nat.le_of_ble_eq_true rfl) ?_
  rintro X G s0 vs ⟨rfl, hG, hS0, ha, hx1, hx2, hx3⟩ rfl hx hq
  obtain rfl : x1 = 12 := by omega
  show JJ X E 8 G s0 0 0 [(0, .ref a), (1, .int (zI 12)), (2, .int (zI x2)), (3, .int (zI x3))] 0 []
  refine j_aload_n hx 0 dX10_choose_0 rfl ?_
  refine j_iload_n hx 1 dX10_choose_1 rfl ?_
  refine j_callV hx hG (c_X10_boardAt hst a 12) lk_RX10_22 ha (by decide) rfl rfl rfl rfl [.int (zI 12)] ⟨rfl, hG, hS0, ha, (by omega)⟩ rfl rfl ⟨by decide, by decide⟩ ⟨by decide, by decide⟩ (k2 := 0) (n2 := 0) rfl rfl (Nat.le_of_ble_eq_true rfl) dX10_choose_2 (kNP (fun _ => ?_) (fun r1 q2 => ?_))
  · skip
    refine j_astoreN hx [(4, .null), (0, .ref a), (1, .int (zI 12)), (2, .int (zI x2)), (3, .int (zI x3))] dX10_choose_5 (by decide) rfl ?_
    refine j_aload_n hx 1 dX10_choose_7 rfl ?_
    refine j_iload_n hx 2 dX10_choose_8 rfl ?_
    refine j_iconst hx dX10_choose_9 ?_
    refine j_iadd hx (r := 13) dX10_choose_10 (by omega) ?_
    refine j_callV hx hG (c_X10_boardAt hst a 13) lk_RX10_22 ha (by decide) rfl rfl rfl rfl [.int (zI 13)] ⟨rfl, hG, hS0, ha, (by omega)⟩ rfl rfl ⟨by decide, by decide⟩ ⟨by decide, by decide⟩ (k2 := 0) (n2 := 0) rfl rfl (Nat.le_of_ble_eq_true rfl) dX10_choose_11 (kNP (fun _ => ?_) (fun r3 q4 => ?_))
    · skip
      refine j_astoreN hx [(5, .null), (4, .null), (0, .ref a), (1, .int (zI 12)), (2, .int (zI x2)), (3, .int (zI x3))] dX10_choose_14 (by decide) rfl ?_
      refine j_aloadN hx 1 dX10_choose_16 rfl ?_
      refine j_ifnonnullN hx dX10_choose_18 ?_
      exact j_vret hx hq rfl (by decide) (by decide) dX10_choose_21 ⟨rfl, rfl, hS0, zFr_rf, trivial⟩
    · exact absurd (show (13 : Int) ≤ 12 from q4.2) (by decide)
  · skip
    refine j_astore hx [(4, .ref r1), (0, .ref a), (1, .int (zI 12)), (2, .int (zI x2)), (3, .int (zI x3))] dX10_choose_5 (by decide) rfl ?_
    refine j_aload_n hx 1 dX10_choose_7 rfl ?_
    refine j_iload_n hx 2 dX10_choose_8 rfl ?_
    refine j_iconst hx dX10_choose_9 ?_
    refine j_iadd hx (r := 13) dX10_choose_10 (by omega) ?_
    refine j_callV hx hG (c_X10_boardAt hst a 13) lk_RX10_22 ha (by decide) rfl rfl rfl rfl [.int (zI 13)] ⟨rfl, hG, hS0, ha, (by omega)⟩ rfl rfl ⟨by decide, by decide⟩ ⟨by decide, by decide⟩ (k2 := 0) (n2 := 0) rfl rfl (Nat.le_of_ble_eq_true rfl) dX10_choose_11 (kNP (fun _ => ?_) (fun r5 q6 => ?_))
    · skip
      refine j_astoreN hx [(5, .null), (4, .ref r1), (0, .ref a), (1, .int (zI 12)), (2, .int (zI x2)), (3, .int (zI x3))] dX10_choose_14 (by decide) rfl ?_
      refine j_aload hx 1 dX10_choose_16 rfl ?_
      refine j_ifnonnull hx 22 dX10_choose_18 rfl ?_
      refine j_aloadN hx 0 dX10_choose_22 rfl ?_
      refine j_ifnullN hx 35 dX10_choose_24 rfl ?_
      refine j_aload_n hx 2 dX10_choose_35 rfl ?_
      refine j_aload hx 1 dX10_choose_36 rfl ?_
      refine j_aload_n hx 2 dX10_choose_38 rfl ?_
      have f7 := zf hS0 ha (k := 2) rfl
      refine g11_2 hx hG ha kf_RX10_41 rfl dX10_choose_39 ?_
      refine j_callV hx hG (c_X0_cardsOf hst r1 ((s0 a 2))) lk_RX10_58 q2.1 (by decide) rfl rfl rfl rfl [.int (zI ((s0 a 2)))] ⟨rfl, hG, hS0, q2.1, (by omega)⟩ rfl rfl ⟨by decide, by decide⟩ ⟨by decide, by decide⟩ (k2 := 0) (n2 := 0) rfl rfl (Nat.le_of_ble_eq_true rfl) dX10_choose_42 (kIP (fun v8 q9 => ?_))
      refine j_iload_n hx 4 dX10_choose_45 rfl ?_
      refine j_callV hx hG (c_X10_keepBetter hst a v8 x2) lk_RX10_62 ha (by decide) rfl rfl rfl rfl [.int (zI v8), .int (zI x2)] ⟨rfl, hG, hS0, ha, (by omega), (by omega)⟩ rfl rfl ⟨by decide, by decide⟩ ⟨by decide, by decide⟩ (k2 := 0) (n2 := 0) rfl rfl (Nat.le_of_ble_eq_true rfl) dX10_choose_46 (kVM (fun s1 hS_s1 hF_s1 q11 => ?_))
      exact j_vret hx hq rfl (by decide) (by decide) dX10_choose_49 ⟨rfl, rfl, hS_s1, (zFr_t zFr_rf hF_s1 (by decide)), trivial⟩
    · exact absurd (show (13 : Int) ≤ 12 from q6.2) (by decide)

theorem lk_RX10_66 : LkV RX10 66 RX0 yX0_following cX0_following 2 (some .int) 1 := ⟨km_RX10_66, ki_yX0_following, ks_RX0_yX0_following, kn_RX0, kc_yX0_following, rfl, by decide +kernel, by decide +kernel, by decide +kernel⟩
theorem lk_RX10_54 : LkV RX10 54 RX10 yX10_choose cX10_choose 8 none 3 := ⟨km_RX10_54, ki_yX10_choose, ks_RX10_yX10_choose, kn_RX10, kc_yX10_choose, rfl, by decide +kernel, by decide +kernel, by decide +kernel⟩
theorem lk_RX10_73 : LkV RX10 73 RX0 yX0_isOut cX0_isOut 2 (some .boolean) 1 := ⟨km_RX10_73, ki_yX0_isOut, ks_RX0_yX0_isOut, kn_RX0, kc_yX0_isOut, rfl, by decide +kernel, by decide +kernel, by decide +kernel⟩
theorem lk_RX10_69 : LkV RX10 69 RX0 yX0_win cX0_win 7 (some .int) 3 := ⟨km_RX10_69, ki_yX0_win, ks_RX0_yX0_win, kn_RX0, kc_yX0_win, rfl, by decide +kernel, by decide +kernel, by decide +kernel⟩
set_option maxHeartbeats 4000000 in
set_option maxRecDepth 20000 in
theorem c_X10_choose_11 {E : zE} {l : Launch} (hst : l.stackTraces = false) (a : Nat) (x1 : Int) (x2 : Int) (x3 : Int) : Con E l yX10_choose cX10_choose 8 none { frames := 4, cells := 0, slots := 0, locals := 86 } (fun G s vs => vs = [.ref a, .int (zI x1), .int (zI x2), .int (zI x3)] ∧ zGK G ∧ zSK G s ∧ (gT G a = 11) ∧ (11 ≤ x1 ∧ x1 ≤ 11) ∧ ((-2147483648) ≤ x2 ∧ x2 ≤ 2147483647) ∧ (0 ≤ x3 ∧ x3 ≤ 4)) (fun G s _ => pV (fun G2 s2 => G2 = G ∧ zSK G s2 ∧ zFr [1, 7, 11, 41] G s s2 ∧ True)) := by
  refine Con.mk hst (by decide) (fun G s vs h => by rw [h.1]; exact Nat.le_of_ble_eq_true rfl) ?_
  rintro X G s0 vs ⟨rfl, hG, hS0, ha, hx1, hx2, hx3⟩ rfl hx hq
  obtain rfl : x1 = 11 := by omega
  show JJ X E 8 G s0 0 0 [(0, .ref a), (1, .int (zI 11)), (2, .int (zI x2)), (3, .int (zI x3))] 0 []
  refine j_aload_n hx 0 dX10_choose_0 rfl ?_
  refine j_iload_n hx 1 dX10_choose_1 rfl ?_
  refine j_callV hx hG (c_X10_boardAt hst a 11) lk_RX10_22 ha (by decide) rfl rfl rfl rfl [.int (zI 11)] ⟨rfl, hG, hS0, ha, (by omega)⟩ rfl rfl ⟨by decide, by decide⟩ ⟨by decide, by decide⟩ (k2 := 0) (n2 := 0) rfl rfl (Nat.le_of_ble_eq_true rfl) dX10_choose_2 (kNP (fun _ => ?_) (fun r1 q2 => ?_))
  · skip
    refine j_astoreN hx [(4, .null), (0, .ref a), (1, .int (zI 11)), (2, .int (zI x2)), (3, .int (zI x3))] dX10_choose_5 (by decide) rfl ?_
    refine j_aload_n hx 1 dX10_choose_7 rfl ?_
    refine j_iload_n hx 2 dX10_choose_8 rfl ?_
    refine j_iconst hx dX10_choose_9 ?_
    refine j_iadd hx (r := 12) dX10_choose_10 (by omega) ?_
    refine j_callV hx hG (c_X10_boardAt hst a 12) lk_RX10_22 ha (by decide) rfl rfl rfl rfl [.int (zI 12)] ⟨rfl, hG, hS0, ha, (by omega)⟩ rfl rfl ⟨by decide, by decide⟩ ⟨by decide, by decide⟩ (k2 := 0) (n2 := 0) rfl rfl (Nat.le_of_ble_eq_true rfl) dX10_choose_11 (kNP (fun _ => ?_) (fun r3 q4 => ?_))
    · skip
      refine j_astoreN hx [(5, .null), (4, .null), (0, .ref a), (1, .int (zI 11)), (2, .int (zI x2)), (3, .int (zI x3))] dX10_choose_14 (by decide) rfl ?_
      refine j_aloadN hx 1 dX10_choose_16 rfl ?_
      refine j_ifnonnullN hx dX10_choose_18 ?_
      exact j_vret hx hq rfl (by decide) (by decide) dX10_choose_21 ⟨rfl, rfl, hS0, zFr_rf, trivial⟩
    · skip
      refine j_astore hx [(5, .ref r3), (4, .null), (0, .ref a), (1, .int (zI 11)), (2, .int (zI x2)), (3, .int (zI x3))] dX10_choose_14 (by decide) rfl ?_
      refine j_aloadN hx 1 dX10_choose_16 rfl ?_
      refine j_ifnonnullN hx dX10_choose_18 ?_
      exact j_vret hx hq rfl (by decide) (by decide) dX10_choose_21 ⟨rfl, rfl, hS0, zFr_rf, trivial⟩
  · skip
    refine j_astore hx [(4, .ref r1), (0, .ref a), (1, .int (zI 11)), (2, .int (zI x2)), (3, .int (zI x3))] dX10_choose_5 (by decide) rfl ?_
    refine j_aload_n hx 1 dX10_choose_7 rfl ?_
    refine j_iload_n hx 2 dX10_choose_8 rfl ?_
    refine j_iconst hx dX10_choose_9 ?_
    refine j_iadd hx (r := 12) dX10_choose_10 (by omega) ?_
    refine j_callV hx hG (c_X10_boardAt hst a 12) lk_RX10_22 ha (by decide) rfl rfl rfl rfl [.int (zI 12)] ⟨rfl, hG, hS0, ha, (by omega)⟩ rfl rfl ⟨by decide, by decide⟩ ⟨by decide, by decide⟩ (k2 := 0) (n2 := 0) rfl rfl (Nat.le_of_ble_eq_true rfl) dX10_choose_11 (kNP (fun _ => ?_) (fun r5 q6 => ?_))
    · skip
      refine j_astoreN hx [(5, .null), (4, .ref r1), (0, .ref a), (1, .int (zI 11)), (2, .int (zI x2)), (3, .int (zI x3))] dX10_choose_14 (by decide) rfl ?_
      refine j_aload hx 1 dX10_choose_16 rfl ?_
      refine j_ifnonnull hx 22 dX10_choose_18 rfl ?_
      refine j_aloadN hx 0 dX10_choose_22 rfl ?_
      have c35_1 : ∀ (s2 : zS), (zSK G s2) → (zFr [1, 7, 41] G s0 s2) → JJ X E 8 G s2 0 0 [(0, .ref a), (2, .int (zI x2)), (4, .ref r1)] 35 [] := by
        intro s2 hS_s2 hF_s2
        refine j_aload_n hx 0 dX10_choose_35 rfl ?_
        refine j_aload hx 2 dX10_choose_36 rfl ?_
        refine j_aload_n hx 0 dX10_choose_38 rfl ?_
        have f7 := zf hS0 ha (k := 2) rfl
        refine g11_2 hx hG ha kf_RX10_41 (v := (s0 a 2)) (by rw [(zFr_g hF_s2 ha (by decide))]) dX10_choose_39 ?_
        refine j_callV hx hG (c_X0_cardsOf hst r1 ((s0 a 2))) lk_RX10_58 q2.1 (by decide) rfl rfl rfl rfl [.int (zI ((s0 a 2)))] ⟨rfl, hG, hS_s2, q2.1, (by omega)⟩ rfl rfl ⟨by decide, by decide⟩ ⟨by decide, by decide⟩ (k2 := 0) (n2 := 0) rfl rfl (Nat.le_of_ble_eq_true rfl) dX10_choose_42 (kIP (fun v8 q9 => ?_))
        refine j_iload_n hx 1 dX10_choose_45 rfl ?_
        refine j_callV hx hG (c_X10_keepBetter hst a v8 x2) lk_RX10_62 ha (by decide) rfl rfl rfl rfl [.int (zI v8), .int (zI x2)] ⟨rfl, hG, hS_s2, ha, (by omega), (by omega)⟩ rfl rfl ⟨by decide, by decide⟩ ⟨by decide, by decide⟩ (k2 := 0) (n2 := 0) rfl rfl (Nat.le_of_ble_eq_true rfl) dX10_choose_46 (kVM (fun s5 hS_s5 hF_s5 q11 => ?_))
        exact j_vret hx hq rfl (by decide) (by decide) dX10_choose_49 ⟨rfl, rfl, hS_s5, (zFr_t (zFr_t zFr_rf hF_s2 (by decide)) hF_s5 (by decide)), trivial⟩
      refine j_ifnullN hx 35 dX10_choose_24 rfl ?_
      exact j_sub [2, 4, 1] [(0, .ref a), (2, .int (zI x2)), (4, .ref r1)] rfl (c35_1 s0 hS0 zFr_rf)
    · skip
      refine j_astore hx [(5, .ref r5), (4, .ref r1), (0, .ref a), (1, .int (zI 11)), (2, .int (zI x2)), (3, .int (zI x3))] dX10_choose_14 (by decide) rfl ?_
      refine j_aload hx 1 dX10_choose_16 rfl ?_
      refine j_ifnonnull hx 22 dX10_choose_18 rfl ?_
      refine j_aload hx 0 dX10_choose_22 rfl ?_
      have c35_6 : ∀ (s7 : zS), (zSK G s7) → (zFr [1, 7, 41] G s0 s7) → JJ X E 8 G s7 0 0 [(0, .ref a), (2, .int (zI x2)), (4, .ref r1)] 35 [] := by
        intro s7 hS_s7 hF_s7
        refine j_aload_n hx 0 dX10_choose_35 rfl ?_
        refine j_aload hx 2 dX10_choose_36 rfl ?_
        refine j_aload_n hx 0 dX10_choose_38 rfl ?_
        have f12 := zf hS0 ha (k := 2) rfl
        refine g11_2 hx hG ha kf_RX10_41 (v := (s0 a 2)) (by rw [(zFr_g hF_s7 ha (by decide))]) dX10_choose_39 ?_
        refine j_callV hx hG (c_X0_cardsOf hst r1 ((s0 a 2))) lk_RX10_58 q2.1 (by decide) rfl rfl rfl rfl [.int (zI ((s0 a 2)))] ⟨rfl, hG, hS_s7, q2.1, (by omega)⟩ rfl rfl ⟨by decide, by decide⟩ ⟨by decide, by decide⟩ (k2 := 0) (n2 := 0) rfl rfl (Nat.le_of_ble_eq_true rfl) dX10_choose_42 (kIP (fun v13 q14 => ?_))
        refine j_iload_n hx 1 dX10_choose_45 rfl ?_
        refine j_callV hx hG (c_X10_keepBetter hst a v13 x2) lk_RX10_62 ha (by decide) rfl rfl rfl rfl [.int (zI v13), .int (zI x2)] ⟨rfl, hG, hS_s7, ha, (by omega), (by omega)⟩ rfl rfl ⟨by decide, by decide⟩ ⟨by decide, by decide⟩ (k2 := 0) (n2 := 0) rfl rfl (Nat.le_of_ble_eq_true rfl) dX10_choose_46 (kVM (fun s10 hS_s10 hF_s10 q16 => ?_))
        exact j_vret hx hq rfl (by decide) (by decide) dX10_choose_49 ⟨rfl, rfl, hS_s10, (zFr_t (zFr_t zFr_rf hF_s7 (by decide)) hF_s10 (by decide)), trivial⟩
      refine j_ifnull hx dX10_choose_24 ?_
      refine j_aload hx 1 dX10_choose_27 rfl ?_
      refine j_callV hx hG (c_X0_step hst r1) lk_RX10_33 q2.1 (by decide) rfl rfl rfl rfl [] ⟨rfl, hG, hS0, q2.1⟩ rfl rfl ⟨by decide, by decide⟩ ⟨by decide, by decide⟩ (k2 := 0) (n2 := 0) rfl rfl (Nat.le_of_ble_eq_true rfl) dX10_choose_29 (kIM (fun v17 s11 hS_s11 hF_s11 q18 => ?_))
      refine j_if_ne hx 50 dX10_choose_32 rfl (by omega) (fun h19 => ?_) (fun h19 => ?_)
      · skip
        refine j_aload hx 1 dX10_choose_50 rfl ?_
        refine j_callV hx hG (c_X0_likeTops hst r1) lk_RX10_37 q2.1 (by decide) rfl rfl rfl rfl [] ⟨rfl, hG, hS_s11, q2.1⟩ rfl rfl ⟨by decide, by decide⟩ ⟨by decide, by decide⟩ (k2 := 0) (n2 := 0) rfl rfl (Nat.le_of_ble_eq_true rfl) dX10_choose_52 (kIP (fun v20 q21 => ?_))
        refine j_istore hx [(6, .int (zI v20)), (5, .ref r5), (4, .ref r1), (0, .ref a), (1, .int (zI 11)), (2, .int (zI x2)), (3, .int (zI x3))] dX10_choose_55 (by decide) rfl ?_
        refine j_aload hx 2 dX10_choose_57 rfl ?_
        refine j_aload_n hx 3 dX10_choose_59 rfl ?_
        have f22 := zf hS0 ha (k := 2) rfl
        refine g11_2 hx hG ha kf_RX10_41 (v := (s0 a 2)) (by rw [(zFr_g hF_s11 ha (by decide))]) dX10_choose_60 ?_
        refine j_callV hx hG (c_X0_following hst r1 ((s0 a 2))) lk_RX10_66 q2.1 (by decide) rfl rfl rfl rfl [.int (zI ((s0 a 2)))] ⟨rfl, hG, hS_s11, q2.1, (by omega)⟩ rfl rfl ⟨by decide, by decide⟩ ⟨by decide, by decide⟩ (k2 := 0) (n2 := 0) rfl rfl (Nat.le_of_ble_eq_true rfl) dX10_choose_63 (kIP (fun v23 q24 => ?_))
        refine j_istore hx [(7, .int (zI v23)), (6, .int (zI v20)), (5, .ref r5), (4, .ref r1), (0, .ref a), (1, .int (zI 11)), (2, .int (zI x2)), (3, .int (zI x3))] dX10_choose_66 (by decide) rfl ?_
        refine j_aload hx 2 dX10_choose_68 rfl ?_
        refine j_aload hx 3 dX10_choose_70 rfl ?_
        refine j_callV hx hG (c_X0_become hst r5 r1) lk_RX10_26 q6.1 (by decide) rfl rfl rfl rfl [.ref r1] ⟨rfl, hG, hS_s11, q6.1, q2.1⟩ rfl rfl ⟨by decide, by decide⟩ ⟨by decide, by decide⟩ (k2 := 0) (n2 := 0) rfl rfl (Nat.le_of_ble_eq_true rfl) dX10_choose_72 (kVM (fun s12 hS_s12 hF_s12 q26 => ?_))
        refine j_iload hx 1 dX10_choose_75 rfl ?_
        refine j_iconst hx dX10_choose_77 ?_
        have c101_13 : ∀ (s14 : zS), (zSK G s14) → (zFr [7, 41] G s12 s14) → JJ X E 8 G s14 0 0 [(0, .ref a), (1, .int (zI 11)), (2, .int (zI x2)), (3, .int (zI x3)), (4, .ref r1), (5, .ref r5), (6, .int (zI v20))] 101 [] := by
          intro s14 hS_s14 hF_s14
          refine j_aload_n hx 0 dX10_choose_101 rfl ?_
          refine j_iload_n hx 1 dX10_choose_102 rfl ?_
          refine j_iconst hx dX10_choose_103 ?_
          refine j_iadd hx (r := 12) dX10_choose_104 (by omega) ?_
          refine j_iload_n hx 2 dX10_choose_105 rfl ?_
          refine j_iload_n hx 3 dX10_choose_106 rfl ?_
          refine j_callV hx hG (c_X10_choose_12 hst a 12 x2 x3) lk_RX10_54 ha (by decide) rfl rfl rfl rfl [.int (zI 12), .int (zI x2), .int (zI x3)] ⟨rfl, hG, hS_s14, ha, (by omega), (by omega), (by omega)⟩ rfl rfl ⟨by decide, by decide⟩ ⟨by decide, by decide⟩ (k2 := 0) (n2 := 0) rfl rfl (Nat.le_of_ble_eq_true rfl) dX10_choose_107 (kVM (fun s17 hS_s17 hF_s17 q28 => ?_))
          refine j_iload hx 6 dX10_choose_110 rfl ?_
          refine j_iconst hx dX10_choose_112 ?_
          refine j_icmp_eq hx 170 dX10_choose_113 rfl (by omega) ⟨by decide, by decide⟩ (fun h29 => ?_) (fun h29 => ?_)
          · skip
            exact j_vret hx hq rfl (by decide) (by decide) dX10_choose_170 ⟨rfl, rfl, hS_s17, (zFr_t (zFr_t (zFr_t (zFr_t zFr_rf hF_s11 (by decide)) hF_s12 (by decide)) hF_s14 (by decide)) hF_s17 (by decide)), trivial⟩
          · skip
            refine j_iload_n hx 3 dX10_choose_116 rfl ?_
            refine j_if_le hx 170 dX10_choose_117 rfl (by omega) (fun h30 => ?_) (fun h30 => ?_)
            · skip
              exact j_vret hx hq rfl (by decide) (by decide) dX10_choose_170 ⟨rfl, rfl, hS_s17, (zFr_t (zFr_t (zFr_t (zFr_t zFr_rf hF_s11 (by decide)) hF_s12 (by decide)) hF_s14 (by decide)) hF_s17 (by decide)), trivial⟩
            · skip
              refine j_aload hx 4 dX10_choose_120 rfl ?_
              refine j_aload_n hx 0 dX10_choose_122 rfl ?_
              have f31 := zf hS_s17 ha (k := 2) rfl
              refine g11_2 hx hG ha kf_RX10_41 rfl dX10_choose_123 ?_
              refine j_callV hx hG (c_X0_isOut hst r1 ((s17 a 2))) lk_RX10_73 q2.1 (by decide) rfl rfl rfl rfl [.int (zI ((s17 a 2)))] ⟨rfl, hG, hS_s17, q2.1, (by omega)⟩ rfl rfl ⟨by decide, by decide⟩ ⟨by decide, by decide⟩ (k2 := 0) (n2 := 0) rfl rfl (Nat.le_of_ble_eq_true rfl) dX10_choose_126 (kIP (fun v32 q33 => ?_))
              refine j_if_ne hx 170 dX10_choose_129 rfl (by omega) (fun h34 => ?_) (fun h34 => ?_)
              · skip
                exact j_vret hx hq rfl (by decide) (by decide) dX10_choose_170 ⟨rfl, rfl, hS_s17, (zFr_t (zFr_t (zFr_t (zFr_t zFr_rf hF_s11 (by decide)) hF_s12 (by decide)) hF_s14 (by decide)) hF_s17 (by decide)), trivial⟩
              · skip
                refine j_aload hx 5 dX10_choose_132 rfl ?_
                refine j_aload hx 4 dX10_choose_134 rfl ?_
                refine j_callV hx hG (c_X0_become hst r5 r1) lk_RX10_26 q6.1 (by decide) rfl rfl rfl rfl [.ref r1] ⟨rfl, hG, hS_s17, q6.1, q2.1⟩ rfl rfl ⟨by decide, by decide⟩ ⟨by decide, by decide⟩ (k2 := 0) (n2 := 0) rfl rfl (Nat.le_of_ble_eq_true rfl) dX10_choose_136 (kVM (fun s18 hS_s18 hF_s18 q36 => ?_))
                refine j_aload hx 5 dX10_choose_139 rfl ?_
                refine j_aload_n hx 0 dX10_choose_141 rfl ?_
                refine g11_2 hx hG ha kf_RX10_41 (v := (s17 a 2)) (by rw [(zFr_g hF_s18 ha (by decide))]) dX10_choose_142 ?_
                refine j_iload hx 6 dX10_choose_145 rfl ?_
                refine j_aload_n hx 0 dX10_choose_147 rfl ?_
                have f37 := zf hS_s17 ha (k := 3) rfl
                refine g11_3 hx hG ha kf_RX10_45 (v := (s17 a 3)) (by rw [(zFr_g hF_s18 ha (by decide))]) dX10_choose_148 ?_
                refine j_callV hx hG (c_X0_win hst r5 ((s17 a 2)) v20 ((s17 a 3))) lk_RX10_69 q6.1 (by decide) rfl rfl rfl rfl [.int (zI ((s17 a 2))), .int (zI v20), .int (zI ((s17 a 3)))] ⟨rfl, hG, hS_s18, q6.1, (by omega), (by omega), (by omega)⟩ rfl rfl ⟨by decide, by decide⟩ ⟨by decide, by decide⟩ (k2 := 0) (n2 := 0) rfl rfl (Nat.le_of_ble_eq_true rfl) dX10_choose_151 (kIM (fun v38 s19 hS_s19 hF_s19 q39 => ?_))
                refine j_pop hx dX10_choose_154 rfl ?_
                refine j_aload_n hx 0 dX10_choose_155 rfl ?_
                refine j_iload_n hx 1 dX10_choose_156 rfl ?_
                refine j_iconst hx dX10_choose_157 ?_
                refine j_iadd hx (r := 12) dX10_choose_158 (by omega) ?_
                refine j_iload_n hx 2 dX10_choose_159 rfl ?_
                refine j_iconst hx dX10_choose_160 ?_
                refine j_iload_n hx 1 dX10_choose_161 rfl ?_
                refine j_ishl hx dX10_choose_162 (fun v40 f41 f42 => ?_)
                refine j_ior hx dX10_choose_163 (fun v43 f44 f45 => ?_)
                refine j_iload_n hx 3 dX10_choose_164 rfl ?_
                refine j_iconst hx dX10_choose_165 ?_
                refine j_isub hx (r := x3 - 1) dX10_choose_166 rfl ?_
                refine j_callV hx hG (c_X10_choose_12 hst a 12 v43 (x3 - 1)) lk_RX10_54 ha (by decide) rfl rfl rfl rfl [.int (zI 12), .int (zI v43), .int (zI (x3 - 1))] ⟨rfl, hG, hS_s19, ha, (by omega), (by omega), (by omega)⟩ rfl rfl ⟨by decide, by decide⟩ ⟨by decide, by decide⟩ (k2 := 0) (n2 := 0) rfl rfl (Nat.le_of_ble_eq_true rfl) dX10_choose_167 (kVM (fun s20 hS_s20 hF_s20 q47 => ?_))
                exact j_vret hx hq rfl (by decide) (by decide) dX10_choose_170 ⟨rfl, rfl, hS_s20, (zFr_t (zFr_t (zFr_t (zFr_t (zFr_t (zFr_t (zFr_t zFr_rf hF_s11 (by decide)) hF_s12 (by decide)) hF_s14 (by decide)) hF_s17 (by decide)) hF_s18 (by decide)) hF_s19 (by decide)) hF_s20 (by decide)), trivial⟩
        refine j_icmp_eq hx 101 dX10_choose_78 rfl (by omega) ⟨by decide, by decide⟩ (fun h48 => ?_) (fun h48 => ?_)
        · skip
          exact j_sub [4, 5, 6, 7, 3, 2, 1] [(0, .ref a), (1, .int (zI 11)), (2, .int (zI x2)), (3, .int (zI x3)), (4, .ref r1), (5, .ref r5), (6, .int (zI v20))] rfl (c101_13 s12 hS_s12 zFr_rf)
        · skip
          refine j_iload hx 0 dX10_choose_81 rfl ?_
          refine j_iconst hx dX10_choose_83 ?_
          refine j_icmp_eq hx 101 dX10_choose_84 rfl (by omega) ⟨by decide, by decide⟩ (fun h49 => ?_) (fun h49 => ?_)
          · skip
            exact j_sub [4, 5, 6, 7, 3, 2, 1] [(0, .ref a), (1, .int (zI 11)), (2, .int (zI x2)), (3, .int (zI x3)), (4, .ref r1), (5, .ref r5), (6, .int (zI v20))] rfl (c101_13 s12 hS_s12 zFr_rf)
          · skip
            refine j_aload hx 2 dX10_choose_87 rfl ?_
            refine j_iload hx 0 dX10_choose_89 rfl ?_
            refine j_iload hx 1 dX10_choose_91 rfl ?_
            refine j_aload_n hx 4 dX10_choose_93 rfl ?_
            have f50 := zf hS0 ha (k := 3) rfl
            refine g11_3 hx hG ha kf_RX10_45 (v := (s0 a 3)) (by rw [(zFr_g hF_s12 ha (by decide)), (zFr_g hF_s11 ha (by decide))]) dX10_choose_94 ?_
            refine j_callV hx hG (c_X0_win hst r5 v23 v20 ((s0 a 3))) lk_RX10_69 q6.1 (by decide) rfl rfl rfl rfl [.int (zI v23), .int (zI v20), .int (zI ((s0 a 3)))] ⟨rfl, hG, hS_s12, q6.1, (by omega), (by omega), (by omega)⟩ rfl rfl ⟨by decide, by decide⟩ ⟨by decide, by decide⟩ (k2 := 0) (n2 := 0) rfl rfl (Nat.le_of_ble_eq_true rfl) dX10_choose_97 (kIM (fun v51 s21 hS_s21 hF_s21 q52 => ?_))
            refine j_pop hx dX10_choose_100 rfl ?_
            exact j_sub [4, 5, 6, 7, 3, 2, 1] [(0, .ref a), (1, .int (zI 11)), (2, .int (zI x2)), (3, .int (zI x3)), (4, .ref r1), (5, .ref r5), (6, .int (zI v20))] rfl (c101_13 s21 hS_s21 (zFr_t zFr_rf hF_s21 (by decide)))
      · skip
        exact j_sub [2, 4, 1] [(0, .ref a), (2, .int (zI x2)), (4, .ref r1)] rfl (c35_6 s11 hS_s11 (zFr_t zFr_rf hF_s11 (by decide)))

set_option maxHeartbeats 4000000 in
set_option maxRecDepth 20000 in
theorem c_X10_choose_10 {E : zE} {l : Launch} (hst : l.stackTraces = false) (a : Nat) (x1 : Int) (x2 : Int) (x3 : Int) : Con E l yX10_choose cX10_choose 8 none { frames := 5, cells := 0, slots := 0, locals := 113 } (fun G s vs => vs = [.ref a, .int (zI x1), .int (zI x2), .int (zI x3)] ∧ zGK G ∧ zSK G s ∧ (gT G a = 11) ∧ (10 ≤ x1 ∧ x1 ≤ 10) ∧ ((-2147483648) ≤ x2 ∧ x2 ≤ 2147483647) ∧ (0 ≤ x3 ∧ x3 ≤ 4)) (fun G s _ => pV (fun G2 s2 => G2 = G ∧ zSK G s2 ∧ zFr [1, 7, 11, 41] G s s2 ∧ True)) := by
  refine Con.mk hst (by decide) (fun G s vs h => by rw [h.1]; exact Nat.le_of_ble_eq_true rfl) ?_
  rintro X G s0 vs ⟨rfl, hG, hS0, ha, hx1, hx2, hx3⟩ rfl hx hq
  obtain rfl : x1 = 10 := by omega
  show JJ X E 8 G s0 0 0 [(0, .ref a), (1, .int (zI 10)), (2, .int (zI x2)), (3, .int (zI x3))] 0 []
  refine j_aload_n hx 0 dX10_choose_0 rfl ?_
  refine j_iload_n hx 1 dX10_choose_1 rfl ?_
  refine j_callV hx hG (c_X10_boardAt hst a 10) lk_RX10_22 ha (by decide) rfl rfl rfl rfl [.int (zI 10)] ⟨rfl, hG, hS0, ha, (by omega)⟩ rfl rfl ⟨by decide, by decide⟩ ⟨by decide, by decide⟩ (k2 := 0) (n2 := 0) rfl rfl (Nat.le_of_ble_eq_true rfl) dX10_choose_2 (kNP (fun _ => ?_) (fun r1 q2 => ?_))
  · skip
    refine j_astoreN hx [(4, .null), (0, .ref a), (1, .int (zI 10)), (2, .int (zI x2)), (3, .int (zI x3))] dX10_choose_5 (by decide) rfl ?_
    refine j_aload_n hx 1 dX10_choose_7 rfl ?_
    refine j_iload_n hx 2 dX10_choose_8 rfl ?_
    refine j_iconst hx dX10_choose_9 ?_
    refine j_iadd hx (r := 11) dX10_choose_10 (by omega) ?_
    refine j_callV hx hG (c_X10_boardAt hst a 11) lk_RX10_22 ha (by decide) rfl rfl rfl rfl [.int (zI 11)] ⟨rfl, hG, hS0, ha, (by omega)⟩ rfl rfl ⟨by decide, by decide⟩ ⟨by decide, by decide⟩ (k2 := 0) (n2 := 0) rfl rfl (Nat.le_of_ble_eq_true rfl) dX10_choose_11 (kNP (fun _ => ?_) (fun r3 q4 => ?_))
    · skip
      refine j_astoreN hx [(5, .null), (4, .null), (0, .ref a), (1, .int (zI 10)), (2, .int (zI x2)), (3, .int (zI x3))] dX10_choose_14 (by decide) rfl ?_
      refine j_aloadN hx 1 dX10_choose_16 rfl ?_
      refine j_ifnonnullN hx dX10_choose_18 ?_
      exact j_vret hx hq rfl (by decide) (by decide) dX10_choose_21 ⟨rfl, rfl, hS0, zFr_rf, trivial⟩
    · skip
      refine j_astore hx [(5, .ref r3), (4, .null), (0, .ref a), (1, .int (zI 10)), (2, .int (zI x2)), (3, .int (zI x3))] dX10_choose_14 (by decide) rfl ?_
      refine j_aloadN hx 1 dX10_choose_16 rfl ?_
      refine j_ifnonnullN hx dX10_choose_18 ?_
      exact j_vret hx hq rfl (by decide) (by decide) dX10_choose_21 ⟨rfl, rfl, hS0, zFr_rf, trivial⟩
  · skip
    refine j_astore hx [(4, .ref r1), (0, .ref a), (1, .int (zI 10)), (2, .int (zI x2)), (3, .int (zI x3))] dX10_choose_5 (by decide) rfl ?_
    refine j_aload_n hx 1 dX10_choose_7 rfl ?_
    refine j_iload_n hx 2 dX10_choose_8 rfl ?_
    refine j_iconst hx dX10_choose_9 ?_
    refine j_iadd hx (r := 11) dX10_choose_10 (by omega) ?_
    refine j_callV hx hG (c_X10_boardAt hst a 11) lk_RX10_22 ha (by decide) rfl rfl rfl rfl [.int (zI 11)] ⟨rfl, hG, hS0, ha, (by omega)⟩ rfl rfl ⟨by decide, by decide⟩ ⟨by decide, by decide⟩ (k2 := 0) (n2 := 0) rfl rfl (Nat.le_of_ble_eq_true rfl) dX10_choose_11 (kNP (fun _ => ?_) (fun r5 q6 => ?_))
    · skip
      refine j_astoreN hx [(5, .null), (4, .ref r1), (0, .ref a), (1, .int (zI 10)), (2, .int (zI x2)), (3, .int (zI x3))] dX10_choose_14 (by decide) rfl ?_
      refine j_aload hx 1 dX10_choose_16 rfl ?_
      refine j_ifnonnull hx 22 dX10_choose_18 rfl ?_
      refine j_aloadN hx 0 dX10_choose_22 rfl ?_
      have c35_1 : ∀ (s2 : zS), (zSK G s2) → (zFr [1, 7, 41] G s0 s2) → JJ X E 8 G s2 0 0 [(0, .ref a), (2, .int (zI x2)), (4, .ref r1)] 35 [] := by
        intro s2 hS_s2 hF_s2
        refine j_aload_n hx 0 dX10_choose_35 rfl ?_
        refine j_aload hx 2 dX10_choose_36 rfl ?_
        refine j_aload_n hx 0 dX10_choose_38 rfl ?_
        have f7 := zf hS0 ha (k := 2) rfl
        refine g11_2 hx hG ha kf_RX10_41 (v := (s0 a 2)) (by rw [(zFr_g hF_s2 ha (by decide))]) dX10_choose_39 ?_
        refine j_callV hx hG (c_X0_cardsOf hst r1 ((s0 a 2))) lk_RX10_58 q2.1 (by decide) rfl rfl rfl rfl [.int (zI ((s0 a 2)))] ⟨rfl, hG, hS_s2, q2.1, (by omega)⟩ rfl rfl ⟨by decide, by decide⟩ ⟨by decide, by decide⟩ (k2 := 0) (n2 := 0) rfl rfl (Nat.le_of_ble_eq_true rfl) dX10_choose_42 (kIP (fun v8 q9 => ?_))
        refine j_iload_n hx 1 dX10_choose_45 rfl ?_
        refine j_callV hx hG (c_X10_keepBetter hst a v8 x2) lk_RX10_62 ha (by decide) rfl rfl rfl rfl [.int (zI v8), .int (zI x2)] ⟨rfl, hG, hS_s2, ha, (by omega), (by omega)⟩ rfl rfl ⟨by decide, by decide⟩ ⟨by decide, by decide⟩ (k2 := 0) (n2 := 0) rfl rfl (Nat.le_of_ble_eq_true rfl) dX10_choose_46 (kVM (fun s5 hS_s5 hF_s5 q11 => ?_))
        exact j_vret hx hq rfl (by decide) (by decide) dX10_choose_49 ⟨rfl, rfl, hS_s5, (zFr_t (zFr_t zFr_rf hF_s2 (by decide)) hF_s5 (by decide)), trivial⟩
      refine j_ifnullN hx 35 dX10_choose_24 rfl ?_
      exact j_sub [2, 4, 1] [(0, .ref a), (2, .int (zI x2)), (4, .ref r1)] rfl (c35_1 s0 hS0 zFr_rf)
    · skip
      refine j_astore hx [(5, .ref r5), (4, .ref r1), (0, .ref a), (1, .int (zI 10)), (2, .int (zI x2)), (3, .int (zI x3))] dX10_choose_14 (by decide) rfl ?_
      refine j_aload hx 1 dX10_choose_16 rfl ?_
      refine j_ifnonnull hx 22 dX10_choose_18 rfl ?_
      refine j_aload hx 0 dX10_choose_22 rfl ?_
      have c35_6 : ∀ (s7 : zS), (zSK G s7) → (zFr [1, 7, 41] G s0 s7) → JJ X E 8 G s7 0 0 [(0, .ref a), (2, .int (zI x2)), (4, .ref r1)] 35 [] := by
        intro s7 hS_s7 hF_s7
        refine j_aload_n hx 0 dX10_choose_35 rfl ?_
        refine j_aload hx 2 dX10_choose_36 rfl ?_
        refine j_aload_n hx 0 dX10_choose_38 rfl ?_
        have f12 := zf hS0 ha (k := 2) rfl
        refine g11_2 hx hG ha kf_RX10_41 (v := (s0 a 2)) (by rw [(zFr_g hF_s7 ha (by decide))]) dX10_choose_39 ?_
        refine j_callV hx hG (c_X0_cardsOf hst r1 ((s0 a 2))) lk_RX10_58 q2.1 (by decide) rfl rfl rfl rfl [.int (zI ((s0 a 2)))] ⟨rfl, hG, hS_s7, q2.1, (by omega)⟩ rfl rfl ⟨by decide, by decide⟩ ⟨by decide, by decide⟩ (k2 := 0) (n2 := 0) rfl rfl (Nat.le_of_ble_eq_true rfl) dX10_choose_42 (kIP (fun v13 q14 => ?_))
        refine j_iload_n hx 1 dX10_choose_45 rfl ?_
        refine j_callV hx hG (c_X10_keepBetter hst a v13 x2) lk_RX10_62 ha (by decide) rfl rfl rfl rfl [.int (zI v13), .int (zI x2)] ⟨rfl, hG, hS_s7, ha, (by omega), (by omega)⟩ rfl rfl ⟨by decide, by decide⟩ ⟨by decide, by decide⟩ (k2 := 0) (n2 := 0) rfl rfl (Nat.le_of_ble_eq_true rfl) dX10_choose_46 (kVM (fun s10 hS_s10 hF_s10 q16 => ?_))
        exact j_vret hx hq rfl (by decide) (by decide) dX10_choose_49 ⟨rfl, rfl, hS_s10, (zFr_t (zFr_t zFr_rf hF_s7 (by decide)) hF_s10 (by decide)), trivial⟩
      refine j_ifnull hx dX10_choose_24 ?_
      refine j_aload hx 1 dX10_choose_27 rfl ?_
      refine j_callV hx hG (c_X0_step hst r1) lk_RX10_33 q2.1 (by decide) rfl rfl rfl rfl [] ⟨rfl, hG, hS0, q2.1⟩ rfl rfl ⟨by decide, by decide⟩ ⟨by decide, by decide⟩ (k2 := 0) (n2 := 0) rfl rfl (Nat.le_of_ble_eq_true rfl) dX10_choose_29 (kIM (fun v17 s11 hS_s11 hF_s11 q18 => ?_))
      refine j_if_ne hx 50 dX10_choose_32 rfl (by omega) (fun h19 => ?_) (fun h19 => ?_)
      · skip
        refine j_aload hx 1 dX10_choose_50 rfl ?_
        refine j_callV hx hG (c_X0_likeTops hst r1) lk_RX10_37 q2.1 (by decide) rfl rfl rfl rfl [] ⟨rfl, hG, hS_s11, q2.1⟩ rfl rfl ⟨by decide, by decide⟩ ⟨by decide, by decide⟩ (k2 := 0) (n2 := 0) rfl rfl (Nat.le_of_ble_eq_true rfl) dX10_choose_52 (kIP (fun v20 q21 => ?_))
        refine j_istore hx [(6, .int (zI v20)), (5, .ref r5), (4, .ref r1), (0, .ref a), (1, .int (zI 10)), (2, .int (zI x2)), (3, .int (zI x3))] dX10_choose_55 (by decide) rfl ?_
        refine j_aload hx 2 dX10_choose_57 rfl ?_
        refine j_aload_n hx 3 dX10_choose_59 rfl ?_
        have f22 := zf hS0 ha (k := 2) rfl
        refine g11_2 hx hG ha kf_RX10_41 (v := (s0 a 2)) (by rw [(zFr_g hF_s11 ha (by decide))]) dX10_choose_60 ?_
        refine j_callV hx hG (c_X0_following hst r1 ((s0 a 2))) lk_RX10_66 q2.1 (by decide) rfl rfl rfl rfl [.int (zI ((s0 a 2)))] ⟨rfl, hG, hS_s11, q2.1, (by omega)⟩ rfl rfl ⟨by decide, by decide⟩ ⟨by decide, by decide⟩ (k2 := 0) (n2 := 0) rfl rfl (Nat.le_of_ble_eq_true rfl) dX10_choose_63 (kIP (fun v23 q24 => ?_))
        refine j_istore hx [(7, .int (zI v23)), (6, .int (zI v20)), (5, .ref r5), (4, .ref r1), (0, .ref a), (1, .int (zI 10)), (2, .int (zI x2)), (3, .int (zI x3))] dX10_choose_66 (by decide) rfl ?_
        refine j_aload hx 2 dX10_choose_68 rfl ?_
        refine j_aload hx 3 dX10_choose_70 rfl ?_
        refine j_callV hx hG (c_X0_become hst r5 r1) lk_RX10_26 q6.1 (by decide) rfl rfl rfl rfl [.ref r1] ⟨rfl, hG, hS_s11, q6.1, q2.1⟩ rfl rfl ⟨by decide, by decide⟩ ⟨by decide, by decide⟩ (k2 := 0) (n2 := 0) rfl rfl (Nat.le_of_ble_eq_true rfl) dX10_choose_72 (kVM (fun s12 hS_s12 hF_s12 q26 => ?_))
        refine j_iload hx 1 dX10_choose_75 rfl ?_
        refine j_iconst hx dX10_choose_77 ?_
        have c101_13 : ∀ (s14 : zS), (zSK G s14) → (zFr [7, 41] G s12 s14) → JJ X E 8 G s14 0 0 [(0, .ref a), (1, .int (zI 10)), (2, .int (zI x2)), (3, .int (zI x3)), (4, .ref r1), (5, .ref r5), (6, .int (zI v20))] 101 [] := by
          intro s14 hS_s14 hF_s14
          refine j_aload_n hx 0 dX10_choose_101 rfl ?_
          refine j_iload_n hx 1 dX10_choose_102 rfl ?_
          refine j_iconst hx dX10_choose_103 ?_
          refine j_iadd hx (r := 11) dX10_choose_104 (by omega) ?_
          refine j_iload_n hx 2 dX10_choose_105 rfl ?_
          refine j_iload_n hx 3 dX10_choose_106 rfl ?_
          refine j_callV hx hG (c_X10_choose_11 hst a 11 x2 x3) lk_RX10_54 ha (by decide) rfl rfl rfl rfl [.int (zI 11), .int (zI x2), .int (zI x3)] ⟨rfl, hG, hS_s14, ha, (by omega), (by omega), (by omega)⟩ rfl rfl ⟨by decide, by decide⟩ ⟨by decide, by decide⟩ (k2 := 0) (n2 := 0) rfl rfl (Nat.le_of_ble_eq_true rfl) dX10_choose_107 (kVM (fun s17 hS_s17 hF_s17 q28 => ?_))
          refine j_iload hx 6 dX10_choose_110 rfl ?_
          refine j_iconst hx dX10_choose_112 ?_
          refine j_icmp_eq hx 170 dX10_choose_113 rfl (by omega) ⟨by decide, by decide⟩ (fun h29 => ?_) (fun h29 => ?_)
          · skip
            exact j_vret hx hq rfl (by decide) (by decide) dX10_choose_170 ⟨rfl, rfl, hS_s17, (zFr_t (zFr_t (zFr_t (zFr_t zFr_rf hF_s11 (by decide)) hF_s12 (by decide)) hF_s14 (by decide)) hF_s17 (by decide)), trivial⟩
          · skip
            refine j_iload_n hx 3 dX10_choose_116 rfl ?_
            refine j_if_le hx 170 dX10_choose_117 rfl (by omega) (fun h30 => ?_) (fun h30 => ?_)
            · skip
              exact j_vret hx hq rfl (by decide) (by decide) dX10_choose_170 ⟨rfl, rfl, hS_s17, (zFr_t (zFr_t (zFr_t (zFr_t zFr_rf hF_s11 (by decide)) hF_s12 (by decide)) hF_s14 (by decide)) hF_s17 (by decide)), trivial⟩
            · skip
              refine j_aload hx 4 dX10_choose_120 rfl ?_
              refine j_aload_n hx 0 dX10_choose_122 rfl ?_
              have f31 := zf hS_s17 ha (k := 2) rfl
              refine g11_2 hx hG ha kf_RX10_41 rfl dX10_choose_123 ?_
              refine j_callV hx hG (c_X0_isOut hst r1 ((s17 a 2))) lk_RX10_73 q2.1 (by decide) rfl rfl rfl rfl [.int (zI ((s17 a 2)))] ⟨rfl, hG, hS_s17, q2.1, (by omega)⟩ rfl rfl ⟨by decide, by decide⟩ ⟨by decide, by decide⟩ (k2 := 0) (n2 := 0) rfl rfl (Nat.le_of_ble_eq_true rfl) dX10_choose_126 (kIP (fun v32 q33 => ?_))
              refine j_if_ne hx 170 dX10_choose_129 rfl (by omega) (fun h34 => ?_) (fun h34 => ?_)
              · skip
                exact j_vret hx hq rfl (by decide) (by decide) dX10_choose_170 ⟨rfl, rfl, hS_s17, (zFr_t (zFr_t (zFr_t (zFr_t zFr_rf hF_s11 (by decide)) hF_s12 (by decide)) hF_s14 (by decide)) hF_s17 (by decide)), trivial⟩
              · skip
                refine j_aload hx 5 dX10_choose_132 rfl ?_
                refine j_aload hx 4 dX10_choose_134 rfl ?_
                refine j_callV hx hG (c_X0_become hst r5 r1) lk_RX10_26 q6.1 (by decide) rfl rfl rfl rfl [.ref r1] ⟨rfl, hG, hS_s17, q6.1, q2.1⟩ rfl rfl ⟨by decide, by decide⟩ ⟨by decide, by decide⟩ (k2 := 0) (n2 := 0) rfl rfl (Nat.le_of_ble_eq_true rfl) dX10_choose_136 (kVM (fun s18 hS_s18 hF_s18 q36 => ?_))
                refine j_aload hx 5 dX10_choose_139 rfl ?_
                refine j_aload_n hx 0 dX10_choose_141 rfl ?_
                refine g11_2 hx hG ha kf_RX10_41 (v := (s17 a 2)) (by rw [(zFr_g hF_s18 ha (by decide))]) dX10_choose_142 ?_
                refine j_iload hx 6 dX10_choose_145 rfl ?_
                refine j_aload_n hx 0 dX10_choose_147 rfl ?_
                have f37 := zf hS_s17 ha (k := 3) rfl
                refine g11_3 hx hG ha kf_RX10_45 (v := (s17 a 3)) (by rw [(zFr_g hF_s18 ha (by decide))]) dX10_choose_148 ?_
                refine j_callV hx hG (c_X0_win hst r5 ((s17 a 2)) v20 ((s17 a 3))) lk_RX10_69 q6.1 (by decide) rfl rfl rfl rfl [.int (zI ((s17 a 2))), .int (zI v20), .int (zI ((s17 a 3)))] ⟨rfl, hG, hS_s18, q6.1, (by omega), (by omega), (by omega)⟩ rfl rfl ⟨by decide, by decide⟩ ⟨by decide, by decide⟩ (k2 := 0) (n2 := 0) rfl rfl (Nat.le_of_ble_eq_true rfl) dX10_choose_151 (kIM (fun v38 s19 hS_s19 hF_s19 q39 => ?_))
                refine j_pop hx dX10_choose_154 rfl ?_
                refine j_aload_n hx 0 dX10_choose_155 rfl ?_
                refine j_iload_n hx 1 dX10_choose_156 rfl ?_
                refine j_iconst hx dX10_choose_157 ?_
                refine j_iadd hx (r := 11) dX10_choose_158 (by omega) ?_
                refine j_iload_n hx 2 dX10_choose_159 rfl ?_
                refine j_iconst hx dX10_choose_160 ?_
                refine j_iload_n hx 1 dX10_choose_161 rfl ?_
                refine j_ishl hx dX10_choose_162 (fun v40 f41 f42 => ?_)
                refine j_ior hx dX10_choose_163 (fun v43 f44 f45 => ?_)
                refine j_iload_n hx 3 dX10_choose_164 rfl ?_
                refine j_iconst hx dX10_choose_165 ?_
                refine j_isub hx (r := x3 - 1) dX10_choose_166 rfl ?_
                refine j_callV hx hG (c_X10_choose_11 hst a 11 v43 (x3 - 1)) lk_RX10_54 ha (by decide) rfl rfl rfl rfl [.int (zI 11), .int (zI v43), .int (zI (x3 - 1))] ⟨rfl, hG, hS_s19, ha, (by omega), (by omega), (by omega)⟩ rfl rfl ⟨by decide, by decide⟩ ⟨by decide, by decide⟩ (k2 := 0) (n2 := 0) rfl rfl (Nat.le_of_ble_eq_true rfl) dX10_choose_167 (kVM (fun s20 hS_s20 hF_s20 q47 => ?_))
                exact j_vret hx hq rfl (by decide) (by decide) dX10_choose_170 ⟨rfl, rfl, hS_s20, (zFr_t (zFr_t (zFr_t (zFr_t (zFr_t (zFr_t (zFr_t zFr_rf hF_s11 (by decide)) hF_s12 (by decide)) hF_s14 (by decide)) hF_s17 (by decide)) hF_s18 (by decide)) hF_s19 (by decide)) hF_s20 (by decide)), trivial⟩
        refine j_icmp_eq hx 101 dX10_choose_78 rfl (by omega) ⟨by decide, by decide⟩ (fun h48 => ?_) (fun h48 => ?_)
        · skip
          exact j_sub [4, 5, 6, 7, 3, 2, 1] [(0, .ref a), (1, .int (zI 10)), (2, .int (zI x2)), (3, .int (zI x3)), (4, .ref r1), (5, .ref r5), (6, .int (zI v20))] rfl (c101_13 s12 hS_s12 zFr_rf)
        · skip
          refine j_iload hx 0 dX10_choose_81 rfl ?_
          refine j_iconst hx dX10_choose_83 ?_
          refine j_icmp_eq hx 101 dX10_choose_84 rfl (by omega) ⟨by decide, by decide⟩ (fun h49 => ?_) (fun h49 => ?_)
          · skip
            exact j_sub [4, 5, 6, 7, 3, 2, 1] [(0, .ref a), (1, .int (zI 10)), (2, .int (zI x2)), (3, .int (zI x3)), (4, .ref r1), (5, .ref r5), (6, .int (zI v20))] rfl (c101_13 s12 hS_s12 zFr_rf)
          · skip
            refine j_aload hx 2 dX10_choose_87 rfl ?_
            refine j_iload hx 0 dX10_choose_89 rfl ?_
            refine j_iload hx 1 dX10_choose_91 rfl ?_
            refine j_aload_n hx 4 dX10_choose_93 rfl ?_
            have f50 := zf hS0 ha (k := 3) rfl
            refine g11_3 hx hG ha kf_RX10_45 (v := (s0 a 3)) (by rw [(zFr_g hF_s12 ha (by decide)), (zFr_g hF_s11 ha (by decide))]) dX10_choose_94 ?_
            refine j_callV hx hG (c_X0_win hst r5 v23 v20 ((s0 a 3))) lk_RX10_69 q6.1 (by decide) rfl rfl rfl rfl [.int (zI v23), .int (zI v20), .int (zI ((s0 a 3)))] ⟨rfl, hG, hS_s12, q6.1, (by omega), (by omega), (by omega)⟩ rfl rfl ⟨by decide, by decide⟩ ⟨by decide, by decide⟩ (k2 := 0) (n2 := 0) rfl rfl (Nat.le_of_ble_eq_true rfl) dX10_choose_97 (kIM (fun v51 s21 hS_s21 hF_s21 q52 => ?_))
            refine j_pop hx dX10_choose_100 rfl ?_
            exact j_sub [4, 5, 6, 7, 3, 2, 1] [(0, .ref a), (1, .int (zI 10)), (2, .int (zI x2)), (3, .int (zI x3)), (4, .ref r1), (5, .ref r5), (6, .int (zI v20))] rfl (c101_13 s21 hS_s21 (zFr_t zFr_rf hF_s21 (by decide)))
      · skip
        exact j_sub [2, 4, 1] [(0, .ref a), (2, .int (zI x2)), (4, .ref r1)] rfl (c35_6 s11 hS_s11 (zFr_t zFr_rf hF_s11 (by decide)))

set_option maxHeartbeats 4000000 in
set_option maxRecDepth 20000 in
theorem c_X10_choose_9 {E : zE} {l : Launch} (hst : l.stackTraces = false) (a : Nat) (x1 : Int) (x2 : Int) (x3 : Int) : Con E l yX10_choose cX10_choose 8 none { frames := 6, cells := 0, slots := 0, locals := 140 } (fun G s vs => vs = [.ref a, .int (zI x1), .int (zI x2), .int (zI x3)] ∧ zGK G ∧ zSK G s ∧ (gT G a = 11) ∧ (9 ≤ x1 ∧ x1 ≤ 9) ∧ ((-2147483648) ≤ x2 ∧ x2 ≤ 2147483647) ∧ (0 ≤ x3 ∧ x3 ≤ 4)) (fun G s _ => pV (fun G2 s2 => G2 = G ∧ zSK G s2 ∧ zFr [1, 7, 11, 41] G s s2 ∧ True)) := by
  refine Con.mk hst (by decide) (fun G s vs h => by rw [h.1]; exact Nat.le_of_ble_eq_true rfl) ?_
  rintro X G s0 vs ⟨rfl, hG, hS0, ha, hx1, hx2, hx3⟩ rfl hx hq
  obtain rfl : x1 = 9 := by omega
  show JJ X E 8 G s0 0 0 [(0, .ref a), (1, .int (zI 9)), (2, .int (zI x2)), (3, .int (zI x3))] 0 []
  refine j_aload_n hx 0 dX10_choose_0 rfl ?_
  refine j_iload_n hx 1 dX10_choose_1 rfl ?_
  refine j_callV hx hG (c_X10_boardAt hst a 9) lk_RX10_22 ha (by decide) rfl rfl rfl rfl [.int (zI 9)] ⟨rfl, hG, hS0, ha, (by omega)⟩ rfl rfl ⟨by decide, by decide⟩ ⟨by decide, by decide⟩ (k2 := 0) (n2 := 0) rfl rfl (Nat.le_of_ble_eq_true rfl) dX10_choose_2 (kNP (fun _ => ?_) (fun r1 q2 => ?_))
  · skip
    refine j_astoreN hx [(4, .null), (0, .ref a), (1, .int (zI 9)), (2, .int (zI x2)), (3, .int (zI x3))] dX10_choose_5 (by decide) rfl ?_
    refine j_aload_n hx 1 dX10_choose_7 rfl ?_
    refine j_iload_n hx 2 dX10_choose_8 rfl ?_
    refine j_iconst hx dX10_choose_9 ?_
    refine j_iadd hx (r := 10) dX10_choose_10 (by omega) ?_
    refine j_callV hx hG (c_X10_boardAt hst a 10) lk_RX10_22 ha (by decide) rfl rfl rfl rfl [.int (zI 10)] ⟨rfl, hG, hS0, ha, (by omega)⟩ rfl rfl ⟨by decide, by decide⟩ ⟨by decide, by decide⟩ (k2 := 0) (n2 := 0) rfl rfl (Nat.le_of_ble_eq_true rfl) dX10_choose_11 (kNP (fun _ => ?_) (fun r3 q4 => ?_))
    · skip
      refine j_astoreN hx [(5, .null), (4, .null), (0, .ref a), (1, .int (zI 9)), (2, .int (zI x2)), (3, .int (zI x3))] dX10_choose_14 (by decide) rfl ?_
      refine j_aloadN hx 1 dX10_choose_16 rfl ?_
      refine j_ifnonnullN hx dX10_choose_18 ?_
      exact j_vret hx hq rfl (by decide) (by decide) dX10_choose_21 ⟨rfl, rfl, hS0, zFr_rf, trivial⟩
    · skip
      refine j_astore hx [(5, .ref r3), (4, .null), (0, .ref a), (1, .int (zI 9)), (2, .int (zI x2)), (3, .int (zI x3))] dX10_choose_14 (by decide) rfl ?_
      refine j_aloadN hx 1 dX10_choose_16 rfl ?_
      refine j_ifnonnullN hx dX10_choose_18 ?_
      exact j_vret hx hq rfl (by decide) (by decide) dX10_choose_21 ⟨rfl, rfl, hS0, zFr_rf, trivial⟩
  · skip
    refine j_astore hx [(4, .ref r1), (0, .ref a), (1, .int (zI 9)), (2, .int (zI x2)), (3, .int (zI x3))] dX10_choose_5 (by decide) rfl ?_
    refine j_aload_n hx 1 dX10_choose_7 rfl ?_
    refine j_iload_n hx 2 dX10_choose_8 rfl ?_
    refine j_iconst hx dX10_choose_9 ?_
    refine j_iadd hx (r := 10) dX10_choose_10 (by omega) ?_
    refine j_callV hx hG (c_X10_boardAt hst a 10) lk_RX10_22 ha (by decide) rfl rfl rfl rfl [.int (zI 10)] ⟨rfl, hG, hS0, ha, (by omega)⟩ rfl rfl ⟨by decide, by decide⟩ ⟨by decide, by decide⟩ (k2 := 0) (n2 := 0) rfl rfl (Nat.le_of_ble_eq_true rfl) dX10_choose_11 (kNP (fun _ => ?_) (fun r5 q6 => ?_))
    · skip
      refine j_astoreN hx [(5, .null), (4, .ref r1), (0, .ref a), (1, .int (zI 9)), (2, .int (zI x2)), (3, .int (zI x3))] dX10_choose_14 (by decide) rfl ?_
      refine j_aload hx 1 dX10_choose_16 rfl ?_
      refine j_ifnonnull hx 22 dX10_choose_18 rfl ?_
      refine j_aloadN hx 0 dX10_choose_22 rfl ?_
      have c35_1 : ∀ (s2 : zS), (zSK G s2) → (zFr [1, 7, 41] G s0 s2) → JJ X E 8 G s2 0 0 [(0, .ref a), (2, .int (zI x2)), (4, .ref r1)] 35 [] := by
        intro s2 hS_s2 hF_s2
        refine j_aload_n hx 0 dX10_choose_35 rfl ?_
        refine j_aload hx 2 dX10_choose_36 rfl ?_
        refine j_aload_n hx 0 dX10_choose_38 rfl ?_
        have f7 := zf hS0 ha (k := 2) rfl
        refine g11_2 hx hG ha kf_RX10_41 (v := (s0 a 2)) (by rw [(zFr_g hF_s2 ha (by decide))]) dX10_choose_39 ?_
        refine j_callV hx hG (c_X0_cardsOf hst r1 ((s0 a 2))) lk_RX10_58 q2.1 (by decide) rfl rfl rfl rfl [.int (zI ((s0 a 2)))] ⟨rfl, hG, hS_s2, q2.1, (by omega)⟩ rfl rfl ⟨by decide, by decide⟩ ⟨by decide, by decide⟩ (k2 := 0) (n2 := 0) rfl rfl (Nat.le_of_ble_eq_true rfl) dX10_choose_42 (kIP (fun v8 q9 => ?_))
        refine j_iload_n hx 1 dX10_choose_45 rfl ?_
        refine j_callV hx hG (c_X10_keepBetter hst a v8 x2) lk_RX10_62 ha (by decide) rfl rfl rfl rfl [.int (zI v8), .int (zI x2)] ⟨rfl, hG, hS_s2, ha, (by omega), (by omega)⟩ rfl rfl ⟨by decide, by decide⟩ ⟨by decide, by decide⟩ (k2 := 0) (n2 := 0) rfl rfl (Nat.le_of_ble_eq_true rfl) dX10_choose_46 (kVM (fun s5 hS_s5 hF_s5 q11 => ?_))
        exact j_vret hx hq rfl (by decide) (by decide) dX10_choose_49 ⟨rfl, rfl, hS_s5, (zFr_t (zFr_t zFr_rf hF_s2 (by decide)) hF_s5 (by decide)), trivial⟩
      refine j_ifnullN hx 35 dX10_choose_24 rfl ?_
      exact j_sub [2, 4, 1] [(0, .ref a), (2, .int (zI x2)), (4, .ref r1)] rfl (c35_1 s0 hS0 zFr_rf)
    · skip
      refine j_astore hx [(5, .ref r5), (4, .ref r1), (0, .ref a), (1, .int (zI 9)), (2, .int (zI x2)), (3, .int (zI x3))] dX10_choose_14 (by decide) rfl ?_
      refine j_aload hx 1 dX10_choose_16 rfl ?_
      refine j_ifnonnull hx 22 dX10_choose_18 rfl ?_
      refine j_aload hx 0 dX10_choose_22 rfl ?_
      have c35_6 : ∀ (s7 : zS), (zSK G s7) → (zFr [1, 7, 41] G s0 s7) → JJ X E 8 G s7 0 0 [(0, .ref a), (2, .int (zI x2)), (4, .ref r1)] 35 [] := by
        intro s7 hS_s7 hF_s7
        refine j_aload_n hx 0 dX10_choose_35 rfl ?_
        refine j_aload hx 2 dX10_choose_36 rfl ?_
        refine j_aload_n hx 0 dX10_choose_38 rfl ?_
        have f12 := zf hS0 ha (k := 2) rfl
        refine g11_2 hx hG ha kf_RX10_41 (v := (s0 a 2)) (by rw [(zFr_g hF_s7 ha (by decide))]) dX10_choose_39 ?_
        refine j_callV hx hG (c_X0_cardsOf hst r1 ((s0 a 2))) lk_RX10_58 q2.1 (by decide) rfl rfl rfl rfl [.int (zI ((s0 a 2)))] ⟨rfl, hG, hS_s7, q2.1, (by omega)⟩ rfl rfl ⟨by decide, by decide⟩ ⟨by decide, by decide⟩ (k2 := 0) (n2 := 0) rfl rfl (Nat.le_of_ble_eq_true rfl) dX10_choose_42 (kIP (fun v13 q14 => ?_))
        refine j_iload_n hx 1 dX10_choose_45 rfl ?_
        refine j_callV hx hG (c_X10_keepBetter hst a v13 x2) lk_RX10_62 ha (by decide) rfl rfl rfl rfl [.int (zI v13), .int (zI x2)] ⟨rfl, hG, hS_s7, ha, (by omega), (by omega)⟩ rfl rfl ⟨by decide, by decide⟩ ⟨by decide, by decide⟩ (k2 := 0) (n2 := 0) rfl rfl (Nat.le_of_ble_eq_true rfl) dX10_choose_46 (kVM (fun s10 hS_s10 hF_s10 q16 => ?_))
        exact j_vret hx hq rfl (by decide) (by decide) dX10_choose_49 ⟨rfl, rfl, hS_s10, (zFr_t (zFr_t zFr_rf hF_s7 (by decide)) hF_s10 (by decide)), trivial⟩
      refine j_ifnull hx dX10_choose_24 ?_
      refine j_aload hx 1 dX10_choose_27 rfl ?_
      refine j_callV hx hG (c_X0_step hst r1) lk_RX10_33 q2.1 (by decide) rfl rfl rfl rfl [] ⟨rfl, hG, hS0, q2.1⟩ rfl rfl ⟨by decide, by decide⟩ ⟨by decide, by decide⟩ (k2 := 0) (n2 := 0) rfl rfl (Nat.le_of_ble_eq_true rfl) dX10_choose_29 (kIM (fun v17 s11 hS_s11 hF_s11 q18 => ?_))
      refine j_if_ne hx 50 dX10_choose_32 rfl (by omega) (fun h19 => ?_) (fun h19 => ?_)
      · skip
        refine j_aload hx 1 dX10_choose_50 rfl ?_
        refine j_callV hx hG (c_X0_likeTops hst r1) lk_RX10_37 q2.1 (by decide) rfl rfl rfl rfl [] ⟨rfl, hG, hS_s11, q2.1⟩ rfl rfl ⟨by decide, by decide⟩ ⟨by decide, by decide⟩ (k2 := 0) (n2 := 0) rfl rfl (Nat.le_of_ble_eq_true rfl) dX10_choose_52 (kIP (fun v20 q21 => ?_))
        refine j_istore hx [(6, .int (zI v20)), (5, .ref r5), (4, .ref r1), (0, .ref a), (1, .int (zI 9)), (2, .int (zI x2)), (3, .int (zI x3))] dX10_choose_55 (by decide) rfl ?_
        refine j_aload hx 2 dX10_choose_57 rfl ?_
        refine j_aload_n hx 3 dX10_choose_59 rfl ?_
        have f22 := zf hS0 ha (k := 2) rfl
        refine g11_2 hx hG ha kf_RX10_41 (v := (s0 a 2)) (by rw [(zFr_g hF_s11 ha (by decide))]) dX10_choose_60 ?_
        refine j_callV hx hG (c_X0_following hst r1 ((s0 a 2))) lk_RX10_66 q2.1 (by decide) rfl rfl rfl rfl [.int (zI ((s0 a 2)))] ⟨rfl, hG, hS_s11, q2.1, (by omega)⟩ rfl rfl ⟨by decide, by decide⟩ ⟨by decide, by decide⟩ (k2 := 0) (n2 := 0) rfl rfl (Nat.le_of_ble_eq_true rfl) dX10_choose_63 (kIP (fun v23 q24 => ?_))
        refine j_istore hx [(7, .int (zI v23)), (6, .int (zI v20)), (5, .ref r5), (4, .ref r1), (0, .ref a), (1, .int (zI 9)), (2, .int (zI x2)), (3, .int (zI x3))] dX10_choose_66 (by decide) rfl ?_
        refine j_aload hx 2 dX10_choose_68 rfl ?_
        refine j_aload hx 3 dX10_choose_70 rfl ?_
        refine j_callV hx hG (c_X0_become hst r5 r1) lk_RX10_26 q6.1 (by decide) rfl rfl rfl rfl [.ref r1] ⟨rfl, hG, hS_s11, q6.1, q2.1⟩ rfl rfl ⟨by decide, by decide⟩ ⟨by decide, by decide⟩ (k2 := 0) (n2 := 0) rfl rfl (Nat.le_of_ble_eq_true rfl) dX10_choose_72 (kVM (fun s12 hS_s12 hF_s12 q26 => ?_))
        refine j_iload hx 1 dX10_choose_75 rfl ?_
        refine j_iconst hx dX10_choose_77 ?_
        have c101_13 : ∀ (s14 : zS), (zSK G s14) → (zFr [7, 41] G s12 s14) → JJ X E 8 G s14 0 0 [(0, .ref a), (1, .int (zI 9)), (2, .int (zI x2)), (3, .int (zI x3)), (4, .ref r1), (5, .ref r5), (6, .int (zI v20))] 101 [] := by
          intro s14 hS_s14 hF_s14
          refine j_aload_n hx 0 dX10_choose_101 rfl ?_
          refine j_iload_n hx 1 dX10_choose_102 rfl ?_
          refine j_iconst hx dX10_choose_103 ?_
          refine j_iadd hx (r := 10) dX10_choose_104 (by omega) ?_
          refine j_iload_n hx 2 dX10_choose_105 rfl ?_
          refine j_iload_n hx 3 dX10_choose_106 rfl ?_
          refine j_callV hx hG (c_X10_choose_10 hst a 10 x2 x3) lk_RX10_54 ha (by decide) rfl rfl rfl rfl [.int (zI 10), .int (zI x2), .int (zI x3)] ⟨rfl, hG, hS_s14, ha, (by omega), (by omega), (by omega)⟩ rfl rfl ⟨by decide, by decide⟩ ⟨by decide, by decide⟩ (k2 := 0) (n2 := 0) rfl rfl (Nat.le_of_ble_eq_true rfl) dX10_choose_107 (kVM (fun s17 hS_s17 hF_s17 q28 => ?_))
          refine j_iload hx 6 dX10_choose_110 rfl ?_
          refine j_iconst hx dX10_choose_112 ?_
          refine j_icmp_eq hx 170 dX10_choose_113 rfl (by omega) ⟨by decide, by decide⟩ (fun h29 => ?_) (fun h29 => ?_)
          · skip
            exact j_vret hx hq rfl (by decide) (by decide) dX10_choose_170 ⟨rfl, rfl, hS_s17, (zFr_t (zFr_t (zFr_t (zFr_t zFr_rf hF_s11 (by decide)) hF_s12 (by decide)) hF_s14 (by decide)) hF_s17 (by decide)), trivial⟩
          · skip
            refine j_iload_n hx 3 dX10_choose_116 rfl ?_
            refine j_if_le hx 170 dX10_choose_117 rfl (by omega) (fun h30 => ?_) (fun h30 => ?_)
            · skip
              exact j_vret hx hq rfl (by decide) (by decide) dX10_choose_170 ⟨rfl, rfl, hS_s17, (zFr_t (zFr_t (zFr_t (zFr_t zFr_rf hF_s11 (by decide)) hF_s12 (by decide)) hF_s14 (by decide)) hF_s17 (by decide)), trivial⟩
            · skip
              refine j_aload hx 4 dX10_choose_120 rfl ?_
              refine j_aload_n hx 0 dX10_choose_122 rfl ?_
              have f31 := zf hS_s17 ha (k := 2) rfl
              refine g11_2 hx hG ha kf_RX10_41 rfl dX10_choose_123 ?_
              refine j_callV hx hG (c_X0_isOut hst r1 ((s17 a 2))) lk_RX10_73 q2.1 (by decide) rfl rfl rfl rfl [.int (zI ((s17 a 2)))] ⟨rfl, hG, hS_s17, q2.1, (by omega)⟩ rfl rfl ⟨by decide, by decide⟩ ⟨by decide, by decide⟩ (k2 := 0) (n2 := 0) rfl rfl (Nat.le_of_ble_eq_true rfl) dX10_choose_126 (kIP (fun v32 q33 => ?_))
              refine j_if_ne hx 170 dX10_choose_129 rfl (by omega) (fun h34 => ?_) (fun h34 => ?_)
              · skip
                exact j_vret hx hq rfl (by decide) (by decide) dX10_choose_170 ⟨rfl, rfl, hS_s17, (zFr_t (zFr_t (zFr_t (zFr_t zFr_rf hF_s11 (by decide)) hF_s12 (by decide)) hF_s14 (by decide)) hF_s17 (by decide)), trivial⟩
              · skip
                refine j_aload hx 5 dX10_choose_132 rfl ?_
                refine j_aload hx 4 dX10_choose_134 rfl ?_
                refine j_callV hx hG (c_X0_become hst r5 r1) lk_RX10_26 q6.1 (by decide) rfl rfl rfl rfl [.ref r1] ⟨rfl, hG, hS_s17, q6.1, q2.1⟩ rfl rfl ⟨by decide, by decide⟩ ⟨by decide, by decide⟩ (k2 := 0) (n2 := 0) rfl rfl (Nat.le_of_ble_eq_true rfl) dX10_choose_136 (kVM (fun s18 hS_s18 hF_s18 q36 => ?_))
                refine j_aload hx 5 dX10_choose_139 rfl ?_
                refine j_aload_n hx 0 dX10_choose_141 rfl ?_
                refine g11_2 hx hG ha kf_RX10_41 (v := (s17 a 2)) (by rw [(zFr_g hF_s18 ha (by decide))]) dX10_choose_142 ?_
                refine j_iload hx 6 dX10_choose_145 rfl ?_
                refine j_aload_n hx 0 dX10_choose_147 rfl ?_
                have f37 := zf hS_s17 ha (k := 3) rfl
                refine g11_3 hx hG ha kf_RX10_45 (v := (s17 a 3)) (by rw [(zFr_g hF_s18 ha (by decide))]) dX10_choose_148 ?_
                refine j_callV hx hG (c_X0_win hst r5 ((s17 a 2)) v20 ((s17 a 3))) lk_RX10_69 q6.1 (by decide) rfl rfl rfl rfl [.int (zI ((s17 a 2))), .int (zI v20), .int (zI ((s17 a 3)))] ⟨rfl, hG, hS_s18, q6.1, (by omega), (by omega), (by omega)⟩ rfl rfl ⟨by decide, by decide⟩ ⟨by decide, by decide⟩ (k2 := 0) (n2 := 0) rfl rfl (Nat.le_of_ble_eq_true rfl) dX10_choose_151 (kIM (fun v38 s19 hS_s19 hF_s19 q39 => ?_))
                refine j_pop hx dX10_choose_154 rfl ?_
                refine j_aload_n hx 0 dX10_choose_155 rfl ?_
                refine j_iload_n hx 1 dX10_choose_156 rfl ?_
                refine j_iconst hx dX10_choose_157 ?_
                refine j_iadd hx (r := 10) dX10_choose_158 (by omega) ?_
                refine j_iload_n hx 2 dX10_choose_159 rfl ?_
                refine j_iconst hx dX10_choose_160 ?_
                refine j_iload_n hx 1 dX10_choose_161 rfl ?_
                refine j_ishl hx dX10_choose_162 (fun v40 f41 f42 => ?_)
                refine j_ior hx dX10_choose_163 (fun v43 f44 f45 => ?_)
                refine j_iload_n hx 3 dX10_choose_164 rfl ?_
                refine j_iconst hx dX10_choose_165 ?_
                refine j_isub hx (r := x3 - 1) dX10_choose_166 rfl ?_
                refine j_callV hx hG (c_X10_choose_10 hst a 10 v43 (x3 - 1)) lk_RX10_54 ha (by decide) rfl rfl rfl rfl [.int (zI 10), .int (zI v43), .int (zI (x3 - 1))] ⟨rfl, hG, hS_s19, ha, (by omega), (by omega), (by omega)⟩ rfl rfl ⟨by decide, by decide⟩ ⟨by decide, by decide⟩ (k2 := 0) (n2 := 0) rfl rfl (Nat.le_of_ble_eq_true rfl) dX10_choose_167 (kVM (fun s20 hS_s20 hF_s20 q47 => ?_))
                exact j_vret hx hq rfl (by decide) (by decide) dX10_choose_170 ⟨rfl, rfl, hS_s20, (zFr_t (zFr_t (zFr_t (zFr_t (zFr_t (zFr_t (zFr_t zFr_rf hF_s11 (by decide)) hF_s12 (by decide)) hF_s14 (by decide)) hF_s17 (by decide)) hF_s18 (by decide)) hF_s19 (by decide)) hF_s20 (by decide)), trivial⟩
        refine j_icmp_eq hx 101 dX10_choose_78 rfl (by omega) ⟨by decide, by decide⟩ (fun h48 => ?_) (fun h48 => ?_)
        · skip
          exact j_sub [4, 5, 6, 7, 3, 2, 1] [(0, .ref a), (1, .int (zI 9)), (2, .int (zI x2)), (3, .int (zI x3)), (4, .ref r1), (5, .ref r5), (6, .int (zI v20))] rfl (c101_13 s12 hS_s12 zFr_rf)
        · skip
          refine j_iload hx 0 dX10_choose_81 rfl ?_
          refine j_iconst hx dX10_choose_83 ?_
          refine j_icmp_eq hx 101 dX10_choose_84 rfl (by omega) ⟨by decide, by decide⟩ (fun h49 => ?_) (fun h49 => ?_)
          · skip
            exact j_sub [4, 5, 6, 7, 3, 2, 1] [(0, .ref a), (1, .int (zI 9)), (2, .int (zI x2)), (3, .int (zI x3)), (4, .ref r1), (5, .ref r5), (6, .int (zI v20))] rfl (c101_13 s12 hS_s12 zFr_rf)
          · skip
            refine j_aload hx 2 dX10_choose_87 rfl ?_
            refine j_iload hx 0 dX10_choose_89 rfl ?_
            refine j_iload hx 1 dX10_choose_91 rfl ?_
            refine j_aload_n hx 4 dX10_choose_93 rfl ?_
            have f50 := zf hS0 ha (k := 3) rfl
            refine g11_3 hx hG ha kf_RX10_45 (v := (s0 a 3)) (by rw [(zFr_g hF_s12 ha (by decide)), (zFr_g hF_s11 ha (by decide))]) dX10_choose_94 ?_
            refine j_callV hx hG (c_X0_win hst r5 v23 v20 ((s0 a 3))) lk_RX10_69 q6.1 (by decide) rfl rfl rfl rfl [.int (zI v23), .int (zI v20), .int (zI ((s0 a 3)))] ⟨rfl, hG, hS_s12, q6.1, (by omega), (by omega), (by omega)⟩ rfl rfl ⟨by decide, by decide⟩ ⟨by decide, by decide⟩ (k2 := 0) (n2 := 0) rfl rfl (Nat.le_of_ble_eq_true rfl) dX10_choose_97 (kIM (fun v51 s21 hS_s21 hF_s21 q52 => ?_))
            refine j_pop hx dX10_choose_100 rfl ?_
            exact j_sub [4, 5, 6, 7, 3, 2, 1] [(0, .ref a), (1, .int (zI 9)), (2, .int (zI x2)), (3, .int (zI x3)), (4, .ref r1), (5, .ref r5), (6, .int (zI v20))] rfl (c101_13 s21 hS_s21 (zFr_t zFr_rf hF_s21 (by decide)))
      · skip
        exact j_sub [2, 4, 1] [(0, .ref a), (2, .int (zI x2)), (4, .ref r1)] rfl (c35_6 s11 hS_s11 (zFr_t zFr_rf hF_s11 (by decide)))

set_option maxHeartbeats 4000000 in
set_option maxRecDepth 20000 in
theorem c_X10_choose_8 {E : zE} {l : Launch} (hst : l.stackTraces = false) (a : Nat) (x1 : Int) (x2 : Int) (x3 : Int) : Con E l yX10_choose cX10_choose 8 none { frames := 7, cells := 0, slots := 0, locals := 167 } (fun G s vs => vs = [.ref a, .int (zI x1), .int (zI x2), .int (zI x3)] ∧ zGK G ∧ zSK G s ∧ (gT G a = 11) ∧ (8 ≤ x1 ∧ x1 ≤ 8) ∧ ((-2147483648) ≤ x2 ∧ x2 ≤ 2147483647) ∧ (0 ≤ x3 ∧ x3 ≤ 4)) (fun G s _ => pV (fun G2 s2 => G2 = G ∧ zSK G s2 ∧ zFr [1, 7, 11, 41] G s s2 ∧ True)) := by
  refine Con.mk hst (by decide) (fun G s vs h => by rw [h.1]; exact Nat.le_of_ble_eq_true rfl) ?_
  rintro X G s0 vs ⟨rfl, hG, hS0, ha, hx1, hx2, hx3⟩ rfl hx hq
  obtain rfl : x1 = 8 := by omega
  show JJ X E 8 G s0 0 0 [(0, .ref a), (1, .int (zI 8)), (2, .int (zI x2)), (3, .int (zI x3))] 0 []
  refine j_aload_n hx 0 dX10_choose_0 rfl ?_
  refine j_iload_n hx 1 dX10_choose_1 rfl ?_
  refine j_callV hx hG (c_X10_boardAt hst a 8) lk_RX10_22 ha (by decide) rfl rfl rfl rfl [.int (zI 8)] ⟨rfl, hG, hS0, ha, (by omega)⟩ rfl rfl ⟨by decide, by decide⟩ ⟨by decide, by decide⟩ (k2 := 0) (n2 := 0) rfl rfl (Nat.le_of_ble_eq_true rfl) dX10_choose_2 (kNP (fun _ => ?_) (fun r1 q2 => ?_))
  · skip
    refine j_astoreN hx [(4, .null), (0, .ref a), (1, .int (zI 8)), (2, .int (zI x2)), (3, .int (zI x3))] dX10_choose_5 (by decide) rfl ?_
    refine j_aload_n hx 1 dX10_choose_7 rfl ?_
    refine j_iload_n hx 2 dX10_choose_8 rfl ?_
    refine j_iconst hx dX10_choose_9 ?_
    refine j_iadd hx (r := 9) dX10_choose_10 (by omega) ?_
    refine j_callV hx hG (c_X10_boardAt hst a 9) lk_RX10_22 ha (by decide) rfl rfl rfl rfl [.int (zI 9)] ⟨rfl, hG, hS0, ha, (by omega)⟩ rfl rfl ⟨by decide, by decide⟩ ⟨by decide, by decide⟩ (k2 := 0) (n2 := 0) rfl rfl (Nat.le_of_ble_eq_true rfl) dX10_choose_11 (kNP (fun _ => ?_) (fun r3 q4 => ?_))
    · skip
      refine j_astoreN hx [(5, .null), (4, .null), (0, .ref a), (1, .int (zI 8)), (2, .int (zI x2)), (3, .int (zI x3))] dX10_choose_14 (by decide) rfl ?_
      refine j_aloadN hx 1 dX10_choose_16 rfl ?_
      refine j_ifnonnullN hx dX10_choose_18 ?_
      exact j_vret hx hq rfl (by decide) (by decide) dX10_choose_21 ⟨rfl, rfl, hS0, zFr_rf, trivial⟩
    · skip
      refine j_astore hx [(5, .ref r3), (4, .null), (0, .ref a), (1, .int (zI 8)), (2, .int (zI x2)), (3, .int (zI x3))] dX10_choose_14 (by decide) rfl ?_
      refine j_aloadN hx 1 dX10_choose_16 rfl ?_
      refine j_ifnonnullN hx dX10_choose_18 ?_
      exact j_vret hx hq rfl (by decide) (by decide) dX10_choose_21 ⟨rfl, rfl, hS0, zFr_rf, trivial⟩
  · skip
    refine j_astore hx [(4, .ref r1), (0, .ref a), (1, .int (zI 8)), (2, .int (zI x2)), (3, .int (zI x3))] dX10_choose_5 (by decide) rfl ?_
    refine j_aload_n hx 1 dX10_choose_7 rfl ?_
    refine j_iload_n hx 2 dX10_choose_8 rfl ?_
    refine j_iconst hx dX10_choose_9 ?_
    refine j_iadd hx (r := 9) dX10_choose_10 (by omega) ?_
    refine j_callV hx hG (c_X10_boardAt hst a 9) lk_RX10_22 ha (by decide) rfl rfl rfl rfl [.int (zI 9)] ⟨rfl, hG, hS0, ha, (by omega)⟩ rfl rfl ⟨by decide, by decide⟩ ⟨by decide, by decide⟩ (k2 := 0) (n2 := 0) rfl rfl (Nat.le_of_ble_eq_true rfl) dX10_choose_11 (kNP (fun _ => ?_) (fun r5 q6 => ?_))
    · skip
      refine j_astoreN hx [(5, .null), (4, .ref r1), (0, .ref a), (1, .int (zI 8)), (2, .int (zI x2)), (3, .int (zI x3))] dX10_choose_14 (by decide) rfl ?_
      refine j_aload hx 1 dX10_choose_16 rfl ?_
      refine j_ifnonnull hx 22 dX10_choose_18 rfl ?_
      refine j_aloadN hx 0 dX10_choose_22 rfl ?_
      have c35_1 : ∀ (s2 : zS), (zSK G s2) → (zFr [1, 7, 41] G s0 s2) → JJ X E 8 G s2 0 0 [(0, .ref a), (2, .int (zI x2)), (4, .ref r1)] 35 [] := by
        intro s2 hS_s2 hF_s2
        refine j_aload_n hx 0 dX10_choose_35 rfl ?_
        refine j_aload hx 2 dX10_choose_36 rfl ?_
        refine j_aload_n hx 0 dX10_choose_38 rfl ?_
        have f7 := zf hS0 ha (k := 2) rfl
        refine g11_2 hx hG ha kf_RX10_41 (v := (s0 a 2)) (by rw [(zFr_g hF_s2 ha (by decide))]) dX10_choose_39 ?_
        refine j_callV hx hG (c_X0_cardsOf hst r1 ((s0 a 2))) lk_RX10_58 q2.1 (by decide) rfl rfl rfl rfl [.int (zI ((s0 a 2)))] ⟨rfl, hG, hS_s2, q2.1, (by omega)⟩ rfl rfl ⟨by decide, by decide⟩ ⟨by decide, by decide⟩ (k2 := 0) (n2 := 0) rfl rfl (Nat.le_of_ble_eq_true rfl) dX10_choose_42 (kIP (fun v8 q9 => ?_))
        refine j_iload_n hx 1 dX10_choose_45 rfl ?_
        refine j_callV hx hG (c_X10_keepBetter hst a v8 x2) lk_RX10_62 ha (by decide) rfl rfl rfl rfl [.int (zI v8), .int (zI x2)] ⟨rfl, hG, hS_s2, ha, (by omega), (by omega)⟩ rfl rfl ⟨by decide, by decide⟩ ⟨by decide, by decide⟩ (k2 := 0) (n2 := 0) rfl rfl (Nat.le_of_ble_eq_true rfl) dX10_choose_46 (kVM (fun s5 hS_s5 hF_s5 q11 => ?_))
        exact j_vret hx hq rfl (by decide) (by decide) dX10_choose_49 ⟨rfl, rfl, hS_s5, (zFr_t (zFr_t zFr_rf hF_s2 (by decide)) hF_s5 (by decide)), trivial⟩
      refine j_ifnullN hx 35 dX10_choose_24 rfl ?_
      exact j_sub [2, 4, 1] [(0, .ref a), (2, .int (zI x2)), (4, .ref r1)] rfl (c35_1 s0 hS0 zFr_rf)
    · skip
      refine j_astore hx [(5, .ref r5), (4, .ref r1), (0, .ref a), (1, .int (zI 8)), (2, .int (zI x2)), (3, .int (zI x3))] dX10_choose_14 (by decide) rfl ?_
      refine j_aload hx 1 dX10_choose_16 rfl ?_
      refine j_ifnonnull hx 22 dX10_choose_18 rfl ?_
      refine j_aload hx 0 dX10_choose_22 rfl ?_
      have c35_6 : ∀ (s7 : zS), (zSK G s7) → (zFr [1, 7, 41] G s0 s7) → JJ X E 8 G s7 0 0 [(0, .ref a), (2, .int (zI x2)), (4, .ref r1)] 35 [] := by
        intro s7 hS_s7 hF_s7
        refine j_aload_n hx 0 dX10_choose_35 rfl ?_
        refine j_aload hx 2 dX10_choose_36 rfl ?_
        refine j_aload_n hx 0 dX10_choose_38 rfl ?_
        have f12 := zf hS0 ha (k := 2) rfl
        refine g11_2 hx hG ha kf_RX10_41 (v := (s0 a 2)) (by rw [(zFr_g hF_s7 ha (by decide))]) dX10_choose_39 ?_
        refine j_callV hx hG (c_X0_cardsOf hst r1 ((s0 a 2))) lk_RX10_58 q2.1 (by decide) rfl rfl rfl rfl [.int (zI ((s0 a 2)))] ⟨rfl, hG, hS_s7, q2.1, (by omega)⟩ rfl rfl ⟨by decide, by decide⟩ ⟨by decide, by decide⟩ (k2 := 0) (n2 := 0) rfl rfl (Nat.le_of_ble_eq_true rfl) dX10_choose_42 (kIP (fun v13 q14 => ?_))
        refine j_iload_n hx 1 dX10_choose_45 rfl ?_
        refine j_callV hx hG (c_X10_keepBetter hst a v13 x2) lk_RX10_62 ha (by decide) rfl rfl rfl rfl [.int (zI v13), .int (zI x2)] ⟨rfl, hG, hS_s7, ha, (by omega), (by omega)⟩ rfl rfl ⟨by decide, by decide⟩ ⟨by decide, by decide⟩ (k2 := 0) (n2 := 0) rfl rfl (Nat.le_of_ble_eq_true rfl) dX10_choose_46 (kVM (fun s10 hS_s10 hF_s10 q16 => ?_))
        exact j_vret hx hq rfl (by decide) (by decide) dX10_choose_49 ⟨rfl, rfl, hS_s10, (zFr_t (zFr_t zFr_rf hF_s7 (by decide)) hF_s10 (by decide)), trivial⟩
      refine j_ifnull hx dX10_choose_24 ?_
      refine j_aload hx 1 dX10_choose_27 rfl ?_
      refine j_callV hx hG (c_X0_step hst r1) lk_RX10_33 q2.1 (by decide) rfl rfl rfl rfl [] ⟨rfl, hG, hS0, q2.1⟩ rfl rfl ⟨by decide, by decide⟩ ⟨by decide, by decide⟩ (k2 := 0) (n2 := 0) rfl rfl (Nat.le_of_ble_eq_true rfl) dX10_choose_29 (kIM (fun v17 s11 hS_s11 hF_s11 q18 => ?_))
      refine j_if_ne hx 50 dX10_choose_32 rfl (by omega) (fun h19 => ?_) (fun h19 => ?_)
      · skip
        refine j_aload hx 1 dX10_choose_50 rfl ?_
        refine j_callV hx hG (c_X0_likeTops hst r1) lk_RX10_37 q2.1 (by decide) rfl rfl rfl rfl [] ⟨rfl, hG, hS_s11, q2.1⟩ rfl rfl ⟨by decide, by decide⟩ ⟨by decide, by decide⟩ (k2 := 0) (n2 := 0) rfl rfl (Nat.le_of_ble_eq_true rfl) dX10_choose_52 (kIP (fun v20 q21 => ?_))
        refine j_istore hx [(6, .int (zI v20)), (5, .ref r5), (4, .ref r1), (0, .ref a), (1, .int (zI 8)), (2, .int (zI x2)), (3, .int (zI x3))] dX10_choose_55 (by decide) rfl ?_
        refine j_aload hx 2 dX10_choose_57 rfl ?_
        refine j_aload_n hx 3 dX10_choose_59 rfl ?_
        have f22 := zf hS0 ha (k := 2) rfl
        refine g11_2 hx hG ha kf_RX10_41 (v := (s0 a 2)) (by rw [(zFr_g hF_s11 ha (by decide))]) dX10_choose_60 ?_
        refine j_callV hx hG (c_X0_following hst r1 ((s0 a 2))) lk_RX10_66 q2.1 (by decide) rfl rfl rfl rfl [.int (zI ((s0 a 2)))] ⟨rfl, hG, hS_s11, q2.1, (by omega)⟩ rfl rfl ⟨by decide, by decide⟩ ⟨by decide, by decide⟩ (k2 := 0) (n2 := 0) rfl rfl (Nat.le_of_ble_eq_true rfl) dX10_choose_63 (kIP (fun v23 q24 => ?_))
        refine j_istore hx [(7, .int (zI v23)), (6, .int (zI v20)), (5, .ref r5), (4, .ref r1), (0, .ref a), (1, .int (zI 8)), (2, .int (zI x2)), (3, .int (zI x3))] dX10_choose_66 (by decide) rfl ?_
        refine j_aload hx 2 dX10_choose_68 rfl ?_
        refine j_aload hx 3 dX10_choose_70 rfl ?_
        refine j_callV hx hG (c_X0_become hst r5 r1) lk_RX10_26 q6.1 (by decide) rfl rfl rfl rfl [.ref r1] ⟨rfl, hG, hS_s11, q6.1, q2.1⟩ rfl rfl ⟨by decide, by decide⟩ ⟨by decide, by decide⟩ (k2 := 0) (n2 := 0) rfl rfl (Nat.le_of_ble_eq_true rfl) dX10_choose_72 (kVM (fun s12 hS_s12 hF_s12 q26 => ?_))
        refine j_iload hx 1 dX10_choose_75 rfl ?_
        refine j_iconst hx dX10_choose_77 ?_
        have c101_13 : ∀ (s14 : zS), (zSK G s14) → (zFr [7, 41] G s12 s14) → JJ X E 8 G s14 0 0 [(0, .ref a), (1, .int (zI 8)), (2, .int (zI x2)), (3, .int (zI x3)), (4, .ref r1), (5, .ref r5), (6, .int (zI v20))] 101 [] := by
          intro s14 hS_s14 hF_s14
          refine j_aload_n hx 0 dX10_choose_101 rfl ?_
          refine j_iload_n hx 1 dX10_choose_102 rfl ?_
          refine j_iconst hx dX10_choose_103 ?_
          refine j_iadd hx (r := 9) dX10_choose_104 (by omega) ?_
          refine j_iload_n hx 2 dX10_choose_105 rfl ?_
          refine j_iload_n hx 3 dX10_choose_106 rfl ?_
          refine j_callV hx hG (c_X10_choose_9 hst a 9 x2 x3) lk_RX10_54 ha (by decide) rfl rfl rfl rfl [.int (zI 9), .int (zI x2), .int (zI x3)] ⟨rfl, hG, hS_s14, ha, (by omega), (by omega), (by omega)⟩ rfl rfl ⟨by decide, by decide⟩ ⟨by decide, by decide⟩ (k2 := 0) (n2 := 0) rfl rfl (Nat.le_of_ble_eq_true rfl) dX10_choose_107 (kVM (fun s17 hS_s17 hF_s17 q28 => ?_))
          refine j_iload hx 6 dX10_choose_110 rfl ?_
          refine j_iconst hx dX10_choose_112 ?_
          refine j_icmp_eq hx 170 dX10_choose_113 rfl (by omega) ⟨by decide, by decide⟩ (fun h29 => ?_) (fun h29 => ?_)
          · skip
            exact j_vret hx hq rfl (by decide) (by decide) dX10_choose_170 ⟨rfl, rfl, hS_s17, (zFr_t (zFr_t (zFr_t (zFr_t zFr_rf hF_s11 (by decide)) hF_s12 (by decide)) hF_s14 (by decide)) hF_s17 (by decide)), trivial⟩
          · skip
            refine j_iload_n hx 3 dX10_choose_116 rfl ?_
            refine j_if_le hx 170 dX10_choose_117 rfl (by omega) (fun h30 => ?_) (fun h30 => ?_)
            · skip
              exact j_vret hx hq rfl (by decide) (by decide) dX10_choose_170 ⟨rfl, rfl, hS_s17, (zFr_t (zFr_t (zFr_t (zFr_t zFr_rf hF_s11 (by decide)) hF_s12 (by decide)) hF_s14 (by decide)) hF_s17 (by decide)), trivial⟩
            · skip
              refine j_aload hx 4 dX10_choose_120 rfl ?_
              refine j_aload_n hx 0 dX10_choose_122 rfl ?_
              have f31 := zf hS_s17 ha (k := 2) rfl
              refine g11_2 hx hG ha kf_RX10_41 rfl dX10_choose_123 ?_
              refine j_callV hx hG (c_X0_isOut hst r1 ((s17 a 2))) lk_RX10_73 q2.1 (by decide) rfl rfl rfl rfl [.int (zI ((s17 a 2)))] ⟨rfl, hG, hS_s17, q2.1, (by omega)⟩ rfl rfl ⟨by decide, by decide⟩ ⟨by decide, by decide⟩ (k2 := 0) (n2 := 0) rfl rfl (Nat.le_of_ble_eq_true rfl) dX10_choose_126 (kIP (fun v32 q33 => ?_))
              refine j_if_ne hx 170 dX10_choose_129 rfl (by omega) (fun h34 => ?_) (fun h34 => ?_)
              · skip
                exact j_vret hx hq rfl (by decide) (by decide) dX10_choose_170 ⟨rfl, rfl, hS_s17, (zFr_t (zFr_t (zFr_t (zFr_t zFr_rf hF_s11 (by decide)) hF_s12 (by decide)) hF_s14 (by decide)) hF_s17 (by decide)), trivial⟩
              · skip
                refine j_aload hx 5 dX10_choose_132 rfl ?_
                refine j_aload hx 4 dX10_choose_134 rfl ?_
                refine j_callV hx hG (c_X0_become hst r5 r1) lk_RX10_26 q6.1 (by decide) rfl rfl rfl rfl [.ref r1] ⟨rfl, hG, hS_s17, q6.1, q2.1⟩ rfl rfl ⟨by decide, by decide⟩ ⟨by decide, by decide⟩ (k2 := 0) (n2 := 0) rfl rfl (Nat.le_of_ble_eq_true rfl) dX10_choose_136 (kVM (fun s18 hS_s18 hF_s18 q36 => ?_))
                refine j_aload hx 5 dX10_choose_139 rfl ?_
                refine j_aload_n hx 0 dX10_choose_141 rfl ?_
                refine g11_2 hx hG ha kf_RX10_41 (v := (s17 a 2)) (by rw [(zFr_g hF_s18 ha (by decide))]) dX10_choose_142 ?_
                refine j_iload hx 6 dX10_choose_145 rfl ?_
                refine j_aload_n hx 0 dX10_choose_147 rfl ?_
                have f37 := zf hS_s17 ha (k := 3) rfl
                refine g11_3 hx hG ha kf_RX10_45 (v := (s17 a 3)) (by rw [(zFr_g hF_s18 ha (by decide))]) dX10_choose_148 ?_
                refine j_callV hx hG (c_X0_win hst r5 ((s17 a 2)) v20 ((s17 a 3))) lk_RX10_69 q6.1 (by decide) rfl rfl rfl rfl [.int (zI ((s17 a 2))), .int (zI v20), .int (zI ((s17 a 3)))] ⟨rfl, hG, hS_s18, q6.1, (by omega), (by omega), (by omega)⟩ rfl rfl ⟨by decide, by decide⟩ ⟨by decide, by decide⟩ (k2 := 0) (n2 := 0) rfl rfl (Nat.le_of_ble_eq_true rfl) dX10_choose_151 (kIM (fun v38 s19 hS_s19 hF_s19 q39 => ?_))
                refine j_pop hx dX10_choose_154 rfl ?_
                refine j_aload_n hx 0 dX10_choose_155 rfl ?_
                refine j_iload_n hx 1 dX10_choose_156 rfl ?_
                refine j_iconst hx dX10_choose_157 ?_
                refine j_iadd hx (r := 9) dX10_choose_158 (by omega) ?_
                refine j_iload_n hx 2 dX10_choose_159 rfl ?_
                refine j_iconst hx dX10_choose_160 ?_
                refine j_iload_n hx 1 dX10_choose_161 rfl ?_
                refine j_ishl hx dX10_choose_162 (fun v40 f41 f42 => ?_)
                refine j_ior hx dX10_choose_163 (fun v43 f44 f45 => ?_)
                refine j_iload_n hx 3 dX10_choose_164 rfl ?_
                refine j_iconst hx dX10_choose_165 ?_
                refine j_isub hx (r := x3 - 1) dX10_choose_166 rfl ?_
                refine j_callV hx hG (c_X10_choose_9 hst a 9 v43 (x3 - 1)) lk_RX10_54 ha (by decide) rfl rfl rfl rfl [.int (zI 9), .int (zI v43), .int (zI (x3 - 1))] ⟨rfl, hG, hS_s19, ha, (by omega), (by omega), (by omega)⟩ rfl rfl ⟨by decide, by decide⟩ ⟨by decide, by decide⟩ (k2 := 0) (n2 := 0) rfl rfl (Nat.le_of_ble_eq_true rfl) dX10_choose_167 (kVM (fun s20 hS_s20 hF_s20 q47 => ?_))
                exact j_vret hx hq rfl (by decide) (by decide) dX10_choose_170 ⟨rfl, rfl, hS_s20, (zFr_t (zFr_t (zFr_t (zFr_t (zFr_t (zFr_t (zFr_t zFr_rf hF_s11 (by decide)) hF_s12 (by decide)) hF_s14 (by decide)) hF_s17 (by decide)) hF_s18 (by decide)) hF_s19 (by decide)) hF_s20 (by decide)), trivial⟩
        refine j_icmp_eq hx 101 dX10_choose_78 rfl (by omega) ⟨by decide, by decide⟩ (fun h48 => ?_) (fun h48 => ?_)
        · skip
          exact j_sub [4, 5, 6, 7, 3, 2, 1] [(0, .ref a), (1, .int (zI 8)), (2, .int (zI x2)), (3, .int (zI x3)), (4, .ref r1), (5, .ref r5), (6, .int (zI v20))] rfl (c101_13 s12 hS_s12 zFr_rf)
        · skip
          refine j_iload hx 0 dX10_choose_81 rfl ?_
          refine j_iconst hx dX10_choose_83 ?_
          refine j_icmp_eq hx 101 dX10_choose_84 rfl (by omega) ⟨by decide, by decide⟩ (fun h49 => ?_) (fun h49 => ?_)
          · skip
            exact j_sub [4, 5, 6, 7, 3, 2, 1] [(0, .ref a), (1, .int (zI 8)), (2, .int (zI x2)), (3, .int (zI x3)), (4, .ref r1), (5, .ref r5), (6, .int (zI v20))] rfl (c101_13 s12 hS_s12 zFr_rf)
          · skip
            refine j_aload hx 2 dX10_choose_87 rfl ?_
            refine j_iload hx 0 dX10_choose_89 rfl ?_
            refine j_iload hx 1 dX10_choose_91 rfl ?_
            refine j_aload_n hx 4 dX10_choose_93 rfl ?_
            have f50 := zf hS0 ha (k := 3) rfl
            refine g11_3 hx hG ha kf_RX10_45 (v := (s0 a 3)) (by rw [(zFr_g hF_s12 ha (by decide)), (zFr_g hF_s11 ha (by decide))]) dX10_choose_94 ?_
            refine j_callV hx hG (c_X0_win hst r5 v23 v20 ((s0 a 3))) lk_RX10_69 q6.1 (by decide) rfl rfl rfl rfl [.int (zI v23), .int (zI v20), .int (zI ((s0 a 3)))] ⟨rfl, hG, hS_s12, q6.1, (by omega), (by omega), (by omega)⟩ rfl rfl ⟨by decide, by decide⟩ ⟨by decide, by decide⟩ (k2 := 0) (n2 := 0) rfl rfl (Nat.le_of_ble_eq_true rfl) dX10_choose_97 (kIM (fun v51 s21 hS_s21 hF_s21 q52 => ?_))
            refine j_pop hx dX10_choose_100 rfl ?_
            exact j_sub [4, 5, 6, 7, 3, 2, 1] [(0, .ref a), (1, .int (zI 8)), (2, .int (zI x2)), (3, .int (zI x3)), (4, .ref r1), (5, .ref r5), (6, .int (zI v20))] rfl (c101_13 s21 hS_s21 (zFr_t zFr_rf hF_s21 (by decide)))
      · skip
        exact j_sub [2, 4, 1] [(0, .ref a), (2, .int (zI x2)), (4, .ref r1)] rfl (c35_6 s11 hS_s11 (zFr_t zFr_rf hF_s11 (by decide)))

set_option maxHeartbeats 4000000 in
set_option maxRecDepth 20000 in
theorem c_X10_choose_7 {E : zE} {l : Launch} (hst : l.stackTraces = false) (a : Nat) (x1 : Int) (x2 : Int) (x3 : Int) : Con E l yX10_choose cX10_choose 8 none { frames := 8, cells := 0, slots := 0, locals := 194 } (fun G s vs => vs = [.ref a, .int (zI x1), .int (zI x2), .int (zI x3)] ∧ zGK G ∧ zSK G s ∧ (gT G a = 11) ∧ (7 ≤ x1 ∧ x1 ≤ 7) ∧ ((-2147483648) ≤ x2 ∧ x2 ≤ 2147483647) ∧ (0 ≤ x3 ∧ x3 ≤ 4)) (fun G s _ => pV (fun G2 s2 => G2 = G ∧ zSK G s2 ∧ zFr [1, 7, 11, 41] G s s2 ∧ True)) := by
  refine Con.mk hst (by decide) (fun G s vs h => by rw [h.1]; exact Nat.le_of_ble_eq_true rfl) ?_
  rintro X G s0 vs ⟨rfl, hG, hS0, ha, hx1, hx2, hx3⟩ rfl hx hq
  obtain rfl : x1 = 7 := by omega
  show JJ X E 8 G s0 0 0 [(0, .ref a), (1, .int (zI 7)), (2, .int (zI x2)), (3, .int (zI x3))] 0 []
  refine j_aload_n hx 0 dX10_choose_0 rfl ?_
  refine j_iload_n hx 1 dX10_choose_1 rfl ?_
  refine j_callV hx hG (c_X10_boardAt hst a 7) lk_RX10_22 ha (by decide) rfl rfl rfl rfl [.int (zI 7)] ⟨rfl, hG, hS0, ha, (by omega)⟩ rfl rfl ⟨by decide, by decide⟩ ⟨by decide, by decide⟩ (k2 := 0) (n2 := 0) rfl rfl (Nat.le_of_ble_eq_true rfl) dX10_choose_2 (kNP (fun _ => ?_) (fun r1 q2 => ?_))
  · skip
    refine j_astoreN hx [(4, .null), (0, .ref a), (1, .int (zI 7)), (2, .int (zI x2)), (3, .int (zI x3))] dX10_choose_5 (by decide) rfl ?_
    refine j_aload_n hx 1 dX10_choose_7 rfl ?_
    refine j_iload_n hx 2 dX10_choose_8 rfl ?_
    refine j_iconst hx dX10_choose_9 ?_
    refine j_iadd hx (r := 8) dX10_choose_10 (by omega) ?_
    refine j_callV hx hG (c_X10_boardAt hst a 8) lk_RX10_22 ha (by decide) rfl rfl rfl rfl [.int (zI 8)] ⟨rfl, hG, hS0, ha, (by omega)⟩ rfl rfl ⟨by decide, by decide⟩ ⟨by decide, by decide⟩ (k2 := 0) (n2 := 0) rfl rfl (Nat.le_of_ble_eq_true rfl) dX10_choose_11 (kNP (fun _ => ?_) (fun r3 q4 => ?_))
    · skip
      refine j_astoreN hx [(5, .null), (4, .null), (0, .ref a), (1, .int (zI 7)), (2, .int (zI x2)), (3, .int (zI x3))] dX10_choose_14 (by decide) rfl ?_
      refine j_aloadN hx 1 dX10_choose_16 rfl ?_
      refine j_ifnonnullN hx dX10_choose_18 ?_
      exact j_vret hx hq rfl (by decide) (by decide) dX10_choose_21 ⟨rfl, rfl, hS0, zFr_rf, trivial⟩
    · skip
      refine j_astore hx [(5, .ref r3), (4, .null), (0, .ref a), (1, .int (zI 7)), (2, .int (zI x2)), (3, .int (zI x3))] dX10_choose_14 (by decide) rfl ?_
      refine j_aloadN hx 1 dX10_choose_16 rfl ?_
      refine j_ifnonnullN hx dX10_choose_18 ?_
      exact j_vret hx hq rfl (by decide) (by decide) dX10_choose_21 ⟨rfl, rfl, hS0, zFr_rf, trivial⟩
  · skip
    refine j_astore hx [(4, .ref r1), (0, .ref a), (1, .int (zI 7)), (2, .int (zI x2)), (3, .int (zI x3))] dX10_choose_5 (by decide) rfl ?_
    refine j_aload_n hx 1 dX10_choose_7 rfl ?_
    refine j_iload_n hx 2 dX10_choose_8 rfl ?_
    refine j_iconst hx dX10_choose_9 ?_
    refine j_iadd hx (r := 8) dX10_choose_10 (by omega) ?_
    refine j_callV hx hG (c_X10_boardAt hst a 8) lk_RX10_22 ha (by decide) rfl rfl rfl rfl [.int (zI 8)] ⟨rfl, hG, hS0, ha, (by omega)⟩ rfl rfl ⟨by decide, by decide⟩ ⟨by decide, by decide⟩ (k2 := 0) (n2 := 0) rfl rfl (Nat.le_of_ble_eq_true rfl) dX10_choose_11 (kNP (fun _ => ?_) (fun r5 q6 => ?_))
    · skip
      refine j_astoreN hx [(5, .null), (4, .ref r1), (0, .ref a), (1, .int (zI 7)), (2, .int (zI x2)), (3, .int (zI x3))] dX10_choose_14 (by decide) rfl ?_
      refine j_aload hx 1 dX10_choose_16 rfl ?_
      refine j_ifnonnull hx 22 dX10_choose_18 rfl ?_
      refine j_aloadN hx 0 dX10_choose_22 rfl ?_
      have c35_1 : ∀ (s2 : zS), (zSK G s2) → (zFr [1, 7, 41] G s0 s2) → JJ X E 8 G s2 0 0 [(0, .ref a), (2, .int (zI x2)), (4, .ref r1)] 35 [] := by
        intro s2 hS_s2 hF_s2
        refine j_aload_n hx 0 dX10_choose_35 rfl ?_
        refine j_aload hx 2 dX10_choose_36 rfl ?_
        refine j_aload_n hx 0 dX10_choose_38 rfl ?_
        have f7 := zf hS0 ha (k := 2) rfl
        refine g11_2 hx hG ha kf_RX10_41 (v := (s0 a 2)) (by rw [(zFr_g hF_s2 ha (by decide))]) dX10_choose_39 ?_
        refine j_callV hx hG (c_X0_cardsOf hst r1 ((s0 a 2))) lk_RX10_58 q2.1 (by decide) rfl rfl rfl rfl [.int (zI ((s0 a 2)))] ⟨rfl, hG, hS_s2, q2.1, (by omega)⟩ rfl rfl ⟨by decide, by decide⟩ ⟨by decide, by decide⟩ (k2 := 0) (n2 := 0) rfl rfl (Nat.le_of_ble_eq_true rfl) dX10_choose_42 (kIP (fun v8 q9 => ?_))
        refine j_iload_n hx 1 dX10_choose_45 rfl ?_
        refine j_callV hx hG (c_X10_keepBetter hst a v8 x2) lk_RX10_62 ha (by decide) rfl rfl rfl rfl [.int (zI v8), .int (zI x2)] ⟨rfl, hG, hS_s2, ha, (by omega), (by omega)⟩ rfl rfl ⟨by decide, by decide⟩ ⟨by decide, by decide⟩ (k2 := 0) (n2 := 0) rfl rfl (Nat.le_of_ble_eq_true rfl) dX10_choose_46 (kVM (fun s5 hS_s5 hF_s5 q11 => ?_))
        exact j_vret hx hq rfl (by decide) (by decide) dX10_choose_49 ⟨rfl, rfl, hS_s5, (zFr_t (zFr_t zFr_rf hF_s2 (by decide)) hF_s5 (by decide)), trivial⟩
      refine j_ifnullN hx 35 dX10_choose_24 rfl ?_
      exact j_sub [2, 4, 1] [(0, .ref a), (2, .int (zI x2)), (4, .ref r1)] rfl (c35_1 s0 hS0 zFr_rf)
    · skip
      refine j_astore hx [(5, .ref r5), (4, .ref r1), (0, .ref a), (1, .int (zI 7)), (2, .int (zI x2)), (3, .int (zI x3))] dX10_choose_14 (by decide) rfl ?_
      refine j_aload hx 1 dX10_choose_16 rfl ?_
      refine j_ifnonnull hx 22 dX10_choose_18 rfl ?_
      refine j_aload hx 0 dX10_choose_22 rfl ?_
      have c35_6 : ∀ (s7 : zS), (zSK G s7) → (zFr [1, 7, 41] G s0 s7) → JJ X E 8 G s7 0 0 [(0, .ref a), (2, .int (zI x2)), (4, .ref r1)] 35 [] := by
        intro s7 hS_s7 hF_s7
        refine j_aload_n hx 0 dX10_choose_35 rfl ?_
        refine j_aload hx 2 dX10_choose_36 rfl ?_
        refine j_aload_n hx 0 dX10_choose_38 rfl ?_
        have f12 := zf hS0 ha (k := 2) rfl
        refine g11_2 hx hG ha kf_RX10_41 (v := (s0 a 2)) (by rw [(zFr_g hF_s7 ha (by decide))]) dX10_choose_39 ?_
        refine j_callV hx hG (c_X0_cardsOf hst r1 ((s0 a 2))) lk_RX10_58 q2.1 (by decide) rfl rfl rfl rfl [.int (zI ((s0 a 2)))] ⟨rfl, hG, hS_s7, q2.1, (by omega)⟩ rfl rfl ⟨by decide, by decide⟩ ⟨by decide, by decide⟩ (k2 := 0) (n2 := 0) rfl rfl (Nat.le_of_ble_eq_true rfl) dX10_choose_42 (kIP (fun v13 q14 => ?_))
        refine j_iload_n hx 1 dX10_choose_45 rfl ?_
        refine j_callV hx hG (c_X10_keepBetter hst a v13 x2) lk_RX10_62 ha (by decide) rfl rfl rfl rfl [.int (zI v13), .int (zI x2)] ⟨rfl, hG, hS_s7, ha, (by omega), (by omega)⟩ rfl rfl ⟨by decide, by decide⟩ ⟨by decide, by decide⟩ (k2 := 0) (n2 := 0) rfl rfl (Nat.le_of_ble_eq_true rfl) dX10_choose_46 (kVM (fun s10 hS_s10 hF_s10 q16 => ?_))
        exact j_vret hx hq rfl (by decide) (by decide) dX10_choose_49 ⟨rfl, rfl, hS_s10, (zFr_t (zFr_t zFr_rf hF_s7 (by decide)) hF_s10 (by decide)), trivial⟩
      refine j_ifnull hx dX10_choose_24 ?_
      refine j_aload hx 1 dX10_choose_27 rfl ?_
      refine j_callV hx hG (c_X0_step hst r1) lk_RX10_33 q2.1 (by decide) rfl rfl rfl rfl [] ⟨rfl, hG, hS0, q2.1⟩ rfl rfl ⟨by decide, by decide⟩ ⟨by decide, by decide⟩ (k2 := 0) (n2 := 0) rfl rfl (Nat.le_of_ble_eq_true rfl) dX10_choose_29 (kIM (fun v17 s11 hS_s11 hF_s11 q18 => ?_))
      refine j_if_ne hx 50 dX10_choose_32 rfl (by omega) (fun h19 => ?_) (fun h19 => ?_)
      · skip
        refine j_aload hx 1 dX10_choose_50 rfl ?_
        refine j_callV hx hG (c_X0_likeTops hst r1) lk_RX10_37 q2.1 (by decide) rfl rfl rfl rfl [] ⟨rfl, hG, hS_s11, q2.1⟩ rfl rfl ⟨by decide, by decide⟩ ⟨by decide, by decide⟩ (k2 := 0) (n2 := 0) rfl rfl (Nat.le_of_ble_eq_true rfl) dX10_choose_52 (kIP (fun v20 q21 => ?_))
        refine j_istore hx [(6, .int (zI v20)), (5, .ref r5), (4, .ref r1), (0, .ref a), (1, .int (zI 7)), (2, .int (zI x2)), (3, .int (zI x3))] dX10_choose_55 (by decide) rfl ?_
        refine j_aload hx 2 dX10_choose_57 rfl ?_
        refine j_aload_n hx 3 dX10_choose_59 rfl ?_
        have f22 := zf hS0 ha (k := 2) rfl
        refine g11_2 hx hG ha kf_RX10_41 (v := (s0 a 2)) (by rw [(zFr_g hF_s11 ha (by decide))]) dX10_choose_60 ?_
        refine j_callV hx hG (c_X0_following hst r1 ((s0 a 2))) lk_RX10_66 q2.1 (by decide) rfl rfl rfl rfl [.int (zI ((s0 a 2)))] ⟨rfl, hG, hS_s11, q2.1, (by omega)⟩ rfl rfl ⟨by decide, by decide⟩ ⟨by decide, by decide⟩ (k2 := 0) (n2 := 0) rfl rfl (Nat.le_of_ble_eq_true rfl) dX10_choose_63 (kIP (fun v23 q24 => ?_))
        refine j_istore hx [(7, .int (zI v23)), (6, .int (zI v20)), (5, .ref r5), (4, .ref r1), (0, .ref a), (1, .int (zI 7)), (2, .int (zI x2)), (3, .int (zI x3))] dX10_choose_66 (by decide) rfl ?_
        refine j_aload hx 2 dX10_choose_68 rfl ?_
        refine j_aload hx 3 dX10_choose_70 rfl ?_
        refine j_callV hx hG (c_X0_become hst r5 r1) lk_RX10_26 q6.1 (by decide) rfl rfl rfl rfl [.ref r1] ⟨rfl, hG, hS_s11, q6.1, q2.1⟩ rfl rfl ⟨by decide, by decide⟩ ⟨by decide, by decide⟩ (k2 := 0) (n2 := 0) rfl rfl (Nat.le_of_ble_eq_true rfl) dX10_choose_72 (kVM (fun s12 hS_s12 hF_s12 q26 => ?_))
        refine j_iload hx 1 dX10_choose_75 rfl ?_
        refine j_iconst hx dX10_choose_77 ?_
        have c101_13 : ∀ (s14 : zS), (zSK G s14) → (zFr [7, 41] G s12 s14) → JJ X E 8 G s14 0 0 [(0, .ref a), (1, .int (zI 7)), (2, .int (zI x2)), (3, .int (zI x3)), (4, .ref r1), (5, .ref r5), (6, .int (zI v20))] 101 [] := by
          intro s14 hS_s14 hF_s14
          refine j_aload_n hx 0 dX10_choose_101 rfl ?_
          refine j_iload_n hx 1 dX10_choose_102 rfl ?_
          refine j_iconst hx dX10_choose_103 ?_
          refine j_iadd hx (r := 8) dX10_choose_104 (by omega) ?_
          refine j_iload_n hx 2 dX10_choose_105 rfl ?_
          refine j_iload_n hx 3 dX10_choose_106 rfl ?_
          refine j_callV hx hG (c_X10_choose_8 hst a 8 x2 x3) lk_RX10_54 ha (by decide) rfl rfl rfl rfl [.int (zI 8), .int (zI x2), .int (zI x3)] ⟨rfl, hG, hS_s14, ha, (by omega), (by omega), (by omega)⟩ rfl rfl ⟨by decide, by decide⟩ ⟨by decide, by decide⟩ (k2 := 0) (n2 := 0) rfl rfl (Nat.le_of_ble_eq_true rfl) dX10_choose_107 (kVM (fun s17 hS_s17 hF_s17 q28 => ?_))
          refine j_iload hx 6 dX10_choose_110 rfl ?_
          refine j_iconst hx dX10_choose_112 ?_
          refine j_icmp_eq hx 170 dX10_choose_113 rfl (by omega) ⟨by decide, by decide⟩ (fun h29 => ?_) (fun h29 => ?_)
          · skip
            exact j_vret hx hq rfl (by decide) (by decide) dX10_choose_170 ⟨rfl, rfl, hS_s17, (zFr_t (zFr_t (zFr_t (zFr_t zFr_rf hF_s11 (by decide)) hF_s12 (by decide)) hF_s14 (by decide)) hF_s17 (by decide)), trivial⟩
          · skip
            refine j_iload_n hx 3 dX10_choose_116 rfl ?_
            refine j_if_le hx 170 dX10_choose_117 rfl (by omega) (fun h30 => ?_) (fun h30 => ?_)
            · skip
              exact j_vret hx hq rfl (by decide) (by decide) dX10_choose_170 ⟨rfl, rfl, hS_s17, (zFr_t (zFr_t (zFr_t (zFr_t zFr_rf hF_s11 (by decide)) hF_s12 (by decide)) hF_s14 (by decide)) hF_s17 (by decide)), trivial⟩
            · skip
              refine j_aload hx 4 dX10_choose_120 rfl ?_
              refine j_aload_n hx 0 dX10_choose_122 rfl ?_
              have f31 := zf hS_s17 ha (k := 2) rfl
              refine g11_2 hx hG ha kf_RX10_41 rfl dX10_choose_123 ?_
              refine j_callV hx hG (c_X0_isOut hst r1 ((s17 a 2))) lk_RX10_73 q2.1 (by decide) rfl rfl rfl rfl [.int (zI ((s17 a 2)))] ⟨rfl, hG, hS_s17, q2.1, (by omega)⟩ rfl rfl ⟨by decide, by decide⟩ ⟨by decide, by decide⟩ (k2 := 0) (n2 := 0) rfl rfl (Nat.le_of_ble_eq_true rfl) dX10_choose_126 (kIP (fun v32 q33 => ?_))
              refine j_if_ne hx 170 dX10_choose_129 rfl (by omega) (fun h34 => ?_) (fun h34 => ?_)
              · skip
                exact j_vret hx hq rfl (by decide) (by decide) dX10_choose_170 ⟨rfl, rfl, hS_s17, (zFr_t (zFr_t (zFr_t (zFr_t zFr_rf hF_s11 (by decide)) hF_s12 (by decide)) hF_s14 (by decide)) hF_s17 (by decide)), trivial⟩
              · skip
                refine j_aload hx 5 dX10_choose_132 rfl ?_
                refine j_aload hx 4 dX10_choose_134 rfl ?_
                refine j_callV hx hG (c_X0_become hst r5 r1) lk_RX10_26 q6.1 (by decide) rfl rfl rfl rfl [.ref r1] ⟨rfl, hG, hS_s17, q6.1, q2.1⟩ rfl rfl ⟨by decide, by decide⟩ ⟨by decide, by decide⟩ (k2 := 0) (n2 := 0) rfl rfl (Nat.le_of_ble_eq_true rfl) dX10_choose_136 (kVM (fun s18 hS_s18 hF_s18 q36 => ?_))
                refine j_aload hx 5 dX10_choose_139 rfl ?_
                refine j_aload_n hx 0 dX10_choose_141 rfl ?_
                refine g11_2 hx hG ha kf_RX10_41 (v := (s17 a 2)) (by rw [(zFr_g hF_s18 ha (by decide))]) dX10_choose_142 ?_
                refine j_iload hx 6 dX10_choose_145 rfl ?_
                refine j_aload_n hx 0 dX10_choose_147 rfl ?_
                have f37 := zf hS_s17 ha (k := 3) rfl
                refine g11_3 hx hG ha kf_RX10_45 (v := (s17 a 3)) (by rw [(zFr_g hF_s18 ha (by decide))]) dX10_choose_148 ?_
                refine j_callV hx hG (c_X0_win hst r5 ((s17 a 2)) v20 ((s17 a 3))) lk_RX10_69 q6.1 (by decide) rfl rfl rfl rfl [.int (zI ((s17 a 2))), .int (zI v20), .int (zI ((s17 a 3)))] ⟨rfl, hG, hS_s18, q6.1, (by omega), (by omega), (by omega)⟩ rfl rfl ⟨by decide, by decide⟩ ⟨by decide, by decide⟩ (k2 := 0) (n2 := 0) rfl rfl (Nat.le_of_ble_eq_true rfl) dX10_choose_151 (kIM (fun v38 s19 hS_s19 hF_s19 q39 => ?_))
                refine j_pop hx dX10_choose_154 rfl ?_
                refine j_aload_n hx 0 dX10_choose_155 rfl ?_
                refine j_iload_n hx 1 dX10_choose_156 rfl ?_
                refine j_iconst hx dX10_choose_157 ?_
                refine j_iadd hx (r := 8) dX10_choose_158 (by omega) ?_
                refine j_iload_n hx 2 dX10_choose_159 rfl ?_
                refine j_iconst hx dX10_choose_160 ?_
                refine j_iload_n hx 1 dX10_choose_161 rfl ?_
                refine j_ishl hx dX10_choose_162 (fun v40 f41 f42 => ?_)
                refine j_ior hx dX10_choose_163 (fun v43 f44 f45 => ?_)
                refine j_iload_n hx 3 dX10_choose_164 rfl ?_
                refine j_iconst hx dX10_choose_165 ?_
                refine j_isub hx (r := x3 - 1) dX10_choose_166 rfl ?_
                refine j_callV hx hG (c_X10_choose_8 hst a 8 v43 (x3 - 1)) lk_RX10_54 ha (by decide) rfl rfl rfl rfl [.int (zI 8), .int (zI v43), .int (zI (x3 - 1))] ⟨rfl, hG, hS_s19, ha, (by omega), (by omega), (by omega)⟩ rfl rfl ⟨by decide, by decide⟩ ⟨by decide, by decide⟩ (k2 := 0) (n2 := 0) rfl rfl (Nat.le_of_ble_eq_true rfl) dX10_choose_167 (kVM (fun s20 hS_s20 hF_s20 q47 => ?_))
                exact j_vret hx hq rfl (by decide) (by decide) dX10_choose_170 ⟨rfl, rfl, hS_s20, (zFr_t (zFr_t (zFr_t (zFr_t (zFr_t (zFr_t (zFr_t zFr_rf hF_s11 (by decide)) hF_s12 (by decide)) hF_s14 (by decide)) hF_s17 (by decide)) hF_s18 (by decide)) hF_s19 (by decide)) hF_s20 (by decide)), trivial⟩
        refine j_icmp_eq hx 101 dX10_choose_78 rfl (by omega) ⟨by decide, by decide⟩ (fun h48 => ?_) (fun h48 => ?_)
        · skip
          exact j_sub [4, 5, 6, 7, 3, 2, 1] [(0, .ref a), (1, .int (zI 7)), (2, .int (zI x2)), (3, .int (zI x3)), (4, .ref r1), (5, .ref r5), (6, .int (zI v20))] rfl (c101_13 s12 hS_s12 zFr_rf)
        · skip
          refine j_iload hx 0 dX10_choose_81 rfl ?_
          refine j_iconst hx dX10_choose_83 ?_
          refine j_icmp_eq hx 101 dX10_choose_84 rfl (by omega) ⟨by decide, by decide⟩ (fun h49 => ?_) (fun h49 => ?_)
          · skip
            exact j_sub [4, 5, 6, 7, 3, 2, 1] [(0, .ref a), (1, .int (zI 7)), (2, .int (zI x2)), (3, .int (zI x3)), (4, .ref r1), (5, .ref r5), (6, .int (zI v20))] rfl (c101_13 s12 hS_s12 zFr_rf)
          · skip
            refine j_aload hx 2 dX10_choose_87 rfl ?_
            refine j_iload hx 0 dX10_choose_89 rfl ?_
            refine j_iload hx 1 dX10_choose_91 rfl ?_
            refine j_aload_n hx 4 dX10_choose_93 rfl ?_
            have f50 := zf hS0 ha (k := 3) rfl
            refine g11_3 hx hG ha kf_RX10_45 (v := (s0 a 3)) (by rw [(zFr_g hF_s12 ha (by decide)), (zFr_g hF_s11 ha (by decide))]) dX10_choose_94 ?_
            refine j_callV hx hG (c_X0_win hst r5 v23 v20 ((s0 a 3))) lk_RX10_69 q6.1 (by decide) rfl rfl rfl rfl [.int (zI v23), .int (zI v20), .int (zI ((s0 a 3)))] ⟨rfl, hG, hS_s12, q6.1, (by omega), (by omega), (by omega)⟩ rfl rfl ⟨by decide, by decide⟩ ⟨by decide, by decide⟩ (k2 := 0) (n2 := 0) rfl rfl (Nat.le_of_ble_eq_true rfl) dX10_choose_97 (kIM (fun v51 s21 hS_s21 hF_s21 q52 => ?_))
            refine j_pop hx dX10_choose_100 rfl ?_
            exact j_sub [4, 5, 6, 7, 3, 2, 1] [(0, .ref a), (1, .int (zI 7)), (2, .int (zI x2)), (3, .int (zI x3)), (4, .ref r1), (5, .ref r5), (6, .int (zI v20))] rfl (c101_13 s21 hS_s21 (zFr_t zFr_rf hF_s21 (by decide)))
      · skip
        exact j_sub [2, 4, 1] [(0, .ref a), (2, .int (zI x2)), (4, .ref r1)] rfl (c35_6 s11 hS_s11 (zFr_t zFr_rf hF_s11 (by decide)))

set_option maxHeartbeats 4000000 in
set_option maxRecDepth 20000 in
theorem c_X10_choose_6 {E : zE} {l : Launch} (hst : l.stackTraces = false) (a : Nat) (x1 : Int) (x2 : Int) (x3 : Int) : Con E l yX10_choose cX10_choose 8 none { frames := 9, cells := 0, slots := 0, locals := 221 } (fun G s vs => vs = [.ref a, .int (zI x1), .int (zI x2), .int (zI x3)] ∧ zGK G ∧ zSK G s ∧ (gT G a = 11) ∧ (6 ≤ x1 ∧ x1 ≤ 6) ∧ ((-2147483648) ≤ x2 ∧ x2 ≤ 2147483647) ∧ (0 ≤ x3 ∧ x3 ≤ 4)) (fun G s _ => pV (fun G2 s2 => G2 = G ∧ zSK G s2 ∧ zFr [1, 7, 11, 41] G s s2 ∧ True)) := by
  refine Con.mk hst (by decide) (fun G s vs h => by rw [h.1]; exact Nat.le_of_ble_eq_true rfl) ?_
  rintro X G s0 vs ⟨rfl, hG, hS0, ha, hx1, hx2, hx3⟩ rfl hx hq
  obtain rfl : x1 = 6 := by omega
  show JJ X E 8 G s0 0 0 [(0, .ref a), (1, .int (zI 6)), (2, .int (zI x2)), (3, .int (zI x3))] 0 []
  refine j_aload_n hx 0 dX10_choose_0 rfl ?_
  refine j_iload_n hx 1 dX10_choose_1 rfl ?_
  refine j_callV hx hG (c_X10_boardAt hst a 6) lk_RX10_22 ha (by decide) rfl rfl rfl rfl [.int (zI 6)] ⟨rfl, hG, hS0, ha, (by omega)⟩ rfl rfl ⟨by decide, by decide⟩ ⟨by decide, by decide⟩ (k2 := 0) (n2 := 0) rfl rfl (Nat.le_of_ble_eq_true rfl) dX10_choose_2 (kNP (fun _ => ?_) (fun r1 q2 => ?_))
  · skip
    refine j_astoreN hx [(4, .null), (0, .ref a), (1, .int (zI 6)), (2, .int (zI x2)), (3, .int (zI x3))] dX10_choose_5 (by decide) rfl ?_
    refine j_aload_n hx 1 dX10_choose_7 rfl ?_
    refine j_iload_n hx 2 dX10_choose_8 rfl ?_
    refine j_iconst hx dX10_choose_9 ?_
    refine j_iadd hx (r := 7) dX10_choose_10 (by omega) ?_
    refine j_callV hx hG (c_X10_boardAt hst a 7) lk_RX10_22 ha (by decide) rfl rfl rfl rfl [.int (zI 7)] ⟨rfl, hG, hS0, ha, (by omega)⟩ rfl rfl ⟨by decide, by decide⟩ ⟨by decide, by decide⟩ (k2 := 0) (n2 := 0) rfl rfl (Nat.le_of_ble_eq_true rfl) dX10_choose_11 (kNP (fun _ => ?_) (fun r3 q4 => ?_))
    · skip
      refine j_astoreN hx [(5, .null), (4, .null), (0, .ref a), (1, .int (zI 6)), (2, .int (zI x2)), (3, .int (zI x3))] dX10_choose_14 (by decide) rfl ?_
      refine j_aloadN hx 1 dX10_choose_16 rfl ?_
      refine j_ifnonnullN hx dX10_choose_18 ?_
      exact j_vret hx hq rfl (by decide) (by decide) dX10_choose_21 ⟨rfl, rfl, hS0, zFr_rf, trivial⟩
    · skip
      refine j_astore hx [(5, .ref r3), (4, .null), (0, .ref a), (1, .int (zI 6)), (2, .int (zI x2)), (3, .int (zI x3))] dX10_choose_14 (by decide) rfl ?_
      refine j_aloadN hx 1 dX10_choose_16 rfl ?_
      refine j_ifnonnullN hx dX10_choose_18 ?_
      exact j_vret hx hq rfl (by decide) (by decide) dX10_choose_21 ⟨rfl, rfl, hS0, zFr_rf, trivial⟩
  · skip
    refine j_astore hx [(4, .ref r1), (0, .ref a), (1, .int (zI 6)), (2, .int (zI x2)), (3, .int (zI x3))] dX10_choose_5 (by decide) rfl ?_
    refine j_aload_n hx 1 dX10_choose_7 rfl ?_
    refine j_iload_n hx 2 dX10_choose_8 rfl ?_
    refine j_iconst hx dX10_choose_9 ?_
    refine j_iadd hx (r := 7) dX10_choose_10 (by omega) ?_
    refine j_callV hx hG (c_X10_boardAt hst a 7) lk_RX10_22 ha (by decide) rfl rfl rfl rfl [.int (zI 7)] ⟨rfl, hG, hS0, ha, (by omega)⟩ rfl rfl ⟨by decide, by decide⟩ ⟨by decide, by decide⟩ (k2 := 0) (n2 := 0) rfl rfl (Nat.le_of_ble_eq_true rfl) dX10_choose_11 (kNP (fun _ => ?_) (fun r5 q6 => ?_))
    · skip
      refine j_astoreN hx [(5, .null), (4, .ref r1), (0, .ref a), (1, .int (zI 6)), (2, .int (zI x2)), (3, .int (zI x3))] dX10_choose_14 (by decide) rfl ?_
      refine j_aload hx 1 dX10_choose_16 rfl ?_
      refine j_ifnonnull hx 22 dX10_choose_18 rfl ?_
      refine j_aloadN hx 0 dX10_choose_22 rfl ?_
      have c35_1 : ∀ (s2 : zS), (zSK G s2) → (zFr [1, 7, 41] G s0 s2) → JJ X E 8 G s2 0 0 [(0, .ref a), (2, .int (zI x2)), (4, .ref r1)] 35 [] := by
        intro s2 hS_s2 hF_s2
        refine j_aload_n hx 0 dX10_choose_35 rfl ?_
        refine j_aload hx 2 dX10_choose_36 rfl ?_
        refine j_aload_n hx 0 dX10_choose_38 rfl ?_
        have f7 := zf hS0 ha (k := 2) rfl
        refine g11_2 hx hG ha kf_RX10_41 (v := (s0 a 2)) (by rw [(zFr_g hF_s2 ha (by decide))]) dX10_choose_39 ?_
        refine j_callV hx hG (c_X0_cardsOf hst r1 ((s0 a 2))) lk_RX10_58 q2.1 (by decide) rfl rfl rfl rfl [.int (zI ((s0 a 2)))] ⟨rfl, hG, hS_s2, q2.1, (by omega)⟩ rfl rfl ⟨by decide, by decide⟩ ⟨by decide, by decide⟩ (k2 := 0) (n2 := 0) rfl rfl (Nat.le_of_ble_eq_true rfl) dX10_choose_42 (kIP (fun v8 q9 => ?_))
        refine j_iload_n hx 1 dX10_choose_45 rfl ?_
        refine j_callV hx hG (c_X10_keepBetter hst a v8 x2) lk_RX10_62 ha (by decide) rfl rfl rfl rfl [.int (zI v8), .int (zI x2)] ⟨rfl, hG, hS_s2, ha, (by omega), (by omega)⟩ rfl rfl ⟨by decide, by decide⟩ ⟨by decide, by decide⟩ (k2 := 0) (n2 := 0) rfl rfl (Nat.le_of_ble_eq_true rfl) dX10_choose_46 (kVM (fun s5 hS_s5 hF_s5 q11 => ?_))
        exact j_vret hx hq rfl (by decide) (by decide) dX10_choose_49 ⟨rfl, rfl, hS_s5, (zFr_t (zFr_t zFr_rf hF_s2 (by decide)) hF_s5 (by decide)), trivial⟩
      refine j_ifnullN hx 35 dX10_choose_24 rfl ?_
      exact j_sub [2, 4, 1] [(0, .ref a), (2, .int (zI x2)), (4, .ref r1)] rfl (c35_1 s0 hS0 zFr_rf)
    · skip
      refine j_astore hx [(5, .ref r5), (4, .ref r1), (0, .ref a), (1, .int (zI 6)), (2, .int (zI x2)), (3, .int (zI x3))] dX10_choose_14 (by decide) rfl ?_
      refine j_aload hx 1 dX10_choose_16 rfl ?_
      refine j_ifnonnull hx 22 dX10_choose_18 rfl ?_
      refine j_aload hx 0 dX10_choose_22 rfl ?_
      have c35_6 : ∀ (s7 : zS), (zSK G s7) → (zFr [1, 7, 41] G s0 s7) → JJ X E 8 G s7 0 0 [(0, .ref a), (2, .int (zI x2)), (4, .ref r1)] 35 [] := by
        intro s7 hS_s7 hF_s7
        refine j_aload_n hx 0 dX10_choose_35 rfl ?_
        refine j_aload hx 2 dX10_choose_36 rfl ?_
        refine j_aload_n hx 0 dX10_choose_38 rfl ?_
        have f12 := zf hS0 ha (k := 2) rfl
        refine g11_2 hx hG ha kf_RX10_41 (v := (s0 a 2)) (by rw [(zFr_g hF_s7 ha (by decide))]) dX10_choose_39 ?_
        refine j_callV hx hG (c_X0_cardsOf hst r1 ((s0 a 2))) lk_RX10_58 q2.1 (by decide) rfl rfl rfl rfl [.int (zI ((s0 a 2)))] ⟨rfl, hG, hS_s7, q2.1, (by omega)⟩ rfl rfl ⟨by decide, by decide⟩ ⟨by decide, by decide⟩ (k2 := 0) (n2 := 0) rfl rfl (Nat.le_of_ble_eq_true rfl) dX10_choose_42 (kIP (fun v13 q14 => ?_))
        refine j_iload_n hx 1 dX10_choose_45 rfl ?_
        refine j_callV hx hG (c_X10_keepBetter hst a v13 x2) lk_RX10_62 ha (by decide) rfl rfl rfl rfl [.int (zI v13), .int (zI x2)] ⟨rfl, hG, hS_s7, ha, (by omega), (by omega)⟩ rfl rfl ⟨by decide, by decide⟩ ⟨by decide, by decide⟩ (k2 := 0) (n2 := 0) rfl rfl (Nat.le_of_ble_eq_true rfl) dX10_choose_46 (kVM (fun s10 hS_s10 hF_s10 q16 => ?_))
        exact j_vret hx hq rfl (by decide) (by decide) dX10_choose_49 ⟨rfl, rfl, hS_s10, (zFr_t (zFr_t zFr_rf hF_s7 (by decide)) hF_s10 (by decide)), trivial⟩
      refine j_ifnull hx dX10_choose_24 ?_
      refine j_aload hx 1 dX10_choose_27 rfl ?_
      refine j_callV hx hG (c_X0_step hst r1) lk_RX10_33 q2.1 (by decide) rfl rfl rfl rfl [] ⟨rfl, hG, hS0, q2.1⟩ rfl rfl ⟨by decide, by decide⟩ ⟨by decide, by decide⟩ (k2 := 0) (n2 := 0) rfl rfl (Nat.le_of_ble_eq_true rfl) dX10_choose_29 (kIM (fun v17 s11 hS_s11 hF_s11 q18 => ?_))
      refine j_if_ne hx 50 dX10_choose_32 rfl (by omega) (fun h19 => ?_) (fun h19 => ?_)
      · skip
        refine j_aload hx 1 dX10_choose_50 rfl ?_
        refine j_callV hx hG (c_X0_likeTops hst r1) lk_RX10_37 q2.1 (by decide) rfl rfl rfl rfl [] ⟨rfl, hG, hS_s11, q2.1⟩ rfl rfl ⟨by decide, by decide⟩ ⟨by decide, by decide⟩ (k2 := 0) (n2 := 0) rfl rfl (Nat.le_of_ble_eq_true rfl) dX10_choose_52 (kIP (fun v20 q21 => ?_))
        refine j_istore hx [(6, .int (zI v20)), (5, .ref r5), (4, .ref r1), (0, .ref a), (1, .int (zI 6)), (2, .int (zI x2)), (3, .int (zI x3))] dX10_choose_55 (by decide) rfl ?_
        refine j_aload hx 2 dX10_choose_57 rfl ?_
        refine j_aload_n hx 3 dX10_choose_59 rfl ?_
        have f22 := zf hS0 ha (k := 2) rfl
        refine g11_2 hx hG ha kf_RX10_41 (v := (s0 a 2)) (by rw [(zFr_g hF_s11 ha (by decide))]) dX10_choose_60 ?_
        refine j_callV hx hG (c_X0_following hst r1 ((s0 a 2))) lk_RX10_66 q2.1 (by decide) rfl rfl rfl rfl [.int (zI ((s0 a 2)))] ⟨rfl, hG, hS_s11, q2.1, (by omega)⟩ rfl rfl ⟨by decide, by decide⟩ ⟨by decide, by decide⟩ (k2 := 0) (n2 := 0) rfl rfl (Nat.le_of_ble_eq_true rfl) dX10_choose_63 (kIP (fun v23 q24 => ?_))
        refine j_istore hx [(7, .int (zI v23)), (6, .int (zI v20)), (5, .ref r5), (4, .ref r1), (0, .ref a), (1, .int (zI 6)), (2, .int (zI x2)), (3, .int (zI x3))] dX10_choose_66 (by decide) rfl ?_
        refine j_aload hx 2 dX10_choose_68 rfl ?_
        refine j_aload hx 3 dX10_choose_70 rfl ?_
        refine j_callV hx hG (c_X0_become hst r5 r1) lk_RX10_26 q6.1 (by decide) rfl rfl rfl rfl [.ref r1] ⟨rfl, hG, hS_s11, q6.1, q2.1⟩ rfl rfl ⟨by decide, by decide⟩ ⟨by decide, by decide⟩ (k2 := 0) (n2 := 0) rfl rfl (Nat.le_of_ble_eq_true rfl) dX10_choose_72 (kVM (fun s12 hS_s12 hF_s12 q26 => ?_))
        refine j_iload hx 1 dX10_choose_75 rfl ?_
        refine j_iconst hx dX10_choose_77 ?_
        have c101_13 : ∀ (s14 : zS), (zSK G s14) → (zFr [7, 41] G s12 s14) → JJ X E 8 G s14 0 0 [(0, .ref a), (1, .int (zI 6)), (2, .int (zI x2)), (3, .int (zI x3)), (4, .ref r1), (5, .ref r5), (6, .int (zI v20))] 101 [] := by
          intro s14 hS_s14 hF_s14
          refine j_aload_n hx 0 dX10_choose_101 rfl ?_
          refine j_iload_n hx 1 dX10_choose_102 rfl ?_
          refine j_iconst hx dX10_choose_103 ?_
          refine j_iadd hx (r := 7) dX10_choose_104 (by omega) ?_
          refine j_iload_n hx 2 dX10_choose_105 rfl ?_
          refine j_iload_n hx 3 dX10_choose_106 rfl ?_
          refine j_callV hx hG (c_X10_choose_7 hst a 7 x2 x3) lk_RX10_54 ha (by decide) rfl rfl rfl rfl [.int (zI 7), .int (zI x2), .int (zI x3)] ⟨rfl, hG, hS_s14, ha, (by omega), (by omega), (by omega)⟩ rfl rfl ⟨by decide, by decide⟩ ⟨by decide, by decide⟩ (k2 := 0) (n2 := 0) rfl rfl (Nat.le_of_ble_eq_true rfl) dX10_choose_107 (kVM (fun s17 hS_s17 hF_s17 q28 => ?_))
          refine j_iload hx 6 dX10_choose_110 rfl ?_
          refine j_iconst hx dX10_choose_112 ?_
          refine j_icmp_eq hx 170 dX10_choose_113 rfl (by omega) ⟨by decide, by decide⟩ (fun h29 => ?_) (fun h29 => ?_)
          · skip
            exact j_vret hx hq rfl (by decide) (by decide) dX10_choose_170 ⟨rfl, rfl, hS_s17, (zFr_t (zFr_t (zFr_t (zFr_t zFr_rf hF_s11 (by decide)) hF_s12 (by decide)) hF_s14 (by decide)) hF_s17 (by decide)), trivial⟩
          · skip
            refine j_iload_n hx 3 dX10_choose_116 rfl ?_
            refine j_if_le hx 170 dX10_choose_117 rfl (by omega) (fun h30 => ?_) (fun h30 => ?_)
            · skip
              exact j_vret hx hq rfl (by decide) (by decide) dX10_choose_170 ⟨rfl, rfl, hS_s17, (zFr_t (zFr_t (zFr_t (zFr_t zFr_rf hF_s11 (by decide)) hF_s12 (by decide)) hF_s14 (by decide)) hF_s17 (by decide)), trivial⟩
            · skip
              refine j_aload hx 4 dX10_choose_120 rfl ?_
              refine j_aload_n hx 0 dX10_choose_122 rfl ?_
              have f31 := zf hS_s17 ha (k := 2) rfl
              refine g11_2 hx hG ha kf_RX10_41 rfl dX10_choose_123 ?_
              refine j_callV hx hG (c_X0_isOut hst r1 ((s17 a 2))) lk_RX10_73 q2.1 (by decide) rfl rfl rfl rfl [.int (zI ((s17 a 2)))] ⟨rfl, hG, hS_s17, q2.1, (by omega)⟩ rfl rfl ⟨by decide, by decide⟩ ⟨by decide, by decide⟩ (k2 := 0) (n2 := 0) rfl rfl (Nat.le_of_ble_eq_true rfl) dX10_choose_126 (kIP (fun v32 q33 => ?_))
              refine j_if_ne hx 170 dX10_choose_129 rfl (by omega) (fun h34 => ?_) (fun h34 => ?_)
              · skip
                exact j_vret hx hq rfl (by decide) (by decide) dX10_choose_170 ⟨rfl, rfl, hS_s17, (zFr_t (zFr_t (zFr_t (zFr_t zFr_rf hF_s11 (by decide)) hF_s12 (by decide)) hF_s14 (by decide)) hF_s17 (by decide)), trivial⟩
              · skip
                refine j_aload hx 5 dX10_choose_132 rfl ?_
                refine j_aload hx 4 dX10_choose_134 rfl ?_
                refine j_callV hx hG (c_X0_become hst r5 r1) lk_RX10_26 q6.1 (by decide) rfl rfl rfl rfl [.ref r1] ⟨rfl, hG, hS_s17, q6.1, q2.1⟩ rfl rfl ⟨by decide, by decide⟩ ⟨by decide, by decide⟩ (k2 := 0) (n2 := 0) rfl rfl (Nat.le_of_ble_eq_true rfl) dX10_choose_136 (kVM (fun s18 hS_s18 hF_s18 q36 => ?_))
                refine j_aload hx 5 dX10_choose_139 rfl ?_
                refine j_aload_n hx 0 dX10_choose_141 rfl ?_
                refine g11_2 hx hG ha kf_RX10_41 (v := (s17 a 2)) (by rw [(zFr_g hF_s18 ha (by decide))]) dX10_choose_142 ?_
                refine j_iload hx 6 dX10_choose_145 rfl ?_
                refine j_aload_n hx 0 dX10_choose_147 rfl ?_
                have f37 := zf hS_s17 ha (k := 3) rfl
                refine g11_3 hx hG ha kf_RX10_45 (v := (s17 a 3)) (by rw [(zFr_g hF_s18 ha (by decide))]) dX10_choose_148 ?_
                refine j_callV hx hG (c_X0_win hst r5 ((s17 a 2)) v20 ((s17 a 3))) lk_RX10_69 q6.1 (by decide) rfl rfl rfl rfl [.int (zI ((s17 a 2))), .int (zI v20), .int (zI ((s17 a 3)))] ⟨rfl, hG, hS_s18, q6.1, (by omega), (by omega), (by omega)⟩ rfl rfl ⟨by decide, by decide⟩ ⟨by decide, by decide⟩ (k2 := 0) (n2 := 0) rfl rfl (Nat.le_of_ble_eq_true rfl) dX10_choose_151 (kIM (fun v38 s19 hS_s19 hF_s19 q39 => ?_))
                refine j_pop hx dX10_choose_154 rfl ?_
                refine j_aload_n hx 0 dX10_choose_155 rfl ?_
                refine j_iload_n hx 1 dX10_choose_156 rfl ?_
                refine j_iconst hx dX10_choose_157 ?_
                refine j_iadd hx (r := 7) dX10_choose_158 (by omega) ?_
                refine j_iload_n hx 2 dX10_choose_159 rfl ?_
                refine j_iconst hx dX10_choose_160 ?_
                refine j_iload_n hx 1 dX10_choose_161 rfl ?_
                refine j_ishl hx dX10_choose_162 (fun v40 f41 f42 => ?_)
                refine j_ior hx dX10_choose_163 (fun v43 f44 f45 => ?_)
                refine j_iload_n hx 3 dX10_choose_164 rfl ?_
                refine j_iconst hx dX10_choose_165 ?_
                refine j_isub hx (r := x3 - 1) dX10_choose_166 rfl ?_
                refine j_callV hx hG (c_X10_choose_7 hst a 7 v43 (x3 - 1)) lk_RX10_54 ha (by decide) rfl rfl rfl rfl [.int (zI 7), .int (zI v43), .int (zI (x3 - 1))] ⟨rfl, hG, hS_s19, ha, (by omega), (by omega), (by omega)⟩ rfl rfl ⟨by decide, by decide⟩ ⟨by decide, by decide⟩ (k2 := 0) (n2 := 0) rfl rfl (Nat.le_of_ble_eq_true rfl) dX10_choose_167 (kVM (fun s20 hS_s20 hF_s20 q47 => ?_))
                exact j_vret hx hq rfl (by decide) (by decide) dX10_choose_170 ⟨rfl, rfl, hS_s20, (zFr_t (zFr_t (zFr_t (zFr_t (zFr_t (zFr_t (zFr_t zFr_rf hF_s11 (by decide)) hF_s12 (by decide)) hF_s14 (by decide)) hF_s17 (by decide)) hF_s18 (by decide)) hF_s19 (by decide)) hF_s20 (by decide)), trivial⟩
        refine j_icmp_eq hx 101 dX10_choose_78 rfl (by omega) ⟨by decide, by decide⟩ (fun h48 => ?_) (fun h48 => ?_)
        · skip
          exact j_sub [4, 5, 6, 7, 3, 2, 1] [(0, .ref a), (1, .int (zI 6)), (2, .int (zI x2)), (3, .int (zI x3)), (4, .ref r1), (5, .ref r5), (6, .int (zI v20))] rfl (c101_13 s12 hS_s12 zFr_rf)
        · skip
          refine j_iload hx 0 dX10_choose_81 rfl ?_
          refine j_iconst hx dX10_choose_83 ?_
          refine j_icmp_eq hx 101 dX10_choose_84 rfl (by omega) ⟨by decide, by decide⟩ (fun h49 => ?_) (fun h49 => ?_)
          · skip
            exact j_sub [4, 5, 6, 7, 3, 2, 1] [(0, .ref a), (1, .int (zI 6)), (2, .int (zI x2)), (3, .int (zI x3)), (4, .ref r1), (5, .ref r5), (6, .int (zI v20))] rfl (c101_13 s12 hS_s12 zFr_rf)
          · skip
            refine j_aload hx 2 dX10_choose_87 rfl ?_
            refine j_iload hx 0 dX10_choose_89 rfl ?_
            refine j_iload hx 1 dX10_choose_91 rfl ?_
            refine j_aload_n hx 4 dX10_choose_93 rfl ?_
            have f50 := zf hS0 ha (k := 3) rfl
            refine g11_3 hx hG ha kf_RX10_45 (v := (s0 a 3)) (by rw [(zFr_g hF_s12 ha (by decide)), (zFr_g hF_s11 ha (by decide))]) dX10_choose_94 ?_
            refine j_callV hx hG (c_X0_win hst r5 v23 v20 ((s0 a 3))) lk_RX10_69 q6.1 (by decide) rfl rfl rfl rfl [.int (zI v23), .int (zI v20), .int (zI ((s0 a 3)))] ⟨rfl, hG, hS_s12, q6.1, (by omega), (by omega), (by omega)⟩ rfl rfl ⟨by decide, by decide⟩ ⟨by decide, by decide⟩ (k2 := 0) (n2 := 0) rfl rfl (Nat.le_of_ble_eq_true rfl) dX10_choose_97 (kIM (fun v51 s21 hS_s21 hF_s21 q52 => ?_))
            refine j_pop hx dX10_choose_100 rfl ?_
            exact j_sub [4, 5, 6, 7, 3, 2, 1] [(0, .ref a), (1, .int (zI 6)), (2, .int (zI x2)), (3, .int (zI x3)), (4, .ref r1), (5, .ref r5), (6, .int (zI v20))] rfl (c101_13 s21 hS_s21 (zFr_t zFr_rf hF_s21 (by decide)))
      · skip
        exact j_sub [2, 4, 1] [(0, .ref a), (2, .int (zI x2)), (4, .ref r1)] rfl (c35_6 s11 hS_s11 (zFr_t zFr_rf hF_s11 (by decide)))
