set_option maxHeartbeats 4000000 in
set_option maxRecDepth 20000 in
theorem c_X12_keeps {E : zE} {l : Launch} (hst : l.stackTraces = false) (a : Nat) : Con E l yX12_keeps cX12_keeps 2 none { frames := 0, cells := 0, slots := 0, locals := 0 } (fun G s vs => vs = [.ref a] ∧ zGK G ∧ zSK G s ∧ (gT G a = 13)) (fun G s _ => pV (fun G2 s2 => G2 = G ∧ zSK G s2 ∧ zFr [99, 100] G s s2 ∧ True)) := by
  refine Con.mk hst (by decide) (fun G s vs h => by rw [h.1]; exact Nat.le_of_ble_eq_true rfl) ?_
  rintro X G s0 vs ⟨rfl, hG, hS0, ha⟩ rfl hx hq
  show JJ X E 2 G s0 0 0 [(0, .ref a)] 0 []
  refine j_iconst hx dX12_keeps_0 ?_
  refine j_istore_n hx [(1, .int (zI 0)), (0, .ref a)] dX12_keeps_1 (by decide) rfl ?_
  have c2_1 : ∀ (m_c2_1 : Nat) (v1 : Int) (s2 : zS), 2147483648 - v1 < m_c2_1 → (0 ≤ v1 ∧ v1 ≤ 515) → (zSK G s2) → (zFr [99] G s0 s2) → JJ X E 2 G s2 0 0 [(0, .ref a), (1, .int (zI v1))] 2 [] := by
    intro m_c2_1
    induction m_c2_1 with
    | zero => intro v1 s2 hm_c2_1 f3 hS_s2 hF_s2; exfalso; omega
    | succ m_c2_1 ih_c2_1 => 
      intro v1 s2 hm_c2_1 f3 hS_s2 hF_s2
      refine j_iload_n hx 1 dX12_keeps_2 rfl ?_
      refine j_sipush hx dX12_keeps_3 rfl ?_
      refine j_icmp_ge hx 27 dX12_keeps_6 rfl (by omega) ⟨by decide, by decide⟩ (fun h2 => ?_) (fun h2 => ?_)
      · skip
        refine j_iconst hx dX12_keeps_27 ?_
        refine j_istore_n hx [(1, .int (zI 0)), (0, .ref a)] dX12_keeps_28 (by decide) rfl ?_
        have c29_6 : ∀ (m_c29_6 : Nat) (v3 : Int) (s7 : zS), 2147483648 - v3 < m_c29_6 → (0 ≤ v3 ∧ v3 ≤ 5) → (zSK G s7) → (zFr [100] G s2 s7) → JJ X E 2 G s7 0 0 [(0, .ref a), (1, .int (zI v3))] 29 [] := by
          intro m_c29_6
          induction m_c29_6 with
          | zero => intro v3 s7 hm_c29_6 f8 hS_s7 hF_s7; exfalso; omega
          | succ m_c29_6 ih_c29_6 => 
            intro v3 s7 hm_c29_6 f8 hS_s7 hF_s7
            refine j_iload_n hx 1 dX12_keeps_29 rfl ?_
            refine j_iconst hx dX12_keeps_30 ?_
            refine j_icmp_ge hx 52 dX12_keeps_31 rfl (by omega) ⟨by decide, by decide⟩ (fun h4 => ?_) (fun h4 => ?_)
            · skip
              exact j_vret hx hq rfl (by decide) (by decide) dX12_keeps_52 ⟨rfl, rfl, hS_s7, (zFr_t (zFr_t zFr_rf hF_s2 (by decide)) hF_s7 (by decide)), trivial⟩
            · skip
              refine j_aload_n hx 0 dX12_keeps_34 rfl ?_
              refine g13_47 hx hG ha kf_RX12_105 dX12_keeps_35 ?_
              refine j_iload_n hx 1 dX12_keeps_38 rfl ?_
              refine j_aload_n hx 0 dX12_keeps_39 rfl ?_
              refine g13_30 hx hG ha kf_RX12_65 dX12_keeps_40 ?_
              refine j_iload_n hx 1 dX12_keeps_43 rfl ?_
              have f5 := zaI (j := (v3).toNat) hS0 (zr (k := 30) (t2 := 87) hG ha rfl) rfl (zlen hG (zr (k := 30) (t2 := 87) hG ha rfl) (n := 5) rfl rfl) (show 0 ≤ v3 by omega) (by omega) rfl
              refine j_iald hx hG (zr (k := 30) (t2 := 87) hG ha rfl) (by decide) rfl (zlen hG (zr (k := 30) (t2 := 87) hG ha rfl) (n := 5) rfl rfl) (by omega) (by omega) (j := (v3).toNat) rfl (v := (s0 (gP G a 30) (v3).toNat)) (by rw [(zFr_g hF_s7 (zr (k := 30) (t2 := 87) hG ha rfl) (by decide)), (zFr_g hF_s2 (zr (k := 30) (t2 := 87) hG ha rfl) (by decide))]) dX12_keeps_44 ?_
              refine j_iast hx hG (zr (k := 47) (t2 := 100) hG ha rfl) (by decide) rfl (zlen hG (zr (k := 47) (t2 := 100) hG ha rfl) (n := 5) rfl rfl) (by omega) (by omega) (j := (v3).toNat) rfl dX12_keeps_45 ?_
              obtain ⟨s11, e_s11⟩ : ∃ z, z = zU s7 (gP G a 47) (v3).toNat ((s0 (gP G a 30) (v3).toNat)) := ⟨_, rfl⟩
              rw [← e_s11]
              have hS_s11 : zSK G s11 := by rw [e_s11]; exact zSK_A hS_s7 (zr (k := 47) (t2 := 100) hG ha rfl) rfl rfl rfl (by omega)
              refine j_iinc hx 1 [(1, .int (zI (v3 + 1))), (0, .ref a)] dX12_keeps_46 rfl (by omega) (by decide) rfl ?_
              refine j_goto hx 29 dX12_keeps_49 rfl ?_
              exact j_sub [1, 0] [(0, .ref a), (1, .int (zI (v3 + 1)))] rfl (ih_c29_6 (v3 + 1) s11 (by omega) (by omega) hS_s11 (zFr_u (zFr_t zFr_rf hF_s7 (by decide)) e_s11 (zr (k := 47) (t2 := 100) hG ha rfl) (by decide)))
        exact j_sub [1, 0] [(0, .ref a), (1, .int (zI 0))] rfl (c29_6 (2147483648 * 4) 0 s2 (by omega) (by omega) hS_s2 zFr_rf)
      · skip
        refine j_aload_n hx 0 dX12_keeps_9 rfl ?_
        refine g13_46 hx hG ha kf_RX12_102 dX12_keeps_10 ?_
        refine j_iload_n hx 1 dX12_keeps_13 rfl ?_
        refine j_aload_n hx 0 dX12_keeps_14 rfl ?_
        refine g13_27 hx hG ha kf_RX12_56 dX12_keeps_15 ?_
        refine j_iload_n hx 1 dX12_keeps_18 rfl ?_
        have f6 := zaI (j := (v1).toNat) hS0 (zr (k := 27) (t2 := 84) hG ha rfl) rfl (zlen hG (zr (k := 27) (t2 := 84) hG ha rfl) (n := 515) rfl rfl) (show 0 ≤ v1 by omega) (by omega) rfl
        refine j_iald hx hG (zr (k := 27) (t2 := 84) hG ha rfl) (by decide) rfl (zlen hG (zr (k := 27) (t2 := 84) hG ha rfl) (n := 515) rfl rfl) (by omega) (by omega) (j := (v1).toNat) rfl (v := (s0 (gP G a 27) (v1).toNat)) (by rw [(zFr_g hF_s2 (zr (k := 27) (t2 := 84) hG ha rfl) (by decide))]) dX12_keeps_19 ?_
        refine j_iast hx hG (zr (k := 46) (t2 := 99) hG ha rfl) (by decide) rfl (zlen hG (zr (k := 46) (t2 := 99) hG ha rfl) (n := 515) rfl rfl) (by omega) (by omega) (j := (v1).toNat) rfl dX12_keeps_20 ?_
        obtain ⟨s12, e_s12⟩ : ∃ z, z = zU s2 (gP G a 46) (v1).toNat ((s0 (gP G a 27) (v1).toNat)) := ⟨_, rfl⟩
        rw [← e_s12]
        have hS_s12 : zSK G s12 := by rw [e_s12]; exact zSK_A hS_s2 (zr (k := 46) (t2 := 99) hG ha rfl) rfl rfl rfl (by omega)
        refine j_iinc hx 1 [(1, .int (zI (v1 + 1))), (0, .ref a)] dX12_keeps_21 rfl (by omega) (by decide) rfl ?_
        refine j_goto hx 2 dX12_keeps_24 rfl ?_
        exact j_sub [1, 0] [(0, .ref a), (1, .int (zI (v1 + 1)))] rfl (ih_c2_1 (v1 + 1) s12 (by omega) (by omega) hS_s12 (zFr_u (zFr_t zFr_rf hF_s2 (by decide)) e_s12 (zr (k := 46) (t2 := 99) hG ha rfl) (by decide)))
  exact j_sub [1, 0] [(0, .ref a), (1, .int (zI 0))] rfl (c2_1 (2147483648 * 4) 0 s0 (by omega) (by omega) hS0 zFr_rf)

set_option maxHeartbeats 4000000 in
set_option maxRecDepth 20000 in
theorem c_X12_puts {E : zE} {l : Launch} (hst : l.stackTraces = false) (a : Nat) (x1 : Int) (x2 : Int) (x3 : Int) : Con E l yX12_puts cX12_puts 5 (some .int) { frames := 0, cells := 0, slots := 0, locals := 0 } (fun G s vs => vs = [.ref a, .int (zI x1), .int (zI x2), .int (zI x3)] ∧ zGK G ∧ zSK G s ∧ (gT G a = 13) ∧ ((-2147483648) ≤ x1 ∧ x1 ≤ 2147483647) ∧ ((-2147483648) ≤ x2 ∧ x2 ≤ 2147483647) ∧ ((-2147483648) ≤ x3 ∧ x3 ≤ 2147483647)) (fun G s _ => pI (fun r G2 s2 => G2 = G ∧ zSK G s2 ∧ zFr [101] G s s2 ∧ ((-2147483648) ≤ r ∧ r ≤ 2147483647))) := by
  refine Con.mk hst (by decide) (fun G s vs h => by rw [h.1]; exact Nat.le_of_ble_eq_true rfl) ?_
  rintro X G s0 vs ⟨rfl, hG, hS0, ha, hx1, hx2, hx3⟩ rfl hx hq
  show JJ X E 5 G s0 0 0 [(0, .ref a), (1, .int (zI x1)), (2, .int (zI x2)), (3, .int (zI x3))] 0 []
  refine j_iconst hx dX12_puts_0 ?_
  refine j_istore hx [(4, .int (zI 0)), (0, .ref a), (1, .int (zI x1)), (2, .int (zI x2)), (3, .int (zI x3))] dX12_puts_1 (by decide) rfl ?_
  have c3_1 : ∀ (m_c3_1 : Nat) (v1 : Int) (s2 : zS), 2147483648 - v1 < m_c3_1 → (0 ≤ v1 ∧ v1 ≤ 2147483647) → (zSK G s2) → (zFr [101] G s0 s2) → JJ X E 5 G s2 0 0 [(0, .ref a), (1, .int (zI x1)), (2, .int (zI x2)), (3, .int (zI x3)), (4, .int (zI v1))] 3 [] := by
    intro m_c3_1
    induction m_c3_1 with
    | zero => intro v1 s2 hm_c3_1 f3 hS_s2 hF_s2; exfalso; omega
    | succ m_c3_1 ih_c3_1 => 
      intro v1 s2 hm_c3_1 f3 hS_s2 hF_s2
      refine j_iload hx 4 dX12_puts_3 rfl ?_
      refine j_aload_n hx 0 dX12_puts_5 rfl ?_
      refine g13_27 hx hG ha kf_RX12_56 dX12_puts_6 ?_
      refine j_iload_n hx 3 dX12_puts_9 rfl ?_
      have f2 := zaI (j := (x3).toNat) hS0 (zr (k := 27) (t2 := 84) hG ha rfl) rfl (zlen hG (zr (k := 27) (t2 := 84) hG ha rfl) (n := 515) rfl rfl) (show 0 ≤ x3 by omega) (by omega) rfl
      refine j_iald hx hG (zr (k := 27) (t2 := 84) hG ha rfl) (by decide) rfl (zlen hG (zr (k := 27) (t2 := 84) hG ha rfl) (n := 515) rfl rfl) (by omega) (by omega) (j := (x3).toNat) rfl (v := (s0 (gP G a 27) (x3).toNat)) (by rw [(zFr_g hF_s2 (zr (k := 27) (t2 := 84) hG ha rfl) (by decide))]) dX12_puts_10 ?_
      refine j_icmp_ge hx 64 dX12_puts_11 rfl (by omega) (by omega) (fun h3 => ?_) (fun h3 => ?_)
      · skip
        refine j_iload_n hx 1 dX12_puts_64 rfl ?_
        refine j_aload_n hx 0 dX12_puts_65 rfl ?_
        refine g13_27 hx hG ha kf_RX12_56 dX12_puts_66 ?_
        refine j_iload_n hx 3 dX12_puts_69 rfl ?_
        refine j_iald hx hG (zr (k := 27) (t2 := 84) hG ha rfl) (by decide) rfl (zlen hG (zr (k := 27) (t2 := 84) hG ha rfl) (n := 515) rfl rfl) (by omega) (by omega) (j := (x3).toNat) rfl (v := (s0 (gP G a 27) (x3).toNat)) (by rw [(zFr_g hF_s2 (zr (k := 27) (t2 := 84) hG ha rfl) (by decide))]) dX12_puts_70 ?_
        refine j_iadd hx (r := x1 + (s0 (gP G a 27) (x3).toNat)) dX12_puts_71 (by omega) ?_
        refine j_norm (fun v4 f5 f6 f7 => ?_)
        exact j_iret hx hq rfl (by decide) (by decide) dX12_puts_72 ⟨v4, rfl, rfl, hS_s2, (zFr_t zFr_rf hF_s2 (by decide)), (by omega)⟩
      · skip
        refine j_aload_n hx 0 dX12_puts_14 rfl ?_
        refine g13_48 hx hG ha kf_RX12_109 dX12_puts_15 ?_
        refine j_iload_n hx 1 dX12_puts_18 rfl ?_
        refine j_iload hx 4 dX12_puts_19 rfl ?_
        refine j_iadd hx (r := x1 + v1) dX12_puts_21 rfl ?_
        refine j_norm (fun v8 f9 f10 f11 => ?_)
        refine j_iconst hx dX12_puts_22 ?_
        refine j_aload_n hx 0 dX12_puts_23 rfl ?_
        refine g13_19 hx hG ha kf_RX12_50 dX12_puts_24 ?_
        refine j_aload_n hx 0 dX12_puts_27 rfl ?_
        refine g13_27 hx hG ha kf_RX12_56 dX12_puts_28 ?_
        refine j_iload_n hx 2 dX12_puts_31 rfl ?_
        refine j_iload hx 4 dX12_puts_32 rfl ?_
        refine j_iadd hx (r := x2 + v1) dX12_puts_34 rfl ?_
        refine j_norm (fun v12 f13 f14 f15 => ?_)
        have f16 := zaI (j := (v12).toNat) hS0 (zr (k := 27) (t2 := 84) hG ha rfl) rfl (zlen hG (zr (k := 27) (t2 := 84) hG ha rfl) (n := 515) rfl rfl) (show 0 ≤ v12 by omega) (by omega) rfl
        refine j_iald hx hG (zr (k := 27) (t2 := 84) hG ha rfl) (by decide) rfl (zlen hG (zr (k := 27) (t2 := 84) hG ha rfl) (n := 515) rfl rfl) (by omega) (by omega) (j := (v12).toNat) rfl (v := (s0 (gP G a 27) (v12).toNat)) (by rw [(zFr_g hF_s2 (zr (k := 27) (t2 := 84) hG ha rfl) (by decide))]) dX12_puts_35 ?_
        have f17 := zaI (j := ((s0 (gP G a 27) (v12).toNat)).toNat) hS0 (zr (k := 19) (t2 := 82) hG ha rfl) rfl (zlen hG (zr (k := 19) (t2 := 82) hG ha rfl) (n := 60) rfl rfl) (show 0 ≤ (s0 (gP G a 27) (v12).toNat) by omega) (by omega) rfl
        refine j_iald hx hG (zr (k := 19) (t2 := 82) hG ha rfl) (by decide) rfl (zlen hG (zr (k := 19) (t2 := 82) hG ha rfl) (n := 60) rfl rfl) (by omega) (by omega) (j := ((s0 (gP G a 27) (v12).toNat)).toNat) rfl (v := (s0 (gP G a 19) ((s0 (gP G a 27) (v12).toNat)).toNat)) (by rw [(zFr_g hF_s2 (zr (k := 19) (t2 := 82) hG ha rfl) (by decide))]) dX12_puts_36 ?_
        refine j_imul hx (r := 2 * (s0 (gP G a 19) ((s0 (gP G a 27) (v12).toNat)).toNat)) dX12_puts_37 (by omega) ?_
        refine j_norm (fun v18 f19 f20 f21 => ?_)
        refine j_aload_n hx 0 dX12_puts_38 rfl ?_
        refine g13_27 hx hG ha kf_RX12_56 dX12_puts_39 ?_
        refine j_sipush hx dX12_puts_42 rfl ?_
        refine j_aload_n hx 0 dX12_puts_45 rfl ?_
        refine g13_27 hx hG ha kf_RX12_56 dX12_puts_46 ?_
        refine j_iload_n hx 2 dX12_puts_49 rfl ?_
        refine j_iload hx 4 dX12_puts_50 rfl ?_
        refine j_iadd hx (r := x2 + v1) dX12_puts_52 rfl ?_
        refine j_norm (fun v22 f23 f24 f25 => ?_)
        have f26 := zaI (j := (v22).toNat) hS0 (zr (k := 27) (t2 := 84) hG ha rfl) rfl (zlen hG (zr (k := 27) (t2 := 84) hG ha rfl) (n := 515) rfl rfl) (show 0 ≤ v22 by omega) (by omega) rfl
        refine j_iald hx hG (zr (k := 27) (t2 := 84) hG ha rfl) (by decide) rfl (zlen hG (zr (k := 27) (t2 := 84) hG ha rfl) (n := 515) rfl rfl) (by omega) (by omega) (j := (v22).toNat) rfl (v := (s0 (gP G a 27) (v22).toNat)) (by rw [(zFr_g hF_s2 (zr (k := 27) (t2 := 84) hG ha rfl) (by decide))]) dX12_puts_53 ?_
        refine j_iadd hx (r := (s0 (gP G a 27) (v22).toNat) + 420) dX12_puts_54 (by omega) ?_
        refine j_norm (fun v27 f28 f29 f30 => ?_)
        have f31 := zaI (j := (v27).toNat) hS0 (zr (k := 27) (t2 := 84) hG ha rfl) rfl (zlen hG (zr (k := 27) (t2 := 84) hG ha rfl) (n := 515) rfl rfl) (show 0 ≤ v27 by omega) (by omega) rfl
        refine j_iald hx hG (zr (k := 27) (t2 := 84) hG ha rfl) (by decide) rfl (zlen hG (zr (k := 27) (t2 := 84) hG ha rfl) (n := 515) rfl rfl) (by omega) (by omega) (j := (v27).toNat) rfl (v := (s0 (gP G a 27) (v27).toNat)) (by rw [(zFr_g hF_s2 (zr (k := 27) (t2 := 84) hG ha rfl) (by decide))]) dX12_puts_55 ?_
        refine j_iadd hx (r := v18 + (s0 (gP G a 27) (v27).toNat)) dX12_puts_56 (by omega) ?_
        refine j_norm (fun v32 f33 f34 f35 => ?_)
        refine j_iast hx hG (zr (k := 48) (t2 := 101) hG ha rfl) (by decide) rfl (zlen hG (zr (k := 48) (t2 := 101) hG ha rfl) (n := 210070) rfl rfl) (by omega) (by omega) (j := (v8).toNat) rfl dX12_puts_57 ?_
        obtain ⟨s6, e_s6⟩ : ∃ z, z = zU s2 (gP G a 48) (v8).toNat v32 := ⟨_, rfl⟩
        rw [← e_s6]
        have hS_s6 : zSK G s6 := by rw [e_s6]; exact zSK_A hS_s2 (zr (k := 48) (t2 := 101) hG ha rfl) rfl rfl rfl (by omega)
        refine j_iinc hx 4 [(4, .int (zI (v1 + 1))), (0, .ref a), (1, .int (zI x1)), (2, .int (zI x2)), (3, .int (zI x3))] dX12_puts_58 rfl (by omega) (by decide) rfl ?_
        refine j_goto hx 3 dX12_puts_61 rfl ?_
        exact j_sub [1, 2, 3, 4, 0] [(0, .ref a), (1, .int (zI x1)), (2, .int (zI x2)), (3, .int (zI x3)), (4, .int (zI (v1 + 1)))] rfl (ih_c3_1 (v1 + 1) s6 (by omega) (by omega) hS_s6 (zFr_u (zFr_t zFr_rf hF_s2 (by decide)) e_s6 (zr (k := 48) (t2 := 101) hG ha rfl) (by decide)))
  exact j_sub [1, 2, 3, 4, 0] [(0, .ref a), (1, .int (zI x1)), (2, .int (zI x2)), (3, .int (zI x3)), (4, .int (zI 0))] rfl (c3_1 (2147483648 * 4) 0 s0 (by omega) (by omega) hS0 zFr_rf)

theorem lk_RX12_417 : LkV RX12 417 RX12 yX12_puts cX12_puts 5 (some .int) 3 := ⟨km_RX12_417, ki_yX12_puts, ks_RX12_yX12_puts, kn_RX12, kc_yX12_puts, rfl, by decide +kernel, by decide +kernel, by decide +kernel⟩
set_option maxHeartbeats 4000000 in
set_option maxRecDepth 20000 in
theorem c_X12_writes {E : zE} {l : Launch} (hst : l.stackTraces = false) (a : Nat) (x1 : Int) : Con E l yX12_writes cX12_writes 5 none { frames := 2, cells := 0, slots := 0, locals := 42 } (fun G s vs => vs = [.ref a, .int (zI x1)] ∧ zGK G ∧ zSK G s ∧ (gT G a = 13) ∧ ((-2147483648) ≤ x1 ∧ x1 ≤ 2147483647)) (fun G s _ => pV (fun G2 s2 => G2 = G ∧ zSK G s2 ∧ zFr [101] G s s2 ∧ True)) := by
  refine Con.mk hst (by decide) (fun G s vs h => by rw [h.1]; exact Nat.le_of_ble_eq_true rfl) ?_
  rintro X G s0 vs ⟨rfl, hG, hS0, ha, hx1⟩ rfl hx hq
  show JJ X E 5 G s0 0 0 [(0, .ref a), (1, .int (zI x1))] 0 []
  refine j_bipush hx dX12_writes_0 rfl ?_
  refine j_iload_n hx 1 dX12_writes_2 rfl ?_
  refine j_imul hx (r := 70 * x1) dX12_writes_3 rfl ?_
  refine j_norm (fun v1 f2 f3 f4 => ?_)
  refine j_istore_n hx [(2, .int (zI v1)), (0, .ref a), (1, .int (zI x1))] dX12_writes_4 (by decide) rfl ?_
  refine j_iconst hx dX12_writes_5 ?_
  refine j_istore_n hx [(3, .int (zI 0)), (2, .int (zI v1)), (0, .ref a), (1, .int (zI x1))] dX12_writes_6 (by decide) rfl ?_
  have c7_1 : ∀ (m_c7_1 : Nat) (v5 : Int) (s2 : zS), 2147483648 - v5 < m_c7_1 → (0 ≤ v5 ∧ v5 ≤ 70) → (zSK G s2) → (zFr [101] G s0 s2) → JJ X E 5 G s2 0 0 [(0, .ref a), (2, .int (zI v1)), (3, .int (zI v5))] 7 [] := by
    intro m_c7_1
    induction m_c7_1 with
    | zero => intro v5 s2 hm_c7_1 f3 hS_s2 hF_s2; exfalso; omega
    | succ m_c7_1 ih_c7_1 => 
      intro v5 s2 hm_c7_1 f3 hS_s2 hF_s2
      refine j_iload_n hx 2 dX12_writes_7 rfl ?_
      refine j_bipush hx dX12_writes_8 rfl ?_
      refine j_icmp_ge hx 28 dX12_writes_10 rfl (by omega) ⟨by decide, by decide⟩ (fun h6 => ?_) (fun h6 => ?_)
      · skip
        refine j_iload_n hx 1 dX12_writes_28 rfl ?_
        refine j_istore_n hx [(3, .int (zI v1)), (0, .ref a), (2, .int (zI v1))] dX12_writes_29 (by decide) rfl ?_
        refine j_iconst hx dX12_writes_30 ?_
        refine j_istore hx [(4, .int (zI 0)), (3, .int (zI v1)), (0, .ref a), (2, .int (zI v1))] dX12_writes_31 (by decide) rfl ?_
        refine j_iload hx 0 dX12_writes_33 rfl ?_
        refine j_aload_n hx 2 dX12_writes_35 rfl ?_
        have f7 := zf hS0 ha (k := 24) rfl
        refine g13_24 hx hG ha kf_RX12_189 (v := (s0 a 24)) (by rw [(zFr_g hF_s2 ha (by decide))]) dX12_writes_36 ?_
        refine j_icmp_ge hx 136 dX12_writes_39 rfl ⟨by decide, by decide⟩ (by omega) (fun h8 => ?_) (fun h8 => absurd h8 (by omega))
        refine j_aload_n hx 2 dX12_writes_136 rfl ?_
        refine j_iload_n hx 1 dX12_writes_137 rfl ?_
        refine j_sipush hx dX12_writes_138 rfl ?_
        refine j_sipush hx dX12_writes_141 rfl ?_
        refine j_callV hx hG (c_X12_puts hst a v1 360 486) lk_RX12_417 ha (by decide) rfl rfl rfl rfl [.int (zI v1), .int (zI 360), .int (zI 486)] ⟨rfl, hG, hS_s2, ha, (by omega), (by omega), (by omega)⟩ rfl rfl ⟨by decide, by decide⟩ ⟨by decide, by decide⟩ (k2 := 0) (n2 := 0) rfl rfl (Nat.le_of_ble_eq_true rfl) dX12_writes_144 (kIM (fun v9 s6 hS_s6 hF_s6 q10 => ?_))
        refine j_pop hx dX12_writes_147 rfl ?_
        refine j_aload_n hx 2 dX12_writes_148 rfl ?_
        refine g13_48 hx hG ha kf_RX12_109 dX12_writes_149 ?_
        refine j_iload_n hx 3 dX12_writes_152 rfl ?_
        refine j_bipush hx dX12_writes_153 rfl ?_
        refine j_iadd hx (r := v1 + 60) dX12_writes_155 rfl ?_
        refine j_norm (fun v11 f12 f13 f14 => ?_)
        refine j_bipush hx dX12_writes_156 rfl ?_
        refine j_iadd hx (r := v11 + 6) dX12_writes_158 rfl ?_
        refine j_norm (fun v15 f16 f17 f18 => ?_)
        refine j_aload_n hx 2 dX12_writes_159 rfl ?_
        refine g13_27 hx hG ha kf_RX12_56 dX12_writes_160 ?_
        refine j_sipush hx dX12_writes_163 rfl ?_
        have f19 := zaI (j := 486) hS0 (zr (k := 27) (t2 := 84) hG ha rfl) rfl (zlen hG (zr (k := 27) (t2 := 84) hG ha rfl) (n := 515) rfl rfl) (show 0 ≤ 486 by omega) (by omega) rfl
        refine j_iald hx hG (zr (k := 27) (t2 := 84) hG ha rfl) (by decide) rfl (zlen hG (zr (k := 27) (t2 := 84) hG ha rfl) (n := 515) rfl rfl) (by omega) (by omega) (j := 486) rfl (v := (s0 (gP G a 27) 486)) (by rw [(zFr_g hF_s6 (zr (k := 27) (t2 := 84) hG ha rfl) (by decide)), (zFr_g hF_s2 (zr (k := 27) (t2 := 84) hG ha rfl) (by decide))]) dX12_writes_166 ?_
        refine j_iast hx hG (zr (k := 48) (t2 := 101) hG ha rfl) (by decide) rfl (zlen hG (zr (k := 48) (t2 := 101) hG ha rfl) (n := 210070) rfl rfl) (by omega) (by omega) (j := (v15).toNat) rfl dX12_writes_167 ?_
        obtain ⟨s7, e_s7⟩ : ∃ z, z = zU s6 (gP G a 48) (v15).toNat ((s0 (gP G a 27) 486)) := ⟨_, rfl⟩
        rw [← e_s7]
        have hS_s7 : zSK G s7 := by rw [e_s7]; exact zSK_A hS_s6 (zr (k := 48) (t2 := 101) hG ha rfl) rfl rfl rfl (by omega)
        refine j_aload_n hx 2 dX12_writes_168 rfl ?_
        refine g13_48 hx hG ha kf_RX12_109 dX12_writes_169 ?_
        refine j_iload_n hx 3 dX12_writes_172 rfl ?_
        refine j_bipush hx dX12_writes_173 rfl ?_
        refine j_iadd hx (r := v1 + 60) dX12_writes_175 rfl ?_
        refine j_norm (fun v20 f21 f22 f23 => ?_)
        refine j_bipush hx dX12_writes_176 rfl ?_
        refine j_iadd hx (r := v20 + 7) dX12_writes_178 rfl ?_
        refine j_norm (fun v24 f25 f26 f27 => ?_)
        refine j_aload_n hx 2 dX12_writes_179 rfl ?_
        refine j_callV hx hG (c_X12_whose hst a) lk_RX12_336 ha (by decide) rfl rfl rfl rfl [] ⟨rfl, hG, hS_s7, ha⟩ rfl rfl ⟨by decide, by decide⟩ ⟨by decide, by decide⟩ (k2 := 0) (n2 := 0) rfl rfl (Nat.le_of_ble_eq_true rfl) dX12_writes_180 (kIP (fun v28 q29 => ?_))
        refine j_iast hx hG (zr (k := 48) (t2 := 101) hG ha rfl) (by decide) rfl (zlen hG (zr (k := 48) (t2 := 101) hG ha rfl) (n := 210070) rfl rfl) (by omega) (by omega) (j := (v24).toNat) rfl dX12_writes_183 ?_
        obtain ⟨s8, e_s8⟩ : ∃ z, z = zU s7 (gP G a 48) (v24).toNat v28 := ⟨_, rfl⟩
        rw [← e_s8]
        have hS_s8 : zSK G s8 := by rw [e_s8]; exact zSK_A hS_s7 (zr (k := 48) (t2 := 101) hG ha rfl) rfl rfl rfl (by omega)
        refine j_aload_n hx 2 dX12_writes_184 rfl ?_
        refine g13_48 hx hG ha kf_RX12_109 dX12_writes_185 ?_
        refine j_iload_n hx 3 dX12_writes_188 rfl ?_
        refine j_bipush hx dX12_writes_189 rfl ?_
        refine j_iadd hx (r := v1 + 60) dX12_writes_191 rfl ?_
        refine j_norm (fun v30 f31 f32 f33 => ?_)
        refine j_bipush hx dX12_writes_192 rfl ?_
        refine j_iadd hx (r := v30 + 8) dX12_writes_194 rfl ?_
        refine j_norm (fun v34 f35 f36 f37 => ?_)
        refine j_aload_n hx 2 dX12_writes_195 rfl ?_
        refine g13_27 hx hG ha kf_RX12_56 dX12_writes_196 ?_
        refine j_sipush hx dX12_writes_199 rfl ?_
        have f38 := zaI (j := 490) hS0 (zr (k := 27) (t2 := 84) hG ha rfl) rfl (zlen hG (zr (k := 27) (t2 := 84) hG ha rfl) (n := 515) rfl rfl) (show 0 ≤ 490 by omega) (by omega) rfl
        refine j_iald hx hG (zr (k := 27) (t2 := 84) hG ha rfl) (by decide) rfl (zlen hG (zr (k := 27) (t2 := 84) hG ha rfl) (n := 515) rfl rfl) (by omega) (by omega) (j := 490) rfl (v := (s0 (gP G a 27) 490)) (by rw [e_s8, zU_at (Or.inl (zne (zr (k := 48) (t2 := 101) hG ha rfl) (zr (k := 27) (t2 := 84) hG ha rfl) (by decide))), e_s7, zU_at (Or.inl (zne (zr (k := 48) (t2 := 101) hG ha rfl) (zr (k := 27) (t2 := 84) hG ha rfl) (by decide))), (zFr_g hF_s6 (zr (k := 27) (t2 := 84) hG ha rfl) (by decide)), (zFr_g hF_s2 (zr (k := 27) (t2 := 84) hG ha rfl) (by decide))]) dX12_writes_202 ?_
        refine j_iconst hx dX12_writes_203 ?_
        have c219_9 : ∀ (v39 : Int), ((-2147483648) ≤ v39 ∧ v39 ≤ 2147483647) → JJ X E 5 G s8 0 0 [(0, .ref a), (2, .int (zI v1))] 219 [.int (zI v39), .int (zI v34), .ref (gP G a 48)] := by
          intro v39 f10
          refine j_iast hx hG (zr (k := 48) (t2 := 101) hG ha rfl) (by decide) rfl (zlen hG (zr (k := 48) (t2 := 101) hG ha rfl) (n := 210070) rfl rfl) (by omega) (by omega) (j := (v34).toNat) rfl dX12_writes_219 ?_
          obtain ⟨s11, e_s11⟩ : ∃ z, z = zU s8 (gP G a 48) (v34).toNat v39 := ⟨_, rfl⟩
          rw [← e_s11]
          have hS_s11 : zSK G s11 := by rw [e_s11]; exact zSK_A hS_s8 (zr (k := 48) (t2 := 101) hG ha rfl) rfl rfl rfl (by omega)
          refine j_aload_n hx 0 dX12_writes_220 rfl ?_
          refine g13_48 hx hG ha kf_RX12_109 dX12_writes_221 ?_
          refine j_iload_n hx 1 dX12_writes_224 rfl ?_
          refine j_bipush hx dX12_writes_225 rfl ?_
          refine j_iadd hx (r := v1 + 60) dX12_writes_227 rfl ?_
          refine j_norm (fun v40 f41 f42 f43 => ?_)
          refine j_bipush hx dX12_writes_228 rfl ?_
          refine j_iadd hx (r := v40 + 9) dX12_writes_230 rfl ?_
          refine j_norm (fun v44 f45 f46 f47 => ?_)
          refine j_aload_n hx 0 dX12_writes_231 rfl ?_
          refine g13_27 hx hG ha kf_RX12_56 dX12_writes_232 ?_
          refine j_sipush hx dX12_writes_235 rfl ?_
          have f48 := zaI (j := 488) hS0 (zr (k := 27) (t2 := 84) hG ha rfl) rfl (zlen hG (zr (k := 27) (t2 := 84) hG ha rfl) (n := 515) rfl rfl) (show 0 ≤ 488 by omega) (by omega) rfl
          refine j_iald hx hG (zr (k := 27) (t2 := 84) hG ha rfl) (by decide) rfl (zlen hG (zr (k := 27) (t2 := 84) hG ha rfl) (n := 515) rfl rfl) (by omega) (by omega) (j := 488) rfl (v := (s0 (gP G a 27) 488)) (by rw [e_s11, zU_at (Or.inl (zne (zr (k := 48) (t2 := 101) hG ha rfl) (zr (k := 27) (t2 := 84) hG ha rfl) (by decide))), e_s8, zU_at (Or.inl (zne (zr (k := 48) (t2 := 101) hG ha rfl) (zr (k := 27) (t2 := 84) hG ha rfl) (by decide))), e_s7, zU_at (Or.inl (zne (zr (k := 48) (t2 := 101) hG ha rfl) (zr (k := 27) (t2 := 84) hG ha rfl) (by decide))), (zFr_g hF_s6 (zr (k := 27) (t2 := 84) hG ha rfl) (by decide)), (zFr_g hF_s2 (zr (k := 27) (t2 := 84) hG ha rfl) (by decide))]) dX12_writes_238 ?_
          refine j_iast hx hG (zr (k := 48) (t2 := 101) hG ha rfl) (by decide) rfl (zlen hG (zr (k := 48) (t2 := 101) hG ha rfl) (n := 210070) rfl rfl) (by omega) (by omega) (j := (v44).toNat) rfl dX12_writes_239 ?_
          obtain ⟨s12, e_s12⟩ : ∃ z, z = zU s11 (gP G a 48) (v44).toNat ((s0 (gP G a 27) 488)) := ⟨_, rfl⟩
          rw [← e_s12]
          have hS_s12 : zSK G s12 := by rw [e_s12]; exact zSK_A hS_s11 (zr (k := 48) (t2 := 101) hG ha rfl) rfl rfl rfl (by omega)
          exact j_vret hx hq rfl (by decide) (by decide) dX12_writes_240 ⟨rfl, rfl, hS_s12, (zFr_u (zFr_u (zFr_u (zFr_u (zFr_t (zFr_t zFr_rf hF_s2 (by decide)) hF_s6 (by decide)) e_s7 (zr (k := 48) (t2 := 101) hG ha rfl) (by decide)) e_s8 (zr (k := 48) (t2 := 101) hG ha rfl) (by decide)) e_s11 (zr (k := 48) (t2 := 101) hG ha rfl) (by decide)) e_s12 (zr (k := 48) (t2 := 101) hG ha rfl) (by decide)), trivial⟩
        refine j_icmp_ne hx 218 dX12_writes_204 rfl (by omega) ⟨by decide, by decide⟩ (fun h49 => ?_) (fun h49 => ?_)
        · skip
          refine j_iconst hx dX12_writes_218 ?_
          exact j_sub [2, 3] [(0, .ref a), (2, .int (zI v1))] rfl (c219_9 0 (by omega))
        · skip
          refine j_aload_n hx 2 dX12_writes_207 rfl ?_
          refine g13_27 hx hG ha kf_RX12_56 dX12_writes_208 ?_
          refine j_sipush hx dX12_writes_211 rfl ?_
          have f50 := zaI (j := 489) hS0 (zr (k := 27) (t2 := 84) hG ha rfl) rfl (zlen hG (zr (k := 27) (t2 := 84) hG ha rfl) (n := 515) rfl rfl) (show 0 ≤ 489 by omega) (by omega) rfl
          refine j_iald hx hG (zr (k := 27) (t2 := 84) hG ha rfl) (by decide) rfl (zlen hG (zr (k := 27) (t2 := 84) hG ha rfl) (n := 515) rfl rfl) (by omega) (by omega) (j := 489) rfl (v := (s0 (gP G a 27) 489)) (by rw [e_s8, zU_at (Or.inl (zne (zr (k := 48) (t2 := 101) hG ha rfl) (zr (k := 27) (t2 := 84) hG ha rfl) (by decide))), e_s7, zU_at (Or.inl (zne (zr (k := 48) (t2 := 101) hG ha rfl) (zr (k := 27) (t2 := 84) hG ha rfl) (by decide))), (zFr_g hF_s6 (zr (k := 27) (t2 := 84) hG ha rfl) (by decide)), (zFr_g hF_s2 (zr (k := 27) (t2 := 84) hG ha rfl) (by decide))]) dX12_writes_214 ?_
          refine j_goto hx 219 dX12_writes_215 rfl ?_
          exact j_sub [2, 3] [(0, .ref a), (2, .int (zI v1))] rfl (c219_9 ((s0 (gP G a 27) 489)) (by omega))
      · skip
        refine j_aload_n hx 0 dX12_writes_13 rfl ?_
        refine g13_48 hx hG ha kf_RX12_109 dX12_writes_14 ?_
        refine j_iload_n hx 1 dX12_writes_17 rfl ?_
        refine j_iload_n hx 2 dX12_writes_18 rfl ?_
        refine j_iadd hx (r := v1 + v5) dX12_writes_19 rfl ?_
        refine j_norm (fun v51 f52 f53 f54 => ?_)
        refine j_iconst hx dX12_writes_20 ?_
        refine j_iast hx hG (zr (k := 48) (t2 := 101) hG ha rfl) (by decide) rfl (zlen hG (zr (k := 48) (t2 := 101) hG ha rfl) (n := 210070) rfl rfl) (by omega) (by omega) (j := (v51).toNat) rfl dX12_writes_21 ?_
        obtain ⟨s13, e_s13⟩ : ∃ z, z = zU s2 (gP G a 48) (v51).toNat (-1) := ⟨_, rfl⟩
        rw [← e_s13]
        have hS_s13 : zSK G s13 := by rw [e_s13]; exact zSK_A hS_s2 (zr (k := 48) (t2 := 101) hG ha rfl) rfl rfl rfl (by omega)
        refine j_iinc hx 2 [(3, .int (zI (v5 + 1))), (0, .ref a), (2, .int (zI v1))] dX12_writes_22 rfl (by omega) (by decide) rfl ?_
        refine j_goto hx 7 dX12_writes_25 rfl ?_
        exact j_sub [1, 2, 0] [(0, .ref a), (2, .int (zI v1)), (3, .int (zI (v5 + 1)))] rfl (ih_c7_1 (v5 + 1) s13 (by omega) (by omega) hS_s13 (zFr_u (zFr_t zFr_rf hF_s2 (by decide)) e_s13 (zr (k := 48) (t2 := 101) hG ha rfl) (by decide)))
  exact j_sub [2, 1, 0] [(0, .ref a), (2, .int (zI v1)), (3, .int (zI 0))] rfl (c7_1 (2147483648 * 4) 0 s0 (by omega) (by omega) hS0 zFr_rf)

set_option maxHeartbeats 4000000 in
set_option maxRecDepth 20000 in
theorem c_X12_leaveSame {E : zE} {l : Launch} (hst : l.stackTraces = false) (a : Nat) (x1 : Int) (x2 : Int) : Con E l yX12_leaveSame cX12_leaveSame 5 (some .boolean) { frames := 0, cells := 0, slots := 0, locals := 0 } (fun G s vs => vs = [.ref a, .int (zI x1), .int (zI x2)] ∧ zGK G ∧ zSK G s ∧ (gT G a = 13) ∧ ((-2147483648) ≤ x1 ∧ x1 ≤ 2147483647) ∧ ((-2147483648) ≤ x2 ∧ x2 ≤ 2147483647)) (fun G s _ => pI (fun r G2 s2 => G2 = G ∧ s2 = s ∧ (0 ≤ r ∧ r ≤ 1))) := by
  refine Con.mk hst (by decide) (fun G s vs h => by rw [h.1]; exact Nat.le_of_ble_eq_true rfl) ?_
  rintro X G s0 vs ⟨rfl, hG, hS0, ha, hx1, hx2⟩ rfl hx hq
  show JJ X E 5 G s0 0 0 [(0, .ref a), (1, .int (zI x1)), (2, .int (zI x2))] 0 []
  refine j_iconst hx dX12_leaveSame_0 ?_
  refine j_istore_n hx [(3, .int (zI 0)), (0, .ref a), (1, .int (zI x1)), (2, .int (zI x2))] dX12_leaveSame_1 (by decide) rfl ?_
  have c2_1 : ∀ (m_c2_1 : Nat) (v1 : Int), 2147483648 - v1 < m_c2_1 → (0 ≤ v1 ∧ v1 ≤ 6) → JJ X E 5 G s0 0 0 [(0, .ref a), (1, .int (zI x1)), (2, .int (zI x2)), (3, .int (zI v1))] 2 [] := by
    intro m_c2_1
    induction m_c2_1 with
    | zero => intro v1 hm_c2_1 f2; exfalso; omega
    | succ m_c2_1 ih_c2_1 => 
      intro v1 hm_c2_1 f2
      refine j_iload_n hx 3 dX12_leaveSame_2 rfl ?_
      refine j_bipush hx dX12_leaveSame_3 rfl ?_
      refine j_icmp_ge hx 79 dX12_leaveSame_5 rfl (by omega) ⟨by decide, by decide⟩ (fun h2 => ?_) (fun h2 => ?_)
      · skip
        refine j_iconst hx dX12_leaveSame_79 ?_
        exact j_zret hx hq rfl (by decide) (by decide) dX12_leaveSame_80 (by omega) ⟨1, rfl, rfl, rfl, (by omega)⟩
      · skip
        refine j_sipush hx dX12_leaveSame_8 rfl ?_
        refine j_iload_n hx 3 dX12_leaveSame_11 rfl ?_
        refine j_imul hx (r := 150 * v1) dX12_leaveSame_12 rfl ?_
        refine j_istore hx [(4, .int (zI (150 * v1))), (0, .ref a), (1, .int (zI x1)), (2, .int (zI x2)), (3, .int (zI v1))] dX12_leaveSame_13 (by decide) rfl ?_
        have c15_3 : ∀ (m_c15_3 : Nat) (v3 : Int), 2147483648 - v3 < m_c15_3 → (0 ≤ v3 ∧ v3 ≤ 2147483647) → JJ X E 5 G s0 0 0 [(0, .ref a), (1, .int (zI x1)), (2, .int (zI x2)), (3, .int (zI v1)), (4, .int (zI v3))] 15 [] := by
          intro m_c15_3
          induction m_c15_3 with
          | zero => intro v3 hm_c15_3 f4; exfalso; omega
          | succ m_c15_3 ih_c15_3 => 
            intro v3 hm_c15_3 f4
            refine j_iload hx 4 dX12_leaveSame_15 rfl ?_
            refine j_sipush hx dX12_leaveSame_17 rfl ?_
            refine j_iload_n hx 3 dX12_leaveSame_20 rfl ?_
            refine j_imul hx (r := 150 * v1) dX12_leaveSame_21 rfl ?_
            refine j_aload_n hx 0 dX12_leaveSame_22 rfl ?_
            refine g13_37 hx hG ha kf_RX12_86 dX12_leaveSame_23 ?_
            refine j_iload_n hx 3 dX12_leaveSame_26 rfl ?_
            have f4 := zaI (j := (v1).toNat) hS0 (zr (k := 37) (t2 := 94) hG ha rfl) rfl (zlen hG (zr (k := 37) (t2 := 94) hG ha rfl) (n := 6) rfl rfl) (show 0 ≤ v1 by omega) (by omega) rfl
            refine j_iald hx hG (zr (k := 37) (t2 := 94) hG ha rfl) (by decide) rfl (zlen hG (zr (k := 37) (t2 := 94) hG ha rfl) (n := 6) rfl rfl) (by omega) (by omega) (j := (v1).toNat) rfl rfl dX12_leaveSame_27 ?_
            refine j_iadd hx (r := 150 * v1 + (s0 (gP G a 37) (v1).toNat)) dX12_leaveSame_28 (by omega) ?_
            refine j_norm (fun v5 f6 f7 f8 => ?_)
            refine j_icmp_ge hx 73 dX12_leaveSame_29 rfl (by omega) (by omega) (fun h9 => ?_) (fun h9 => ?_)
            · skip
              refine j_iinc hx 3 [(3, .int (zI (v1 + 1))), (0, .ref a), (1, .int (zI x1)), (2, .int (zI x2)), (4, .int (zI v3))] dX12_leaveSame_73 rfl (by omega) (by decide) rfl ?_
              refine j_goto hx 2 dX12_leaveSame_76 rfl ?_
              exact j_sub [1, 2, 3, 0] [(0, .ref a), (1, .int (zI x1)), (2, .int (zI x2)), (3, .int (zI (v1 + 1)))] rfl (ih_c2_1 (v1 + 1) (by omega) (by omega))
            · skip
              refine j_aload_n hx 0 dX12_leaveSame_32 rfl ?_
              refine g13_34 hx hG ha kf_RX12_77 dX12_leaveSame_33 ?_
              refine j_iload hx 4 dX12_leaveSame_36 rfl ?_
              have f10 := zaI (j := (v3).toNat) hS0 (zr (k := 34) (t2 := 91) hG ha rfl) rfl (zlen hG (zr (k := 34) (t2 := 91) hG ha rfl) (n := 900) rfl rfl) (show 0 ≤ v3 by omega) (by omega) rfl
              refine j_iald hx hG (zr (k := 34) (t2 := 91) hG ha rfl) (by decide) rfl (zlen hG (zr (k := 34) (t2 := 91) hG ha rfl) (n := 900) rfl rfl) (by omega) (by omega) (j := (v3).toNat) rfl rfl dX12_leaveSame_38 ?_
              refine j_bipush hx dX12_leaveSame_39 rfl ?_
              have c67_5 : JJ X E 5 G s0 0 0 [(0, .ref a), (1, .int (zI x1)), (2, .int (zI x2)), (3, .int (zI v1)), (4, .int (zI v3))] 67 [] := by
                refine j_iinc hx 4 [(4, .int (zI (v3 + 1))), (0, .ref a), (1, .int (zI x1)), (2, .int (zI x2)), (3, .int (zI v1))] dX12_leaveSame_67 rfl (by omega) (by decide) rfl ?_
                refine j_goto hx 15 dX12_leaveSame_70 rfl ?_
                exact j_sub [1, 2, 3, 4, 0] [(0, .ref a), (1, .int (zI x1)), (2, .int (zI x2)), (3, .int (zI v1)), (4, .int (zI (v3 + 1)))] rfl (ih_c15_3 (v3 + 1) (by omega) (by omega))
              refine j_icmp_ne hx 67 dX12_leaveSame_41 rfl (by omega) ⟨by decide, by decide⟩ (fun h11 => ?_) (fun h11 => ?_)
              · skip
                exact j_sub [0, 1, 2, 3, 4] [(0, .ref a), (1, .int (zI x1)), (2, .int (zI x2)), (3, .int (zI v1)), (4, .int (zI v3))] rfl (c67_5  )
              · skip
                refine j_iload_n hx 1 dX12_leaveSame_44 rfl ?_
                refine j_aload_n hx 0 dX12_leaveSame_45 rfl ?_
                refine g13_35 hx hG ha kf_RX12_80 dX12_leaveSame_46 ?_
                refine j_iload hx 4 dX12_leaveSame_49 rfl ?_
                have f12 := zaI (j := (v3).toNat) hS0 (zr (k := 35) (t2 := 92) hG ha rfl) rfl (zlen hG (zr (k := 35) (t2 := 92) hG ha rfl) (n := 900) rfl rfl) (show 0 ≤ v3 by omega) (by omega) rfl
                refine j_iald hx hG (zr (k := 35) (t2 := 92) hG ha rfl) (by decide) rfl (zlen hG (zr (k := 35) (t2 := 92) hG ha rfl) (n := 900) rfl rfl) (by omega) (by omega) (j := (v3).toNat) rfl rfl dX12_leaveSame_51 ?_
                refine j_irem hx dX12_leaveSame_52 (by omega) (by omega) (by omega) (fun v13 f14 f15 f16 f17 => ?_)
                refine j_iload_n hx 2 dX12_leaveSame_53 rfl ?_
                refine j_aload_n hx 0 dX12_leaveSame_54 rfl ?_
                refine g13_35 hx hG ha kf_RX12_80 dX12_leaveSame_55 ?_
                refine j_iload hx 4 dX12_leaveSame_58 rfl ?_
                refine j_iald hx hG (zr (k := 35) (t2 := 92) hG ha rfl) (by decide) rfl (zlen hG (zr (k := 35) (t2 := 92) hG ha rfl) (n := 900) rfl rfl) (by omega) (by omega) (j := (v3).toNat) rfl rfl dX12_leaveSame_60 ?_
                refine j_irem hx dX12_leaveSame_61 (by omega) (by omega) (by omega) (fun v19 f20 f21 f22 f23 => ?_)
                refine j_icmp_eq hx 67 dX12_leaveSame_62 rfl (by omega) (by omega) (fun h25 => ?_) (fun h25 => ?_)
                · skip
                  exact j_sub [0, 1, 2, 3, 4] [(0, .ref a), (1, .int (zI x1)), (2, .int (zI x2)), (3, .int (zI v1)), (4, .int (zI v3))] rfl (c67_5  )
                · skip
                  refine j_iconst hx dX12_leaveSame_65 ?_
                  exact j_zret hx hq rfl (by decide) (by decide) dX12_leaveSame_66 (by omega) ⟨0, rfl, rfl, rfl, (by omega)⟩
        exact j_sub [1, 2, 3, 4, 0] [(0, .ref a), (1, .int (zI x1)), (2, .int (zI x2)), (3, .int (zI v1)), (4, .int (zI (150 * v1)))] rfl (c15_3 (2147483648 * 4) (150 * v1) (by omega) (by omega))
  exact j_sub [1, 2, 3, 0] [(0, .ref a), (1, .int (zI x1)), (2, .int (zI x2)), (3, .int (zI 0))] rfl (c2_1 (2147483648 * 4) 0 (by omega) (by omega))

theorem lk_RX12_420 : LkV RX12 420 RX12 yX12_leaveSame cX12_leaveSame 5 (some .boolean) 2 := ⟨km_RX12_420, ki_yX12_leaveSame, ks_RX12_yX12_leaveSame, kn_RX12, kc_yX12_leaveSame, rfl, by decide +kernel, by decide +kernel, by decide +kernel⟩
set_option maxHeartbeats 4000000 in
set_option maxRecDepth 20000 in
theorem c_X12_isSame {E : zE} {l : Launch} (hst : l.stackTraces = false) (a : Nat) (x1 : Int) (x2 : Int) : Con E l yX12_isSame cX12_isSame 4 (some .boolean) { frames := 1, cells := 0, slots := 0, locals := 24 } (fun G s vs => vs = [.ref a, .int (zI x1), .int (zI x2)] ∧ zGK G ∧ zSK G s ∧ (gT G a = 13) ∧ ((-2147483648) ≤ x1 ∧ x1 ≤ 2147483647) ∧ ((-2147483648) ≤ x2 ∧ x2 ≤ 2147483647)) (fun G s _ => pI (fun r G2 s2 => G2 = G ∧ s2 = s ∧ (0 ≤ r ∧ r ≤ 1))) := by
  refine Con.mk hst (by decide) (fun G s vs h => by rw [h.1]; exact Nat.le_of_ble_eq_true rfl) ?_
  rintro X G s0 vs ⟨rfl, hG, hS0, ha, hx1, hx2⟩ rfl hx hq
  show JJ X E 4 G s0 0 0 [(0, .ref a), (1, .int (zI x1)), (2, .int (zI x2))] 0 []
  refine j_iconst hx dX12_isSame_0 ?_
  refine j_istore_n hx [(3, .int (zI 0)), (0, .ref a), (1, .int (zI x1)), (2, .int (zI x2))] dX12_isSame_1 (by decide) rfl ?_
  have c2_1 : ∀ (m_c2_1 : Nat) (v1 : Int), 2147483648 - v1 < m_c2_1 → (0 ≤ v1 ∧ v1 ≤ 69) → JJ X E 4 G s0 0 0 [(0, .ref a), (1, .int (zI x1)), (2, .int (zI x2)), (3, .int (zI v1))] 2 [] := by
    intro m_c2_1
    induction m_c2_1 with
    | zero => intro v1 hm_c2_1 f2; exfalso; omega
    | succ m_c2_1 ih_c2_1 => 
      intro v1 hm_c2_1 f2
      refine j_iload_n hx 3 dX12_isSame_2 rfl ?_
      refine j_bipush hx dX12_isSame_3 rfl ?_
      refine j_icmp_ge hx 41 dX12_isSame_5 rfl (by omega) ⟨by decide, by decide⟩ (fun h2 => ?_) (fun h2 => ?_)
      · skip
        refine j_aload_n hx 0 dX12_isSame_41 rfl ?_
        refine j_aload_n hx 0 dX12_isSame_42 rfl ?_
        refine g13_48 hx hG ha kf_RX12_109 dX12_isSame_43 ?_
        refine j_bipush hx dX12_isSame_46 rfl ?_
        refine j_iload_n hx 1 dX12_isSame_48 rfl ?_
        refine j_imul hx (r := 70 * x1) dX12_isSame_49 rfl ?_
        refine j_norm (fun v3 f4 f5 f6 => ?_)
        refine j_bipush hx dX12_isSame_50 rfl ?_
        refine j_iadd hx (r := v3 + 70) dX12_isSame_52 rfl ?_
        refine j_norm (fun v7 f8 f9 f10 => ?_)
        refine j_iconst hx dX12_isSame_53 ?_
        refine j_isub hx (r := v7 - 1) dX12_isSame_54 rfl ?_
        refine j_norm (fun v11 f12 f13 f14 => ?_)
        have f15 := zaI (j := (v11).toNat) hS0 (zr (k := 48) (t2 := 101) hG ha rfl) rfl (zlen hG (zr (k := 48) (t2 := 101) hG ha rfl) (n := 210070) rfl rfl) (show 0 ≤ v11 by omega) (by omega) rfl
        refine j_iald hx hG (zr (k := 48) (t2 := 101) hG ha rfl) (by decide) rfl (zlen hG (zr (k := 48) (t2 := 101) hG ha rfl) (n := 210070) rfl rfl) (by omega) (by omega) (j := (v11).toNat) rfl rfl dX12_isSame_55 ?_
        refine j_aload_n hx 0 dX12_isSame_56 rfl ?_
        refine g13_48 hx hG ha kf_RX12_109 dX12_isSame_57 ?_
        refine j_bipush hx dX12_isSame_60 rfl ?_
        refine j_iload_n hx 2 dX12_isSame_62 rfl ?_
        refine j_imul hx (r := 70 * x2) dX12_isSame_63 rfl ?_
        refine j_norm (fun v16 f17 f18 f19 => ?_)
        refine j_bipush hx dX12_isSame_64 rfl ?_
        refine j_iadd hx (r := v16 + 70) dX12_isSame_66 rfl ?_
        refine j_norm (fun v20 f21 f22 f23 => ?_)
        refine j_iconst hx dX12_isSame_67 ?_
        refine j_isub hx (r := v20 - 1) dX12_isSame_68 rfl ?_
        refine j_norm (fun v24 f25 f26 f27 => ?_)
        have f28 := zaI (j := (v24).toNat) hS0 (zr (k := 48) (t2 := 101) hG ha rfl) rfl (zlen hG (zr (k := 48) (t2 := 101) hG ha rfl) (n := 210070) rfl rfl) (show 0 ≤ v24 by omega) (by omega) rfl
        refine j_iald hx hG (zr (k := 48) (t2 := 101) hG ha rfl) (by decide) rfl (zlen hG (zr (k := 48) (t2 := 101) hG ha rfl) (n := 210070) rfl rfl) (by omega) (by omega) (j := (v24).toNat) rfl rfl dX12_isSame_69 ?_
        refine j_callV hx hG (c_X12_leaveSame hst a ((s0 (gP G a 48) (v11).toNat)) ((s0 (gP G a 48) (v24).toNat))) lk_RX12_420 ha (by decide) rfl rfl rfl rfl [.int (zI ((s0 (gP G a 48) (v11).toNat))), .int (zI ((s0 (gP G a 48) (v24).toNat)))] ⟨rfl, hG, hS0, ha, (by omega), (by omega)⟩ rfl rfl ⟨by decide, by decide⟩ ⟨by decide, by decide⟩ (k2 := 0) (n2 := 0) rfl rfl (Nat.le_of_ble_eq_true rfl) dX12_isSame_70 (kIP (fun v29 q30 => ?_))
        exact j_zret hx hq rfl (by decide) (by decide) dX12_isSame_73 (by omega) ⟨v29, rfl, rfl, rfl, (by omega)⟩
      · skip
        refine j_aload_n hx 0 dX12_isSame_8 rfl ?_
        refine g13_48 hx hG ha kf_RX12_109 dX12_isSame_9 ?_
        refine j_bipush hx dX12_isSame_12 rfl ?_
        refine j_iload_n hx 1 dX12_isSame_14 rfl ?_
        refine j_imul hx (r := 70 * x1) dX12_isSame_15 rfl ?_
        refine j_norm (fun v31 f32 f33 f34 => ?_)
        refine j_iload_n hx 3 dX12_isSame_16 rfl ?_
        refine j_iadd hx (r := v31 + v1) dX12_isSame_17 rfl ?_
        refine j_norm (fun v35 f36 f37 f38 => ?_)
        have f39 := zaI (j := (v35).toNat) hS0 (zr (k := 48) (t2 := 101) hG ha rfl) rfl (zlen hG (zr (k := 48) (t2 := 101) hG ha rfl) (n := 210070) rfl rfl) (show 0 ≤ v35 by omega) (by omega) rfl
        refine j_iald hx hG (zr (k := 48) (t2 := 101) hG ha rfl) (by decide) rfl (zlen hG (zr (k := 48) (t2 := 101) hG ha rfl) (n := 210070) rfl rfl) (by omega) (by omega) (j := (v35).toNat) rfl rfl dX12_isSame_18 ?_
        refine j_aload_n hx 0 dX12_isSame_19 rfl ?_
        refine g13_48 hx hG ha kf_RX12_109 dX12_isSame_20 ?_
        refine j_bipush hx dX12_isSame_23 rfl ?_
        refine j_iload_n hx 2 dX12_isSame_25 rfl ?_
        refine j_imul hx (r := 70 * x2) dX12_isSame_26 rfl ?_
        refine j_norm (fun v40 f41 f42 f43 => ?_)
        refine j_iload_n hx 3 dX12_isSame_27 rfl ?_
        refine j_iadd hx (r := v40 + v1) dX12_isSame_28 rfl ?_
        refine j_norm (fun v44 f45 f46 f47 => ?_)
        have f48 := zaI (j := (v44).toNat) hS0 (zr (k := 48) (t2 := 101) hG ha rfl) rfl (zlen hG (zr (k := 48) (t2 := 101) hG ha rfl) (n := 210070) rfl rfl) (show 0 ≤ v44 by omega) (by omega) rfl
        refine j_iald hx hG (zr (k := 48) (t2 := 101) hG ha rfl) (by decide) rfl (zlen hG (zr (k := 48) (t2 := 101) hG ha rfl) (n := 210070) rfl rfl) (by omega) (by omega) (j := (v44).toNat) rfl rfl dX12_isSame_29 ?_
        refine j_icmp_eq hx 35 dX12_isSame_30 rfl (by omega) (by omega) (fun h49 => ?_) (fun h49 => ?_)
        · skip
          refine j_iinc hx 3 [(3, .int (zI (v1 + 1))), (0, .ref a), (1, .int (zI x1)), (2, .int (zI x2))] dX12_isSame_35 rfl (by omega) (by decide) rfl ?_
          refine j_goto hx 2 dX12_isSame_38 rfl ?_
          exact j_sub [1, 2, 3, 0] [(0, .ref a), (1, .int (zI x1)), (2, .int (zI x2)), (3, .int (zI (v1 + 1)))] rfl (ih_c2_1 (v1 + 1) (by omega) (by omega))
        · skip
          refine j_iconst hx dX12_isSame_33 ?_
          exact j_zret hx hq rfl (by decide) (by decide) dX12_isSame_34 (by omega) ⟨0, rfl, rfl, rfl, (by omega)⟩
  exact j_sub [1, 2, 3, 0] [(0, .ref a), (1, .int (zI x1)), (2, .int (zI x2)), (3, .int (zI 0))] rfl (c2_1 (2147483648 * 4) 0 (by omega) (by omega))

set_option maxHeartbeats 4000000 in
set_option maxRecDepth 20000 in
theorem c_X12_isOther {E : zE} {l : Launch} (hst : l.stackTraces = false) (a : Nat) (x1 : Int) (x2 : Int) : Con E l yX12_isOther cX12_isOther 4 (some .boolean) { frames := 0, cells := 0, slots := 0, locals := 0 } (fun G s vs => vs = [.ref a, .int (zI x1), .int (zI x2)] ∧ zGK G ∧ zSK G s ∧ (gT G a = 13) ∧ ((-2147483648) ≤ x1 ∧ x1 ≤ 2147483647) ∧ ((-2147483648) ≤ x2 ∧ x2 ≤ 2147483647)) (fun G s _ => pI (fun r G2 s2 => G2 = G ∧ s2 = s ∧ (0 ≤ r ∧ r ≤ 1))) := by
  refine Con.mk hst (by decide) (fun G s vs h => by rw [h.1]; exact Nat.le_of_ble_eq_true rfl) ?_
  rintro X G s0 vs ⟨rfl, hG, hS0, ha, hx1, hx2⟩ rfl hx hq
  show JJ X E 4 G s0 0 0 [(0, .ref a), (1, .int (zI x1)), (2, .int (zI x2))] 0 []
  refine j_iconst hx dX12_isOther_0 ?_
  refine j_istore_n hx [(3, .int (zI 0)), (0, .ref a), (1, .int (zI x1)), (2, .int (zI x2))] dX12_isOther_1 (by decide) rfl ?_
  refine j_iload_n hx 0 dX12_isOther_2 rfl ?_
  refine j_aload_n hx 1 dX12_isOther_3 rfl ?_
  have f1 := zf hS0 ha (k := 24) rfl
  refine g13_24 hx hG ha kf_RX12_189 rfl dX12_isOther_4 ?_
  refine j_icmp_ge hx 32 dX12_isOther_7 rfl ⟨by decide, by decide⟩ (by omega) (fun h2 => ?_) (fun h2 => absurd h2 (by omega))
  refine j_iconst hx dX12_isOther_32 ?_
  exact j_zret hx hq rfl (by decide) (by decide) dX12_isOther_33 (by omega) ⟨0, rfl, rfl, rfl, (by omega)⟩

set_option maxHeartbeats 4000000 in
set_option maxRecDepth 20000 in
theorem c_X12_isWorth {E : zE} {l : Launch} (hst : l.stackTraces = false) (a : Nat) (x1 : Int) (x2 : Int) (x3 : Int) (x4 : Int) : Con E l yX12_isWorth cX12_isWorth 5 (some .boolean) { frames := 1, cells := 0, slots := 0, locals := 23 } (fun G s vs => vs = [.ref a, .int (zI x1), .int (zI x2), .int (zI x3), .int (zI x4)] ∧ zGK G ∧ zSK G s ∧ (gT G a = 13) ∧ ((-2147483648) ≤ x1 ∧ x1 ≤ 2147483647) ∧ ((-2147483648) ≤ x2 ∧ x2 ≤ 2147483647) ∧ ((-2147483648) ≤ x3 ∧ x3 ≤ 2147483647) ∧ ((-2147483648) ≤ x4 ∧ x4 ≤ 2147483647)) (fun G s _ => pI (fun r G2 s2 => G2 = G ∧ zSK G s2 ∧ zFr [13, 71] G s s2 ∧ (0 ≤ r ∧ r ≤ 1))) := by
  refine Con.mk hst (by decide) (fun G s vs h => by rw [h.1]; exact Nat.le_of_ble_eq_true rfl) ?_
  rintro X G s0 vs ⟨rfl, hG, hS0, ha, hx1, hx2, hx3, hx4⟩ rfl hx hq
  show JJ X E 5 G s0 0 0 [(0, .ref a), (1, .int (zI x1)), (2, .int (zI x2)), (3, .int (zI x3)), (4, .int (zI x4))] 0 []
  refine j_aload_n hx 0 dX12_isWorth_0 rfl ?_
  refine j_iload_n hx 2 dX12_isWorth_1 rfl ?_
  refine j_iconst hx dX12_isWorth_2 ?_
  refine j_bipush hx dX12_isWorth_3 rfl ?_
  refine j_callS hx (c_X12_within hst x2 1 99) lk_RX12_314 [.int (zI x2), .int (zI 1), .int (zI 99)] ⟨rfl, hG, hS0, (by omega), (by omega), (by omega)⟩ rfl rfl ⟨by decide, by decide⟩ ⟨by decide, by decide⟩ (k2 := 0) (n2 := 0) rfl rfl (Nat.le_of_ble_eq_true rfl) dX12_isWorth_5 (kIP (fun v1 q2 => ?_))
  refine j_if_eq hx 45 dX12_isWorth_8 rfl (by omega) (fun h3 => ?_) (fun h3 => ?_)
  · skip
    refine j_iconst hx dX12_isWorth_45 ?_
    refine j_iconst hx dX12_isWorth_46 ?_
    refine j_iconst hx dX12_isWorth_47 ?_
    refine j_callV hx hG (c_X12_may hst a 0 1 1) lk_RX12_240 ha (by decide) rfl rfl rfl rfl [.int (zI 0), .int (zI 1), .int (zI 1)] ⟨rfl, hG, hS0, ha, (by omega), (by omega), (by omega)⟩ rfl rfl ⟨by decide, by decide⟩ ⟨by decide, by decide⟩ (k2 := 0) (n2 := 0) rfl rfl (Nat.le_of_ble_eq_true rfl) dX12_isWorth_48 (kIM (fun v4 s1 hS_s1 hF_s1 q5 => ?_))
    exact j_zret hx hq rfl (by decide) (by decide) dX12_isWorth_51 (by omega) ⟨v4, rfl, rfl, hS_s1, (zFr_t zFr_rf hF_s1 (by decide)), (by omega)⟩
  · skip
    refine j_iload_n hx 1 dX12_isWorth_11 rfl ?_
    refine j_iconst hx dX12_isWorth_12 ?_
    refine j_iload_n hx 2 dX12_isWorth_13 rfl ?_
    refine j_callS hx (c_X12_within hst x1 0 x2) lk_RX12_314 [.int (zI x1), .int (zI 0), .int (zI x2)] ⟨rfl, hG, hS0, (by omega), (by omega), (by omega)⟩ rfl rfl ⟨by decide, by decide⟩ ⟨by decide, by decide⟩ (k2 := 0) (n2 := 0) rfl rfl (Nat.le_of_ble_eq_true rfl) dX12_isWorth_14 (kIP (fun v6 q7 => ?_))
    refine j_if_eq hx 45 dX12_isWorth_17 rfl (by omega) (fun h8 => ?_) (fun h8 => ?_)
    · skip
      refine j_iconst hx dX12_isWorth_45 ?_
      refine j_iconst hx dX12_isWorth_46 ?_
      refine j_iconst hx dX12_isWorth_47 ?_
      refine j_callV hx hG (c_X12_may hst a 0 1 1) lk_RX12_240 ha (by decide) rfl rfl rfl rfl [.int (zI 0), .int (zI 1), .int (zI 1)] ⟨rfl, hG, hS0, ha, (by omega), (by omega), (by omega)⟩ rfl rfl ⟨by decide, by decide⟩ ⟨by decide, by decide⟩ (k2 := 0) (n2 := 0) rfl rfl (Nat.le_of_ble_eq_true rfl) dX12_isWorth_48 (kIM (fun v9 s2 hS_s2 hF_s2 q10 => ?_))
      exact j_zret hx hq rfl (by decide) (by decide) dX12_isWorth_51 (by omega) ⟨v9, rfl, rfl, hS_s2, (zFr_t zFr_rf hF_s2 (by decide)), (by omega)⟩
    · skip
      refine j_iload_n hx 3 dX12_isWorth_20 rfl ?_
      refine j_iconst hx dX12_isWorth_21 ?_
      refine j_bipush hx dX12_isWorth_22 rfl ?_
      refine j_callS hx (c_X12_within hst x3 0 99) lk_RX12_314 [.int (zI x3), .int (zI 0), .int (zI 99)] ⟨rfl, hG, hS0, (by omega), (by omega), (by omega)⟩ rfl rfl ⟨by decide, by decide⟩ ⟨by decide, by decide⟩ (k2 := 0) (n2 := 0) rfl rfl (Nat.le_of_ble_eq_true rfl) dX12_isWorth_24 (kIP (fun v11 q12 => ?_))
      refine j_if_eq hx 45 dX12_isWorth_27 rfl (by omega) (fun h13 => ?_) (fun h13 => ?_)
      · skip
        refine j_iconst hx dX12_isWorth_45 ?_
        refine j_iconst hx dX12_isWorth_46 ?_
        refine j_iconst hx dX12_isWorth_47 ?_
        refine j_callV hx hG (c_X12_may hst a 0 1 1) lk_RX12_240 ha (by decide) rfl rfl rfl rfl [.int (zI 0), .int (zI 1), .int (zI 1)] ⟨rfl, hG, hS0, ha, (by omega), (by omega), (by omega)⟩ rfl rfl ⟨by decide, by decide⟩ ⟨by decide, by decide⟩ (k2 := 0) (n2 := 0) rfl rfl (Nat.le_of_ble_eq_true rfl) dX12_isWorth_48 (kIM (fun v14 s3 hS_s3 hF_s3 q15 => ?_))
        exact j_zret hx hq rfl (by decide) (by decide) dX12_isWorth_51 (by omega) ⟨v14, rfl, rfl, hS_s3, (zFr_t zFr_rf hF_s3 (by decide)), (by omega)⟩
      · skip
        refine j_iload hx 4 dX12_isWorth_30 rfl ?_
        refine j_iconst hx dX12_isWorth_32 ?_
        refine j_bipush hx dX12_isWorth_33 rfl ?_
        refine j_callS hx (c_X12_within hst x4 0 99) lk_RX12_314 [.int (zI x4), .int (zI 0), .int (zI 99)] ⟨rfl, hG, hS0, (by omega), (by omega), (by omega)⟩ rfl rfl ⟨by decide, by decide⟩ ⟨by decide, by decide⟩ (k2 := 0) (n2 := 0) rfl rfl (Nat.le_of_ble_eq_true rfl) dX12_isWorth_35 (kIP (fun v16 q17 => ?_))
        refine j_if_eq hx 45 dX12_isWorth_38 rfl (by omega) (fun h18 => ?_) (fun h18 => ?_)
        · skip
          refine j_iconst hx dX12_isWorth_45 ?_
          refine j_iconst hx dX12_isWorth_46 ?_
          refine j_iconst hx dX12_isWorth_47 ?_
          refine j_callV hx hG (c_X12_may hst a 0 1 1) lk_RX12_240 ha (by decide) rfl rfl rfl rfl [.int (zI 0), .int (zI 1), .int (zI 1)] ⟨rfl, hG, hS0, ha, (by omega), (by omega), (by omega)⟩ rfl rfl ⟨by decide, by decide⟩ ⟨by decide, by decide⟩ (k2 := 0) (n2 := 0) rfl rfl (Nat.le_of_ble_eq_true rfl) dX12_isWorth_48 (kIM (fun v19 s4 hS_s4 hF_s4 q20 => ?_))
          exact j_zret hx hq rfl (by decide) (by decide) dX12_isWorth_51 (by omega) ⟨v19, rfl, rfl, hS_s4, (zFr_t zFr_rf hF_s4 (by decide)), (by omega)⟩
        · skip
          refine j_iconst hx dX12_isWorth_41 ?_
          refine j_goto hx 46 dX12_isWorth_42 rfl ?_
          refine j_iconst hx dX12_isWorth_46 ?_
          refine j_iconst hx dX12_isWorth_47 ?_
          refine j_callV hx hG (c_X12_may hst a 1 1 1) lk_RX12_240 ha (by decide) rfl rfl rfl rfl [.int (zI 1), .int (zI 1), .int (zI 1)] ⟨rfl, hG, hS0, ha, (by omega), (by omega), (by omega)⟩ rfl rfl ⟨by decide, by decide⟩ ⟨by decide, by decide⟩ (k2 := 0) (n2 := 0) rfl rfl (Nat.le_of_ble_eq_true rfl) dX12_isWorth_48 (kIM (fun v21 s5 hS_s5 hF_s5 q22 => ?_))
          exact j_zret hx hq rfl (by decide) (by decide) dX12_isWorth_51 (by omega) ⟨v21, rfl, rfl, hS_s5, (zFr_t zFr_rf hF_s5 (by decide)), (by omega)⟩

theorem lk_RX12_465 : LkV RX12 465 RX12 yX12_isWorth cX12_isWorth 5 (some .boolean) 4 := ⟨km_RX12_465, ki_yX12_isWorth, ks_RX12_yX12_isWorth, kn_RX12, kc_yX12_isWorth, rfl, by decide +kernel, by decide +kernel, by decide +kernel⟩
set_option maxHeartbeats 4000000 in
set_option maxRecDepth 20000 in
theorem c_X12_waits {E : zE} {l : Launch} (hst : l.stackTraces = false) (a : Nat) (x1 : Int) (x2 : Int) (x3 : Int) (x4 : Int) : Con E l yX12_waits cX12_waits 6 (some .int) { frames := 2, cells := 0, slots := 0, locals := 47 } (fun G s vs => vs = [.ref a, .int (zI x1), .int (zI x2), .int (zI x3), .int (zI x4)] ∧ zGK G ∧ zSK G s ∧ (gT G a = 13) ∧ ((-2147483648) ≤ x1 ∧ x1 ≤ 2147483647) ∧ ((-2147483648) ≤ x2 ∧ x2 ≤ 2147483647) ∧ ((-2147483648) ≤ x3 ∧ x3 ≤ 2147483647) ∧ ((-2147483648) ≤ x4 ∧ x4 ≤ 2147483647) ∧ (zS0 G s)) (fun G s _ => pI (fun r G2 s2 => G2 = G ∧ zSK G s2 ∧ zFr [13, 71] G s s2 ∧ ((-2147483648) ≤ r ∧ r ≤ 2147483647))) := by
  refine Con.mk hst (by decide) (fun G s vs h => by rw [h.1]; exact Nat.le_of_ble_eq_true rfl) ?_
  rintro X G s0 vs ⟨rfl, hG, hS0, ha, hx1, hx2, hx3, hx4, hF0⟩ rfl hx hq
  show JJ X E 6 G s0 0 0 [(0, .ref a), (1, .int (zI x1)), (2, .int (zI x2)), (3, .int (zI x3)), (4, .int (zI x4))] 0 []
  refine j_aload_n hx 0 dX12_waits_0 rfl ?_
  refine j_iconst hx dX12_waits_1 ?_
  refine p13_0 hx hG ha kf_RX12_3 dX12_waits_2 ?_
  obtain ⟨s1, e_s1⟩ : ∃ z, z = zU s0 a 0 0 := ⟨_, rfl⟩
  rw [← e_s1]
  have hS_s1 : zSK G s1 := by rw [e_s1]; exact zSK_F hS0 ha rfl rfl rfl (by omega)
  refine j_aload_n hx 0 dX12_waits_5 rfl ?_
  refine j_iload_n hx 1 dX12_waits_6 rfl ?_
  refine j_iload_n hx 2 dX12_waits_7 rfl ?_
  refine j_iload_n hx 3 dX12_waits_8 rfl ?_
  refine j_iload hx 4 dX12_waits_9 rfl ?_
  refine j_callV hx hG (c_X12_isWorth hst a x1 x2 x3 x4) lk_RX12_465 ha (by decide) rfl rfl rfl rfl [.int (zI x1), .int (zI x2), .int (zI x3), .int (zI x4)] ⟨rfl, hG, hS_s1, ha, (by omega), (by omega), (by omega), (by omega)⟩ rfl rfl ⟨by decide, by decide⟩ ⟨by decide, by decide⟩ (k2 := 0) (n2 := 0) rfl rfl (Nat.le_of_ble_eq_true rfl) dX12_waits_11 (kIM (fun v1 s2 hS_s2 hF_s2 q2 => ?_))
  refine j_if_ne hx 19 dX12_waits_14 rfl (by omega) (fun h3 => ?_) (fun h3 => ?_)
  · skip
    refine j_iconst hx dX12_waits_19 ?_
    refine j_istore hx [(5, .int (zI 0)), (0, .ref a), (1, .int (zI x1)), (2, .int (zI x2)), (3, .int (zI x3)), (4, .int (zI x4))] dX12_waits_20 (by decide) rfl ?_
    have c22_3 : ∀ (m_c22_3 : Nat) (v4 : Int), 2147483648 - v4 < m_c22_3 → (0 ≤ v4 ∧ v4 ≤ 17) → JJ X E 6 G s2 0 0 [(1, .int (zI x1)), (2, .int (zI x2)), (3, .int (zI x3)), (4, .int (zI x4)), (5, .int (zI v4))] 22 [] := by
      intro m_c22_3
      induction m_c22_3 with
      | zero => intro v4 hm_c22_3 f4; exfalso; omega
      | succ m_c22_3 ih_c22_3 => 
        intro v4 hm_c22_3 f4
        refine j_iload hx 4 dX12_waits_22 rfl ?_
        refine j_bipush hx dX12_waits_24 rfl ?_
        refine j_icmp_ge hx 57 dX12_waits_26 rfl (by omega) ⟨by decide, by decide⟩ (fun h5 => ?_) (fun h5 => ?_)
        · skip
          refine j_iload hx 4 dX12_waits_57 rfl ?_
          exact j_iret hx hq rfl (by decide) (by decide) dX12_waits_59 ⟨v4, rfl, rfl, hS_s2, (zFr_t (zFr_u zFr_rf e_s1 ha (by decide)) hF_s2 (by decide)), (by omega)⟩
        · skip
          refine j_iload hx 4 dX12_waits_29 rfl ?_
          refine j_iload_n hx 0 dX12_waits_31 rfl ?_
          refine j_imul hx (r := (v4 * x1)) dX12_waits_32 rfl ?_
          refine j_norm (fun v6 f7 f8 f9 => ?_)
          refine j_iload_n hx 2 dX12_waits_33 rfl ?_
          refine j_imul hx (r := (v6 * x3)) dX12_waits_34 rfl ?_
          refine j_norm (fun v10 f11 f12 f13 => ?_)
          refine j_bipush hx dX12_waits_35 rfl ?_
          refine j_iload_n hx 0 dX12_waits_37 rfl ?_
          refine j_iload_n hx 2 dX12_waits_38 rfl ?_
          refine j_imul hx (r := (x1 * x3)) dX12_waits_39 rfl ?_
          refine j_norm (fun v14 f15 f16 f17 => ?_)
          refine j_iload_n hx 1 dX12_waits_40 rfl ?_
          refine j_iload_n hx 0 dX12_waits_41 rfl ?_
          refine j_isub hx (r := x2 - x1) dX12_waits_42 rfl ?_
          refine j_norm (fun v18 f19 f20 f21 => ?_)
          refine j_iload hx 3 dX12_waits_43 rfl ?_
          refine j_imul hx (r := (v18 * x4)) dX12_waits_45 rfl ?_
          refine j_norm (fun v22 f23 f24 f25 => ?_)
          refine j_isub hx (r := v14 - v22) dX12_waits_46 rfl ?_
          refine j_norm (fun v26 f27 f28 f29 => ?_)
          refine j_imul hx (r := 16 * v26) dX12_waits_47 rfl ?_
          refine j_norm (fun v30 f31 f32 f33 => ?_)
          refine j_icmp_ge hx 57 dX12_waits_48 rfl (by omega) (by omega) (fun h34 => ?_) (fun h34 => ?_)
          · skip
            refine j_iload hx 4 dX12_waits_57 rfl ?_
            exact j_iret hx hq rfl (by decide) (by decide) dX12_waits_59 ⟨v4, rfl, rfl, hS_s2, (zFr_t (zFr_u zFr_rf e_s1 ha (by decide)) hF_s2 (by decide)), (by omega)⟩
          · skip
            refine j_iinc hx 4 [(5, .int (zI (v4 + 1))), (1, .int (zI x1)), (2, .int (zI x2)), (3, .int (zI x3)), (4, .int (zI x4))] dX12_waits_51 rfl (by omega) (by decide) rfl ?_
            refine j_goto hx 22 dX12_waits_54 rfl ?_
            exact j_sub [1, 2, 3, 4, 0] [(1, .int (zI x1)), (2, .int (zI x2)), (3, .int (zI x3)), (4, .int (zI x4)), (5, .int (zI (v4 + 1)))] rfl (ih_c22_3 (v4 + 1) (by omega) (by omega))
    exact j_sub [2, 3, 4, 5, 0] [(1, .int (zI x1)), (2, .int (zI x2)), (3, .int (zI x3)), (4, .int (zI x4)), (5, .int (zI 0))] rfl (c22_3 (2147483648 * 4) 0 (by omega) (by omega))
  · skip
    refine j_iconst hx dX12_waits_17 ?_
    exact j_iret hx hq rfl (by decide) (by decide) dX12_waits_18 ⟨0, rfl, rfl, hS_s2, (zFr_t (zFr_u zFr_rf e_s1 ha (by decide)) hF_s2 (by decide)), (by omega)⟩

set_option maxHeartbeats 4000000 in
set_option maxRecDepth 20000 in
theorem c_X12_ahead {E : zE} {l : Launch} (hst : l.stackTraces = false) (a : Nat) (x1 : Int) (x2 : Int) (x3 : Int) (x4 : Int) : Con E l yX12_ahead cX12_ahead 5 (some .int) { frames := 2, cells := 0, slots := 0, locals := 47 } (fun G s vs => vs = [.ref a, .int (zI x1), .int (zI x2), .int (zI x3), .int (zI x4)] ∧ zGK G ∧ zSK G s ∧ (gT G a = 13) ∧ ((-2147483648) ≤ x1 ∧ x1 ≤ 2147483647) ∧ ((-2147483648) ≤ x2 ∧ x2 ≤ 2147483647) ∧ ((-2147483648) ≤ x3 ∧ x3 ≤ 2147483647) ∧ ((-2147483648) ≤ x4 ∧ x4 ≤ 2147483647) ∧ (zS0 G s)) (fun G s _ => pI (fun r G2 s2 => G2 = G ∧ zSK G s2 ∧ zFr [13, 71] G s s2 ∧ ((-2147483648) ≤ r ∧ r ≤ 2147483647))) := by
  refine Con.mk hst (by decide) (fun G s vs h => by rw [h.1]; exact Nat.le_of_ble_eq_true rfl) ?_
  rintro X G s0 vs ⟨rfl, hG, hS0, ha, hx1, hx2, hx3, hx4, hF0⟩ rfl hx hq
  show JJ X E 5 G s0 0 0 [(0, .ref a), (1, .int (zI x1)), (2, .int (zI x2)), (3, .int (zI x3)), (4, .int (zI x4))] 0 []
  refine j_aload_n hx 0 dX12_ahead_0 rfl ?_
  refine j_iconst hx dX12_ahead_1 ?_
  refine p13_0 hx hG ha kf_RX12_3 dX12_ahead_2 ?_
  obtain ⟨s1, e_s1⟩ : ∃ z, z = zU s0 a 0 0 := ⟨_, rfl⟩
  rw [← e_s1]
  have hS_s1 : zSK G s1 := by rw [e_s1]; exact zSK_F hS0 ha rfl rfl rfl (by omega)
  refine j_aload_n hx 0 dX12_ahead_5 rfl ?_
  refine j_iload_n hx 1 dX12_ahead_6 rfl ?_
  refine j_iload_n hx 2 dX12_ahead_7 rfl ?_
  refine j_iload_n hx 3 dX12_ahead_8 rfl ?_
  refine j_iload hx 4 dX12_ahead_9 rfl ?_
  refine j_callV hx hG (c_X12_isWorth hst a x1 x2 x3 x4) lk_RX12_465 ha (by decide) rfl rfl rfl rfl [.int (zI x1), .int (zI x2), .int (zI x3), .int (zI x4)] ⟨rfl, hG, hS_s1, ha, (by omega), (by omega), (by omega), (by omega)⟩ rfl rfl ⟨by decide, by decide⟩ ⟨by decide, by decide⟩ (k2 := 0) (n2 := 0) rfl rfl (Nat.le_of_ble_eq_true rfl) dX12_ahead_11 (kIM (fun v1 s2 hS_s2 hF_s2 q2 => ?_))
  refine j_if_ne hx 19 dX12_ahead_14 rfl (by omega) (fun h3 => ?_) (fun h3 => ?_)
  · skip
    refine j_iload_n hx 1 dX12_ahead_19 rfl ?_
    refine j_iload_n hx 3 dX12_ahead_20 rfl ?_
    refine j_imul hx (r := (x1 * x3)) dX12_ahead_21 rfl ?_
    refine j_norm (fun v4 f5 f6 f7 => ?_)
    refine j_iload_n hx 2 dX12_ahead_22 rfl ?_
    refine j_iload_n hx 1 dX12_ahead_23 rfl ?_
    refine j_isub hx (r := x2 - x1) dX12_ahead_24 rfl ?_
    refine j_norm (fun v8 f9 f10 f11 => ?_)
    refine j_iload hx 4 dX12_ahead_25 rfl ?_
    refine j_imul hx (r := (v8 * x4)) dX12_ahead_27 rfl ?_
    refine j_norm (fun v12 f13 f14 f15 => ?_)
    refine j_isub hx (r := v4 - v12) dX12_ahead_28 rfl ?_
    refine j_norm (fun v16 f17 f18 f19 => ?_)
    exact j_iret hx hq rfl (by decide) (by decide) dX12_ahead_29 ⟨v16, rfl, rfl, hS_s2, (zFr_t (zFr_u zFr_rf e_s1 ha (by decide)) hF_s2 (by decide)), (by omega)⟩
  · skip
    refine j_iconst hx dX12_ahead_17 ?_
    exact j_iret hx hq rfl (by decide) (by decide) dX12_ahead_18 ⟨0, rfl, rfl, hS_s2, (zFr_t (zFr_u zFr_rf e_s1 ha (by decide)) hF_s2 (by decide)), (by omega)⟩

set_option maxHeartbeats 4000000 in
set_option maxRecDepth 20000 in
theorem c_X12_gets {E : zE} {l : Launch} (hst : l.stackTraces = false) (a : Nat) (x1 : Int) (x2 : Int) (x3 : Int) : Con E l yX12_gets cX12_gets 6 (some .int) { frames := 0, cells := 0, slots := 0, locals := 0 } (fun G s vs => vs = [.ref a, .int (zI x1), .int (zI x2), .int (zI x3)] ∧ zGK G ∧ zSK G s ∧ (gT G a = 13) ∧ ((-2147483648) ≤ x1 ∧ x1 ≤ 2147483647) ∧ ((-2147483648) ≤ x2 ∧ x2 ≤ 2147483647) ∧ ((-2147483648) ≤ x3 ∧ x3 ≤ 2147483647)) (fun G s _ => pI (fun r G2 s2 => G2 = G ∧ s2 = s ∧ ((-2147483648) ≤ r ∧ r ≤ 2147483647))) := by
  refine Con.mk hst (by decide) (fun G s vs h => by rw [h.1]; exact Nat.le_of_ble_eq_true rfl) ?_
  rintro X G s0 vs ⟨rfl, hG, hS0, ha, hx1, hx2, hx3⟩ rfl hx hq
  show JJ X E 6 G s0 0 0 [(0, .ref a), (1, .int (zI x1)), (2, .int (zI x2)), (3, .int (zI x3))] 0 []
  refine j_iconst hx dX12_gets_0 ?_
  refine j_istore hx [(4, .int (zI 0)), (0, .ref a), (1, .int (zI x1)), (2, .int (zI x2)), (3, .int (zI x3))] dX12_gets_1 (by decide) rfl ?_
  refine j_iconst hx dX12_gets_3 ?_
  refine j_istore hx [(5, .int (zI 0)), (4, .int (zI 0)), (0, .ref a), (1, .int (zI x1)), (2, .int (zI x2)), (3, .int (zI x3))] dX12_gets_4 (by decide) rfl ?_
  refine j_iload hx 0 dX12_gets_6 rfl ?_
  refine j_aload_n hx 2 dX12_gets_8 rfl ?_
  have f1 := zf hS0 ha (k := 26) rfl
  refine g13_26 hx hG ha kf_RX12_195 rfl dX12_gets_9 ?_
  refine j_icmp_ge hx 95 dX12_gets_12 rfl ⟨by decide, by decide⟩ (by omega) (fun h2 => ?_) (fun h2 => absurd h2 (by omega))
  refine j_iload hx 1 dX12_gets_95 rfl ?_
  exact j_iret hx hq rfl (by decide) (by decide) dX12_gets_97 ⟨0, rfl, rfl, rfl, (by omega)⟩

theorem lk_RX12_469 : LkV RX12 469 RX12 yX12_gets cX12_gets 6 (some .int) 3 := ⟨km_RX12_469, ki_yX12_gets, ks_RX12_yX12_gets, kn_RX12, kc_yX12_gets, rfl, by decide +kernel, by decide +kernel, by decide +kernel⟩
set_option maxHeartbeats 4000000 in
set_option maxRecDepth 20000 in
theorem c_X12_moments {E : zE} {l : Launch} (hst : l.stackTraces = false) (a : Nat) (x1 : Int) (x2 : Int) (x3 : Int) : Con E l yX12_moments cX12_moments 4 (some .int) { frames := 1, cells := 0, slots := 0, locals := 25 } (fun G s vs => vs = [.ref a, .int (zI x1), .int (zI x2), .int (zI x3)] ∧ zGK G ∧ zSK G s ∧ (gT G a = 13) ∧ ((-2147483648) ≤ x1 ∧ x1 ≤ 2147483647) ∧ ((-2147483648) ≤ x2 ∧ x2 ≤ 2147483647) ∧ ((-2147483648) ≤ x3 ∧ x3 ≤ 2147483647) ∧ (zS0 G s)) (fun G s _ => pI (fun r G2 s2 => G2 = G ∧ zSK G s2 ∧ zFr [13, 71] G s s2 ∧ ((-2147483648) ≤ r ∧ r ≤ 2147483647))) := by
  refine Con.mk hst (by decide) (fun G s vs h => by rw [h.1]; exact Nat.le_of_ble_eq_true rfl) ?_
  rintro X G s0 vs ⟨rfl, hG, hS0, ha, hx1, hx2, hx3, hF0⟩ rfl hx hq
  show JJ X E 4 G s0 0 0 [(0, .ref a), (1, .int (zI x1)), (2, .int (zI x2)), (3, .int (zI x3))] 0 []
  refine j_aload_n hx 0 dX12_moments_0 rfl ?_
  refine j_iconst hx dX12_moments_1 ?_
  refine p13_0 hx hG ha kf_RX12_3 dX12_moments_2 ?_
  obtain ⟨s1, e_s1⟩ : ∃ z, z = zU s0 a 0 0 := ⟨_, rfl⟩
  rw [← e_s1]
  have hS_s1 : zSK G s1 := by rw [e_s1]; exact zSK_F hS0 ha rfl rfl rfl (by omega)
  refine j_aload_n hx 0 dX12_moments_5 rfl ?_
  refine j_iload_n hx 1 dX12_moments_6 rfl ?_
  refine j_iconst hx dX12_moments_7 ?_
  refine j_aload_n hx 0 dX12_moments_8 rfl ?_
  have f1 := z0f hF0 ha (k := 26) rfl
  refine g13_26 hx hG ha kf_RX12_195 (v := (s0 a 26)) (by rw [e_s1, zU_at (Or.inr (by decide))]) dX12_moments_9 ?_
  refine j_callS hx (c_X12_within hst x1 0 ((s0 a 26))) lk_RX12_314 [.int (zI x1), .int (zI 0), .int (zI ((s0 a 26)))] ⟨rfl, hG, hS_s1, (by omega), (by omega), (by omega)⟩ rfl rfl ⟨by decide, by decide⟩ ⟨by decide, by decide⟩ (k2 := 0) (n2 := 0) rfl rfl (Nat.le_of_ble_eq_true rfl) dX12_moments_12 (kIP (fun v2 q3 => ?_))
  refine j_if_eq hx 44 dX12_moments_15 rfl (by omega) (fun h4 => ?_) (fun h4 => ?_)
  · skip
    refine j_iconst hx dX12_moments_44 ?_
    refine j_iconst hx dX12_moments_45 ?_
    refine j_iconst hx dX12_moments_46 ?_
    refine j_callV hx hG (c_X12_may hst a 0 1 1) lk_RX12_240 ha (by decide) rfl rfl rfl rfl [.int (zI 0), .int (zI 1), .int (zI 1)] ⟨rfl, hG, hS_s1, ha, (by omega), (by omega), (by omega)⟩ rfl rfl ⟨by decide, by decide⟩ ⟨by decide, by decide⟩ (k2 := 0) (n2 := 0) rfl rfl (Nat.le_of_ble_eq_true rfl) dX12_moments_47 (kIM (fun v5 s2 hS_s2 hF_s2 q6 => ?_))
    refine j_if_ne hx 55 dX12_moments_50 rfl (by omega) (fun h7 => ?_) (fun h7 => ?_)
    · skip
      refine j_aload_n hx 0 dX12_moments_55 rfl ?_
      refine j_iload_n hx 1 dX12_moments_56 rfl ?_
      refine j_iload_n hx 2 dX12_moments_57 rfl ?_
      refine j_iload_n hx 3 dX12_moments_58 rfl ?_
      refine j_callV hx hG (c_X12_gets hst a x1 x2 x3) lk_RX12_469 ha (by decide) rfl rfl rfl rfl [.int (zI x1), .int (zI x2), .int (zI x3)] ⟨rfl, hG, hS_s2, ha, (by omega), (by omega), (by omega)⟩ rfl rfl ⟨by decide, by decide⟩ ⟨by decide, by decide⟩ (k2 := 0) (n2 := 0) rfl rfl (Nat.le_of_ble_eq_true rfl) dX12_moments_59 (kIP (fun v8 q9 => ?_))
      exact j_iret hx hq rfl (by decide) (by decide) dX12_moments_62 ⟨v8, rfl, rfl, hS_s2, (zFr_t (zFr_u zFr_rf e_s1 ha (by decide)) hF_s2 (by decide)), (by omega)⟩
    · skip
      refine j_iconst hx dX12_moments_53 ?_
      exact j_iret hx hq rfl (by decide) (by decide) dX12_moments_54 ⟨0, rfl, rfl, hS_s2, (zFr_t (zFr_u zFr_rf e_s1 ha (by decide)) hF_s2 (by decide)), (by omega)⟩
  · skip
    refine j_iload_n hx 2 dX12_moments_18 rfl ?_
    refine j_iconst hx dX12_moments_19 ?_
    refine j_aload_n hx 0 dX12_moments_20 rfl ?_
    refine g13_26 hx hG ha kf_RX12_195 (v := (s0 a 26)) (by rw [e_s1, zU_at (Or.inr (by decide))]) dX12_moments_21 ?_
    refine j_callS hx (c_X12_within hst x2 0 ((s0 a 26))) lk_RX12_314 [.int (zI x2), .int (zI 0), .int (zI ((s0 a 26)))] ⟨rfl, hG, hS_s1, (by omega), (by omega), (by omega)⟩ rfl rfl ⟨by decide, by decide⟩ ⟨by decide, by decide⟩ (k2 := 0) (n2 := 0) rfl rfl (Nat.le_of_ble_eq_true rfl) dX12_moments_24 (kIP (fun v10 q11 => ?_))
    refine j_if_eq hx 44 dX12_moments_27 rfl (by omega) (fun h12 => ?_) (fun h12 => ?_)
    · skip
      refine j_iconst hx dX12_moments_44 ?_
      refine j_iconst hx dX12_moments_45 ?_
      refine j_iconst hx dX12_moments_46 ?_
      refine j_callV hx hG (c_X12_may hst a 0 1 1) lk_RX12_240 ha (by decide) rfl rfl rfl rfl [.int (zI 0), .int (zI 1), .int (zI 1)] ⟨rfl, hG, hS_s1, ha, (by omega), (by omega), (by omega)⟩ rfl rfl ⟨by decide, by decide⟩ ⟨by decide, by decide⟩ (k2 := 0) (n2 := 0) rfl rfl (Nat.le_of_ble_eq_true rfl) dX12_moments_47 (kIM (fun v13 s3 hS_s3 hF_s3 q14 => ?_))
      refine j_if_ne hx 55 dX12_moments_50 rfl (by omega) (fun h15 => ?_) (fun h15 => ?_)
      · skip
        refine j_aload_n hx 0 dX12_moments_55 rfl ?_
        refine j_iload_n hx 1 dX12_moments_56 rfl ?_
        refine j_iload_n hx 2 dX12_moments_57 rfl ?_
        refine j_iload_n hx 3 dX12_moments_58 rfl ?_
        refine j_callV hx hG (c_X12_gets hst a x1 x2 x3) lk_RX12_469 ha (by decide) rfl rfl rfl rfl [.int (zI x1), .int (zI x2), .int (zI x3)] ⟨rfl, hG, hS_s3, ha, (by omega), (by omega), (by omega)⟩ rfl rfl ⟨by decide, by decide⟩ ⟨by decide, by decide⟩ (k2 := 0) (n2 := 0) rfl rfl (Nat.le_of_ble_eq_true rfl) dX12_moments_59 (kIP (fun v16 q17 => ?_))
        exact j_iret hx hq rfl (by decide) (by decide) dX12_moments_62 ⟨v16, rfl, rfl, hS_s3, (zFr_t (zFr_u zFr_rf e_s1 ha (by decide)) hF_s3 (by decide)), (by omega)⟩
      · skip
        refine j_iconst hx dX12_moments_53 ?_
        exact j_iret hx hq rfl (by decide) (by decide) dX12_moments_54 ⟨0, rfl, rfl, hS_s3, (zFr_t (zFr_u zFr_rf e_s1 ha (by decide)) hF_s3 (by decide)), (by omega)⟩
    · skip
      refine j_iload_n hx 3 dX12_moments_30 rfl ?_
      refine j_iconst hx dX12_moments_31 ?_
      refine j_bipush hx dX12_moments_32 rfl ?_
      refine j_callS hx (c_X12_within hst x3 0 99) lk_RX12_314 [.int (zI x3), .int (zI 0), .int (zI 99)] ⟨rfl, hG, hS_s1, (by omega), (by omega), (by omega)⟩ rfl rfl ⟨by decide, by decide⟩ ⟨by decide, by decide⟩ (k2 := 0) (n2 := 0) rfl rfl (Nat.le_of_ble_eq_true rfl) dX12_moments_34 (kIP (fun v18 q19 => ?_))
      refine j_if_eq hx 44 dX12_moments_37 rfl (by omega) (fun h20 => ?_) (fun h20 => ?_)
      · skip
        refine j_iconst hx dX12_moments_44 ?_
        refine j_iconst hx dX12_moments_45 ?_
        refine j_iconst hx dX12_moments_46 ?_
        refine j_callV hx hG (c_X12_may hst a 0 1 1) lk_RX12_240 ha (by decide) rfl rfl rfl rfl [.int (zI 0), .int (zI 1), .int (zI 1)] ⟨rfl, hG, hS_s1, ha, (by omega), (by omega), (by omega)⟩ rfl rfl ⟨by decide, by decide⟩ ⟨by decide, by decide⟩ (k2 := 0) (n2 := 0) rfl rfl (Nat.le_of_ble_eq_true rfl) dX12_moments_47 (kIM (fun v21 s4 hS_s4 hF_s4 q22 => ?_))
        refine j_if_ne hx 55 dX12_moments_50 rfl (by omega) (fun h23 => ?_) (fun h23 => ?_)
        · skip
          refine j_aload_n hx 0 dX12_moments_55 rfl ?_
          refine j_iload_n hx 1 dX12_moments_56 rfl ?_
          refine j_iload_n hx 2 dX12_moments_57 rfl ?_
          refine j_iload_n hx 3 dX12_moments_58 rfl ?_
          refine j_callV hx hG (c_X12_gets hst a x1 x2 x3) lk_RX12_469 ha (by decide) rfl rfl rfl rfl [.int (zI x1), .int (zI x2), .int (zI x3)] ⟨rfl, hG, hS_s4, ha, (by omega), (by omega), (by omega)⟩ rfl rfl ⟨by decide, by decide⟩ ⟨by decide, by decide⟩ (k2 := 0) (n2 := 0) rfl rfl (Nat.le_of_ble_eq_true rfl) dX12_moments_59 (kIP (fun v24 q25 => ?_))
          exact j_iret hx hq rfl (by decide) (by decide) dX12_moments_62 ⟨v24, rfl, rfl, hS_s4, (zFr_t (zFr_u zFr_rf e_s1 ha (by decide)) hF_s4 (by decide)), (by omega)⟩
        · skip
          refine j_iconst hx dX12_moments_53 ?_
          exact j_iret hx hq rfl (by decide) (by decide) dX12_moments_54 ⟨0, rfl, rfl, hS_s4, (zFr_t (zFr_u zFr_rf e_s1 ha (by decide)) hF_s4 (by decide)), (by omega)⟩
      · skip
        refine j_iconst hx dX12_moments_40 ?_
        refine j_goto hx 45 dX12_moments_41 rfl ?_
        refine j_iconst hx dX12_moments_45 ?_
        refine j_iconst hx dX12_moments_46 ?_
        refine j_callV hx hG (c_X12_may hst a 1 1 1) lk_RX12_240 ha (by decide) rfl rfl rfl rfl [.int (zI 1), .int (zI 1), .int (zI 1)] ⟨rfl, hG, hS_s1, ha, (by omega), (by omega), (by omega)⟩ rfl rfl ⟨by decide, by decide⟩ ⟨by decide, by decide⟩ (k2 := 0) (n2 := 0) rfl rfl (Nat.le_of_ble_eq_true rfl) dX12_moments_47 (kIM (fun v26 s5 hS_s5 hF_s5 q27 => ?_))
        refine j_if_ne hx 55 dX12_moments_50 rfl (by omega) (fun h28 => ?_) (fun h28 => ?_)
        · skip
          refine j_aload_n hx 0 dX12_moments_55 rfl ?_
          refine j_iload_n hx 1 dX12_moments_56 rfl ?_
          refine j_iload_n hx 2 dX12_moments_57 rfl ?_
          refine j_iload_n hx 3 dX12_moments_58 rfl ?_
          refine j_callV hx hG (c_X12_gets hst a x1 x2 x3) lk_RX12_469 ha (by decide) rfl rfl rfl rfl [.int (zI x1), .int (zI x2), .int (zI x3)] ⟨rfl, hG, hS_s5, ha, (by omega), (by omega), (by omega)⟩ rfl rfl ⟨by decide, by decide⟩ ⟨by decide, by decide⟩ (k2 := 0) (n2 := 0) rfl rfl (Nat.le_of_ble_eq_true rfl) dX12_moments_59 (kIP (fun v29 q30 => ?_))
          exact j_iret hx hq rfl (by decide) (by decide) dX12_moments_62 ⟨v29, rfl, rfl, hS_s5, (zFr_t (zFr_u zFr_rf e_s1 ha (by decide)) hF_s5 (by decide)), (by omega)⟩
        · skip
          refine j_iconst hx dX12_moments_53 ?_
          exact j_iret hx hq rfl (by decide) (by decide) dX12_moments_54 ⟨0, rfl, rfl, hS_s5, (zFr_t (zFr_u zFr_rf e_s1 ha (by decide)) hF_s5 (by decide)), (by omega)⟩

set_option maxHeartbeats 4000000 in
set_option maxRecDepth 20000 in
theorem c_X12_isBest {E : zE} {l : Launch} (hst : l.stackTraces = false) (a : Nat) (x1 : Int) (x2 : Int) (x3 : Int) : Con E l yX12_isBest cX12_isBest 5 (some .boolean) { frames := 1, cells := 0, slots := 0, locals := 25 } (fun G s vs => vs = [.ref a, .int (zI x1), .int (zI x2), .int (zI x3)] ∧ zGK G ∧ zSK G s ∧ (gT G a = 13) ∧ ((-2147483648) ≤ x1 ∧ x1 ≤ 2147483647) ∧ ((-2147483648) ≤ x2 ∧ x2 ≤ 2147483647) ∧ ((-2147483648) ≤ x3 ∧ x3 ≤ 2147483647)) (fun G s _ => pI (fun r G2 s2 => G2 = G ∧ s2 = s ∧ (0 ≤ r ∧ r ≤ 1))) := by
  refine Con.mk hst (by decide) (fun G s vs h => by rw [h.1]; exact Nat.le_of_ble_eq_true rfl) ?_
  rintro X G s0 vs ⟨rfl, hG, hS0, ha, hx1, hx2, hx3⟩ rfl hx hq
  show JJ X E 5 G s0 0 0 [(0, .ref a), (1, .int (zI x1)), (2, .int (zI x2)), (3, .int (zI x3))] 0 []
  refine j_iconst hx dX12_isBest_0 ?_
  refine j_istore hx [(4, .int (zI 0)), (0, .ref a), (1, .int (zI x1)), (2, .int (zI x2)), (3, .int (zI x3))] dX12_isBest_1 (by decide) rfl ?_
  have c3_1 : ∀ (m_c3_1 : Nat) (v1 : Int), 2147483648 - v1 < m_c3_1 → (0 ≤ v1 ∧ v1 ≤ 1) → JJ X E 5 G s0 0 0 [(0, .ref a), (1, .int (zI x1)), (2, .int (zI x2)), (3, .int (zI x3)), (4, .int (zI v1))] 3 [] := by
    intro m_c3_1
    induction m_c3_1 with
    | zero => intro v1 hm_c3_1 f2; exfalso; omega
    | succ m_c3_1 ih_c3_1 => 
      intro v1 hm_c3_1 f2
      refine j_iload hx 4 dX12_isBest_3 rfl ?_
      refine j_aload_n hx 0 dX12_isBest_5 rfl ?_
      have f2 := zf hS0 ha (k := 26) rfl
      refine g13_26 hx hG ha kf_RX12_195 rfl dX12_isBest_6 ?_
      refine j_icmp_gt hx 38 dX12_isBest_9 rfl (by omega) (by omega) (fun h3 => ?_) (fun h3 => ?_)
      · skip
        refine j_iconst hx dX12_isBest_38 ?_
        exact j_zret hx hq rfl (by decide) (by decide) dX12_isBest_39 (by omega) ⟨1, rfl, rfl, rfl, (by omega)⟩
      · skip
        refine j_aload_n hx 0 dX12_isBest_12 rfl ?_
        refine j_iload hx 4 dX12_isBest_13 rfl ?_
        refine j_iload_n hx 2 dX12_isBest_15 rfl ?_
        refine j_iload_n hx 3 dX12_isBest_16 rfl ?_
        refine j_callV hx hG (c_X12_gets hst a v1 x2 x3) lk_RX12_469 ha (by decide) rfl rfl rfl rfl [.int (zI v1), .int (zI x2), .int (zI x3)] ⟨rfl, hG, hS0, ha, (by omega), (by omega), (by omega)⟩ rfl rfl ⟨by decide, by decide⟩ ⟨by decide, by decide⟩ (k2 := 0) (n2 := 0) rfl rfl (Nat.le_of_ble_eq_true rfl) dX12_isBest_17 (kIP (fun v4 q5 => ?_))
        refine j_aload_n hx 0 dX12_isBest_20 rfl ?_
        refine j_iload_n hx 1 dX12_isBest_21 rfl ?_
        refine j_iload_n hx 2 dX12_isBest_22 rfl ?_
        refine j_iload_n hx 3 dX12_isBest_23 rfl ?_
        refine j_callV hx hG (c_X12_gets hst a x1 x2 x3) lk_RX12_469 ha (by decide) rfl rfl rfl rfl [.int (zI x1), .int (zI x2), .int (zI x3)] ⟨rfl, hG, hS0, ha, (by omega), (by omega), (by omega)⟩ rfl rfl ⟨by decide, by decide⟩ ⟨by decide, by decide⟩ (k2 := 0) (n2 := 0) rfl rfl (Nat.le_of_ble_eq_true rfl) dX12_isBest_24 (kIP (fun v6 q7 => ?_))
        refine j_icmp_le hx 32 dX12_isBest_27 rfl (by omega) (by omega) (fun h8 => ?_) (fun h8 => ?_)
        · skip
          refine j_iinc hx 4 [(4, .int (zI (v1 + 1))), (0, .ref a), (1, .int (zI x1)), (2, .int (zI x2)), (3, .int (zI x3))] dX12_isBest_32 rfl (by omega) (by decide) rfl ?_
          refine j_goto hx 3 dX12_isBest_35 rfl ?_
          exact j_sub [1, 2, 3, 4, 0] [(0, .ref a), (1, .int (zI x1)), (2, .int (zI x2)), (3, .int (zI x3)), (4, .int (zI (v1 + 1)))] rfl (ih_c3_1 (v1 + 1) (by omega) (by omega))
        · skip
          refine j_iconst hx dX12_isBest_30 ?_
          exact j_zret hx hq rfl (by decide) (by decide) dX12_isBest_31 (by omega) ⟨0, rfl, rfl, rfl, (by omega)⟩
  exact j_sub [1, 2, 3, 4, 0] [(0, .ref a), (1, .int (zI x1)), (2, .int (zI x2)), (3, .int (zI x3)), (4, .int (zI 0))] rfl (c3_1 (2147483648 * 4) 0 (by omega) (by omega))

theorem lk_RX12_472 : LkV RX12 472 RX12 yX12_isBest cX12_isBest 5 (some .boolean) 3 := ⟨km_RX12_472, ki_yX12_isBest, ks_RX12_yX12_isBest, kn_RX12, kc_yX12_isBest, rfl, by decide +kernel, by decide +kernel, by decide +kernel⟩
set_option maxHeartbeats 4000000 in
set_option maxRecDepth 20000 in
theorem c_X12_rests {E : zE} {l : Launch} (hst : l.stackTraces = false) (a : Nat) (x1 : Int) (x2 : Int) : Con E l yX12_rests cX12_rests 7 (some .int) { frames := 2, cells := 0, slots := 0, locals := 49 } (fun G s vs => vs = [.ref a, .int (zI x1), .int (zI x2)] ∧ zGK G ∧ zSK G s ∧ (gT G a = 13) ∧ ((-2147483648) ≤ x1 ∧ x1 ≤ 2147483647) ∧ ((-2147483648) ≤ x2 ∧ x2 ≤ 2147483647) ∧ (zS0 G s)) (fun G s _ => pI (fun r G2 s2 => G2 = G ∧ zSK G s2 ∧ zFr [13, 71] G s s2 ∧ ((-2147483648) ≤ r ∧ r ≤ 2147483647))) := by
  refine Con.mk hst (by decide) (fun G s vs h => by rw [h.1]; exact Nat.le_of_ble_eq_true rfl) ?_
  rintro X G s0 vs ⟨rfl, hG, hS0, ha, hx1, hx2, hF0⟩ rfl hx hq
  show JJ X E 7 G s0 0 0 [(0, .ref a), (1, .int (zI x1)), (2, .int (zI x2))] 0 []
  refine j_aload_n hx 0 dX12_rests_0 rfl ?_
  refine j_iconst hx dX12_rests_1 ?_
  refine p13_0 hx hG ha kf_RX12_3 dX12_rests_2 ?_
  obtain ⟨s1, e_s1⟩ : ∃ z, z = zU s0 a 0 0 := ⟨_, rfl⟩
  rw [← e_s1]
  have hS_s1 : zSK G s1 := by rw [e_s1]; exact zSK_F hS0 ha rfl rfl rfl (by omega)
  refine j_aload_n hx 0 dX12_rests_5 rfl ?_
  refine j_iload_n hx 1 dX12_rests_6 rfl ?_
  refine j_iconst hx dX12_rests_7 ?_
  refine j_bipush hx dX12_rests_8 rfl ?_
  refine j_callS hx (c_X12_within hst x1 0 99) lk_RX12_314 [.int (zI x1), .int (zI 0), .int (zI 99)] ⟨rfl, hG, hS_s1, (by omega), (by omega), (by omega)⟩ rfl rfl ⟨by decide, by decide⟩ ⟨by decide, by decide⟩ (k2 := 0) (n2 := 0) rfl rfl (Nat.le_of_ble_eq_true rfl) dX12_rests_10 (kIP (fun v1 q2 => ?_))
  refine j_if_eq hx 29 dX12_rests_13 rfl (by omega) (fun h3 => ?_) (fun h3 => ?_)
  · skip
    refine j_iconst hx dX12_rests_29 ?_
    refine j_iconst hx dX12_rests_30 ?_
    refine j_iconst hx dX12_rests_31 ?_
    refine j_callV hx hG (c_X12_may hst a 0 1 1) lk_RX12_240 ha (by decide) rfl rfl rfl rfl [.int (zI 0), .int (zI 1), .int (zI 1)] ⟨rfl, hG, hS_s1, ha, (by omega), (by omega), (by omega)⟩ rfl rfl ⟨by decide, by decide⟩ ⟨by decide, by decide⟩ (k2 := 0) (n2 := 0) rfl rfl (Nat.le_of_ble_eq_true rfl) dX12_rests_32 (kIM (fun v4 s2 hS_s2 hF_s2 q5 => ?_))
    refine j_if_ne hx 40 dX12_rests_35 rfl (by omega) (fun h6 => ?_) (fun h6 => ?_)
    · skip
      refine j_iconst hx dX12_rests_40 ?_
      refine j_istore_n hx [(3, .int (zI 0)), (0, .ref a), (1, .int (zI x1)), (2, .int (zI x2))] dX12_rests_41 (by decide) rfl ?_
      refine j_iconst hx dX12_rests_42 ?_
      refine j_istore hx [(4, .int (zI (-1))), (3, .int (zI 0)), (0, .ref a), (1, .int (zI x1)), (2, .int (zI x2))] dX12_rests_43 (by decide) rfl ?_
      refine j_iconst hx dX12_rests_45 ?_
      refine j_istore hx [(5, .int (zI 0)), (4, .int (zI (-1))), (3, .int (zI 0)), (0, .ref a), (1, .int (zI x1)), (2, .int (zI x2))] dX12_rests_46 (by decide) rfl ?_
      have c48_3 : ∀ (m_c48_3 : Nat) (v7 : Int) (v8 : Int) (v9 : Int), 2147483648 - v9 < m_c48_3 → ((-2147483648) ≤ v7 ∧ v7 ≤ 2147483647) → ((-1) ≤ v8 ∧ v8 ≤ 0) → (0 ≤ v9 ∧ v9 ≤ 1) → JJ X E 7 G s2 0 0 [(0, .ref a), (1, .int (zI x1)), (2, .int (zI x2)), (3, .int (zI v7)), (4, .int (zI v8)), (5, .int (zI v9))] 48 [] := by
        intro m_c48_3
        induction m_c48_3 with
        | zero => intro v7 v8 v9 hm_c48_3 f4 f5 f6; exfalso; omega
        | succ m_c48_3 ih_c48_3 => 
          intro v7 v8 v9 hm_c48_3 f4 f5 f6
          refine j_iload hx 5 dX12_rests_48 rfl ?_
          refine j_aload_n hx 0 dX12_rests_50 rfl ?_
          have f10 := zf hS_s2 ha (k := 26) rfl
          refine g13_26 hx hG ha kf_RX12_195 rfl dX12_rests_51 ?_
          refine j_icmp_gt hx 127 dX12_rests_54 rfl (by omega) (by omega) (fun h11 => ?_) (fun h11 => ?_)
          · skip
            refine j_iload_n hx 2 dX12_rests_127 rfl ?_
            refine j_if_ne hx 135 dX12_rests_128 rfl (by omega) (fun h12 => ?_) (fun h12 => ?_)
            · skip
              refine j_iload hx 4 dX12_rests_135 rfl ?_
              exact j_iret hx hq rfl (by decide) (by decide) dX12_rests_137 ⟨v8, rfl, rfl, hS_s2, (zFr_t (zFr_u zFr_rf e_s1 ha (by decide)) hF_s2 (by decide)), (by omega)⟩
            · skip
              refine j_iload_n hx 3 dX12_rests_131 rfl ?_
              refine j_goto hx 137 dX12_rests_132 rfl ?_
              exact j_iret hx hq rfl (by decide) (by decide) dX12_rests_137 ⟨v7, rfl, rfl, hS_s2, (zFr_t (zFr_u zFr_rf e_s1 ha (by decide)) hF_s2 (by decide)), (by omega)⟩
          · skip
            refine j_iconst hx dX12_rests_57 ?_
            refine j_istore hx [(6, .int (zI 0)), (0, .ref a), (1, .int (zI x1)), (2, .int (zI x2)), (3, .int (zI v7)), (4, .int (zI v8)), (5, .int (zI v9))] dX12_rests_58 (by decide) rfl ?_
            have c60_7 : ∀ (m_c60_7 : Nat) (v13 : Int) (v14 : Int) (v15 : Int), 2147483648 - v15 < m_c60_7 → ((-2147483648) ≤ v13 ∧ v13 ≤ 2147483647) → ((-1) ≤ v14 ∧ v14 ≤ 0) → (0 ≤ v15 ∧ v15 ≤ 1) → JJ X E 7 G s2 0 0 [(0, .ref a), (1, .int (zI x1)), (2, .int (zI x2)), (3, .int (zI v13)), (4, .int (zI v14)), (5, .int (zI v9)), (6, .int (zI v15))] 60 [] := by
              intro m_c60_7
              induction m_c60_7 with
              | zero => intro v13 v14 v15 hm_c60_7 f8 f9 f10; exfalso; omega
              | succ m_c60_7 ih_c60_7 => 
                intro v13 v14 v15 hm_c60_7 f8 f9 f10
                refine j_iload hx 6 dX12_rests_60 rfl ?_
                refine j_aload_n hx 0 dX12_rests_62 rfl ?_
                refine g13_26 hx hG ha kf_RX12_195 rfl dX12_rests_63 ?_
                refine j_icmp_gt hx 121 dX12_rests_66 rfl (by omega) (by omega) (fun h16 => ?_) (fun h16 => ?_)
                · skip
                  refine j_iinc hx 5 [(5, .int (zI (v9 + 1))), (0, .ref a), (1, .int (zI x1)), (2, .int (zI x2)), (3, .int (zI v13)), (4, .int (zI v14)), (6, .int (zI v15))] dX12_rests_121 rfl (by omega) (by decide) rfl ?_
                  refine j_goto hx 48 dX12_rests_124 rfl ?_
                  exact j_sub [1, 2, 3, 4, 5, 0] [(0, .ref a), (1, .int (zI x1)), (2, .int (zI x2)), (3, .int (zI v13)), (4, .int (zI v14)), (5, .int (zI (v9 + 1)))] rfl (ih_c48_3 v13 v14 (v9 + 1) (by omega) (by omega) (by omega) (by omega))
                · skip
                  refine j_aload_n hx 0 dX12_rests_69 rfl ?_
                  refine j_iload hx 5 dX12_rests_70 rfl ?_
                  refine j_iload hx 6 dX12_rests_72 rfl ?_
                  refine j_iload_n hx 1 dX12_rests_74 rfl ?_
                  refine j_callV hx hG (c_X12_isBest hst a v9 v15 x1) lk_RX12_472 ha (by decide) rfl rfl rfl rfl [.int (zI v9), .int (zI v15), .int (zI x1)] ⟨rfl, hG, hS_s2, ha, (by omega), (by omega), (by omega)⟩ rfl rfl ⟨by decide, by decide⟩ ⟨by decide, by decide⟩ (k2 := 0) (n2 := 0) rfl rfl (Nat.le_of_ble_eq_true rfl) dX12_rests_75 (kIP (fun v17 q18 => ?_))
                  refine j_if_eq hx 115 dX12_rests_78 rfl (by omega) (fun h19 => ?_) (fun h19 => ?_)
                  · skip
                    refine j_iinc hx 6 [(6, .int (zI (v15 + 1))), (0, .ref a), (1, .int (zI x1)), (2, .int (zI x2)), (3, .int (zI v13)), (4, .int (zI v14)), (5, .int (zI v9))] dX12_rests_115 rfl (by omega) (by decide) rfl ?_
                    refine j_goto hx 60 dX12_rests_118 rfl ?_
                    exact j_sub [1, 2, 3, 4, 5, 6, 0] [(0, .ref a), (1, .int (zI x1)), (2, .int (zI x2)), (3, .int (zI v13)), (4, .int (zI v14)), (5, .int (zI v9)), (6, .int (zI (v15 + 1)))] rfl (ih_c60_7 v13 v14 (v15 + 1) (by omega) (by omega) (by omega) (by omega))
                  · skip
                    refine j_aload_n hx 0 dX12_rests_81 rfl ?_
                    refine j_iload hx 6 dX12_rests_82 rfl ?_
                    refine j_iload hx 5 dX12_rests_84 rfl ?_
                    refine j_iload_n hx 1 dX12_rests_86 rfl ?_
                    refine j_callV hx hG (c_X12_isBest hst a v15 v9 x1) lk_RX12_472 ha (by decide) rfl rfl rfl rfl [.int (zI v15), .int (zI v9), .int (zI x1)] ⟨rfl, hG, hS_s2, ha, (by omega), (by omega), (by omega)⟩ rfl rfl ⟨by decide, by decide⟩ ⟨by decide, by decide⟩ (k2 := 0) (n2 := 0) rfl rfl (Nat.le_of_ble_eq_true rfl) dX12_rests_87 (kIP (fun v20 q21 => ?_))
                    refine j_if_ne hx 96 dX12_rests_90 rfl (by omega) (fun h22 => ?_) (fun h22 => ?_)
                    · skip
                      refine j_iincN hx 3 (fun v23 => [(3, .int (zI v23)), (0, .ref a), (1, .int (zI x1)), (2, .int (zI x2)), (4, .int (zI v14)), (5, .int (zI v9)), (6, .int (zI v15))]) dX12_rests_96 rfl (by decide) (fun _ => rfl) (fun v23 f24 f25 f26 => ?_)
                      refine j_iload hx 4 dX12_rests_99 rfl ?_
                      refine j_iconst hx dX12_rests_101 ?_
                      refine j_icmp_ne hx 115 dX12_rests_102 rfl (by omega) ⟨by decide, by decide⟩ (fun h27 => ?_) (fun h27 => ?_)
                      · skip
                        refine j_iinc hx 6 [(6, .int (zI (v15 + 1))), (3, .int (zI v23)), (0, .ref a), (1, .int (zI x1)), (2, .int (zI x2)), (4, .int (zI v14)), (5, .int (zI v9))] dX12_rests_115 rfl (by omega) (by decide) rfl ?_
                        refine j_goto hx 60 dX12_rests_118 rfl ?_
                        exact j_sub [2, 3, 4, 1, 5, 6, 0] [(0, .ref a), (1, .int (zI x1)), (2, .int (zI x2)), (3, .int (zI v23)), (4, .int (zI v14)), (5, .int (zI v9)), (6, .int (zI (v15 + 1)))] rfl (ih_c60_7 v23 v14 (v15 + 1) (by omega) (by omega) (by omega) (by omega))
                      · skip
                        refine j_bipush hx dX12_rests_105 rfl ?_
                        refine j_iload hx 5 dX12_rests_107 rfl ?_
                        refine j_imul hx (r := 100 * v9) dX12_rests_109 rfl ?_
                        refine j_iload hx 6 dX12_rests_110 rfl ?_
                        refine j_iadd hx (r := 100 * v9 + v15) dX12_rests_112 (by omega) ?_
                        refine j_istore hx [(4, .int (zI (100 * v9 + v15))), (3, .int (zI v23)), (0, .ref a), (1, .int (zI x1)), (2, .int (zI x2)), (5, .int (zI v9)), (6, .int (zI v15))] dX12_rests_113 (by decide) rfl ?_
                        refine j_iinc hx 6 [(6, .int (zI (v15 + 1))), (4, .int (zI (100 * v9 + v15))), (3, .int (zI v23)), (0, .ref a), (1, .int (zI x1)), (2, .int (zI x2)), (5, .int (zI v9))] dX12_rests_115 rfl (by omega) (by decide) rfl ?_
                        refine j_goto hx 60 dX12_rests_118 rfl ?_
                        exact j_sub [3, 4, 5, 2, 1, 6, 0] [(0, .ref a), (1, .int (zI x1)), (2, .int (zI x2)), (3, .int (zI v23)), (4, .int (zI (100 * v9 + v15))), (5, .int (zI v9)), (6, .int (zI (v15 + 1)))] rfl (ih_c60_7 v23 (100 * v9 + v15) (v15 + 1) (by omega) (by omega) (by omega) (by omega))
                    · skip
                      refine j_goto hx 115 dX12_rests_93 rfl ?_
                      refine j_iinc hx 6 [(6, .int (zI (v15 + 1))), (0, .ref a), (1, .int (zI x1)), (2, .int (zI x2)), (3, .int (zI v13)), (4, .int (zI v14)), (5, .int (zI v9))] dX12_rests_115 rfl (by omega) (by decide) rfl ?_
                      refine j_goto hx 60 dX12_rests_118 rfl ?_
                      exact j_sub [1, 2, 3, 4, 5, 6, 0] [(0, .ref a), (1, .int (zI x1)), (2, .int (zI x2)), (3, .int (zI v13)), (4, .int (zI v14)), (5, .int (zI v9)), (6, .int (zI (v15 + 1)))] rfl (ih_c60_7 v13 v14 (v15 + 1) (by omega) (by omega) (by omega) (by omega))
            exact j_sub [1, 2, 3, 4, 5, 6, 0] [(0, .ref a), (1, .int (zI x1)), (2, .int (zI x2)), (3, .int (zI v7)), (4, .int (zI v8)), (5, .int (zI v9)), (6, .int (zI 0))] rfl (c60_7 (2147483648 * 4) v7 v8 0 (by omega) (by omega) (by omega) (by omega))
      exact j_sub [3, 4, 5, 2, 1, 0] [(0, .ref a), (1, .int (zI x1)), (2, .int (zI x2)), (3, .int (zI 0)), (4, .int (zI (-1))), (5, .int (zI 0))] rfl (c48_3 (2147483648 * 4) 0 (-1) 0 (by omega) (by omega) (by omega) (by omega))
    · skip
      refine j_iconst hx dX12_rests_38 ?_
      exact j_iret hx hq rfl (by decide) (by decide) dX12_rests_39 ⟨0, rfl, rfl, hS_s2, (zFr_t (zFr_u zFr_rf e_s1 ha (by decide)) hF_s2 (by decide)), (by omega)⟩
  · skip
    refine j_iload_n hx 2 dX12_rests_16 rfl ?_
    refine j_iconst hx dX12_rests_17 ?_
    refine j_iconst hx dX12_rests_18 ?_
    refine j_callS hx (c_X12_within hst x2 0 1) lk_RX12_314 [.int (zI x2), .int (zI 0), .int (zI 1)] ⟨rfl, hG, hS_s1, (by omega), (by omega), (by omega)⟩ rfl rfl ⟨by decide, by decide⟩ ⟨by decide, by decide⟩ (k2 := 0) (n2 := 0) rfl rfl (Nat.le_of_ble_eq_true rfl) dX12_rests_19 (kIP (fun v28 q29 => ?_))
    refine j_if_eq hx 29 dX12_rests_22 rfl (by omega) (fun h30 => ?_) (fun h30 => ?_)
    · skip
      refine j_iconst hx dX12_rests_29 ?_
      refine j_iconst hx dX12_rests_30 ?_
      refine j_iconst hx dX12_rests_31 ?_
      refine j_callV hx hG (c_X12_may hst a 0 1 1) lk_RX12_240 ha (by decide) rfl rfl rfl rfl [.int (zI 0), .int (zI 1), .int (zI 1)] ⟨rfl, hG, hS_s1, ha, (by omega), (by omega), (by omega)⟩ rfl rfl ⟨by decide, by decide⟩ ⟨by decide, by decide⟩ (k2 := 0) (n2 := 0) rfl rfl (Nat.le_of_ble_eq_true rfl) dX12_rests_32 (kIM (fun v31 s11 hS_s11 hF_s11 q32 => ?_))
      refine j_if_ne hx 40 dX12_rests_35 rfl (by omega) (fun h33 => ?_) (fun h33 => ?_)
      · skip
        refine j_iconst hx dX12_rests_40 ?_
        refine j_istore_n hx [(3, .int (zI 0)), (0, .ref a), (1, .int (zI x1)), (2, .int (zI x2))] dX12_rests_41 (by decide) rfl ?_
        refine j_iconst hx dX12_rests_42 ?_
        refine j_istore hx [(4, .int (zI (-1))), (3, .int (zI 0)), (0, .ref a), (1, .int (zI x1)), (2, .int (zI x2))] dX12_rests_43 (by decide) rfl ?_
        refine j_iconst hx dX12_rests_45 ?_
        refine j_istore hx [(5, .int (zI 0)), (4, .int (zI (-1))), (3, .int (zI 0)), (0, .ref a), (1, .int (zI x1)), (2, .int (zI x2))] dX12_rests_46 (by decide) rfl ?_
        have c48_12 : ∀ (m_c48_12 : Nat) (v34 : Int) (v35 : Int) (v36 : Int), 2147483648 - v36 < m_c48_12 → ((-2147483648) ≤ v34 ∧ v34 ≤ 2147483647) → ((-1) ≤ v35 ∧ v35 ≤ 0) → (0 ≤ v36 ∧ v36 ≤ 1) → JJ X E 7 G s11 0 0 [(0, .ref a), (1, .int (zI x1)), (2, .int (zI x2)), (3, .int (zI v34)), (4, .int (zI v35)), (5, .int (zI v36))] 48 [] := by
          intro m_c48_12
          induction m_c48_12 with
          | zero => intro v34 v35 v36 hm_c48_12 f13 f14 f15; exfalso; omega
          | succ m_c48_12 ih_c48_12 => 
            intro v34 v35 v36 hm_c48_12 f13 f14 f15
            refine j_iload hx 5 dX12_rests_48 rfl ?_
            refine j_aload_n hx 0 dX12_rests_50 rfl ?_
            have f37 := zf hS_s11 ha (k := 26) rfl
            refine g13_26 hx hG ha kf_RX12_195 rfl dX12_rests_51 ?_
            refine j_icmp_gt hx 127 dX12_rests_54 rfl (by omega) (by omega) (fun h38 => ?_) (fun h38 => ?_)
            · skip
              refine j_iload_n hx 2 dX12_rests_127 rfl ?_
              refine j_if_ne hx 135 dX12_rests_128 rfl (by omega) (fun h39 => ?_) (fun h39 => ?_)
              · skip
                refine j_iload hx 4 dX12_rests_135 rfl ?_
                exact j_iret hx hq rfl (by decide) (by decide) dX12_rests_137 ⟨v35, rfl, rfl, hS_s11, (zFr_t (zFr_u zFr_rf e_s1 ha (by decide)) hF_s11 (by decide)), (by omega)⟩
              · skip
                refine j_iload_n hx 3 dX12_rests_131 rfl ?_
                refine j_goto hx 137 dX12_rests_132 rfl ?_
                exact j_iret hx hq rfl (by decide) (by decide) dX12_rests_137 ⟨v34, rfl, rfl, hS_s11, (zFr_t (zFr_u zFr_rf e_s1 ha (by decide)) hF_s11 (by decide)), (by omega)⟩
            · skip
              refine j_iconst hx dX12_rests_57 ?_
              refine j_istore hx [(6, .int (zI 0)), (0, .ref a), (1, .int (zI x1)), (2, .int (zI x2)), (3, .int (zI v34)), (4, .int (zI v35)), (5, .int (zI v36))] dX12_rests_58 (by decide) rfl ?_
              have c60_16 : ∀ (m_c60_16 : Nat) (v40 : Int) (v41 : Int) (v42 : Int), 2147483648 - v42 < m_c60_16 → ((-2147483648) ≤ v40 ∧ v40 ≤ 2147483647) → ((-1) ≤ v41 ∧ v41 ≤ 0) → (0 ≤ v42 ∧ v42 ≤ 1) → JJ X E 7 G s11 0 0 [(0, .ref a), (1, .int (zI x1)), (2, .int (zI x2)), (3, .int (zI v40)), (4, .int (zI v41)), (5, .int (zI v36)), (6, .int (zI v42))] 60 [] := by
                intro m_c60_16
                induction m_c60_16 with
                | zero => intro v40 v41 v42 hm_c60_16 f17 f18 f19; exfalso; omega
                | succ m_c60_16 ih_c60_16 => 
                  intro v40 v41 v42 hm_c60_16 f17 f18 f19
                  refine j_iload hx 6 dX12_rests_60 rfl ?_
                  refine j_aload_n hx 0 dX12_rests_62 rfl ?_
                  refine g13_26 hx hG ha kf_RX12_195 rfl dX12_rests_63 ?_
                  refine j_icmp_gt hx 121 dX12_rests_66 rfl (by omega) (by omega) (fun h43 => ?_) (fun h43 => ?_)
                  · skip
                    refine j_iinc hx 5 [(5, .int (zI (v36 + 1))), (0, .ref a), (1, .int (zI x1)), (2, .int (zI x2)), (3, .int (zI v40)), (4, .int (zI v41)), (6, .int (zI v42))] dX12_rests_121 rfl (by omega) (by decide) rfl ?_
                    refine j_goto hx 48 dX12_rests_124 rfl ?_
                    exact j_sub [1, 2, 3, 4, 5, 0] [(0, .ref a), (1, .int (zI x1)), (2, .int (zI x2)), (3, .int (zI v40)), (4, .int (zI v41)), (5, .int (zI (v36 + 1)))] rfl (ih_c48_12 v40 v41 (v36 + 1) (by omega) (by omega) (by omega) (by omega))
                  · skip
                    refine j_aload_n hx 0 dX12_rests_69 rfl ?_
                    refine j_iload hx 5 dX12_rests_70 rfl ?_
                    refine j_iload hx 6 dX12_rests_72 rfl ?_
                    refine j_iload_n hx 1 dX12_rests_74 rfl ?_
                    refine j_callV hx hG (c_X12_isBest hst a v36 v42 x1) lk_RX12_472 ha (by decide) rfl rfl rfl rfl [.int (zI v36), .int (zI v42), .int (zI x1)] ⟨rfl, hG, hS_s11, ha, (by omega), (by omega), (by omega)⟩ rfl rfl ⟨by decide, by decide⟩ ⟨by decide, by decide⟩ (k2 := 0) (n2 := 0) rfl rfl (Nat.le_of_ble_eq_true rfl) dX12_rests_75 (kIP (fun v44 q45 => ?_))
                    refine j_if_eq hx 115 dX12_rests_78 rfl (by omega) (fun h46 => ?_) (fun h46 => ?_)
                    · skip
                      refine j_iinc hx 6 [(6, .int (zI (v42 + 1))), (0, .ref a), (1, .int (zI x1)), (2, .int (zI x2)), (3, .int (zI v40)), (4, .int (zI v41)), (5, .int (zI v36))] dX12_rests_115 rfl (by omega) (by decide) rfl ?_
                      refine j_goto hx 60 dX12_rests_118 rfl ?_
                      exact j_sub [1, 2, 3, 4, 5, 6, 0] [(0, .ref a), (1, .int (zI x1)), (2, .int (zI x2)), (3, .int (zI v40)), (4, .int (zI v41)), (5, .int (zI v36)), (6, .int (zI (v42 + 1)))] rfl (ih_c60_16 v40 v41 (v42 + 1) (by omega) (by omega) (by omega) (by omega))
                    · skip
                      refine j_aload_n hx 0 dX12_rests_81 rfl ?_
                      refine j_iload hx 6 dX12_rests_82 rfl ?_
                      refine j_iload hx 5 dX12_rests_84 rfl ?_
                      refine j_iload_n hx 1 dX12_rests_86 rfl ?_
                      refine j_callV hx hG (c_X12_isBest hst a v42 v36 x1) lk_RX12_472 ha (by decide) rfl rfl rfl rfl [.int (zI v42), .int (zI v36), .int (zI x1)] ⟨rfl, hG, hS_s11, ha, (by omega), (by omega), (by omega)⟩ rfl rfl ⟨by decide, by decide⟩ ⟨by decide, by decide⟩ (k2 := 0) (n2 := 0) rfl rfl (Nat.le_of_ble_eq_true rfl) dX12_rests_87 (kIP (fun v47 q48 => ?_))
                      refine j_if_ne hx 96 dX12_rests_90 rfl (by omega) (fun h49 => ?_) (fun h49 => ?_)
                      · skip
                        refine j_iincN hx 3 (fun v50 => [(3, .int (zI v50)), (0, .ref a), (1, .int (zI x1)), (2, .int (zI x2)), (4, .int (zI v41)), (5, .int (zI v36)), (6, .int (zI v42))]) dX12_rests_96 rfl (by decide) (fun _ => rfl) (fun v50 f51 f52 f53 => ?_)
                        refine j_iload hx 4 dX12_rests_99 rfl ?_
                        refine j_iconst hx dX12_rests_101 ?_
                        refine j_icmp_ne hx 115 dX12_rests_102 rfl (by omega) ⟨by decide, by decide⟩ (fun h54 => ?_) (fun h54 => ?_)
                        · skip
                          refine j_iinc hx 6 [(6, .int (zI (v42 + 1))), (3, .int (zI v50)), (0, .ref a), (1, .int (zI x1)), (2, .int (zI x2)), (4, .int (zI v41)), (5, .int (zI v36))] dX12_rests_115 rfl (by omega) (by decide) rfl ?_
                          refine j_goto hx 60 dX12_rests_118 rfl ?_
                          exact j_sub [2, 3, 4, 1, 5, 6, 0] [(0, .ref a), (1, .int (zI x1)), (2, .int (zI x2)), (3, .int (zI v50)), (4, .int (zI v41)), (5, .int (zI v36)), (6, .int (zI (v42 + 1)))] rfl (ih_c60_16 v50 v41 (v42 + 1) (by omega) (by omega) (by omega) (by omega))
                        · skip
                          refine j_bipush hx dX12_rests_105 rfl ?_
                          refine j_iload hx 5 dX12_rests_107 rfl ?_
                          refine j_imul hx (r := 100 * v36) dX12_rests_109 rfl ?_
                          refine j_iload hx 6 dX12_rests_110 rfl ?_
                          refine j_iadd hx (r := 100 * v36 + v42) dX12_rests_112 (by omega) ?_
                          refine j_istore hx [(4, .int (zI (100 * v36 + v42))), (3, .int (zI v50)), (0, .ref a), (1, .int (zI x1)), (2, .int (zI x2)), (5, .int (zI v36)), (6, .int (zI v42))] dX12_rests_113 (by decide) rfl ?_
                          refine j_iinc hx 6 [(6, .int (zI (v42 + 1))), (4, .int (zI (100 * v36 + v42))), (3, .int (zI v50)), (0, .ref a), (1, .int (zI x1)), (2, .int (zI x2)), (5, .int (zI v36))] dX12_rests_115 rfl (by omega) (by decide) rfl ?_
                          refine j_goto hx 60 dX12_rests_118 rfl ?_
                          exact j_sub [3, 4, 5, 2, 1, 6, 0] [(0, .ref a), (1, .int (zI x1)), (2, .int (zI x2)), (3, .int (zI v50)), (4, .int (zI (100 * v36 + v42))), (5, .int (zI v36)), (6, .int (zI (v42 + 1)))] rfl (ih_c60_16 v50 (100 * v36 + v42) (v42 + 1) (by omega) (by omega) (by omega) (by omega))
                      · skip
                        refine j_goto hx 115 dX12_rests_93 rfl ?_
                        refine j_iinc hx 6 [(6, .int (zI (v42 + 1))), (0, .ref a), (1, .int (zI x1)), (2, .int (zI x2)), (3, .int (zI v40)), (4, .int (zI v41)), (5, .int (zI v36))] dX12_rests_115 rfl (by omega) (by decide) rfl ?_
                        refine j_goto hx 60 dX12_rests_118 rfl ?_
                        exact j_sub [1, 2, 3, 4, 5, 6, 0] [(0, .ref a), (1, .int (zI x1)), (2, .int (zI x2)), (3, .int (zI v40)), (4, .int (zI v41)), (5, .int (zI v36)), (6, .int (zI (v42 + 1)))] rfl (ih_c60_16 v40 v41 (v42 + 1) (by omega) (by omega) (by omega) (by omega))
              exact j_sub [1, 2, 3, 4, 5, 6, 0] [(0, .ref a), (1, .int (zI x1)), (2, .int (zI x2)), (3, .int (zI v34)), (4, .int (zI v35)), (5, .int (zI v36)), (6, .int (zI 0))] rfl (c60_16 (2147483648 * 4) v34 v35 0 (by omega) (by omega) (by omega) (by omega))
        exact j_sub [3, 4, 5, 2, 1, 0] [(0, .ref a), (1, .int (zI x1)), (2, .int (zI x2)), (3, .int (zI 0)), (4, .int (zI (-1))), (5, .int (zI 0))] rfl (c48_12 (2147483648 * 4) 0 (-1) 0 (by omega) (by omega) (by omega) (by omega))
      · skip
        refine j_iconst hx dX12_rests_38 ?_
        exact j_iret hx hq rfl (by decide) (by decide) dX12_rests_39 ⟨0, rfl, rfl, hS_s11, (zFr_t (zFr_u zFr_rf e_s1 ha (by decide)) hF_s11 (by decide)), (by omega)⟩
    · skip
      refine j_iconst hx dX12_rests_25 ?_
      refine j_goto hx 30 dX12_rests_26 rfl ?_
      refine j_iconst hx dX12_rests_30 ?_
      refine j_iconst hx dX12_rests_31 ?_
      refine j_callV hx hG (c_X12_may hst a 1 1 1) lk_RX12_240 ha (by decide) rfl rfl rfl rfl [.int (zI 1), .int (zI 1), .int (zI 1)] ⟨rfl, hG, hS_s1, ha, (by omega), (by omega), (by omega)⟩ rfl rfl ⟨by decide, by decide⟩ ⟨by decide, by decide⟩ (k2 := 0) (n2 := 0) rfl rfl (Nat.le_of_ble_eq_true rfl) dX12_rests_32 (kIM (fun v55 s20 hS_s20 hF_s20 q56 => ?_))
      refine j_if_ne hx 40 dX12_rests_35 rfl (by omega) (fun h57 => ?_) (fun h57 => ?_)
      · skip
        refine j_iconst hx dX12_rests_40 ?_
        refine j_istore_n hx [(3, .int (zI 0)), (0, .ref a), (1, .int (zI x1)), (2, .int (zI x2))] dX12_rests_41 (by decide) rfl ?_
        refine j_iconst hx dX12_rests_42 ?_
        refine j_istore hx [(4, .int (zI (-1))), (3, .int (zI 0)), (0, .ref a), (1, .int (zI x1)), (2, .int (zI x2))] dX12_rests_43 (by decide) rfl ?_
        refine j_iconst hx dX12_rests_45 ?_
        refine j_istore hx [(5, .int (zI 0)), (4, .int (zI (-1))), (3, .int (zI 0)), (0, .ref a), (1, .int (zI x1)), (2, .int (zI x2))] dX12_rests_46 (by decide) rfl ?_
        have c48_21 : ∀ (m_c48_21 : Nat) (v58 : Int) (v59 : Int) (v60 : Int), 2147483648 - v60 < m_c48_21 → ((-2147483648) ≤ v58 ∧ v58 ≤ 2147483647) → ((-1) ≤ v59 ∧ v59 ≤ 0) → (0 ≤ v60 ∧ v60 ≤ 1) → JJ X E 7 G s20 0 0 [(0, .ref a), (1, .int (zI x1)), (2, .int (zI x2)), (3, .int (zI v58)), (4, .int (zI v59)), (5, .int (zI v60))] 48 [] := by
          intro m_c48_21
          induction m_c48_21 with
          | zero => intro v58 v59 v60 hm_c48_21 f22 f23 f24; exfalso; omega
          | succ m_c48_21 ih_c48_21 => 
            intro v58 v59 v60 hm_c48_21 f22 f23 f24
            refine j_iload hx 5 dX12_rests_48 rfl ?_
            refine j_aload_n hx 0 dX12_rests_50 rfl ?_
            have f61 := zf hS_s20 ha (k := 26) rfl
            refine g13_26 hx hG ha kf_RX12_195 rfl dX12_rests_51 ?_
            refine j_icmp_gt hx 127 dX12_rests_54 rfl (by omega) (by omega) (fun h62 => ?_) (fun h62 => ?_)
            · skip
              refine j_iload_n hx 2 dX12_rests_127 rfl ?_
              refine j_if_ne hx 135 dX12_rests_128 rfl (by omega) (fun h63 => ?_) (fun h63 => ?_)
              · skip
                refine j_iload hx 4 dX12_rests_135 rfl ?_
                exact j_iret hx hq rfl (by decide) (by decide) dX12_rests_137 ⟨v59, rfl, rfl, hS_s20, (zFr_t (zFr_u zFr_rf e_s1 ha (by decide)) hF_s20 (by decide)), (by omega)⟩
              · skip
                refine j_iload_n hx 3 dX12_rests_131 rfl ?_
                refine j_goto hx 137 dX12_rests_132 rfl ?_
                exact j_iret hx hq rfl (by decide) (by decide) dX12_rests_137 ⟨v58, rfl, rfl, hS_s20, (zFr_t (zFr_u zFr_rf e_s1 ha (by decide)) hF_s20 (by decide)), (by omega)⟩
            · skip
              refine j_iconst hx dX12_rests_57 ?_
              refine j_istore hx [(6, .int (zI 0)), (0, .ref a), (1, .int (zI x1)), (2, .int (zI x2)), (3, .int (zI v58)), (4, .int (zI v59)), (5, .int (zI v60))] dX12_rests_58 (by decide) rfl ?_
              have c60_25 : ∀ (m_c60_25 : Nat) (v64 : Int) (v65 : Int) (v66 : Int), 2147483648 - v66 < m_c60_25 → ((-2147483648) ≤ v64 ∧ v64 ≤ 2147483647) → ((-1) ≤ v65 ∧ v65 ≤ 0) → (0 ≤ v66 ∧ v66 ≤ 1) → JJ X E 7 G s20 0 0 [(0, .ref a), (1, .int (zI x1)), (2, .int (zI x2)), (3, .int (zI v64)), (4, .int (zI v65)), (5, .int (zI v60)), (6, .int (zI v66))] 60 [] := by
                intro m_c60_25
                induction m_c60_25 with
                | zero => intro v64 v65 v66 hm_c60_25 f26 f27 f28; exfalso; omega
                | succ m_c60_25 ih_c60_25 => 
                  intro v64 v65 v66 hm_c60_25 f26 f27 f28
                  refine j_iload hx 6 dX12_rests_60 rfl ?_
                  refine j_aload_n hx 0 dX12_rests_62 rfl ?_
                  refine g13_26 hx hG ha kf_RX12_195 rfl dX12_rests_63 ?_
                  refine j_icmp_gt hx 121 dX12_rests_66 rfl (by omega) (by omega) (fun h67 => ?_) (fun h67 => ?_)
                  · skip
                    refine j_iinc hx 5 [(5, .int (zI (v60 + 1))), (0, .ref a), (1, .int (zI x1)), (2, .int (zI x2)), (3, .int (zI v64)), (4, .int (zI v65)), (6, .int (zI v66))] dX12_rests_121 rfl (by omega) (by decide) rfl ?_
                    refine j_goto hx 48 dX12_rests_124 rfl ?_
                    exact j_sub [1, 2, 3, 4, 5, 0] [(0, .ref a), (1, .int (zI x1)), (2, .int (zI x2)), (3, .int (zI v64)), (4, .int (zI v65)), (5, .int (zI (v60 + 1)))] rfl (ih_c48_21 v64 v65 (v60 + 1) (by omega) (by omega) (by omega) (by omega))
                  · skip
                    refine j_aload_n hx 0 dX12_rests_69 rfl ?_
                    refine j_iload hx 5 dX12_rests_70 rfl ?_
                    refine j_iload hx 6 dX12_rests_72 rfl ?_
                    refine j_iload_n hx 1 dX12_rests_74 rfl ?_
                    refine j_callV hx hG (c_X12_isBest hst a v60 v66 x1) lk_RX12_472 ha (by decide) rfl rfl rfl rfl [.int (zI v60), .int (zI v66), .int (zI x1)] ⟨rfl, hG, hS_s20, ha, (by omega), (by omega), (by omega)⟩ rfl rfl ⟨by decide, by decide⟩ ⟨by decide, by decide⟩ (k2 := 0) (n2 := 0) rfl rfl (Nat.le_of_ble_eq_true rfl) dX12_rests_75 (kIP (fun v68 q69 => ?_))
                    refine j_if_eq hx 115 dX12_rests_78 rfl (by omega) (fun h70 => ?_) (fun h70 => ?_)
                    · skip
                      refine j_iinc hx 6 [(6, .int (zI (v66 + 1))), (0, .ref a), (1, .int (zI x1)), (2, .int (zI x2)), (3, .int (zI v64)), (4, .int (zI v65)), (5, .int (zI v60))] dX12_rests_115 rfl (by omega) (by decide) rfl ?_
                      refine j_goto hx 60 dX12_rests_118 rfl ?_
                      exact j_sub [1, 2, 3, 4, 5, 6, 0] [(0, .ref a), (1, .int (zI x1)), (2, .int (zI x2)), (3, .int (zI v64)), (4, .int (zI v65)), (5, .int (zI v60)), (6, .int (zI (v66 + 1)))] rfl (ih_c60_25 v64 v65 (v66 + 1) (by omega) (by omega) (by omega) (by omega))
                    · skip
                      refine j_aload_n hx 0 dX12_rests_81 rfl ?_
                      refine j_iload hx 6 dX12_rests_82 rfl ?_
                      refine j_iload hx 5 dX12_rests_84 rfl ?_
                      refine j_iload_n hx 1 dX12_rests_86 rfl ?_
                      refine j_callV hx hG (c_X12_isBest hst a v66 v60 x1) lk_RX12_472 ha (by decide) rfl rfl rfl rfl [.int (zI v66), .int (zI v60), .int (zI x1)] ⟨rfl, hG, hS_s20, ha, (by omega), (by omega), (by omega)⟩ rfl rfl ⟨by decide, by decide⟩ ⟨by decide, by decide⟩ (k2 := 0) (n2 := 0) rfl rfl (Nat.le_of_ble_eq_true rfl) dX12_rests_87 (kIP (fun v71 q72 => ?_))
                      refine j_if_ne hx 96 dX12_rests_90 rfl (by omega) (fun h73 => ?_) (fun h73 => ?_)
                      · skip
                        refine j_iincN hx 3 (fun v74 => [(3, .int (zI v74)), (0, .ref a), (1, .int (zI x1)), (2, .int (zI x2)), (4, .int (zI v65)), (5, .int (zI v60)), (6, .int (zI v66))]) dX12_rests_96 rfl (by decide) (fun _ => rfl) (fun v74 f75 f76 f77 => ?_)
                        refine j_iload hx 4 dX12_rests_99 rfl ?_
                        refine j_iconst hx dX12_rests_101 ?_
                        refine j_icmp_ne hx 115 dX12_rests_102 rfl (by omega) ⟨by decide, by decide⟩ (fun h78 => ?_) (fun h78 => ?_)
                        · skip
                          refine j_iinc hx 6 [(6, .int (zI (v66 + 1))), (3, .int (zI v74)), (0, .ref a), (1, .int (zI x1)), (2, .int (zI x2)), (4, .int (zI v65)), (5, .int (zI v60))] dX12_rests_115 rfl (by omega) (by decide) rfl ?_
                          refine j_goto hx 60 dX12_rests_118 rfl ?_
                          exact j_sub [2, 3, 4, 1, 5, 6, 0] [(0, .ref a), (1, .int (zI x1)), (2, .int (zI x2)), (3, .int (zI v74)), (4, .int (zI v65)), (5, .int (zI v60)), (6, .int (zI (v66 + 1)))] rfl (ih_c60_25 v74 v65 (v66 + 1) (by omega) (by omega) (by omega) (by omega))
                        · skip
                          refine j_bipush hx dX12_rests_105 rfl ?_
                          refine j_iload hx 5 dX12_rests_107 rfl ?_
                          refine j_imul hx (r := 100 * v60) dX12_rests_109 rfl ?_
                          refine j_iload hx 6 dX12_rests_110 rfl ?_
                          refine j_iadd hx (r := 100 * v60 + v66) dX12_rests_112 (by omega) ?_
                          refine j_istore hx [(4, .int (zI (100 * v60 + v66))), (3, .int (zI v74)), (0, .ref a), (1, .int (zI x1)), (2, .int (zI x2)), (5, .int (zI v60)), (6, .int (zI v66))] dX12_rests_113 (by decide) rfl ?_
                          refine j_iinc hx 6 [(6, .int (zI (v66 + 1))), (4, .int (zI (100 * v60 + v66))), (3, .int (zI v74)), (0, .ref a), (1, .int (zI x1)), (2, .int (zI x2)), (5, .int (zI v60))] dX12_rests_115 rfl (by omega) (by decide) rfl ?_
                          refine j_goto hx 60 dX12_rests_118 rfl ?_
                          exact j_sub [3, 4, 5, 2, 1, 6, 0] [(0, .ref a), (1, .int (zI x1)), (2, .int (zI x2)), (3, .int (zI v74)), (4, .int (zI (100 * v60 + v66))), (5, .int (zI v60)), (6, .int (zI (v66 + 1)))] rfl (ih_c60_25 v74 (100 * v60 + v66) (v66 + 1) (by omega) (by omega) (by omega) (by omega))
                      · skip
                        refine j_goto hx 115 dX12_rests_93 rfl ?_
                        refine j_iinc hx 6 [(6, .int (zI (v66 + 1))), (0, .ref a), (1, .int (zI x1)), (2, .int (zI x2)), (3, .int (zI v64)), (4, .int (zI v65)), (5, .int (zI v60))] dX12_rests_115 rfl (by omega) (by decide) rfl ?_
                        refine j_goto hx 60 dX12_rests_118 rfl ?_
                        exact j_sub [1, 2, 3, 4, 5, 6, 0] [(0, .ref a), (1, .int (zI x1)), (2, .int (zI x2)), (3, .int (zI v64)), (4, .int (zI v65)), (5, .int (zI v60)), (6, .int (zI (v66 + 1)))] rfl (ih_c60_25 v64 v65 (v66 + 1) (by omega) (by omega) (by omega) (by omega))
              exact j_sub [1, 2, 3, 4, 5, 6, 0] [(0, .ref a), (1, .int (zI x1)), (2, .int (zI x2)), (3, .int (zI v58)), (4, .int (zI v59)), (5, .int (zI v60)), (6, .int (zI 0))] rfl (c60_25 (2147483648 * 4) v58 v59 0 (by omega) (by omega) (by omega) (by omega))
        exact j_sub [3, 4, 5, 2, 1, 0] [(0, .ref a), (1, .int (zI x1)), (2, .int (zI x2)), (3, .int (zI 0)), (4, .int (zI (-1))), (5, .int (zI 0))] rfl (c48_21 (2147483648 * 4) 0 (-1) 0 (by omega) (by omega) (by omega) (by omega))
      · skip
        refine j_iconst hx dX12_rests_38 ?_
        exact j_iret hx hq rfl (by decide) (by decide) dX12_rests_39 ⟨0, rfl, rfl, hS_s20, (zFr_t (zFr_u zFr_rf e_s1 ha (by decide)) hF_s20 (by decide)), (by omega)⟩

set_option maxHeartbeats 4000000 in
set_option maxRecDepth 20000 in
theorem c_X12_ones {E : zE} {l : Launch} (hst : l.stackTraces = false) (x0 : Int) : Con E l yX12_ones cX12_ones 3 (some .int) { frames := 0, cells := 0, slots := 0, locals := 0 } (fun G s vs => vs = [.int (zI x0)] ∧ zGK G ∧ zSK G s ∧ ((-2147483648) ≤ x0 ∧ x0 ≤ 2147483647)) (fun G s _ => pI (fun r G2 s2 => G2 = G ∧ s2 = s ∧ ((-2147483648) ≤ r ∧ r ≤ 2147483647))) := by
  refine Con.mk hst (by decide) (fun G s vs h => by rw [h.1]; exact Nat.le_of_ble_eq_true rfl) ?_
  rintro X G s0 vs ⟨rfl, hG, hS0, hx0⟩ rfl hx hq
  show JJ X E 3 G s0 0 0 [(0, .int (zI x0))] 0 []
  refine j_iconst hx dX12_ones_0 ?_
  refine j_istore_n hx [(1, .int (zI 0)), (0, .int (zI x0))] dX12_ones_1 (by decide) rfl ?_
  refine j_iload_n hx 1 dX12_ones_2 rfl ?_
  refine j_istore_n hx [(2, .int (zI x0)), (1, .int (zI 0)), (0, .int (zI x0))] dX12_ones_3 (by decide) rfl ?_
  have c4_1 : ∀ (m_c4_1 : Nat) (v1 : Int) (v2 : Int), 2147483648 - v1 < m_c4_1 → ((-2147483648) ≤ v1 ∧ v1 ≤ 2147483647) → ((-2147483648) ≤ v2 ∧ v2 ≤ 2147483647) → JJ X E 3 G s0 0 0 [(1, .int (zI v1)), (2, .int (zI v2))] 4 [] := by
    intro m_c4_1
    induction m_c4_1 with
    | zero => intro v1 v2 hm_c4_1 f2 f3; exfalso; omega
    | succ m_c4_1 ih_c4_1 => 
      intro v1 v2 hm_c4_1 f2 f3
      refine j_iload_n hx 1 dX12_ones_4 rfl ?_
      refine j_if_eq hx 20 dX12_ones_5 rfl (by omega) (fun h3 => ?_) (fun h3 => ?_)
      · skip
        refine j_iload_n hx 0 dX12_ones_20 rfl ?_
        exact j_iret hx hq rfl (by decide) (by decide) dX12_ones_21 ⟨v1, rfl, rfl, rfl, (by omega)⟩
      · skip
        refine j_iincN hx 0 (fun v4 => [(1, .int (zI v4)), (2, .int (zI v2))]) dX12_ones_8 rfl (by decide) (fun _ => rfl) (fun v4 f5 f6 f7 => ?_)
        refine j_iload_n hx 1 dX12_ones_11 rfl ?_
        refine j_iload_n hx 1 dX12_ones_12 rfl ?_
        refine j_iconst hx dX12_ones_13 ?_
        refine j_isub hx (r := v2 - 1) dX12_ones_14 rfl ?_
        refine j_norm (fun v8 f9 f10 f11 => ?_)
        refine j_iand hx dX12_ones_15 (by omega) (by omega) (fun v12 f13 f14 f15 f16 _ => ?_)
        refine j_istore_n hx [(2, .int (zI v12)), (1, .int (zI v4))] dX12_ones_16 (by decide) rfl ?_
        refine j_goto hx 4 dX12_ones_17 rfl ?_
        exact j_sub [1, 0] [(1, .int (zI v4)), (2, .int (zI v12))] rfl (ih_c4_1 v4 v12 (by omega) (by omega) (by omega))
  exact j_sub [1, 0] [(1, .int (zI 0)), (2, .int (zI x0))] rfl (c4_1 (2147483648 * 4) 0 x0 (by omega) (by omega) (by omega))

set_option maxHeartbeats 4000000 in
set_option maxRecDepth 20000 in
theorem c_X12_hasMost {E : zE} {l : Launch} (hst : l.stackTraces = false) (a : Nat) (x1 : Int) : Con E l yX12_hasMost cX12_hasMost 3 (some .boolean) { frames := 0, cells := 0, slots := 0, locals := 0 } (fun G s vs => vs = [.ref a, .int (zI x1)] ∧ zGK G ∧ zSK G s ∧ (gT G a = 13) ∧ ((-2147483648) ≤ x1 ∧ x1 ≤ 2147483647)) (fun G s _ => pI (fun r G2 s2 => G2 = G ∧ s2 = s ∧ (0 ≤ r ∧ r ≤ 1))) := by
  refine Con.mk hst (by decide) (fun G s vs h => by rw [h.1]; exact Nat.le_of_ble_eq_true rfl) ?_
  rintro X G s0 vs ⟨rfl, hG, hS0, ha, hx1⟩ rfl hx hq
  show JJ X E 3 G s0 0 0 [(0, .ref a), (1, .int (zI x1))] 0 []
  refine j_iconst hx dX12_hasMost_0 ?_
  refine j_istore_n hx [(2, .int (zI 0)), (0, .ref a), (1, .int (zI x1))] dX12_hasMost_1 (by decide) rfl ?_
  refine j_iload_n hx 0 dX12_hasMost_2 rfl ?_
  refine j_aload_n hx 1 dX12_hasMost_3 rfl ?_
  have f1 := zf hS0 ha (k := 24) rfl
  refine g13_24 hx hG ha kf_RX12_189 rfl dX12_hasMost_4 ?_
  refine j_icmp_ge hx 36 dX12_hasMost_7 rfl ⟨by decide, by decide⟩ (by omega) (fun h2 => ?_) (fun h2 => absurd h2 (by omega))
  refine j_iconst hx dX12_hasMost_36 ?_
  exact j_zret hx hq rfl (by decide) (by decide) dX12_hasMost_37 (by omega) ⟨1, rfl, rfl, rfl, (by omega)⟩

set_option maxHeartbeats 4000000 in
set_option maxRecDepth 20000 in
theorem c_X12_shuffles {E : zE} {l : Launch} (hst : l.stackTraces = false) (a : Nat) (x1 : Int) : Con E l yX12_shuffles cX12_shuffles 8 none { frames := 0, cells := 0, slots := 0, locals := 0 } (fun G s vs => vs = [.ref a, .int (zI x1)] ∧ zGK G ∧ zSK G s ∧ (gT G a = 13) ∧ ((-2147483648) ≤ x1 ∧ x1 ≤ 2147483647)) (fun G s _ => pV (fun G2 s2 => G2 = G ∧ s2 = s ∧ True)) := by
  refine Con.mk hst (by decide) (fun G s vs h => by rw [h.1]; exact Nat.le_of_ble_eq_true rfl) ?_
  rintro X G s0 vs ⟨rfl, hG, hS0, ha, hx1⟩ rfl hx hq
  show JJ X E 8 G s0 0 0 [(0, .ref a), (1, .int (zI x1))] 0 []
  refine j_iload_n hx 1 dX12_shuffles_0 rfl ?_
  refine j_istore_n hx [(2, .int (zI x1)), (0, .ref a), (1, .int (zI x1))] dX12_shuffles_1 (by decide) rfl ?_
  refine j_iconst hx dX12_shuffles_2 ?_
  refine j_istore_n hx [(3, .int (zI 0)), (2, .int (zI x1)), (0, .ref a), (1, .int (zI x1))] dX12_shuffles_3 (by decide) rfl ?_
  refine j_iload_n hx 0 dX12_shuffles_4 rfl ?_
  refine j_aload_n hx 2 dX12_shuffles_5 rfl ?_
  have f1 := zf hS0 ha (k := 24) rfl
  refine g13_24 hx hG ha kf_RX12_189 rfl dX12_shuffles_6 ?_
  refine j_icmp_ge hx 118 dX12_shuffles_9 rfl ⟨by decide, by decide⟩ (by omega) (fun h2 => ?_) (fun h2 => absurd h2 (by omega))
  exact j_vret hx hq rfl (by decide) (by decide) dX12_shuffles_118 ⟨rfl, rfl, rfl, trivial⟩

theorem lk_RX12_495 : LkV RX12 495 RX12 yX12_shuffles cX12_shuffles 8 none 1 := ⟨km_RX12_495, ki_yX12_shuffles, ks_RX12_yX12_shuffles, kn_RX12, kc_yX12_shuffles, rfl, by decide +kernel, by decide +kernel, by decide +kernel⟩
set_option maxHeartbeats 4000000 in
set_option maxRecDepth 20000 in
theorem c_X12_shuffle {E : zE} {l : Launch} (hst : l.stackTraces = false) (a : Nat) (x1 : Int) : Con E l yX12_shuffle cX12_shuffle 2 none { frames := 1, cells := 0, slots := 0, locals := 27 } (fun G s vs => vs = [.ref a, .int (zI x1)] ∧ zGK G ∧ zSK G s ∧ (gT G a = 13) ∧ ((-2147483648) ≤ x1 ∧ x1 ≤ 2147483647) ∧ (zS0 G s)) (fun G s _ => pV (fun G2 s2 => G2 = G ∧ zSK G s2 ∧ zFr [13, 85] G s s2 ∧ True)) := by
  refine Con.mk hst (by decide) (fun G s vs h => by rw [h.1]; exact Nat.le_of_ble_eq_true rfl) ?_
  rintro X G s0 vs ⟨rfl, hG, hS0, ha, hx1, hF0⟩ rfl hx hq
  show JJ X E 2 G s0 0 0 [(0, .ref a), (1, .int (zI x1))] 0 []
  refine j_aload_n hx 0 dX12_shuffle_0 rfl ?_
  refine j_iconst hx dX12_shuffle_1 ?_
  refine p13_0 hx hG ha kf_RX12_3 dX12_shuffle_2 ?_
  obtain ⟨s1, e_s1⟩ : ∃ z, z = zU s0 a 0 0 := ⟨_, rfl⟩
  rw [← e_s1]
  have hS_s1 : zSK G s1 := by rw [e_s1]; exact zSK_F hS0 ha rfl rfl rfl (by omega)
  refine j_aload_n hx 0 dX12_shuffle_5 rfl ?_
  refine j_iload_n hx 1 dX12_shuffle_6 rfl ?_
  refine j_callV hx hG (c_X12_shuffles hst a x1) lk_RX12_495 ha (by decide) rfl rfl rfl rfl [.int (zI x1)] ⟨rfl, hG, hS_s1, ha, (by omega)⟩ rfl rfl ⟨by decide, by decide⟩ ⟨by decide, by decide⟩ (k2 := 0) (n2 := 0) rfl rfl (Nat.le_of_ble_eq_true rfl) dX12_shuffle_7 (kVP (fun q2 => ?_))
  refine j_aload_n hx 0 dX12_shuffle_10 rfl ?_
  refine j_callV hx hG (c_X12_stays hst a) lk_RX12_207 ha (by decide) rfl rfl rfl rfl [] ⟨rfl, hG, hS_s1, ha⟩ rfl rfl ⟨by decide, by decide⟩ ⟨by decide, by decide⟩ (k2 := 0) (n2 := 0) rfl rfl (Nat.le_of_ble_eq_true rfl) dX12_shuffle_11 (kVM (fun s2 hS_s2 hF_s2 q4 => ?_))
  exact j_vret hx hq rfl (by decide) (by decide) dX12_shuffle_14 ⟨rfl, rfl, hS_s2, (zFr_t (zFr_u zFr_rf e_s1 ha (by decide)) hF_s2 (by decide)), trivial⟩

set_option maxHeartbeats 4000000 in
set_option maxRecDepth 20000 in
theorem c_X12_film {E : zE} {l : Launch} (hst : l.stackTraces = false) (a : Nat) (x1 : Int) (x2 : Int) (x3 : Int) (x4 : Int) (x5 : Int) : Con E l yX12_film cX12_film 10 (some .int) { frames := 1, cells := 0, slots := 0, locals := 23 } (fun G s vs => vs = [.ref a, .int (zI x1), .int (zI x2), .int (zI x3), .int (zI x4), .int (zI x5)] ∧ zGK G ∧ zSK G s ∧ (gT G a = 13) ∧ ((-2147483648) ≤ x1 ∧ x1 ≤ 2147483647) ∧ ((-2147483648) ≤ x2 ∧ x2 ≤ 2147483647) ∧ ((-2147483648) ≤ x3 ∧ x3 ≤ 2147483647) ∧ ((-2147483648) ≤ x4 ∧ x4 ≤ 2147483647) ∧ ((-2147483648) ≤ x5 ∧ x5 ≤ 2147483647) ∧ (zS0 G s)) (fun G s _ => pI (fun r G2 s2 => G2 = G ∧ zSK G s2 ∧ zFr [13, 71] G s s2 ∧ ((-2147483648) ≤ r ∧ r ≤ 2147483647))) := by
  refine Con.mk hst (by decide) (fun G s vs h => by rw [h.1]; exact Nat.le_of_ble_eq_true rfl) ?_
  rintro X G s0 vs ⟨rfl, hG, hS0, ha, hx1, hx2, hx3, hx4, hx5, hF0⟩ rfl hx hq
  show JJ X E 10 G s0 0 0 [(0, .ref a), (1, .int (zI x1)), (2, .int (zI x2)), (3, .int (zI x3)), (4, .int (zI x4)), (5, .int (zI x5))] 0 []
  refine j_aload_n hx 0 dX12_film_0 rfl ?_
  refine j_iconst hx dX12_film_1 ?_
  refine p13_0 hx hG ha kf_RX12_3 dX12_film_2 ?_
  obtain ⟨s1, e_s1⟩ : ∃ z, z = zU s0 a 0 0 := ⟨_, rfl⟩
  rw [← e_s1]
  have hS_s1 : zSK G s1 := by rw [e_s1]; exact zSK_F hS0 ha rfl rfl rfl (by omega)
  refine j_aload_n hx 0 dX12_film_5 rfl ?_
  refine j_iload_n hx 1 dX12_film_6 rfl ?_
  refine j_iconst hx dX12_film_7 ?_
  refine j_iload_n hx 2 dX12_film_8 rfl ?_
  refine j_callS hx (c_X12_within hst x1 0 x2) lk_RX12_314 [.int (zI x1), .int (zI 0), .int (zI x2)] ⟨rfl, hG, hS_s1, (by omega), (by omega), (by omega)⟩ rfl rfl ⟨by decide, by decide⟩ ⟨by decide, by decide⟩ (k2 := 0) (n2 := 0) rfl rfl (Nat.le_of_ble_eq_true rfl) dX12_film_9 (kIP (fun v1 q2 => ?_))
  refine j_if_eq hx 52 dX12_film_12 rfl (by omega) (fun h3 => ?_) (fun h3 => ?_)
  · skip
    refine j_iconst hx dX12_film_52 ?_
    refine j_iconst hx dX12_film_53 ?_
    refine j_iconst hx dX12_film_54 ?_
    refine j_callV hx hG (c_X12_may hst a 0 1 1) lk_RX12_240 ha (by decide) rfl rfl rfl rfl [.int (zI 0), .int (zI 1), .int (zI 1)] ⟨rfl, hG, hS_s1, ha, (by omega), (by omega), (by omega)⟩ rfl rfl ⟨by decide, by decide⟩ ⟨by decide, by decide⟩ (k2 := 0) (n2 := 0) rfl rfl (Nat.le_of_ble_eq_true rfl) dX12_film_55 (kIM (fun v4 s2 hS_s2 hF_s2 q5 => ?_))
    refine j_if_ne hx 63 dX12_film_58 rfl (by omega) (fun h6 => ?_) (fun h6 => ?_)
    · skip
      refine j_iconst hx dX12_film_63 ?_
      refine j_istore hx [(6, .int (zI 0)), (0, .ref a), (1, .int (zI x1)), (2, .int (zI x2)), (3, .int (zI x3)), (4, .int (zI x4)), (5, .int (zI x5))] dX12_film_64 (by decide) rfl ?_
      refine j_iconst hx dX12_film_66 ?_
      refine j_istore hx [(7, .int (zI 0)), (6, .int (zI 0)), (0, .ref a), (1, .int (zI x1)), (2, .int (zI x2)), (3, .int (zI x3)), (4, .int (zI x4)), (5, .int (zI x5))] dX12_film_67 (by decide) rfl ?_
      refine j_iload_n hx 3 dX12_film_69 rfl ?_
      refine j_istore hx [(8, .int (zI x1)), (7, .int (zI 0)), (6, .int (zI 0)), (0, .ref a), (1, .int (zI x1)), (2, .int (zI x2)), (3, .int (zI x3)), (4, .int (zI x4)), (5, .int (zI x5))] dX12_film_70 (by decide) rfl ?_
      have c72_3 : ∀ (m_c72_3 : Nat) (v7 : Int) (v8 : Int) (v9 : Int), 2147483648 - v9 < m_c72_3 → ((-2147483648) ≤ v7 ∧ v7 ≤ 2147483647) → ((-2147483648) ≤ v8 ∧ v8 ≤ 2147483647) → ((-2147483648) ≤ v9 ∧ v9 ≤ 2147483647) → JJ X E 10 G s2 0 0 [(1, .int (zI x1)), (2, .int (zI x2)), (3, .int (zI x3)), (4, .int (zI x4)), (5, .int (zI x5)), (6, .int (zI v7)), (7, .int (zI v8)), (8, .int (zI v9))] 72 [] := by
        intro m_c72_3
        induction m_c72_3 with
        | zero => intro v7 v8 v9 hm_c72_3 f4 f5 f6; exfalso; omega
        | succ m_c72_3 ih_c72_3 => 
          intro v7 v8 v9 hm_c72_3 f4 f5 f6
          refine j_iload hx 7 dX12_film_72 rfl ?_
          refine j_iload_n hx 1 dX12_film_74 rfl ?_
          refine j_icmp_gt hx 134 dX12_film_75 rfl (by omega) (by omega) (fun h10 => ?_) (fun h10 => ?_)
          · skip
            refine j_iload hx 4 dX12_film_134 rfl ?_
            refine j_if_ne hx 144 dX12_film_136 rfl (by omega) (fun h11 => ?_) (fun h11 => ?_)
            · skip
              refine j_iload hx 4 dX12_film_144 rfl ?_
              refine j_iconst hx dX12_film_146 ?_
              refine j_icmp_ne hx 155 dX12_film_147 rfl (by omega) ⟨by decide, by decide⟩ (fun h12 => ?_) (fun h12 => ?_)
              · skip
                refine j_iload_n hx 1 dX12_film_155 rfl ?_
                refine j_iload_n hx 0 dX12_film_156 rfl ?_
                refine j_isub hx (r := x2 - x1) dX12_film_157 rfl ?_
                refine j_norm (fun v13 f14 f15 f16 => ?_)
                refine j_iconst hx dX12_film_158 ?_
                refine j_iadd hx (r := v13 + 1) dX12_film_159 rfl ?_
                refine j_norm (fun v17 f18 f19 f20 => ?_)
                refine j_iload hx 3 dX12_film_160 rfl ?_
                refine j_iload_n hx 2 dX12_film_162 rfl ?_
                refine j_isub hx (r := x4 - x3) dX12_film_163 rfl ?_
                refine j_norm (fun v21 f22 f23 f24 => ?_)
                refine j_iconst hx dX12_film_164 ?_
                refine j_iadd hx (r := v21 + 1) dX12_film_165 rfl ?_
                refine j_norm (fun v25 f26 f27 f28 => ?_)
                refine j_imul hx (r := (v17 * v25)) dX12_film_166 rfl ?_
                refine j_norm (fun v29 f30 f31 f32 => ?_)
                exact j_iret hx hq rfl (by decide) (by decide) dX12_film_167 ⟨v29, rfl, rfl, hS_s2, (zFr_t (zFr_u zFr_rf e_s1 ha (by decide)) hF_s2 (by decide)), (by omega)⟩
              · skip
                refine j_iload hx 6 dX12_film_150 rfl ?_
                refine j_goto hx 167 dX12_film_152 rfl ?_
                exact j_iret hx hq rfl (by decide) (by decide) dX12_film_167 ⟨v8, rfl, rfl, hS_s2, (zFr_t (zFr_u zFr_rf e_s1 ha (by decide)) hF_s2 (by decide)), (by omega)⟩
            · skip
              refine j_iload hx 5 dX12_film_139 rfl ?_
              refine j_goto hx 167 dX12_film_141 rfl ?_
              exact j_iret hx hq rfl (by decide) (by decide) dX12_film_167 ⟨v7, rfl, rfl, hS_s2, (zFr_t (zFr_u zFr_rf e_s1 ha (by decide)) hF_s2 (by decide)), (by omega)⟩
          · skip
            refine j_iload_n hx 2 dX12_film_78 rfl ?_
            refine j_istore hx [(9, .int (zI x3)), (1, .int (zI x1)), (2, .int (zI x2)), (3, .int (zI x3)), (4, .int (zI x4)), (5, .int (zI x5)), (6, .int (zI v7)), (7, .int (zI v8)), (8, .int (zI v9))] dX12_film_79 (by decide) rfl ?_
            have c81_7 : ∀ (m_c81_7 : Nat) (v33 : Int) (v34 : Int) (v35 : Int), 2147483648 - v35 < m_c81_7 → ((-2147483648) ≤ v33 ∧ v33 ≤ 2147483647) → ((-2147483648) ≤ v34 ∧ v34 ≤ 2147483647) → ((-2147483648) ≤ v35 ∧ v35 ≤ 2147483647) → JJ X E 10 G s2 0 0 [(1, .int (zI x1)), (2, .int (zI x2)), (3, .int (zI x3)), (4, .int (zI x4)), (5, .int (zI x5)), (6, .int (zI v33)), (7, .int (zI v34)), (8, .int (zI v9)), (9, .int (zI v35))] 81 [] := by
              intro m_c81_7
              induction m_c81_7 with
              | zero => intro v33 v34 v35 hm_c81_7 f8 f9 f10; exfalso; omega
              | succ m_c81_7 ih_c81_7 => 
                intro v33 v34 v35 hm_c81_7 f8 f9 f10
                refine j_iload hx 8 dX12_film_81 rfl ?_
                refine j_iload hx 3 dX12_film_83 rfl ?_
                refine j_icmp_gt hx 128 dX12_film_85 rfl (by omega) (by omega) (fun h36 => ?_) (fun h36 => ?_)
                · skip
                  refine j_iincN hx 7 (fun v37 => [(8, .int (zI v37)), (1, .int (zI x1)), (2, .int (zI x2)), (3, .int (zI x3)), (4, .int (zI x4)), (5, .int (zI x5)), (6, .int (zI v33)), (7, .int (zI v34)), (9, .int (zI v35))]) dX12_film_128 rfl (by decide) (fun _ => rfl) (fun v37 f38 f39 f40 => ?_)
                  refine j_goto hx 72 dX12_film_131 rfl ?_
                  exact j_sub [1, 2, 3, 4, 5, 6, 7, 0] [(1, .int (zI x1)), (2, .int (zI x2)), (3, .int (zI x3)), (4, .int (zI x4)), (5, .int (zI x5)), (6, .int (zI v33)), (7, .int (zI v34)), (8, .int (zI v37))] rfl (ih_c72_3 v33 v34 v37 (by omega) (by omega) (by omega) (by omega))
                · skip
                  refine j_iload hx 5 dX12_film_88 rfl ?_
                  refine j_iload hx 7 dX12_film_90 rfl ?_
                  refine j_iload hx 8 dX12_film_92 rfl ?_
                  refine j_icmp_ge hx 101 dX12_film_94 rfl (by omega) (by omega) (fun h41 => ?_) (fun h41 => ?_)
                  · skip
                    refine j_iconst hx dX12_film_101 ?_
                    refine j_iadd hx (r := v33) dX12_film_102 (by omega) ?_
                    refine j_istore hx [(6, .int (zI v33)), (1, .int (zI x1)), (2, .int (zI x2)), (3, .int (zI x3)), (4, .int (zI x4)), (5, .int (zI x5)), (7, .int (zI v34)), (8, .int (zI v9)), (9, .int (zI v35))] dX12_film_103 (by decide) rfl ?_
                    refine j_iload hx 6 dX12_film_105 rfl ?_
                    refine j_iload hx 7 dX12_film_107 rfl ?_
                    refine j_iload hx 8 dX12_film_109 rfl ?_
                    refine j_icmp_ne hx 118 dX12_film_111 rfl (by omega) (by omega) (fun h42 => ?_) (fun h42 => ?_)
                    · skip
                      refine j_iconst hx dX12_film_118 ?_
                      refine j_iadd hx (r := v34) dX12_film_119 (by omega) ?_
                      refine j_istore hx [(7, .int (zI v34)), (6, .int (zI v33)), (1, .int (zI x1)), (2, .int (zI x2)), (3, .int (zI x3)), (4, .int (zI x4)), (5, .int (zI x5)), (8, .int (zI v9)), (9, .int (zI v35))] dX12_film_120 (by decide) rfl ?_
                      refine j_iinc hx 8 [(9, .int (zI (v35 + 1))), (7, .int (zI v34)), (6, .int (zI v33)), (1, .int (zI x1)), (2, .int (zI x2)), (3, .int (zI x3)), (4, .int (zI x4)), (5, .int (zI x5)), (8, .int (zI v9))] dX12_film_122 rfl (by omega) (by decide) rfl ?_
                      refine j_goto hx 81 dX12_film_125 rfl ?_
                      exact j_sub [3, 4, 5, 6, 7, 2, 1, 8, 0] [(1, .int (zI x1)), (2, .int (zI x2)), (3, .int (zI x3)), (4, .int (zI x4)), (5, .int (zI x5)), (6, .int (zI v33)), (7, .int (zI v34)), (8, .int (zI v9)), (9, .int (zI (v35 + 1)))] rfl (ih_c81_7 v33 v34 (v35 + 1) (by omega) (by omega) (by omega) (by omega))
                    · skip
                      refine j_iconst hx dX12_film_114 ?_
                      refine j_goto hx 119 dX12_film_115 rfl ?_
                      refine j_iadd hx (r := v34 + 1) dX12_film_119 rfl ?_
                      refine j_norm (fun v43 f44 f45 f46 => ?_)
                      refine j_istore hx [(7, .int (zI v43)), (6, .int (zI v33)), (1, .int (zI x1)), (2, .int (zI x2)), (3, .int (zI x3)), (4, .int (zI x4)), (5, .int (zI x5)), (8, .int (zI v9)), (9, .int (zI v35))] dX12_film_120 (by decide) rfl ?_
                      refine j_iincN hx 8 (fun v47 => [(9, .int (zI v47)), (7, .int (zI v43)), (6, .int (zI v33)), (1, .int (zI x1)), (2, .int (zI x2)), (3, .int (zI x3)), (4, .int (zI x4)), (5, .int (zI x5)), (8, .int (zI v9))]) dX12_film_122 rfl (by decide) (fun _ => rfl) (fun v47 f48 f49 f50 => ?_)
                      refine j_goto hx 81 dX12_film_125 rfl ?_
                      exact j_sub [3, 4, 5, 6, 7, 2, 1, 8, 0] [(1, .int (zI x1)), (2, .int (zI x2)), (3, .int (zI x3)), (4, .int (zI x4)), (5, .int (zI x5)), (6, .int (zI v33)), (7, .int (zI v43)), (8, .int (zI v9)), (9, .int (zI v47))] rfl (ih_c81_7 v33 v43 v47 (by omega) (by omega) (by omega) (by omega))
                  · skip
                    refine j_iconst hx dX12_film_97 ?_
                    refine j_goto hx 102 dX12_film_98 rfl ?_
                    refine j_iadd hx (r := v33 + 1) dX12_film_102 rfl ?_
                    refine j_norm (fun v51 f52 f53 f54 => ?_)
                    refine j_istore hx [(6, .int (zI v51)), (1, .int (zI x1)), (2, .int (zI x2)), (3, .int (zI x3)), (4, .int (zI x4)), (5, .int (zI x5)), (7, .int (zI v34)), (8, .int (zI v9)), (9, .int (zI v35))] dX12_film_103 (by decide) rfl ?_
                    refine j_iload hx 6 dX12_film_105 rfl ?_
                    refine j_iload hx 7 dX12_film_107 rfl ?_
                    refine j_iload hx 8 dX12_film_109 rfl ?_
                    refine j_icmp_ne hx 118 dX12_film_111 rfl (by omega) (by omega) (fun h55 => ?_) (fun h55 => ?_)
                    · skip
                      refine j_iconst hx dX12_film_118 ?_
                      refine j_iadd hx (r := v34) dX12_film_119 (by omega) ?_
                      refine j_istore hx [(7, .int (zI v34)), (6, .int (zI v51)), (1, .int (zI x1)), (2, .int (zI x2)), (3, .int (zI x3)), (4, .int (zI x4)), (5, .int (zI x5)), (8, .int (zI v9)), (9, .int (zI v35))] dX12_film_120 (by decide) rfl ?_
                      refine j_iincN hx 8 (fun v56 => [(9, .int (zI v56)), (7, .int (zI v34)), (6, .int (zI v51)), (1, .int (zI x1)), (2, .int (zI x2)), (3, .int (zI x3)), (4, .int (zI x4)), (5, .int (zI x5)), (8, .int (zI v9))]) dX12_film_122 rfl (by decide) (fun _ => rfl) (fun v56 f57 f58 f59 => ?_)
                      refine j_goto hx 81 dX12_film_125 rfl ?_
                      exact j_sub [3, 4, 5, 6, 7, 2, 1, 8, 0] [(1, .int (zI x1)), (2, .int (zI x2)), (3, .int (zI x3)), (4, .int (zI x4)), (5, .int (zI x5)), (6, .int (zI v51)), (7, .int (zI v34)), (8, .int (zI v9)), (9, .int (zI v56))] rfl (ih_c81_7 v51 v34 v56 (by omega) (by omega) (by omega) (by omega))
                    · skip
                      refine j_iconst hx dX12_film_114 ?_
                      refine j_goto hx 119 dX12_film_115 rfl ?_
                      refine j_iadd hx (r := v34 + 1) dX12_film_119 rfl ?_
                      refine j_norm (fun v60 f61 f62 f63 => ?_)
                      refine j_istore hx [(7, .int (zI v60)), (6, .int (zI v51)), (1, .int (zI x1)), (2, .int (zI x2)), (3, .int (zI x3)), (4, .int (zI x4)), (5, .int (zI x5)), (8, .int (zI v9)), (9, .int (zI v35))] dX12_film_120 (by decide) rfl ?_
                      refine j_iinc hx 8 [(9, .int (zI (v35 + 1))), (7, .int (zI v60)), (6, .int (zI v51)), (1, .int (zI x1)), (2, .int (zI x2)), (3, .int (zI x3)), (4, .int (zI x4)), (5, .int (zI x5)), (8, .int (zI v9))] dX12_film_122 rfl (by omega) (by decide) rfl ?_
                      refine j_goto hx 81 dX12_film_125 rfl ?_
                      exact j_sub [3, 4, 5, 6, 7, 2, 1, 8, 0] [(1, .int (zI x1)), (2, .int (zI x2)), (3, .int (zI x3)), (4, .int (zI x4)), (5, .int (zI x5)), (6, .int (zI v51)), (7, .int (zI v60)), (8, .int (zI v9)), (9, .int (zI (v35 + 1)))] rfl (ih_c81_7 v51 v60 (v35 + 1) (by omega) (by omega) (by omega) (by omega))
            exact j_sub [1, 2, 3, 4, 5, 6, 7, 8, 0] [(1, .int (zI x1)), (2, .int (zI x2)), (3, .int (zI x3)), (4, .int (zI x4)), (5, .int (zI x5)), (6, .int (zI v7)), (7, .int (zI v8)), (8, .int (zI v9)), (9, .int (zI x3))] rfl (c81_7 (2147483648 * 4) v7 v8 x3 (by omega) (by omega) (by omega) (by omega))
      exact j_sub [4, 5, 6, 7, 8, 2, 1, 0] [(1, .int (zI x1)), (2, .int (zI x2)), (3, .int (zI x3)), (4, .int (zI x4)), (5, .int (zI x5)), (6, .int (zI 0)), (7, .int (zI 0)), (8, .int (zI x1))] rfl (c72_3 (2147483648 * 4) 0 0 x1 (by omega) (by omega) (by omega) (by omega))
    · skip
      refine j_iconst hx dX12_film_61 ?_
      exact j_iret hx hq rfl (by decide) (by decide) dX12_film_62 ⟨0, rfl, rfl, hS_s2, (zFr_t (zFr_u zFr_rf e_s1 ha (by decide)) hF_s2 (by decide)), (by omega)⟩
  · skip
    refine j_iload_n hx 2 dX12_film_15 rfl ?_
    refine j_bipush hx dX12_film_16 rfl ?_
    refine j_icmp_gt hx 52 dX12_film_18 rfl (by omega) ⟨by decide, by decide⟩ (fun h64 => ?_) (fun h64 => ?_)
    · skip
      refine j_iconst hx dX12_film_52 ?_
      refine j_iconst hx dX12_film_53 ?_
      refine j_iconst hx dX12_film_54 ?_
      refine j_callV hx hG (c_X12_may hst a 0 1 1) lk_RX12_240 ha (by decide) rfl rfl rfl rfl [.int (zI 0), .int (zI 1), .int (zI 1)] ⟨rfl, hG, hS_s1, ha, (by omega), (by omega), (by omega)⟩ rfl rfl ⟨by decide, by decide⟩ ⟨by decide, by decide⟩ (k2 := 0) (n2 := 0) rfl rfl (Nat.le_of_ble_eq_true rfl) dX12_film_55 (kIM (fun v65 s11 hS_s11 hF_s11 q66 => ?_))
      refine j_if_ne hx 63 dX12_film_58 rfl (by omega) (fun h67 => ?_) (fun h67 => ?_)
      · skip
        refine j_iconst hx dX12_film_63 ?_
        refine j_istore hx [(6, .int (zI 0)), (0, .ref a), (1, .int (zI x1)), (2, .int (zI x2)), (3, .int (zI x3)), (4, .int (zI x4)), (5, .int (zI x5))] dX12_film_64 (by decide) rfl ?_
        refine j_iconst hx dX12_film_66 ?_
        refine j_istore hx [(7, .int (zI 0)), (6, .int (zI 0)), (0, .ref a), (1, .int (zI x1)), (2, .int (zI x2)), (3, .int (zI x3)), (4, .int (zI x4)), (5, .int (zI x5))] dX12_film_67 (by decide) rfl ?_
        refine j_iload_n hx 3 dX12_film_69 rfl ?_
        refine j_istore hx [(8, .int (zI x1)), (7, .int (zI 0)), (6, .int (zI 0)), (0, .ref a), (1, .int (zI x1)), (2, .int (zI x2)), (3, .int (zI x3)), (4, .int (zI x4)), (5, .int (zI x5))] dX12_film_70 (by decide) rfl ?_
        have c72_12 : ∀ (m_c72_12 : Nat) (v68 : Int) (v69 : Int) (v70 : Int), 2147483648 - v70 < m_c72_12 → ((-2147483648) ≤ v68 ∧ v68 ≤ 2147483647) → ((-2147483648) ≤ v69 ∧ v69 ≤ 2147483647) → ((-2147483648) ≤ v70 ∧ v70 ≤ 2147483647) → JJ X E 10 G s11 0 0 [(1, .int (zI x1)), (2, .int (zI x2)), (3, .int (zI x3)), (4, .int (zI x4)), (5, .int (zI x5)), (6, .int (zI v68)), (7, .int (zI v69)), (8, .int (zI v70))] 72 [] := by
          intro m_c72_12
          induction m_c72_12 with
          | zero => intro v68 v69 v70 hm_c72_12 f13 f14 f15; exfalso; omega
          | succ m_c72_12 ih_c72_12 => 
            intro v68 v69 v70 hm_c72_12 f13 f14 f15
            refine j_iload hx 7 dX12_film_72 rfl ?_
            refine j_iload_n hx 1 dX12_film_74 rfl ?_
            refine j_icmp_gt hx 134 dX12_film_75 rfl (by omega) (by omega) (fun h71 => ?_) (fun h71 => ?_)
            · skip
              refine j_iload hx 4 dX12_film_134 rfl ?_
              refine j_if_ne hx 144 dX12_film_136 rfl (by omega) (fun h72 => ?_) (fun h72 => ?_)
              · skip
                refine j_iload hx 4 dX12_film_144 rfl ?_
                refine j_iconst hx dX12_film_146 ?_
                refine j_icmp_ne hx 155 dX12_film_147 rfl (by omega) ⟨by decide, by decide⟩ (fun h73 => ?_) (fun h73 => ?_)
                · skip
                  refine j_iload_n hx 1 dX12_film_155 rfl ?_
                  refine j_iload_n hx 0 dX12_film_156 rfl ?_
                  refine j_isub hx (r := x2 - x1) dX12_film_157 rfl ?_
                  refine j_norm (fun v74 f75 f76 f77 => ?_)
                  refine j_iconst hx dX12_film_158 ?_
                  refine j_iadd hx (r := v74 + 1) dX12_film_159 rfl ?_
                  refine j_norm (fun v78 f79 f80 f81 => ?_)
                  refine j_iload hx 3 dX12_film_160 rfl ?_
                  refine j_iload_n hx 2 dX12_film_162 rfl ?_
                  refine j_isub hx (r := x4 - x3) dX12_film_163 rfl ?_
                  refine j_norm (fun v82 f83 f84 f85 => ?_)
                  refine j_iconst hx dX12_film_164 ?_
                  refine j_iadd hx (r := v82 + 1) dX12_film_165 rfl ?_
                  refine j_norm (fun v86 f87 f88 f89 => ?_)
                  refine j_imul hx (r := (v78 * v86)) dX12_film_166 rfl ?_
                  refine j_norm (fun v90 f91 f92 f93 => ?_)
                  exact j_iret hx hq rfl (by decide) (by decide) dX12_film_167 ⟨v90, rfl, rfl, hS_s11, (zFr_t (zFr_u zFr_rf e_s1 ha (by decide)) hF_s11 (by decide)), (by omega)⟩
                · skip
                  refine j_iload hx 6 dX12_film_150 rfl ?_
                  refine j_goto hx 167 dX12_film_152 rfl ?_
                  exact j_iret hx hq rfl (by decide) (by decide) dX12_film_167 ⟨v69, rfl, rfl, hS_s11, (zFr_t (zFr_u zFr_rf e_s1 ha (by decide)) hF_s11 (by decide)), (by omega)⟩
              · skip
                refine j_iload hx 5 dX12_film_139 rfl ?_
                refine j_goto hx 167 dX12_film_141 rfl ?_
                exact j_iret hx hq rfl (by decide) (by decide) dX12_film_167 ⟨v68, rfl, rfl, hS_s11, (zFr_t (zFr_u zFr_rf e_s1 ha (by decide)) hF_s11 (by decide)), (by omega)⟩
            · skip
              refine j_iload_n hx 2 dX12_film_78 rfl ?_
              refine j_istore hx [(9, .int (zI x3)), (1, .int (zI x1)), (2, .int (zI x2)), (3, .int (zI x3)), (4, .int (zI x4)), (5, .int (zI x5)), (6, .int (zI v68)), (7, .int (zI v69)), (8, .int (zI v70))] dX12_film_79 (by decide) rfl ?_
              have c81_16 : ∀ (m_c81_16 : Nat) (v94 : Int) (v95 : Int) (v96 : Int), 2147483648 - v96 < m_c81_16 → ((-2147483648) ≤ v94 ∧ v94 ≤ 2147483647) → ((-2147483648) ≤ v95 ∧ v95 ≤ 2147483647) → ((-2147483648) ≤ v96 ∧ v96 ≤ 2147483647) → JJ X E 10 G s11 0 0 [(1, .int (zI x1)), (2, .int (zI x2)), (3, .int (zI x3)), (4, .int (zI x4)), (5, .int (zI x5)), (6, .int (zI v94)), (7, .int (zI v95)), (8, .int (zI v70)), (9, .int (zI v96))] 81 [] := by
                intro m_c81_16
                induction m_c81_16 with
                | zero => intro v94 v95 v96 hm_c81_16 f17 f18 f19; exfalso; omega
                | succ m_c81_16 ih_c81_16 => 
                  intro v94 v95 v96 hm_c81_16 f17 f18 f19
                  refine j_iload hx 8 dX12_film_81 rfl ?_
                  refine j_iload hx 3 dX12_film_83 rfl ?_
                  refine j_icmp_gt hx 128 dX12_film_85 rfl (by omega) (by omega) (fun h97 => ?_) (fun h97 => ?_)
                  · skip
                    refine j_iincN hx 7 (fun v98 => [(8, .int (zI v98)), (1, .int (zI x1)), (2, .int (zI x2)), (3, .int (zI x3)), (4, .int (zI x4)), (5, .int (zI x5)), (6, .int (zI v94)), (7, .int (zI v95)), (9, .int (zI v96))]) dX12_film_128 rfl (by decide) (fun _ => rfl) (fun v98 f99 f100 f101 => ?_)
                    refine j_goto hx 72 dX12_film_131 rfl ?_
                    exact j_sub [1, 2, 3, 4, 5, 6, 7, 0] [(1, .int (zI x1)), (2, .int (zI x2)), (3, .int (zI x3)), (4, .int (zI x4)), (5, .int (zI x5)), (6, .int (zI v94)), (7, .int (zI v95)), (8, .int (zI v98))] rfl (ih_c72_12 v94 v95 v98 (by omega) (by omega) (by omega) (by omega))
                  · skip
                    refine j_iload hx 5 dX12_film_88 rfl ?_
                    refine j_iload hx 7 dX12_film_90 rfl ?_
                    refine j_iload hx 8 dX12_film_92 rfl ?_
                    refine j_icmp_ge hx 101 dX12_film_94 rfl (by omega) (by omega) (fun h102 => ?_) (fun h102 => ?_)
                    · skip
                      refine j_iconst hx dX12_film_101 ?_
                      refine j_iadd hx (r := v94) dX12_film_102 (by omega) ?_
                      refine j_istore hx [(6, .int (zI v94)), (1, .int (zI x1)), (2, .int (zI x2)), (3, .int (zI x3)), (4, .int (zI x4)), (5, .int (zI x5)), (7, .int (zI v95)), (8, .int (zI v70)), (9, .int (zI v96))] dX12_film_103 (by decide) rfl ?_
                      refine j_iload hx 6 dX12_film_105 rfl ?_
                      refine j_iload hx 7 dX12_film_107 rfl ?_
                      refine j_iload hx 8 dX12_film_109 rfl ?_
                      refine j_icmp_ne hx 118 dX12_film_111 rfl (by omega) (by omega) (fun h103 => ?_) (fun h103 => ?_)
                      · skip
                        refine j_iconst hx dX12_film_118 ?_
                        refine j_iadd hx (r := v95) dX12_film_119 (by omega) ?_
                        refine j_istore hx [(7, .int (zI v95)), (6, .int (zI v94)), (1, .int (zI x1)), (2, .int (zI x2)), (3, .int (zI x3)), (4, .int (zI x4)), (5, .int (zI x5)), (8, .int (zI v70)), (9, .int (zI v96))] dX12_film_120 (by decide) rfl ?_
                        refine j_iinc hx 8 [(9, .int (zI (v96 + 1))), (7, .int (zI v95)), (6, .int (zI v94)), (1, .int (zI x1)), (2, .int (zI x2)), (3, .int (zI x3)), (4, .int (zI x4)), (5, .int (zI x5)), (8, .int (zI v70))] dX12_film_122 rfl (by omega) (by decide) rfl ?_
                        refine j_goto hx 81 dX12_film_125 rfl ?_
                        exact j_sub [3, 4, 5, 6, 7, 2, 1, 8, 0] [(1, .int (zI x1)), (2, .int (zI x2)), (3, .int (zI x3)), (4, .int (zI x4)), (5, .int (zI x5)), (6, .int (zI v94)), (7, .int (zI v95)), (8, .int (zI v70)), (9, .int (zI (v96 + 1)))] rfl (ih_c81_16 v94 v95 (v96 + 1) (by omega) (by omega) (by omega) (by omega))
                      · skip
                        refine j_iconst hx dX12_film_114 ?_
                        refine j_goto hx 119 dX12_film_115 rfl ?_
                        refine j_iadd hx (r := v95 + 1) dX12_film_119 rfl ?_
                        refine j_norm (fun v104 f105 f106 f107 => ?_)
                        refine j_istore hx [(7, .int (zI v104)), (6, .int (zI v94)), (1, .int (zI x1)), (2, .int (zI x2)), (3, .int (zI x3)), (4, .int (zI x4)), (5, .int (zI x5)), (8, .int (zI v70)), (9, .int (zI v96))] dX12_film_120 (by decide) rfl ?_
                        refine j_iincN hx 8 (fun v108 => [(9, .int (zI v108)), (7, .int (zI v104)), (6, .int (zI v94)), (1, .int (zI x1)), (2, .int (zI x2)), (3, .int (zI x3)), (4, .int (zI x4)), (5, .int (zI x5)), (8, .int (zI v70))]) dX12_film_122 rfl (by decide) (fun _ => rfl) (fun v108 f109 f110 f111 => ?_)
                        refine j_goto hx 81 dX12_film_125 rfl ?_
                        exact j_sub [3, 4, 5, 6, 7, 2, 1, 8, 0] [(1, .int (zI x1)), (2, .int (zI x2)), (3, .int (zI x3)), (4, .int (zI x4)), (5, .int (zI x5)), (6, .int (zI v94)), (7, .int (zI v104)), (8, .int (zI v70)), (9, .int (zI v108))] rfl (ih_c81_16 v94 v104 v108 (by omega) (by omega) (by omega) (by omega))
                    · skip
                      refine j_iconst hx dX12_film_97 ?_
                      refine j_goto hx 102 dX12_film_98 rfl ?_
                      refine j_iadd hx (r := v94 + 1) dX12_film_102 rfl ?_
                      refine j_norm (fun v112 f113 f114 f115 => ?_)
                      refine j_istore hx [(6, .int (zI v112)), (1, .int (zI x1)), (2, .int (zI x2)), (3, .int (zI x3)), (4, .int (zI x4)), (5, .int (zI x5)), (7, .int (zI v95)), (8, .int (zI v70)), (9, .int (zI v96))] dX12_film_103 (by decide) rfl ?_
                      refine j_iload hx 6 dX12_film_105 rfl ?_
                      refine j_iload hx 7 dX12_film_107 rfl ?_
                      refine j_iload hx 8 dX12_film_109 rfl ?_
                      refine j_icmp_ne hx 118 dX12_film_111 rfl (by omega) (by omega) (fun h116 => ?_) (fun h116 => ?_)
                      · skip
                        refine j_iconst hx dX12_film_118 ?_
                        refine j_iadd hx (r := v95) dX12_film_119 (by omega) ?_
                        refine j_istore hx [(7, .int (zI v95)), (6, .int (zI v112)), (1, .int (zI x1)), (2, .int (zI x2)), (3, .int (zI x3)), (4, .int (zI x4)), (5, .int (zI x5)), (8, .int (zI v70)), (9, .int (zI v96))] dX12_film_120 (by decide) rfl ?_
                        refine j_iincN hx 8 (fun v117 => [(9, .int (zI v117)), (7, .int (zI v95)), (6, .int (zI v112)), (1, .int (zI x1)), (2, .int (zI x2)), (3, .int (zI x3)), (4, .int (zI x4)), (5, .int (zI x5)), (8, .int (zI v70))]) dX12_film_122 rfl (by decide) (fun _ => rfl) (fun v117 f118 f119 f120 => ?_)
                        refine j_goto hx 81 dX12_film_125 rfl ?_
                        exact j_sub [3, 4, 5, 6, 7, 2, 1, 8, 0] [(1, .int (zI x1)), (2, .int (zI x2)), (3, .int (zI x3)), (4, .int (zI x4)), (5, .int (zI x5)), (6, .int (zI v112)), (7, .int (zI v95)), (8, .int (zI v70)), (9, .int (zI v117))] rfl (ih_c81_16 v112 v95 v117 (by omega) (by omega) (by omega) (by omega))
                      · skip
                        refine j_iconst hx dX12_film_114 ?_
                        refine j_goto hx 119 dX12_film_115 rfl ?_
                        refine j_iadd hx (r := v95 + 1) dX12_film_119 rfl ?_
                        refine j_norm (fun v121 f122 f123 f124 => ?_)
                        refine j_istore hx [(7, .int (zI v121)), (6, .int (zI v112)), (1, .int (zI x1)), (2, .int (zI x2)), (3, .int (zI x3)), (4, .int (zI x4)), (5, .int (zI x5)), (8, .int (zI v70)), (9, .int (zI v96))] dX12_film_120 (by decide) rfl ?_
                        refine j_iinc hx 8 [(9, .int (zI (v96 + 1))), (7, .int (zI v121)), (6, .int (zI v112)), (1, .int (zI x1)), (2, .int (zI x2)), (3, .int (zI x3)), (4, .int (zI x4)), (5, .int (zI x5)), (8, .int (zI v70))] dX12_film_122 rfl (by omega) (by decide) rfl ?_
                        refine j_goto hx 81 dX12_film_125 rfl ?_
                        exact j_sub [3, 4, 5, 6, 7, 2, 1, 8, 0] [(1, .int (zI x1)), (2, .int (zI x2)), (3, .int (zI x3)), (4, .int (zI x4)), (5, .int (zI x5)), (6, .int (zI v112)), (7, .int (zI v121)), (8, .int (zI v70)), (9, .int (zI (v96 + 1)))] rfl (ih_c81_16 v112 v121 (v96 + 1) (by omega) (by omega) (by omega) (by omega))
              exact j_sub [1, 2, 3, 4, 5, 6, 7, 8, 0] [(1, .int (zI x1)), (2, .int (zI x2)), (3, .int (zI x3)), (4, .int (zI x4)), (5, .int (zI x5)), (6, .int (zI v68)), (7, .int (zI v69)), (8, .int (zI v70)), (9, .int (zI x3))] rfl (c81_16 (2147483648 * 4) v68 v69 x3 (by omega) (by omega) (by omega) (by omega))
        exact j_sub [4, 5, 6, 7, 8, 2, 1, 0] [(1, .int (zI x1)), (2, .int (zI x2)), (3, .int (zI x3)), (4, .int (zI x4)), (5, .int (zI x5)), (6, .int (zI 0)), (7, .int (zI 0)), (8, .int (zI x1))] rfl (c72_12 (2147483648 * 4) 0 0 x1 (by omega) (by omega) (by omega) (by omega))
      · skip
        refine j_iconst hx dX12_film_61 ?_
        exact j_iret hx hq rfl (by decide) (by decide) dX12_film_62 ⟨0, rfl, rfl, hS_s11, (zFr_t (zFr_u zFr_rf e_s1 ha (by decide)) hF_s11 (by decide)), (by omega)⟩
    · skip
      refine j_iload_n hx 3 dX12_film_21 rfl ?_
      refine j_iconst hx dX12_film_22 ?_
      refine j_iload hx 4 dX12_film_23 rfl ?_
      refine j_callS hx (c_X12_within hst x3 0 x4) lk_RX12_314 [.int (zI x3), .int (zI 0), .int (zI x4)] ⟨rfl, hG, hS_s1, (by omega), (by omega), (by omega)⟩ rfl rfl ⟨by decide, by decide⟩ ⟨by decide, by decide⟩ (k2 := 0) (n2 := 0) rfl rfl (Nat.le_of_ble_eq_true rfl) dX12_film_25 (kIP (fun v125 q126 => ?_))
      refine j_if_eq hx 52 dX12_film_28 rfl (by omega) (fun h127 => ?_) (fun h127 => ?_)
      · skip
        refine j_iconst hx dX12_film_52 ?_
        refine j_iconst hx dX12_film_53 ?_
        refine j_iconst hx dX12_film_54 ?_
        refine j_callV hx hG (c_X12_may hst a 0 1 1) lk_RX12_240 ha (by decide) rfl rfl rfl rfl [.int (zI 0), .int (zI 1), .int (zI 1)] ⟨rfl, hG, hS_s1, ha, (by omega), (by omega), (by omega)⟩ rfl rfl ⟨by decide, by decide⟩ ⟨by decide, by decide⟩ (k2 := 0) (n2 := 0) rfl rfl (Nat.le_of_ble_eq_true rfl) dX12_film_55 (kIM (fun v128 s20 hS_s20 hF_s20 q129 => ?_))
        refine j_if_ne hx 63 dX12_film_58 rfl (by omega) (fun h130 => ?_) (fun h130 => ?_)
        · skip
          refine j_iconst hx dX12_film_63 ?_
          refine j_istore hx [(6, .int (zI 0)), (0, .ref a), (1, .int (zI x1)), (2, .int (zI x2)), (3, .int (zI x3)), (4, .int (zI x4)), (5, .int (zI x5))] dX12_film_64 (by decide) rfl ?_
          refine j_iconst hx dX12_film_66 ?_
          refine j_istore hx [(7, .int (zI 0)), (6, .int (zI 0)), (0, .ref a), (1, .int (zI x1)), (2, .int (zI x2)), (3, .int (zI x3)), (4, .int (zI x4)), (5, .int (zI x5))] dX12_film_67 (by decide) rfl ?_
          refine j_iload_n hx 3 dX12_film_69 rfl ?_
          refine j_istore hx [(8, .int (zI x1)), (7, .int (zI 0)), (6, .int (zI 0)), (0, .ref a), (1, .int (zI x1)), (2, .int (zI x2)), (3, .int (zI x3)), (4, .int (zI x4)), (5, .int (zI x5))] dX12_film_70 (by decide) rfl ?_
          have c72_21 : ∀ (m_c72_21 : Nat) (v131 : Int) (v132 : Int) (v133 : Int), 2147483648 - v133 < m_c72_21 → ((-2147483648) ≤ v131 ∧ v131 ≤ 2147483647) → ((-2147483648) ≤ v132 ∧ v132 ≤ 2147483647) → ((-2147483648) ≤ v133 ∧ v133 ≤ 2147483647) → JJ X E 10 G s20 0 0 [(1, .int (zI x1)), (2, .int (zI x2)), (3, .int (zI x3)), (4, .int (zI x4)), (5, .int (zI x5)), (6, .int (zI v131)), (7, .int (zI v132)), (8, .int (zI v133))] 72 [] := by
            intro m_c72_21
            induction m_c72_21 with
            | zero => intro v131 v132 v133 hm_c72_21 f22 f23 f24; exfalso; omega
            | succ m_c72_21 ih_c72_21 => 
              intro v131 v132 v133 hm_c72_21 f22 f23 f24
              refine j_iload hx 7 dX12_film_72 rfl ?_
              refine j_iload_n hx 1 dX12_film_74 rfl ?_
              refine j_icmp_gt hx 134 dX12_film_75 rfl (by omega) (by omega) (fun h134 => ?_) (fun h134 => ?_)
              · skip
                refine j_iload hx 4 dX12_film_134 rfl ?_
                refine j_if_ne hx 144 dX12_film_136 rfl (by omega) (fun h135 => ?_) (fun h135 => ?_)
                · skip
                  refine j_iload hx 4 dX12_film_144 rfl ?_
                  refine j_iconst hx dX12_film_146 ?_
                  refine j_icmp_ne hx 155 dX12_film_147 rfl (by omega) ⟨by decide, by decide⟩ (fun h136 => ?_) (fun h136 => ?_)
                  · skip
                    refine j_iload_n hx 1 dX12_film_155 rfl ?_
                    refine j_iload_n hx 0 dX12_film_156 rfl ?_
                    refine j_isub hx (r := x2 - x1) dX12_film_157 rfl ?_
                    refine j_norm (fun v137 f138 f139 f140 => ?_)
                    refine j_iconst hx dX12_film_158 ?_
                    refine j_iadd hx (r := v137 + 1) dX12_film_159 rfl ?_
                    refine j_norm (fun v141 f142 f143 f144 => ?_)
                    refine j_iload hx 3 dX12_film_160 rfl ?_
                    refine j_iload_n hx 2 dX12_film_162 rfl ?_
                    refine j_isub hx (r := x4 - x3) dX12_film_163 rfl ?_
                    refine j_norm (fun v145 f146 f147 f148 => ?_)
                    refine j_iconst hx dX12_film_164 ?_
                    refine j_iadd hx (r := v145 + 1) dX12_film_165 rfl ?_
                    refine j_norm (fun v149 f150 f151 f152 => ?_)
                    refine j_imul hx (r := (v141 * v149)) dX12_film_166 rfl ?_
                    refine j_norm (fun v153 f154 f155 f156 => ?_)
                    exact j_iret hx hq rfl (by decide) (by decide) dX12_film_167 ⟨v153, rfl, rfl, hS_s20, (zFr_t (zFr_u zFr_rf e_s1 ha (by decide)) hF_s20 (by decide)), (by omega)⟩
                  · skip
                    refine j_iload hx 6 dX12_film_150 rfl ?_
                    refine j_goto hx 167 dX12_film_152 rfl ?_
                    exact j_iret hx hq rfl (by decide) (by decide) dX12_film_167 ⟨v132, rfl, rfl, hS_s20, (zFr_t (zFr_u zFr_rf e_s1 ha (by decide)) hF_s20 (by decide)), (by omega)⟩
                · skip
                  refine j_iload hx 5 dX12_film_139 rfl ?_
                  refine j_goto hx 167 dX12_film_141 rfl ?_
                  exact j_iret hx hq rfl (by decide) (by decide) dX12_film_167 ⟨v131, rfl, rfl, hS_s20, (zFr_t (zFr_u zFr_rf e_s1 ha (by decide)) hF_s20 (by decide)), (by omega)⟩
              · skip
                refine j_iload_n hx 2 dX12_film_78 rfl ?_
                refine j_istore hx [(9, .int (zI x3)), (1, .int (zI x1)), (2, .int (zI x2)), (3, .int (zI x3)), (4, .int (zI x4)), (5, .int (zI x5)), (6, .int (zI v131)), (7, .int (zI v132)), (8, .int (zI v133))] dX12_film_79 (by decide) rfl ?_
                have c81_25 : ∀ (m_c81_25 : Nat) (v157 : Int) (v158 : Int) (v159 : Int), 2147483648 - v159 < m_c81_25 → ((-2147483648) ≤ v157 ∧ v157 ≤ 2147483647) → ((-2147483648) ≤ v158 ∧ v158 ≤ 2147483647) → ((-2147483648) ≤ v159 ∧ v159 ≤ 2147483647) → JJ X E 10 G s20 0 0 [(1, .int (zI x1)), (2, .int (zI x2)), (3, .int (zI x3)), (4, .int (zI x4)), (5, .int (zI x5)), (6, .int (zI v157)), (7, .int (zI v158)), (8, .int (zI v133)), (9, .int (zI v159))] 81 [] := by
                  intro m_c81_25
                  induction m_c81_25 with
                  | zero => intro v157 v158 v159 hm_c81_25 f26 f27 f28; exfalso; omega
                  | succ m_c81_25 ih_c81_25 => 
                    intro v157 v158 v159 hm_c81_25 f26 f27 f28
                    refine j_iload hx 8 dX12_film_81 rfl ?_
                    refine j_iload hx 3 dX12_film_83 rfl ?_
                    refine j_icmp_gt hx 128 dX12_film_85 rfl (by omega) (by omega) (fun h160 => ?_) (fun h160 => ?_)
                    · skip
                      refine j_iinc hx 7 [(8, .int (zI (v133 + 1))), (1, .int (zI x1)), (2, .int (zI x2)), (3, .int (zI x3)), (4, .int (zI x4)), (5, .int (zI x5)), (6, .int (zI v157)), (7, .int (zI v158)), (9, .int (zI v159))] dX12_film_128 rfl (by omega) (by decide) rfl ?_
                      refine j_goto hx 72 dX12_film_131 rfl ?_
                      exact j_sub [1, 2, 3, 4, 5, 6, 7, 0] [(1, .int (zI x1)), (2, .int (zI x2)), (3, .int (zI x3)), (4, .int (zI x4)), (5, .int (zI x5)), (6, .int (zI v157)), (7, .int (zI v158)), (8, .int (zI (v133 + 1)))] rfl (ih_c72_21 v157 v158 (v133 + 1) (by omega) (by omega) (by omega) (by omega))
                    · skip
                      refine j_iload hx 5 dX12_film_88 rfl ?_
                      refine j_iload hx 7 dX12_film_90 rfl ?_
                      refine j_iload hx 8 dX12_film_92 rfl ?_
                      refine j_icmp_ge hx 101 dX12_film_94 rfl (by omega) (by omega) (fun h161 => ?_) (fun h161 => ?_)
                      · skip
                        refine j_iconst hx dX12_film_101 ?_
                        refine j_iadd hx (r := v157) dX12_film_102 (by omega) ?_
                        refine j_istore hx [(6, .int (zI v157)), (1, .int (zI x1)), (2, .int (zI x2)), (3, .int (zI x3)), (4, .int (zI x4)), (5, .int (zI x5)), (7, .int (zI v158)), (8, .int (zI v133)), (9, .int (zI v159))] dX12_film_103 (by decide) rfl ?_
                        refine j_iload hx 6 dX12_film_105 rfl ?_
                        refine j_iload hx 7 dX12_film_107 rfl ?_
                        refine j_iload hx 8 dX12_film_109 rfl ?_
                        refine j_icmp_ne hx 118 dX12_film_111 rfl (by omega) (by omega) (fun h162 => ?_) (fun h162 => ?_)
                        · skip
                          refine j_iconst hx dX12_film_118 ?_
                          refine j_iadd hx (r := v158) dX12_film_119 (by omega) ?_
                          refine j_istore hx [(7, .int (zI v158)), (6, .int (zI v157)), (1, .int (zI x1)), (2, .int (zI x2)), (3, .int (zI x3)), (4, .int (zI x4)), (5, .int (zI x5)), (8, .int (zI v133)), (9, .int (zI v159))] dX12_film_120 (by decide) rfl ?_
                          refine j_iinc hx 8 [(9, .int (zI (v159 + 1))), (7, .int (zI v158)), (6, .int (zI v157)), (1, .int (zI x1)), (2, .int (zI x2)), (3, .int (zI x3)), (4, .int (zI x4)), (5, .int (zI x5)), (8, .int (zI v133))] dX12_film_122 rfl (by omega) (by decide) rfl ?_
                          refine j_goto hx 81 dX12_film_125 rfl ?_
                          exact j_sub [3, 4, 5, 6, 7, 2, 1, 8, 0] [(1, .int (zI x1)), (2, .int (zI x2)), (3, .int (zI x3)), (4, .int (zI x4)), (5, .int (zI x5)), (6, .int (zI v157)), (7, .int (zI v158)), (8, .int (zI v133)), (9, .int (zI (v159 + 1)))] rfl (ih_c81_25 v157 v158 (v159 + 1) (by omega) (by omega) (by omega) (by omega))
                        · skip
                          refine j_iconst hx dX12_film_114 ?_
                          refine j_goto hx 119 dX12_film_115 rfl ?_
                          refine j_iadd hx (r := v158 + 1) dX12_film_119 rfl ?_
                          refine j_norm (fun v163 f164 f165 f166 => ?_)
                          refine j_istore hx [(7, .int (zI v163)), (6, .int (zI v157)), (1, .int (zI x1)), (2, .int (zI x2)), (3, .int (zI x3)), (4, .int (zI x4)), (5, .int (zI x5)), (8, .int (zI v133)), (9, .int (zI v159))] dX12_film_120 (by decide) rfl ?_
                          refine j_iinc hx 8 [(9, .int (zI (v159 + 1))), (7, .int (zI v163)), (6, .int (zI v157)), (1, .int (zI x1)), (2, .int (zI x2)), (3, .int (zI x3)), (4, .int (zI x4)), (5, .int (zI x5)), (8, .int (zI v133))] dX12_film_122 rfl (by omega) (by decide) rfl ?_
                          refine j_goto hx 81 dX12_film_125 rfl ?_
                          exact j_sub [3, 4, 5, 6, 7, 2, 1, 8, 0] [(1, .int (zI x1)), (2, .int (zI x2)), (3, .int (zI x3)), (4, .int (zI x4)), (5, .int (zI x5)), (6, .int (zI v157)), (7, .int (zI v163)), (8, .int (zI v133)), (9, .int (zI (v159 + 1)))] rfl (ih_c81_25 v157 v163 (v159 + 1) (by omega) (by omega) (by omega) (by omega))
                      · skip
                        refine j_iconst hx dX12_film_97 ?_
                        refine j_goto hx 102 dX12_film_98 rfl ?_
                        refine j_iadd hx (r := v157 + 1) dX12_film_102 rfl ?_
                        refine j_norm (fun v167 f168 f169 f170 => ?_)
                        refine j_istore hx [(6, .int (zI v167)), (1, .int (zI x1)), (2, .int (zI x2)), (3, .int (zI x3)), (4, .int (zI x4)), (5, .int (zI x5)), (7, .int (zI v158)), (8, .int (zI v133)), (9, .int (zI v159))] dX12_film_103 (by decide) rfl ?_
                        refine j_iload hx 6 dX12_film_105 rfl ?_
                        refine j_iload hx 7 dX12_film_107 rfl ?_
                        refine j_iload hx 8 dX12_film_109 rfl ?_
                        refine j_icmp_ne hx 118 dX12_film_111 rfl (by omega) (by omega) (fun h171 => ?_) (fun h171 => ?_)
                        · skip
                          refine j_iconst hx dX12_film_118 ?_
                          refine j_iadd hx (r := v158) dX12_film_119 (by omega) ?_
                          refine j_istore hx [(7, .int (zI v158)), (6, .int (zI v167)), (1, .int (zI x1)), (2, .int (zI x2)), (3, .int (zI x3)), (4, .int (zI x4)), (5, .int (zI x5)), (8, .int (zI v133)), (9, .int (zI v159))] dX12_film_120 (by decide) rfl ?_
                          refine j_iincN hx 8 (fun v172 => [(9, .int (zI v172)), (7, .int (zI v158)), (6, .int (zI v167)), (1, .int (zI x1)), (2, .int (zI x2)), (3, .int (zI x3)), (4, .int (zI x4)), (5, .int (zI x5)), (8, .int (zI v133))]) dX12_film_122 rfl (by decide) (fun _ => rfl) (fun v172 f173 f174 f175 => ?_)
                          refine j_goto hx 81 dX12_film_125 rfl ?_
                          exact j_sub [3, 4, 5, 6, 7, 2, 1, 8, 0] [(1, .int (zI x1)), (2, .int (zI x2)), (3, .int (zI x3)), (4, .int (zI x4)), (5, .int (zI x5)), (6, .int (zI v167)), (7, .int (zI v158)), (8, .int (zI v133)), (9, .int (zI v172))] rfl (ih_c81_25 v167 v158 v172 (by omega) (by omega) (by omega) (by omega))
                        · skip
                          refine j_iconst hx dX12_film_114 ?_
                          refine j_goto hx 119 dX12_film_115 rfl ?_
                          refine j_iadd hx (r := v158 + 1) dX12_film_119 rfl ?_
                          refine j_norm (fun v176 f177 f178 f179 => ?_)
                          refine j_istore hx [(7, .int (zI v176)), (6, .int (zI v167)), (1, .int (zI x1)), (2, .int (zI x2)), (3, .int (zI x3)), (4, .int (zI x4)), (5, .int (zI x5)), (8, .int (zI v133)), (9, .int (zI v159))] dX12_film_120 (by decide) rfl ?_
                          refine j_iinc hx 8 [(9, .int (zI (v159 + 1))), (7, .int (zI v176)), (6, .int (zI v167)), (1, .int (zI x1)), (2, .int (zI x2)), (3, .int (zI x3)), (4, .int (zI x4)), (5, .int (zI x5)), (8, .int (zI v133))] dX12_film_122 rfl (by omega) (by decide) rfl ?_
                          refine j_goto hx 81 dX12_film_125 rfl ?_
                          exact j_sub [3, 4, 5, 6, 7, 2, 1, 8, 0] [(1, .int (zI x1)), (2, .int (zI x2)), (3, .int (zI x3)), (4, .int (zI x4)), (5, .int (zI x5)), (6, .int (zI v167)), (7, .int (zI v176)), (8, .int (zI v133)), (9, .int (zI (v159 + 1)))] rfl (ih_c81_25 v167 v176 (v159 + 1) (by omega) (by omega) (by omega) (by omega))
                exact j_sub [1, 2, 3, 4, 5, 6, 7, 8, 0] [(1, .int (zI x1)), (2, .int (zI x2)), (3, .int (zI x3)), (4, .int (zI x4)), (5, .int (zI x5)), (6, .int (zI v131)), (7, .int (zI v132)), (8, .int (zI v133)), (9, .int (zI x3))] rfl (c81_25 (2147483648 * 4) v131 v132 x3 (by omega) (by omega) (by omega) (by omega))
          exact j_sub [4, 5, 6, 7, 8, 2, 1, 0] [(1, .int (zI x1)), (2, .int (zI x2)), (3, .int (zI x3)), (4, .int (zI x4)), (5, .int (zI x5)), (6, .int (zI 0)), (7, .int (zI 0)), (8, .int (zI x1))] rfl (c72_21 (2147483648 * 4) 0 0 x1 (by omega) (by omega) (by omega) (by omega))
        · skip
          refine j_iconst hx dX12_film_61 ?_
          exact j_iret hx hq rfl (by decide) (by decide) dX12_film_62 ⟨0, rfl, rfl, hS_s20, (zFr_t (zFr_u zFr_rf e_s1 ha (by decide)) hF_s20 (by decide)), (by omega)⟩
      · skip
        refine j_iload hx 4 dX12_film_31 rfl ?_
        refine j_bipush hx dX12_film_33 rfl ?_
        refine j_icmp_gt hx 52 dX12_film_35 rfl (by omega) ⟨by decide, by decide⟩ (fun h180 => ?_) (fun h180 => ?_)
        · skip
          refine j_iconst hx dX12_film_52 ?_
          refine j_iconst hx dX12_film_53 ?_
          refine j_iconst hx dX12_film_54 ?_
          refine j_callV hx hG (c_X12_may hst a 0 1 1) lk_RX12_240 ha (by decide) rfl rfl rfl rfl [.int (zI 0), .int (zI 1), .int (zI 1)] ⟨rfl, hG, hS_s1, ha, (by omega), (by omega), (by omega)⟩ rfl rfl ⟨by decide, by decide⟩ ⟨by decide, by decide⟩ (k2 := 0) (n2 := 0) rfl rfl (Nat.le_of_ble_eq_true rfl) dX12_film_55 (kIM (fun v181 s29 hS_s29 hF_s29 q182 => ?_))
          refine j_if_ne hx 63 dX12_film_58 rfl (by omega) (fun h183 => ?_) (fun h183 => ?_)
          · skip
            refine j_iconst hx dX12_film_63 ?_
            refine j_istore hx [(6, .int (zI 0)), (0, .ref a), (1, .int (zI x1)), (2, .int (zI x2)), (3, .int (zI x3)), (4, .int (zI x4)), (5, .int (zI x5))] dX12_film_64 (by decide) rfl ?_
            refine j_iconst hx dX12_film_66 ?_
            refine j_istore hx [(7, .int (zI 0)), (6, .int (zI 0)), (0, .ref a), (1, .int (zI x1)), (2, .int (zI x2)), (3, .int (zI x3)), (4, .int (zI x4)), (5, .int (zI x5))] dX12_film_67 (by decide) rfl ?_
            refine j_iload_n hx 3 dX12_film_69 rfl ?_
            refine j_istore hx [(8, .int (zI x1)), (7, .int (zI 0)), (6, .int (zI 0)), (0, .ref a), (1, .int (zI x1)), (2, .int (zI x2)), (3, .int (zI x3)), (4, .int (zI x4)), (5, .int (zI x5))] dX12_film_70 (by decide) rfl ?_
            have c72_30 : ∀ (m_c72_30 : Nat) (v184 : Int) (v185 : Int) (v186 : Int), 2147483648 - v186 < m_c72_30 → ((-2147483648) ≤ v184 ∧ v184 ≤ 2147483647) → ((-2147483648) ≤ v185 ∧ v185 ≤ 2147483647) → ((-2147483648) ≤ v186 ∧ v186 ≤ 2147483647) → JJ X E 10 G s29 0 0 [(1, .int (zI x1)), (2, .int (zI x2)), (3, .int (zI x3)), (4, .int (zI x4)), (5, .int (zI x5)), (6, .int (zI v184)), (7, .int (zI v185)), (8, .int (zI v186))] 72 [] := by
              intro m_c72_30
              induction m_c72_30 with
              | zero => intro v184 v185 v186 hm_c72_30 f31 f32 f33; exfalso; omega
              | succ m_c72_30 ih_c72_30 => 
                intro v184 v185 v186 hm_c72_30 f31 f32 f33
                refine j_iload hx 7 dX12_film_72 rfl ?_
                refine j_iload_n hx 1 dX12_film_74 rfl ?_
                refine j_icmp_gt hx 134 dX12_film_75 rfl (by omega) (by omega) (fun h187 => ?_) (fun h187 => ?_)
                · skip
                  refine j_iload hx 4 dX12_film_134 rfl ?_
                  refine j_if_ne hx 144 dX12_film_136 rfl (by omega) (fun h188 => ?_) (fun h188 => ?_)
                  · skip
                    refine j_iload hx 4 dX12_film_144 rfl ?_
                    refine j_iconst hx dX12_film_146 ?_
                    refine j_icmp_ne hx 155 dX12_film_147 rfl (by omega) ⟨by decide, by decide⟩ (fun h189 => ?_) (fun h189 => ?_)
                    · skip
                      refine j_iload_n hx 1 dX12_film_155 rfl ?_
                      refine j_iload_n hx 0 dX12_film_156 rfl ?_
                      refine j_isub hx (r := x2 - x1) dX12_film_157 rfl ?_
                      refine j_norm (fun v190 f191 f192 f193 => ?_)
                      refine j_iconst hx dX12_film_158 ?_
                      refine j_iadd hx (r := v190 + 1) dX12_film_159 rfl ?_
                      refine j_norm (fun v194 f195 f196 f197 => ?_)
                      refine j_iload hx 3 dX12_film_160 rfl ?_
                      refine j_iload_n hx 2 dX12_film_162 rfl ?_
                      refine j_isub hx (r := x4 - x3) dX12_film_163 rfl ?_
                      refine j_norm (fun v198 f199 f200 f201 => ?_)
                      refine j_iconst hx dX12_film_164 ?_
                      refine j_iadd hx (r := v198 + 1) dX12_film_165 rfl ?_
                      refine j_norm (fun v202 f203 f204 f205 => ?_)
                      refine j_imul hx (r := (v194 * v202)) dX12_film_166 rfl ?_
                      refine j_norm (fun v206 f207 f208 f209 => ?_)
                      exact j_iret hx hq rfl (by decide) (by decide) dX12_film_167 ⟨v206, rfl, rfl, hS_s29, (zFr_t (zFr_u zFr_rf e_s1 ha (by decide)) hF_s29 (by decide)), (by omega)⟩
                    · skip
                      refine j_iload hx 6 dX12_film_150 rfl ?_
                      refine j_goto hx 167 dX12_film_152 rfl ?_
                      exact j_iret hx hq rfl (by decide) (by decide) dX12_film_167 ⟨v185, rfl, rfl, hS_s29, (zFr_t (zFr_u zFr_rf e_s1 ha (by decide)) hF_s29 (by decide)), (by omega)⟩
                  · skip
                    refine j_iload hx 5 dX12_film_139 rfl ?_
                    refine j_goto hx 167 dX12_film_141 rfl ?_
                    exact j_iret hx hq rfl (by decide) (by decide) dX12_film_167 ⟨v184, rfl, rfl, hS_s29, (zFr_t (zFr_u zFr_rf e_s1 ha (by decide)) hF_s29 (by decide)), (by omega)⟩
                · skip
                  refine j_iload_n hx 2 dX12_film_78 rfl ?_
                  refine j_istore hx [(9, .int (zI x3)), (1, .int (zI x1)), (2, .int (zI x2)), (3, .int (zI x3)), (4, .int (zI x4)), (5, .int (zI x5)), (6, .int (zI v184)), (7, .int (zI v185)), (8, .int (zI v186))] dX12_film_79 (by decide) rfl ?_
                  have c81_34 : ∀ (m_c81_34 : Nat) (v210 : Int) (v211 : Int) (v212 : Int), 2147483648 - v212 < m_c81_34 → ((-2147483648) ≤ v210 ∧ v210 ≤ 2147483647) → ((-2147483648) ≤ v211 ∧ v211 ≤ 2147483647) → ((-2147483648) ≤ v212 ∧ v212 ≤ 2147483647) → JJ X E 10 G s29 0 0 [(1, .int (zI x1)), (2, .int (zI x2)), (3, .int (zI x3)), (4, .int (zI x4)), (5, .int (zI x5)), (6, .int (zI v210)), (7, .int (zI v211)), (8, .int (zI v186)), (9, .int (zI v212))] 81 [] := by
                    intro m_c81_34
                    induction m_c81_34 with
                    | zero => intro v210 v211 v212 hm_c81_34 f35 f36 f37; exfalso; omega
                    | succ m_c81_34 ih_c81_34 => 
                      intro v210 v211 v212 hm_c81_34 f35 f36 f37
                      refine j_iload hx 8 dX12_film_81 rfl ?_
                      refine j_iload hx 3 dX12_film_83 rfl ?_
                      refine j_icmp_gt hx 128 dX12_film_85 rfl (by omega) (by omega) (fun h213 => ?_) (fun h213 => ?_)
                      · skip
                        refine j_iinc hx 7 [(8, .int (zI (v186 + 1))), (1, .int (zI x1)), (2, .int (zI x2)), (3, .int (zI x3)), (4, .int (zI x4)), (5, .int (zI x5)), (6, .int (zI v210)), (7, .int (zI v211)), (9, .int (zI v212))] dX12_film_128 rfl (by omega) (by decide) rfl ?_
                        refine j_goto hx 72 dX12_film_131 rfl ?_
                        exact j_sub [1, 2, 3, 4, 5, 6, 7, 0] [(1, .int (zI x1)), (2, .int (zI x2)), (3, .int (zI x3)), (4, .int (zI x4)), (5, .int (zI x5)), (6, .int (zI v210)), (7, .int (zI v211)), (8, .int (zI (v186 + 1)))] rfl (ih_c72_30 v210 v211 (v186 + 1) (by omega) (by omega) (by omega) (by omega))
                      · skip
                        refine j_iload hx 5 dX12_film_88 rfl ?_
                        refine j_iload hx 7 dX12_film_90 rfl ?_
                        refine j_iload hx 8 dX12_film_92 rfl ?_
                        refine j_icmp_ge hx 101 dX12_film_94 rfl (by omega) (by omega) (fun h214 => ?_) (fun h214 => ?_)
                        · skip
                          refine j_iconst hx dX12_film_101 ?_
                          refine j_iadd hx (r := v210) dX12_film_102 (by omega) ?_
                          refine j_istore hx [(6, .int (zI v210)), (1, .int (zI x1)), (2, .int (zI x2)), (3, .int (zI x3)), (4, .int (zI x4)), (5, .int (zI x5)), (7, .int (zI v211)), (8, .int (zI v186)), (9, .int (zI v212))] dX12_film_103 (by decide) rfl ?_
                          refine j_iload hx 6 dX12_film_105 rfl ?_
                          refine j_iload hx 7 dX12_film_107 rfl ?_
                          refine j_iload hx 8 dX12_film_109 rfl ?_
                          refine j_icmp_ne hx 118 dX12_film_111 rfl (by omega) (by omega) (fun h215 => ?_) (fun h215 => ?_)
                          · skip
                            refine j_iconst hx dX12_film_118 ?_
                            refine j_iadd hx (r := v211) dX12_film_119 (by omega) ?_
                            refine j_istore hx [(7, .int (zI v211)), (6, .int (zI v210)), (1, .int (zI x1)), (2, .int (zI x2)), (3, .int (zI x3)), (4, .int (zI x4)), (5, .int (zI x5)), (8, .int (zI v186)), (9, .int (zI v212))] dX12_film_120 (by decide) rfl ?_
                            refine j_iinc hx 8 [(9, .int (zI (v212 + 1))), (7, .int (zI v211)), (6, .int (zI v210)), (1, .int (zI x1)), (2, .int (zI x2)), (3, .int (zI x3)), (4, .int (zI x4)), (5, .int (zI x5)), (8, .int (zI v186))] dX12_film_122 rfl (by omega) (by decide) rfl ?_
                            refine j_goto hx 81 dX12_film_125 rfl ?_
                            exact j_sub [3, 4, 5, 6, 7, 2, 1, 8, 0] [(1, .int (zI x1)), (2, .int (zI x2)), (3, .int (zI x3)), (4, .int (zI x4)), (5, .int (zI x5)), (6, .int (zI v210)), (7, .int (zI v211)), (8, .int (zI v186)), (9, .int (zI (v212 + 1)))] rfl (ih_c81_34 v210 v211 (v212 + 1) (by omega) (by omega) (by omega) (by omega))
                          · skip
                            refine j_iconst hx dX12_film_114 ?_
                            refine j_goto hx 119 dX12_film_115 rfl ?_
                            refine j_iadd hx (r := v211 + 1) dX12_film_119 rfl ?_
                            refine j_norm (fun v216 f217 f218 f219 => ?_)
                            refine j_istore hx [(7, .int (zI v216)), (6, .int (zI v210)), (1, .int (zI x1)), (2, .int (zI x2)), (3, .int (zI x3)), (4, .int (zI x4)), (5, .int (zI x5)), (8, .int (zI v186)), (9, .int (zI v212))] dX12_film_120 (by decide) rfl ?_
                            refine j_iinc hx 8 [(9, .int (zI (v212 + 1))), (7, .int (zI v216)), (6, .int (zI v210)), (1, .int (zI x1)), (2, .int (zI x2)), (3, .int (zI x3)), (4, .int (zI x4)), (5, .int (zI x5)), (8, .int (zI v186))] dX12_film_122 rfl (by omega) (by decide) rfl ?_
                            refine j_goto hx 81 dX12_film_125 rfl ?_
                            exact j_sub [3, 4, 5, 6, 7, 2, 1, 8, 0] [(1, .int (zI x1)), (2, .int (zI x2)), (3, .int (zI x3)), (4, .int (zI x4)), (5, .int (zI x5)), (6, .int (zI v210)), (7, .int (zI v216)), (8, .int (zI v186)), (9, .int (zI (v212 + 1)))] rfl (ih_c81_34 v210 v216 (v212 + 1) (by omega) (by omega) (by omega) (by omega))
                        · skip
                          refine j_iconst hx dX12_film_97 ?_
                          refine j_goto hx 102 dX12_film_98 rfl ?_
                          refine j_iadd hx (r := v210 + 1) dX12_film_102 rfl ?_
                          refine j_norm (fun v220 f221 f222 f223 => ?_)
                          refine j_istore hx [(6, .int (zI v220)), (1, .int (zI x1)), (2, .int (zI x2)), (3, .int (zI x3)), (4, .int (zI x4)), (5, .int (zI x5)), (7, .int (zI v211)), (8, .int (zI v186)), (9, .int (zI v212))] dX12_film_103 (by decide) rfl ?_
                          refine j_iload hx 6 dX12_film_105 rfl ?_
                          refine j_iload hx 7 dX12_film_107 rfl ?_
                          refine j_iload hx 8 dX12_film_109 rfl ?_
                          refine j_icmp_ne hx 118 dX12_film_111 rfl (by omega) (by omega) (fun h224 => ?_) (fun h224 => ?_)
                          · skip
                            refine j_iconst hx dX12_film_118 ?_
                            refine j_iadd hx (r := v211) dX12_film_119 (by omega) ?_
                            refine j_istore hx [(7, .int (zI v211)), (6, .int (zI v220)), (1, .int (zI x1)), (2, .int (zI x2)), (3, .int (zI x3)), (4, .int (zI x4)), (5, .int (zI x5)), (8, .int (zI v186)), (9, .int (zI v212))] dX12_film_120 (by decide) rfl ?_
                            refine j_iincN hx 8 (fun v225 => [(9, .int (zI v225)), (7, .int (zI v211)), (6, .int (zI v220)), (1, .int (zI x1)), (2, .int (zI x2)), (3, .int (zI x3)), (4, .int (zI x4)), (5, .int (zI x5)), (8, .int (zI v186))]) dX12_film_122 rfl (by decide) (fun _ => rfl) (fun v225 f226 f227 f228 => ?_)
                            refine j_goto hx 81 dX12_film_125 rfl ?_
                            exact j_sub [3, 4, 5, 6, 7, 2, 1, 8, 0] [(1, .int (zI x1)), (2, .int (zI x2)), (3, .int (zI x3)), (4, .int (zI x4)), (5, .int (zI x5)), (6, .int (zI v220)), (7, .int (zI v211)), (8, .int (zI v186)), (9, .int (zI v225))] rfl (ih_c81_34 v220 v211 v225 (by omega) (by omega) (by omega) (by omega))
                          · skip
                            refine j_iconst hx dX12_film_114 ?_
                            refine j_goto hx 119 dX12_film_115 rfl ?_
                            refine j_iadd hx (r := v211 + 1) dX12_film_119 rfl ?_
                            refine j_norm (fun v229 f230 f231 f232 => ?_)
                            refine j_istore hx [(7, .int (zI v229)), (6, .int (zI v220)), (1, .int (zI x1)), (2, .int (zI x2)), (3, .int (zI x3)), (4, .int (zI x4)), (5, .int (zI x5)), (8, .int (zI v186)), (9, .int (zI v212))] dX12_film_120 (by decide) rfl ?_
                            refine j_iinc hx 8 [(9, .int (zI (v212 + 1))), (7, .int (zI v229)), (6, .int (zI v220)), (1, .int (zI x1)), (2, .int (zI x2)), (3, .int (zI x3)), (4, .int (zI x4)), (5, .int (zI x5)), (8, .int (zI v186))] dX12_film_122 rfl (by omega) (by decide) rfl ?_
                            refine j_goto hx 81 dX12_film_125 rfl ?_
                            exact j_sub [3, 4, 5, 6, 7, 2, 1, 8, 0] [(1, .int (zI x1)), (2, .int (zI x2)), (3, .int (zI x3)), (4, .int (zI x4)), (5, .int (zI x5)), (6, .int (zI v220)), (7, .int (zI v229)), (8, .int (zI v186)), (9, .int (zI (v212 + 1)))] rfl (ih_c81_34 v220 v229 (v212 + 1) (by omega) (by omega) (by omega) (by omega))
                  exact j_sub [1, 2, 3, 4, 5, 6, 7, 8, 0] [(1, .int (zI x1)), (2, .int (zI x2)), (3, .int (zI x3)), (4, .int (zI x4)), (5, .int (zI x5)), (6, .int (zI v184)), (7, .int (zI v185)), (8, .int (zI v186)), (9, .int (zI x3))] rfl (c81_34 (2147483648 * 4) v184 v185 x3 (by omega) (by omega) (by omega) (by omega))
            exact j_sub [4, 5, 6, 7, 8, 2, 1, 0] [(1, .int (zI x1)), (2, .int (zI x2)), (3, .int (zI x3)), (4, .int (zI x4)), (5, .int (zI x5)), (6, .int (zI 0)), (7, .int (zI 0)), (8, .int (zI x1))] rfl (c72_30 (2147483648 * 4) 0 0 x1 (by omega) (by omega) (by omega) (by omega))
          · skip
            refine j_iconst hx dX12_film_61 ?_
            exact j_iret hx hq rfl (by decide) (by decide) dX12_film_62 ⟨0, rfl, rfl, hS_s29, (zFr_t (zFr_u zFr_rf e_s1 ha (by decide)) hF_s29 (by decide)), (by omega)⟩
        · skip
          refine j_iload hx 5 dX12_film_38 rfl ?_
          refine j_iconst hx dX12_film_40 ?_
          refine j_iconst hx dX12_film_41 ?_
          refine j_callS hx (c_X12_within hst x5 0 2) lk_RX12_314 [.int (zI x5), .int (zI 0), .int (zI 2)] ⟨rfl, hG, hS_s1, (by omega), (by omega), (by omega)⟩ rfl rfl ⟨by decide, by decide⟩ ⟨by decide, by decide⟩ (k2 := 0) (n2 := 0) rfl rfl (Nat.le_of_ble_eq_true rfl) dX12_film_42 (kIP (fun v233 q234 => ?_))
          refine j_if_eq hx 52 dX12_film_45 rfl (by omega) (fun h235 => ?_) (fun h235 => ?_)
          · skip
            refine j_iconst hx dX12_film_52 ?_
            refine j_iconst hx dX12_film_53 ?_
            refine j_iconst hx dX12_film_54 ?_
            refine j_callV hx hG (c_X12_may hst a 0 1 1) lk_RX12_240 ha (by decide) rfl rfl rfl rfl [.int (zI 0), .int (zI 1), .int (zI 1)] ⟨rfl, hG, hS_s1, ha, (by omega), (by omega), (by omega)⟩ rfl rfl ⟨by decide, by decide⟩ ⟨by decide, by decide⟩ (k2 := 0) (n2 := 0) rfl rfl (Nat.le_of_ble_eq_true rfl) dX12_film_55 (kIM (fun v236 s38 hS_s38 hF_s38 q237 => ?_))
            refine j_if_ne hx 63 dX12_film_58 rfl (by omega) (fun h238 => ?_) (fun h238 => ?_)
            · skip
              refine j_iconst hx dX12_film_63 ?_
              refine j_istore hx [(6, .int (zI 0)), (0, .ref a), (1, .int (zI x1)), (2, .int (zI x2)), (3, .int (zI x3)), (4, .int (zI x4)), (5, .int (zI x5))] dX12_film_64 (by decide) rfl ?_
              refine j_iconst hx dX12_film_66 ?_
              refine j_istore hx [(7, .int (zI 0)), (6, .int (zI 0)), (0, .ref a), (1, .int (zI x1)), (2, .int (zI x2)), (3, .int (zI x3)), (4, .int (zI x4)), (5, .int (zI x5))] dX12_film_67 (by decide) rfl ?_
              refine j_iload_n hx 3 dX12_film_69 rfl ?_
              refine j_istore hx [(8, .int (zI x1)), (7, .int (zI 0)), (6, .int (zI 0)), (0, .ref a), (1, .int (zI x1)), (2, .int (zI x2)), (3, .int (zI x3)), (4, .int (zI x4)), (5, .int (zI x5))] dX12_film_70 (by decide) rfl ?_
              have c72_39 : ∀ (m_c72_39 : Nat) (v239 : Int) (v240 : Int) (v241 : Int), 2147483648 - v241 < m_c72_39 → ((-2147483648) ≤ v239 ∧ v239 ≤ 2147483647) → ((-2147483648) ≤ v240 ∧ v240 ≤ 2147483647) → ((-2147483648) ≤ v241 ∧ v241 ≤ 2147483647) → JJ X E 10 G s38 0 0 [(1, .int (zI x1)), (2, .int (zI x2)), (3, .int (zI x3)), (4, .int (zI x4)), (5, .int (zI x5)), (6, .int (zI v239)), (7, .int (zI v240)), (8, .int (zI v241))] 72 [] := by
                intro m_c72_39
                induction m_c72_39 with
                | zero => intro v239 v240 v241 hm_c72_39 f40 f41 f42; exfalso; omega
                | succ m_c72_39 ih_c72_39 => 
                  intro v239 v240 v241 hm_c72_39 f40 f41 f42
                  refine j_iload hx 7 dX12_film_72 rfl ?_
                  refine j_iload_n hx 1 dX12_film_74 rfl ?_
                  refine j_icmp_gt hx 134 dX12_film_75 rfl (by omega) (by omega) (fun h242 => ?_) (fun h242 => ?_)
                  · skip
                    refine j_iload hx 4 dX12_film_134 rfl ?_
                    refine j_if_ne hx 144 dX12_film_136 rfl (by omega) (fun h243 => ?_) (fun h243 => ?_)
                    · skip
                      refine j_iload hx 4 dX12_film_144 rfl ?_
                      refine j_iconst hx dX12_film_146 ?_
                      refine j_icmp_ne hx 155 dX12_film_147 rfl (by omega) ⟨by decide, by decide⟩ (fun h244 => ?_) (fun h244 => ?_)
                      · skip
                        refine j_iload_n hx 1 dX12_film_155 rfl ?_
                        refine j_iload_n hx 0 dX12_film_156 rfl ?_
                        refine j_isub hx (r := x2 - x1) dX12_film_157 rfl ?_
                        refine j_norm (fun v245 f246 f247 f248 => ?_)
                        refine j_iconst hx dX12_film_158 ?_
                        refine j_iadd hx (r := v245 + 1) dX12_film_159 rfl ?_
                        refine j_norm (fun v249 f250 f251 f252 => ?_)
                        refine j_iload hx 3 dX12_film_160 rfl ?_
                        refine j_iload_n hx 2 dX12_film_162 rfl ?_
                        refine j_isub hx (r := x4 - x3) dX12_film_163 rfl ?_
                        refine j_norm (fun v253 f254 f255 f256 => ?_)
                        refine j_iconst hx dX12_film_164 ?_
                        refine j_iadd hx (r := v253 + 1) dX12_film_165 rfl ?_
                        refine j_norm (fun v257 f258 f259 f260 => ?_)
                        refine j_imul hx (r := (v249 * v257)) dX12_film_166 rfl ?_
                        refine j_norm (fun v261 f262 f263 f264 => ?_)
                        exact j_iret hx hq rfl (by decide) (by decide) dX12_film_167 ⟨v261, rfl, rfl, hS_s38, (zFr_t (zFr_u zFr_rf e_s1 ha (by decide)) hF_s38 (by decide)), (by omega)⟩
                      · skip
                        refine j_iload hx 6 dX12_film_150 rfl ?_
                        refine j_goto hx 167 dX12_film_152 rfl ?_
                        exact j_iret hx hq rfl (by decide) (by decide) dX12_film_167 ⟨v240, rfl, rfl, hS_s38, (zFr_t (zFr_u zFr_rf e_s1 ha (by decide)) hF_s38 (by decide)), (by omega)⟩
                    · skip
                      refine j_iload hx 5 dX12_film_139 rfl ?_
                      refine j_goto hx 167 dX12_film_141 rfl ?_
                      exact j_iret hx hq rfl (by decide) (by decide) dX12_film_167 ⟨v239, rfl, rfl, hS_s38, (zFr_t (zFr_u zFr_rf e_s1 ha (by decide)) hF_s38 (by decide)), (by omega)⟩
                  · skip
                    refine j_iload_n hx 2 dX12_film_78 rfl ?_
                    refine j_istore hx [(9, .int (zI x3)), (1, .int (zI x1)), (2, .int (zI x2)), (3, .int (zI x3)), (4, .int (zI x4)), (5, .int (zI x5)), (6, .int (zI v239)), (7, .int (zI v240)), (8, .int (zI v241))] dX12_film_79 (by decide) rfl ?_
                    have c81_43 : ∀ (m_c81_43 : Nat) (v265 : Int) (v266 : Int) (v267 : Int), 2147483648 - v267 < m_c81_43 → ((-2147483648) ≤ v265 ∧ v265 ≤ 2147483647) → ((-2147483648) ≤ v266 ∧ v266 ≤ 2147483647) → ((-2147483648) ≤ v267 ∧ v267 ≤ 2147483647) → JJ X E 10 G s38 0 0 [(1, .int (zI x1)), (2, .int (zI x2)), (3, .int (zI x3)), (4, .int (zI x4)), (5, .int (zI x5)), (6, .int (zI v265)), (7, .int (zI v266)), (8, .int (zI v241)), (9, .int (zI v267))] 81 [] := by
                      intro m_c81_43
                      induction m_c81_43 with
                      | zero => intro v265 v266 v267 hm_c81_43 f44 f45 f46; exfalso; omega
                      | succ m_c81_43 ih_c81_43 => 
                        intro v265 v266 v267 hm_c81_43 f44 f45 f46
                        refine j_iload hx 8 dX12_film_81 rfl ?_
                        refine j_iload hx 3 dX12_film_83 rfl ?_
                        refine j_icmp_gt hx 128 dX12_film_85 rfl (by omega) (by omega) (fun h268 => ?_) (fun h268 => ?_)
                        · skip
                          refine j_iinc hx 7 [(8, .int (zI (v241 + 1))), (1, .int (zI x1)), (2, .int (zI x2)), (3, .int (zI x3)), (4, .int (zI x4)), (5, .int (zI x5)), (6, .int (zI v265)), (7, .int (zI v266)), (9, .int (zI v267))] dX12_film_128 rfl (by omega) (by decide) rfl ?_
                          refine j_goto hx 72 dX12_film_131 rfl ?_
                          exact j_sub [1, 2, 3, 4, 5, 6, 7, 0] [(1, .int (zI x1)), (2, .int (zI x2)), (3, .int (zI x3)), (4, .int (zI x4)), (5, .int (zI x5)), (6, .int (zI v265)), (7, .int (zI v266)), (8, .int (zI (v241 + 1)))] rfl (ih_c72_39 v265 v266 (v241 + 1) (by omega) (by omega) (by omega) (by omega))
                        · skip
                          refine j_iload hx 5 dX12_film_88 rfl ?_
                          refine j_iload hx 7 dX12_film_90 rfl ?_
                          refine j_iload hx 8 dX12_film_92 rfl ?_
                          refine j_icmp_ge hx 101 dX12_film_94 rfl (by omega) (by omega) (fun h269 => ?_) (fun h269 => ?_)
                          · skip
                            refine j_iconst hx dX12_film_101 ?_
                            refine j_iadd hx (r := v265) dX12_film_102 (by omega) ?_
                            refine j_istore hx [(6, .int (zI v265)), (1, .int (zI x1)), (2, .int (zI x2)), (3, .int (zI x3)), (4, .int (zI x4)), (5, .int (zI x5)), (7, .int (zI v266)), (8, .int (zI v241)), (9, .int (zI v267))] dX12_film_103 (by decide) rfl ?_
                            refine j_iload hx 6 dX12_film_105 rfl ?_
                            refine j_iload hx 7 dX12_film_107 rfl ?_
                            refine j_iload hx 8 dX12_film_109 rfl ?_
                            refine j_icmp_ne hx 118 dX12_film_111 rfl (by omega) (by omega) (fun h270 => ?_) (fun h270 => ?_)
                            · skip
                              refine j_iconst hx dX12_film_118 ?_
                              refine j_iadd hx (r := v266) dX12_film_119 (by omega) ?_
                              refine j_istore hx [(7, .int (zI v266)), (6, .int (zI v265)), (1, .int (zI x1)), (2, .int (zI x2)), (3, .int (zI x3)), (4, .int (zI x4)), (5, .int (zI x5)), (8, .int (zI v241)), (9, .int (zI v267))] dX12_film_120 (by decide) rfl ?_
                              refine j_iinc hx 8 [(9, .int (zI (v267 + 1))), (7, .int (zI v266)), (6, .int (zI v265)), (1, .int (zI x1)), (2, .int (zI x2)), (3, .int (zI x3)), (4, .int (zI x4)), (5, .int (zI x5)), (8, .int (zI v241))] dX12_film_122 rfl (by omega) (by decide) rfl ?_
                              refine j_goto hx 81 dX12_film_125 rfl ?_
                              exact j_sub [3, 4, 5, 6, 7, 2, 1, 8, 0] [(1, .int (zI x1)), (2, .int (zI x2)), (3, .int (zI x3)), (4, .int (zI x4)), (5, .int (zI x5)), (6, .int (zI v265)), (7, .int (zI v266)), (8, .int (zI v241)), (9, .int (zI (v267 + 1)))] rfl (ih_c81_43 v265 v266 (v267 + 1) (by omega) (by omega) (by omega) (by omega))
                            · skip
                              refine j_iconst hx dX12_film_114 ?_
                              refine j_goto hx 119 dX12_film_115 rfl ?_
                              refine j_iadd hx (r := v266 + 1) dX12_film_119 rfl ?_
                              refine j_norm (fun v271 f272 f273 f274 => ?_)
                              refine j_istore hx [(7, .int (zI v271)), (6, .int (zI v265)), (1, .int (zI x1)), (2, .int (zI x2)), (3, .int (zI x3)), (4, .int (zI x4)), (5, .int (zI x5)), (8, .int (zI v241)), (9, .int (zI v267))] dX12_film_120 (by decide) rfl ?_
                              refine j_iinc hx 8 [(9, .int (zI (v267 + 1))), (7, .int (zI v271)), (6, .int (zI v265)), (1, .int (zI x1)), (2, .int (zI x2)), (3, .int (zI x3)), (4, .int (zI x4)), (5, .int (zI x5)), (8, .int (zI v241))] dX12_film_122 rfl (by omega) (by decide) rfl ?_
                              refine j_goto hx 81 dX12_film_125 rfl ?_
                              exact j_sub [3, 4, 5, 6, 7, 2, 1, 8, 0] [(1, .int (zI x1)), (2, .int (zI x2)), (3, .int (zI x3)), (4, .int (zI x4)), (5, .int (zI x5)), (6, .int (zI v265)), (7, .int (zI v271)), (8, .int (zI v241)), (9, .int (zI (v267 + 1)))] rfl (ih_c81_43 v265 v271 (v267 + 1) (by omega) (by omega) (by omega) (by omega))
                          · skip
                            refine j_iconst hx dX12_film_97 ?_
                            refine j_goto hx 102 dX12_film_98 rfl ?_
                            refine j_iadd hx (r := v265 + 1) dX12_film_102 rfl ?_
                            refine j_norm (fun v275 f276 f277 f278 => ?_)
                            refine j_istore hx [(6, .int (zI v275)), (1, .int (zI x1)), (2, .int (zI x2)), (3, .int (zI x3)), (4, .int (zI x4)), (5, .int (zI x5)), (7, .int (zI v266)), (8, .int (zI v241)), (9, .int (zI v267))] dX12_film_103 (by decide) rfl ?_
                            refine j_iload hx 6 dX12_film_105 rfl ?_
                            refine j_iload hx 7 dX12_film_107 rfl ?_
                            refine j_iload hx 8 dX12_film_109 rfl ?_
                            refine j_icmp_ne hx 118 dX12_film_111 rfl (by omega) (by omega) (fun h279 => ?_) (fun h279 => ?_)
                            · skip
                              refine j_iconst hx dX12_film_118 ?_
                              refine j_iadd hx (r := v266) dX12_film_119 (by omega) ?_
                              refine j_istore hx [(7, .int (zI v266)), (6, .int (zI v275)), (1, .int (zI x1)), (2, .int (zI x2)), (3, .int (zI x3)), (4, .int (zI x4)), (5, .int (zI x5)), (8, .int (zI v241)), (9, .int (zI v267))] dX12_film_120 (by decide) rfl ?_
                              refine j_iinc hx 8 [(9, .int (zI (v267 + 1))), (7, .int (zI v266)), (6, .int (zI v275)), (1, .int (zI x1)), (2, .int (zI x2)), (3, .int (zI x3)), (4, .int (zI x4)), (5, .int (zI x5)), (8, .int (zI v241))] dX12_film_122 rfl (by omega) (by decide) rfl ?_
                              refine j_goto hx 81 dX12_film_125 rfl ?_
                              exact j_sub [3, 4, 5, 6, 7, 2, 1, 8, 0] [(1, .int (zI x1)), (2, .int (zI x2)), (3, .int (zI x3)), (4, .int (zI x4)), (5, .int (zI x5)), (6, .int (zI v275)), (7, .int (zI v266)), (8, .int (zI v241)), (9, .int (zI (v267 + 1)))] rfl (ih_c81_43 v275 v266 (v267 + 1) (by omega) (by omega) (by omega) (by omega))
                            · skip
                              refine j_iconst hx dX12_film_114 ?_
                              refine j_goto hx 119 dX12_film_115 rfl ?_
                              refine j_iadd hx (r := v266 + 1) dX12_film_119 rfl ?_
                              refine j_norm (fun v280 f281 f282 f283 => ?_)
                              refine j_istore hx [(7, .int (zI v280)), (6, .int (zI v275)), (1, .int (zI x1)), (2, .int (zI x2)), (3, .int (zI x3)), (4, .int (zI x4)), (5, .int (zI x5)), (8, .int (zI v241)), (9, .int (zI v267))] dX12_film_120 (by decide) rfl ?_
                              refine j_iinc hx 8 [(9, .int (zI (v267 + 1))), (7, .int (zI v280)), (6, .int (zI v275)), (1, .int (zI x1)), (2, .int (zI x2)), (3, .int (zI x3)), (4, .int (zI x4)), (5, .int (zI x5)), (8, .int (zI v241))] dX12_film_122 rfl (by omega) (by decide) rfl ?_
                              refine j_goto hx 81 dX12_film_125 rfl ?_
                              exact j_sub [3, 4, 5, 6, 7, 2, 1, 8, 0] [(1, .int (zI x1)), (2, .int (zI x2)), (3, .int (zI x3)), (4, .int (zI x4)), (5, .int (zI x5)), (6, .int (zI v275)), (7, .int (zI v280)), (8, .int (zI v241)), (9, .int (zI (v267 + 1)))] rfl (ih_c81_43 v275 v280 (v267 + 1) (by omega) (by omega) (by omega) (by omega))
                    exact j_sub [1, 2, 3, 4, 5, 6, 7, 8, 0] [(1, .int (zI x1)), (2, .int (zI x2)), (3, .int (zI x3)), (4, .int (zI x4)), (5, .int (zI x5)), (6, .int (zI v239)), (7, .int (zI v240)), (8, .int (zI v241)), (9, .int (zI x3))] rfl (c81_43 (2147483648 * 4) v239 v240 x3 (by omega) (by omega) (by omega) (by omega))
              exact j_sub [4, 5, 6, 7, 8, 2, 1, 0] [(1, .int (zI x1)), (2, .int (zI x2)), (3, .int (zI x3)), (4, .int (zI x4)), (5, .int (zI x5)), (6, .int (zI 0)), (7, .int (zI 0)), (8, .int (zI x1))] rfl (c72_39 (2147483648 * 4) 0 0 x1 (by omega) (by omega) (by omega) (by omega))
            · skip
              refine j_iconst hx dX12_film_61 ?_
              exact j_iret hx hq rfl (by decide) (by decide) dX12_film_62 ⟨0, rfl, rfl, hS_s38, (zFr_t (zFr_u zFr_rf e_s1 ha (by decide)) hF_s38 (by decide)), (by omega)⟩
          · skip
            refine j_iconst hx dX12_film_48 ?_
            refine j_goto hx 53 dX12_film_49 rfl ?_
            refine j_iconst hx dX12_film_53 ?_
            refine j_iconst hx dX12_film_54 ?_
            refine j_callV hx hG (c_X12_may hst a 1 1 1) lk_RX12_240 ha (by decide) rfl rfl rfl rfl [.int (zI 1), .int (zI 1), .int (zI 1)] ⟨rfl, hG, hS_s1, ha, (by omega), (by omega), (by omega)⟩ rfl rfl ⟨by decide, by decide⟩ ⟨by decide, by decide⟩ (k2 := 0) (n2 := 0) rfl rfl (Nat.le_of_ble_eq_true rfl) dX12_film_55 (kIM (fun v284 s47 hS_s47 hF_s47 q285 => ?_))
            refine j_if_ne hx 63 dX12_film_58 rfl (by omega) (fun h286 => ?_) (fun h286 => ?_)
            · skip
              refine j_iconst hx dX12_film_63 ?_
              refine j_istore hx [(6, .int (zI 0)), (0, .ref a), (1, .int (zI x1)), (2, .int (zI x2)), (3, .int (zI x3)), (4, .int (zI x4)), (5, .int (zI x5))] dX12_film_64 (by decide) rfl ?_
              refine j_iconst hx dX12_film_66 ?_
              refine j_istore hx [(7, .int (zI 0)), (6, .int (zI 0)), (0, .ref a), (1, .int (zI x1)), (2, .int (zI x2)), (3, .int (zI x3)), (4, .int (zI x4)), (5, .int (zI x5))] dX12_film_67 (by decide) rfl ?_
              refine j_iload_n hx 3 dX12_film_69 rfl ?_
              refine j_istore hx [(8, .int (zI x1)), (7, .int (zI 0)), (6, .int (zI 0)), (0, .ref a), (1, .int (zI x1)), (2, .int (zI x2)), (3, .int (zI x3)), (4, .int (zI x4)), (5, .int (zI x5))] dX12_film_70 (by decide) rfl ?_
              have c72_48 : ∀ (m_c72_48 : Nat) (v287 : Int) (v288 : Int) (v289 : Int), 2147483648 - v289 < m_c72_48 → ((-2147483648) ≤ v287 ∧ v287 ≤ 2147483647) → ((-2147483648) ≤ v288 ∧ v288 ≤ 2147483647) → ((-2147483648) ≤ v289 ∧ v289 ≤ 2147483647) → JJ X E 10 G s47 0 0 [(1, .int (zI x1)), (2, .int (zI x2)), (3, .int (zI x3)), (4, .int (zI x4)), (5, .int (zI x5)), (6, .int (zI v287)), (7, .int (zI v288)), (8, .int (zI v289))] 72 [] := by
                intro m_c72_48
                induction m_c72_48 with
                | zero => intro v287 v288 v289 hm_c72_48 f49 f50 f51; exfalso; omega
                | succ m_c72_48 ih_c72_48 => 
                  intro v287 v288 v289 hm_c72_48 f49 f50 f51
                  refine j_iload hx 7 dX12_film_72 rfl ?_
                  refine j_iload_n hx 1 dX12_film_74 rfl ?_
                  refine j_icmp_gt hx 134 dX12_film_75 rfl (by omega) (by omega) (fun h290 => ?_) (fun h290 => ?_)
                  · skip
                    refine j_iload hx 4 dX12_film_134 rfl ?_
                    refine j_if_ne hx 144 dX12_film_136 rfl (by omega) (fun h291 => ?_) (fun h291 => ?_)
                    · skip
                      refine j_iload hx 4 dX12_film_144 rfl ?_
                      refine j_iconst hx dX12_film_146 ?_
                      refine j_icmp_ne hx 155 dX12_film_147 rfl (by omega) ⟨by decide, by decide⟩ (fun h292 => ?_) (fun h292 => ?_)
                      · skip
                        refine j_iload_n hx 1 dX12_film_155 rfl ?_
                        refine j_iload_n hx 0 dX12_film_156 rfl ?_
                        refine j_isub hx (r := x2 - x1) dX12_film_157 rfl ?_
                        refine j_norm (fun v293 f294 f295 f296 => ?_)
                        refine j_iconst hx dX12_film_158 ?_
                        refine j_iadd hx (r := v293 + 1) dX12_film_159 rfl ?_
                        refine j_norm (fun v297 f298 f299 f300 => ?_)
                        refine j_iload hx 3 dX12_film_160 rfl ?_
                        refine j_iload_n hx 2 dX12_film_162 rfl ?_
                        refine j_isub hx (r := x4 - x3) dX12_film_163 rfl ?_
                        refine j_norm (fun v301 f302 f303 f304 => ?_)
                        refine j_iconst hx dX12_film_164 ?_
                        refine j_iadd hx (r := v301 + 1) dX12_film_165 rfl ?_
                        refine j_norm (fun v305 f306 f307 f308 => ?_)
                        refine j_imul hx (r := (v297 * v305)) dX12_film_166 rfl ?_
                        refine j_norm (fun v309 f310 f311 f312 => ?_)
                        exact j_iret hx hq rfl (by decide) (by decide) dX12_film_167 ⟨v309, rfl, rfl, hS_s47, (zFr_t (zFr_u zFr_rf e_s1 ha (by decide)) hF_s47 (by decide)), (by omega)⟩
                      · skip
                        refine j_iload hx 6 dX12_film_150 rfl ?_
                        refine j_goto hx 167 dX12_film_152 rfl ?_
                        exact j_iret hx hq rfl (by decide) (by decide) dX12_film_167 ⟨v288, rfl, rfl, hS_s47, (zFr_t (zFr_u zFr_rf e_s1 ha (by decide)) hF_s47 (by decide)), (by omega)⟩
                    · skip
                      refine j_iload hx 5 dX12_film_139 rfl ?_
                      refine j_goto hx 167 dX12_film_141 rfl ?_
                      exact j_iret hx hq rfl (by decide) (by decide) dX12_film_167 ⟨v287, rfl, rfl, hS_s47, (zFr_t (zFr_u zFr_rf e_s1 ha (by decide)) hF_s47 (by decide)), (by omega)⟩
                  · skip
                    refine j_iload_n hx 2 dX12_film_78 rfl ?_
                    refine j_istore hx [(9, .int (zI x3)), (1, .int (zI x1)), (2, .int (zI x2)), (3, .int (zI x3)), (4, .int (zI x4)), (5, .int (zI x5)), (6, .int (zI v287)), (7, .int (zI v288)), (8, .int (zI v289))] dX12_film_79 (by decide) rfl ?_
                    have c81_52 : ∀ (m_c81_52 : Nat) (v313 : Int) (v314 : Int) (v315 : Int), 2147483648 - v315 < m_c81_52 → ((-2147483648) ≤ v313 ∧ v313 ≤ 2147483647) → ((-2147483648) ≤ v314 ∧ v314 ≤ 2147483647) → ((-2147483648) ≤ v315 ∧ v315 ≤ 2147483647) → JJ X E 10 G s47 0 0 [(1, .int (zI x1)), (2, .int (zI x2)), (3, .int (zI x3)), (4, .int (zI x4)), (5, .int (zI x5)), (6, .int (zI v313)), (7, .int (zI v314)), (8, .int (zI v289)), (9, .int (zI v315))] 81 [] := by
                      intro m_c81_52
                      induction m_c81_52 with
                      | zero => intro v313 v314 v315 hm_c81_52 f53 f54 f55; exfalso; omega
                      | succ m_c81_52 ih_c81_52 => 
                        intro v313 v314 v315 hm_c81_52 f53 f54 f55
                        refine j_iload hx 8 dX12_film_81 rfl ?_
                        refine j_iload hx 3 dX12_film_83 rfl ?_
                        refine j_icmp_gt hx 128 dX12_film_85 rfl (by omega) (by omega) (fun h316 => ?_) (fun h316 => ?_)
                        · skip
                          refine j_iinc hx 7 [(8, .int (zI (v289 + 1))), (1, .int (zI x1)), (2, .int (zI x2)), (3, .int (zI x3)), (4, .int (zI x4)), (5, .int (zI x5)), (6, .int (zI v313)), (7, .int (zI v314)), (9, .int (zI v315))] dX12_film_128 rfl (by omega) (by decide) rfl ?_
                          refine j_goto hx 72 dX12_film_131 rfl ?_
                          exact j_sub [1, 2, 3, 4, 5, 6, 7, 0] [(1, .int (zI x1)), (2, .int (zI x2)), (3, .int (zI x3)), (4, .int (zI x4)), (5, .int (zI x5)), (6, .int (zI v313)), (7, .int (zI v314)), (8, .int (zI (v289 + 1)))] rfl (ih_c72_48 v313 v314 (v289 + 1) (by omega) (by omega) (by omega) (by omega))
                        · skip
                          refine j_iload hx 5 dX12_film_88 rfl ?_
                          refine j_iload hx 7 dX12_film_90 rfl ?_
                          refine j_iload hx 8 dX12_film_92 rfl ?_
                          refine j_icmp_ge hx 101 dX12_film_94 rfl (by omega) (by omega) (fun h317 => ?_) (fun h317 => ?_)
                          · skip
                            refine j_iconst hx dX12_film_101 ?_
                            refine j_iadd hx (r := v313) dX12_film_102 (by omega) ?_
                            refine j_istore hx [(6, .int (zI v313)), (1, .int (zI x1)), (2, .int (zI x2)), (3, .int (zI x3)), (4, .int (zI x4)), (5, .int (zI x5)), (7, .int (zI v314)), (8, .int (zI v289)), (9, .int (zI v315))] dX12_film_103 (by decide) rfl ?_
                            refine j_iload hx 6 dX12_film_105 rfl ?_
                            refine j_iload hx 7 dX12_film_107 rfl ?_
                            refine j_iload hx 8 dX12_film_109 rfl ?_
                            refine j_icmp_ne hx 118 dX12_film_111 rfl (by omega) (by omega) (fun h318 => ?_) (fun h318 => ?_)
                            · skip
                              refine j_iconst hx dX12_film_118 ?_
                              refine j_iadd hx (r := v314) dX12_film_119 (by omega) ?_
                              refine j_istore hx [(7, .int (zI v314)), (6, .int (zI v313)), (1, .int (zI x1)), (2, .int (zI x2)), (3, .int (zI x3)), (4, .int (zI x4)), (5, .int (zI x5)), (8, .int (zI v289)), (9, .int (zI v315))] dX12_film_120 (by decide) rfl ?_
                              refine j_iinc hx 8 [(9, .int (zI (v315 + 1))), (7, .int (zI v314)), (6, .int (zI v313)), (1, .int (zI x1)), (2, .int (zI x2)), (3, .int (zI x3)), (4, .int (zI x4)), (5, .int (zI x5)), (8, .int (zI v289))] dX12_film_122 rfl (by omega) (by decide) rfl ?_
                              refine j_goto hx 81 dX12_film_125 rfl ?_
                              exact j_sub [3, 4, 5, 6, 7, 2, 1, 8, 0] [(1, .int (zI x1)), (2, .int (zI x2)), (3, .int (zI x3)), (4, .int (zI x4)), (5, .int (zI x5)), (6, .int (zI v313)), (7, .int (zI v314)), (8, .int (zI v289)), (9, .int (zI (v315 + 1)))] rfl (ih_c81_52 v313 v314 (v315 + 1) (by omega) (by omega) (by omega) (by omega))
                            · skip
                              refine j_iconst hx dX12_film_114 ?_
                              refine j_goto hx 119 dX12_film_115 rfl ?_
                              refine j_iadd hx (r := v314 + 1) dX12_film_119 rfl ?_
                              refine j_norm (fun v319 f320 f321 f322 => ?_)
                              refine j_istore hx [(7, .int (zI v319)), (6, .int (zI v313)), (1, .int (zI x1)), (2, .int (zI x2)), (3, .int (zI x3)), (4, .int (zI x4)), (5, .int (zI x5)), (8, .int (zI v289)), (9, .int (zI v315))] dX12_film_120 (by decide) rfl ?_
                              refine j_iinc hx 8 [(9, .int (zI (v315 + 1))), (7, .int (zI v319)), (6, .int (zI v313)), (1, .int (zI x1)), (2, .int (zI x2)), (3, .int (zI x3)), (4, .int (zI x4)), (5, .int (zI x5)), (8, .int (zI v289))] dX12_film_122 rfl (by omega) (by decide) rfl ?_
                              refine j_goto hx 81 dX12_film_125 rfl ?_
                              exact j_sub [3, 4, 5, 6, 7, 2, 1, 8, 0] [(1, .int (zI x1)), (2, .int (zI x2)), (3, .int (zI x3)), (4, .int (zI x4)), (5, .int (zI x5)), (6, .int (zI v313)), (7, .int (zI v319)), (8, .int (zI v289)), (9, .int (zI (v315 + 1)))] rfl (ih_c81_52 v313 v319 (v315 + 1) (by omega) (by omega) (by omega) (by omega))
                          · skip
                            refine j_iconst hx dX12_film_97 ?_
                            refine j_goto hx 102 dX12_film_98 rfl ?_
                            refine j_iadd hx (r := v313 + 1) dX12_film_102 rfl ?_
                            refine j_norm (fun v323 f324 f325 f326 => ?_)
                            refine j_istore hx [(6, .int (zI v323)), (1, .int (zI x1)), (2, .int (zI x2)), (3, .int (zI x3)), (4, .int (zI x4)), (5, .int (zI x5)), (7, .int (zI v314)), (8, .int (zI v289)), (9, .int (zI v315))] dX12_film_103 (by decide) rfl ?_
                            refine j_iload hx 6 dX12_film_105 rfl ?_
                            refine j_iload hx 7 dX12_film_107 rfl ?_
                            refine j_iload hx 8 dX12_film_109 rfl ?_
                            refine j_icmp_ne hx 118 dX12_film_111 rfl (by omega) (by omega) (fun h327 => ?_) (fun h327 => ?_)
                            · skip
                              refine j_iconst hx dX12_film_118 ?_
                              refine j_iadd hx (r := v314) dX12_film_119 (by omega) ?_
                              refine j_istore hx [(7, .int (zI v314)), (6, .int (zI v323)), (1, .int (zI x1)), (2, .int (zI x2)), (3, .int (zI x3)), (4, .int (zI x4)), (5, .int (zI x5)), (8, .int (zI v289)), (9, .int (zI v315))] dX12_film_120 (by decide) rfl ?_
                              refine j_iinc hx 8 [(9, .int (zI (v315 + 1))), (7, .int (zI v314)), (6, .int (zI v323)), (1, .int (zI x1)), (2, .int (zI x2)), (3, .int (zI x3)), (4, .int (zI x4)), (5, .int (zI x5)), (8, .int (zI v289))] dX12_film_122 rfl (by omega) (by decide) rfl ?_
                              refine j_goto hx 81 dX12_film_125 rfl ?_
                              exact j_sub [3, 4, 5, 6, 7, 2, 1, 8, 0] [(1, .int (zI x1)), (2, .int (zI x2)), (3, .int (zI x3)), (4, .int (zI x4)), (5, .int (zI x5)), (6, .int (zI v323)), (7, .int (zI v314)), (8, .int (zI v289)), (9, .int (zI (v315 + 1)))] rfl (ih_c81_52 v323 v314 (v315 + 1) (by omega) (by omega) (by omega) (by omega))
                            · skip
                              refine j_iconst hx dX12_film_114 ?_
                              refine j_goto hx 119 dX12_film_115 rfl ?_
                              refine j_iadd hx (r := v314 + 1) dX12_film_119 rfl ?_
                              refine j_norm (fun v328 f329 f330 f331 => ?_)
                              refine j_istore hx [(7, .int (zI v328)), (6, .int (zI v323)), (1, .int (zI x1)), (2, .int (zI x2)), (3, .int (zI x3)), (4, .int (zI x4)), (5, .int (zI x5)), (8, .int (zI v289)), (9, .int (zI v315))] dX12_film_120 (by decide) rfl ?_
                              refine j_iinc hx 8 [(9, .int (zI (v315 + 1))), (7, .int (zI v328)), (6, .int (zI v323)), (1, .int (zI x1)), (2, .int (zI x2)), (3, .int (zI x3)), (4, .int (zI x4)), (5, .int (zI x5)), (8, .int (zI v289))] dX12_film_122 rfl (by omega) (by decide) rfl ?_
                              refine j_goto hx 81 dX12_film_125 rfl ?_
                              exact j_sub [3, 4, 5, 6, 7, 2, 1, 8, 0] [(1, .int (zI x1)), (2, .int (zI x2)), (3, .int (zI x3)), (4, .int (zI x4)), (5, .int (zI x5)), (6, .int (zI v323)), (7, .int (zI v328)), (8, .int (zI v289)), (9, .int (zI (v315 + 1)))] rfl (ih_c81_52 v323 v328 (v315 + 1) (by omega) (by omega) (by omega) (by omega))
                    exact j_sub [1, 2, 3, 4, 5, 6, 7, 8, 0] [(1, .int (zI x1)), (2, .int (zI x2)), (3, .int (zI x3)), (4, .int (zI x4)), (5, .int (zI x5)), (6, .int (zI v287)), (7, .int (zI v288)), (8, .int (zI v289)), (9, .int (zI x3))] rfl (c81_52 (2147483648 * 4) v287 v288 x3 (by omega) (by omega) (by omega) (by omega))
              exact j_sub [4, 5, 6, 7, 8, 2, 1, 0] [(1, .int (zI x1)), (2, .int (zI x2)), (3, .int (zI x3)), (4, .int (zI x4)), (5, .int (zI x5)), (6, .int (zI 0)), (7, .int (zI 0)), (8, .int (zI x1))] rfl (c72_48 (2147483648 * 4) 0 0 x1 (by omega) (by omega) (by omega) (by omega))
            · skip
              refine j_iconst hx dX12_film_61 ?_
              exact j_iret hx hq rfl (by decide) (by decide) dX12_film_62 ⟨0, rfl, rfl, hS_s47, (zFr_t (zFr_u zFr_rf e_s1 ha (by decide)) hF_s47 (by decide)), (by omega)⟩

set_option maxHeartbeats 4000000 in
set_option maxRecDepth 20000 in
theorem c_X12_right {E : zE} {l : Launch} (hst : l.stackTraces = false) (a : Nat) : Con E l yX12_right cX12_right 2 (some .int) { frames := 0, cells := 0, slots := 0, locals := 0 } (fun G s vs => vs = [.ref a] ∧ zGK G ∧ zSK G s ∧ (gT G a = 13) ∧ (zS0 G s)) (fun G s _ => pI (fun r G2 s2 => G2 = G ∧ zSK G s2 ∧ zFr [13] G s s2 ∧ ((-2147483648) ≤ r ∧ r ≤ 2147483647))) := by
  refine Con.mk hst (by decide) (fun G s vs h => by rw [h.1]; exact Nat.le_of_ble_eq_true rfl) ?_
  rintro X G s0 vs ⟨rfl, hG, hS0, ha, hF0⟩ rfl hx hq
  show JJ X E 2 G s0 0 0 [(0, .ref a)] 0 []
  refine j_aload_n hx 0 dX12_right_0 rfl ?_
  refine j_iconst hx dX12_right_1 ?_
  refine p13_0 hx hG ha kf_RX12_3 dX12_right_2 ?_
  obtain ⟨s1, e_s1⟩ : ∃ z, z = zU s0 a 0 0 := ⟨_, rfl⟩
  rw [← e_s1]
  have hS_s1 : zSK G s1 := by rw [e_s1]; exact zSK_F hS0 ha rfl rfl rfl (by omega)
  refine j_iconst hx dX12_right_5 ?_
  refine j_istore_n hx [(1, .int (zI 0)), (0, .ref a)] dX12_right_6 (by decide) rfl ?_
  refine j_iload_n hx 0 dX12_right_7 rfl ?_
  refine j_aload_n hx 1 dX12_right_8 rfl ?_
  have f1 := z0f hF0 ha (k := 41) rfl
  refine g13_41 hx hG ha kf_RX12_198 (v := (s0 a 41)) (by rw [e_s1, zU_at (Or.inr (by decide))]) dX12_right_9 ?_
  refine j_icmp_ge hx 66 dX12_right_12 rfl ⟨by decide, by decide⟩ (by omega) (fun h2 => ?_) (fun h2 => absurd h2 (by omega))
  refine j_iload_n hx 0 dX12_right_66 rfl ?_
  exact j_iret hx hq rfl (by decide) (by decide) dX12_right_67 ⟨0, rfl, rfl, hS_s1, (zFr_u zFr_rf e_s1 ha (by decide)), (by omega)⟩

set_option maxHeartbeats 4000000 in
set_option maxRecDepth 20000 in
theorem c_X12_entry {E : zE} {l : Launch} (hst : l.stackTraces = false) (a : Nat) (x1 : Int) (x2 : Int) : Con E l yX12_entry cX12_entry 3 (some .int) { frames := 1, cells := 0, slots := 0, locals := 23 } (fun G s vs => vs = [.ref a, .int (zI x1), .int (zI x2)] ∧ zGK G ∧ zSK G s ∧ (gT G a = 13) ∧ ((-2147483648) ≤ x1 ∧ x1 ≤ 2147483647) ∧ ((-2147483648) ≤ x2 ∧ x2 ≤ 2147483647) ∧ (zS0 G s)) (fun G s _ => pI (fun r G2 s2 => G2 = G ∧ zSK G s2 ∧ zFr [13, 71] G s s2 ∧ ((-2147483648) ≤ r ∧ r ≤ 2147483647))) := by
  refine Con.mk hst (by decide) (fun G s vs h => by rw [h.1]; exact Nat.le_of_ble_eq_true rfl) ?_
  rintro X G s0 vs ⟨rfl, hG, hS0, ha, hx1, hx2, hF0⟩ rfl hx hq
  show JJ X E 3 G s0 0 0 [(0, .ref a), (1, .int (zI x1)), (2, .int (zI x2))] 0 []
  refine j_aload_n hx 0 dX12_entry_0 rfl ?_
  refine j_iconst hx dX12_entry_1 ?_
  refine p13_0 hx hG ha kf_RX12_3 dX12_entry_2 ?_
  obtain ⟨s1, e_s1⟩ : ∃ z, z = zU s0 a 0 0 := ⟨_, rfl⟩
  rw [← e_s1]
  have hS_s1 : zSK G s1 := by rw [e_s1]; exact zSK_F hS0 ha rfl rfl rfl (by omega)
  refine j_aload_n hx 0 dX12_entry_5 rfl ?_
  refine j_iload_n hx 2 dX12_entry_6 rfl ?_
  refine j_iconst hx dX12_entry_7 ?_
  refine j_iconst hx dX12_entry_8 ?_
  refine j_callS hx (c_X12_within hst x2 0 1) lk_RX12_314 [.int (zI x2), .int (zI 0), .int (zI 1)] ⟨rfl, hG, hS_s1, (by omega), (by omega), (by omega)⟩ rfl rfl ⟨by decide, by decide⟩ ⟨by decide, by decide⟩ (k2 := 0) (n2 := 0) rfl rfl (Nat.le_of_ble_eq_true rfl) dX12_entry_9 (kIP (fun v1 q2 => ?_))
  refine j_iconst hx dX12_entry_12 ?_
  refine j_iconst hx dX12_entry_13 ?_
  refine j_callV hx hG (c_X12_may hst a v1 1 1) lk_RX12_240 ha (by decide) rfl rfl rfl rfl [.int (zI v1), .int (zI 1), .int (zI 1)] ⟨rfl, hG, hS_s1, ha, (by omega), (by omega), (by omega)⟩ rfl rfl ⟨by decide, by decide⟩ ⟨by decide, by decide⟩ (k2 := 0) (n2 := 0) rfl rfl (Nat.le_of_ble_eq_true rfl) dX12_entry_14 (kIM (fun v3 s2 hS_s2 hF_s2 q4 => ?_))
  refine j_if_ne hx 22 dX12_entry_17 rfl (by omega) (fun h5 => ?_) (fun h5 => ?_)
  · skip
    refine j_iload_n hx 1 dX12_entry_22 rfl ?_
    refine j_iconst hx dX12_entry_23 ?_
    refine j_aload_n hx 0 dX12_entry_24 rfl ?_
    have f6 := zf hS_s2 ha (k := 41) rfl
    refine g13_41 hx hG ha kf_RX12_198 rfl dX12_entry_25 ?_
    refine j_iconst hx dX12_entry_28 ?_
    refine j_isub hx (r := (s2 a 41) - 1) dX12_entry_29 (by omega) ?_
    refine j_callS hx (c_X12_within hst x1 0 ((s2 a 41) - 1)) lk_RX12_314 [.int (zI x1), .int (zI 0), .int (zI ((s2 a 41) - 1))] ⟨rfl, hG, hS_s2, (by omega), (by omega), (by omega)⟩ rfl rfl ⟨by decide, by decide⟩ ⟨by decide, by decide⟩ (k2 := 0) (n2 := 0) rfl rfl (Nat.le_of_ble_eq_true rfl) dX12_entry_30 (kIP (fun v7 q8 => ?_))
    refine j_if_eq hx 49 dX12_entry_33 rfl (by omega) (fun h9 => ?_) (fun h9 => ?_)
    · skip
      refine j_iconst hx dX12_entry_49 ?_
      exact j_iret hx hq rfl (by decide) (by decide) dX12_entry_50 ⟨(-1), rfl, rfl, hS_s2, (zFr_t (zFr_u zFr_rf e_s1 ha (by decide)) hF_s2 (by decide)), (by omega)⟩
    · skip
      refine j_aload_n hx 0 dX12_entry_36 rfl ?_
      refine g13_40 hx hG ha kf_RX12_92 dX12_entry_37 ?_
      refine j_iconst hx dX12_entry_40 ?_
      refine j_iload_n hx 1 dX12_entry_41 rfl ?_
      refine j_imul hx (r := 2 * x1) dX12_entry_42 rfl ?_
      refine j_norm (fun v10 f11 f12 f13 => ?_)
      refine j_iload_n hx 2 dX12_entry_43 rfl ?_
      refine j_iadd hx (r := v10 + x2) dX12_entry_44 rfl ?_
      refine j_norm (fun v14 f15 f16 f17 => ?_)
      have f18 := z0a (j := (v14).toNat) hF0 (zr (k := 40) (t2 := 97) hG ha rfl) rfl (zlen hG (zr (k := 40) (t2 := 97) hG ha rfl) (n := 24) rfl rfl) (show 0 ≤ v14 by omega) (by omega) rfl
      refine j_iald hx hG (zr (k := 40) (t2 := 97) hG ha rfl) (by decide) rfl (zlen hG (zr (k := 40) (t2 := 97) hG ha rfl) (n := 24) rfl rfl) (by omega) (by omega) (j := (v14).toNat) rfl (v := (s0 (gP G a 40) (v14).toNat)) (by rw [(zFr_g hF_s2 (zr (k := 40) (t2 := 97) hG ha rfl) (by decide)), e_s1, zU_at (Or.inl (zne ha (zr (k := 40) (t2 := 97) hG ha rfl) (by decide)))]) dX12_entry_45 ?_
      refine j_goto hx 50 dX12_entry_46 rfl ?_
      exact j_iret hx hq rfl (by decide) (by decide) dX12_entry_50 ⟨(s0 (gP G a 40) (v14).toNat), rfl, rfl, hS_s2, (zFr_t (zFr_u zFr_rf e_s1 ha (by decide)) hF_s2 (by decide)), (by omega)⟩
  · skip
    refine j_iconst hx dX12_entry_20 ?_
    exact j_iret hx hq rfl (by decide) (by decide) dX12_entry_21 ⟨0, rfl, rfl, hS_s2, (zFr_t (zFr_u zFr_rf e_s1 ha (by decide)) hF_s2 (by decide)), (by omega)⟩

set_option maxHeartbeats 4000000 in
set_option maxRecDepth 20000 in
theorem c_X12_status {E : zE} {l : Launch} (hst : l.stackTraces = false) (a : Nat) (x1 : Int) : Con E l yX12_status cX12_status 2 (some .int) { frames := 1, cells := 0, slots := 0, locals := 22 } (fun G s vs => vs = [.ref a, .int (zI x1)] ∧ zGK G ∧ zSK G s ∧ (gT G a = 13) ∧ ((-2147483648) ≤ x1 ∧ x1 ≤ 2147483647) ∧ (zS0 G s)) (fun G s _ => pI (fun r G2 s2 => G2 = G ∧ zSK G s2 ∧ zFr [13] G s s2 ∧ ((-2147483648) ≤ r ∧ r ≤ 2147483647))) := by
  refine Con.mk hst (by decide) (fun G s vs h => by rw [h.1]; exact Nat.le_of_ble_eq_true rfl) ?_
  rintro X G s0 vs ⟨rfl, hG, hS0, ha, hx1, hF0⟩ rfl hx hq
  show JJ X E 2 G s0 0 0 [(0, .ref a), (1, .int (zI x1))] 0 []
  refine j_aload_n hx 0 dX12_status_0 rfl ?_
  refine j_iconst hx dX12_status_1 ?_
  refine p13_0 hx hG ha kf_RX12_3 dX12_status_2 ?_
  obtain ⟨s1, e_s1⟩ : ∃ z, z = zU s0 a 0 0 := ⟨_, rfl⟩
  rw [← e_s1]
  have hS_s1 : zSK G s1 := by rw [e_s1]; exact zSK_F hS0 ha rfl rfl rfl (by omega)
  refine j_iload_n hx 1 dX12_status_5 rfl ?_
  refine j_iconst hx dX12_status_6 ?_
  refine j_iconst hx dX12_status_7 ?_
  refine j_callS hx (c_X12_within hst x1 0 1) lk_RX12_314 [.int (zI x1), .int (zI 0), .int (zI 1)] ⟨rfl, hG, hS_s1, (by omega), (by omega), (by omega)⟩ rfl rfl ⟨by decide, by decide⟩ ⟨by decide, by decide⟩ (k2 := 0) (n2 := 0) rfl rfl (Nat.le_of_ble_eq_true rfl) dX12_status_8 (kIP (fun v1 q2 => ?_))
  refine j_if_eq hx 23 dX12_status_11 rfl (by omega) (fun h3 => ?_) (fun h3 => ?_)
  · skip
    refine j_iconst hx dX12_status_23 ?_
    exact j_iret hx hq rfl (by decide) (by decide) dX12_status_24 ⟨(-1), rfl, rfl, hS_s1, (zFr_u zFr_rf e_s1 ha (by decide)), (by omega)⟩
  · skip
    refine j_aload_n hx 0 dX12_status_14 rfl ?_
    refine g13_1 hx hG ha kf_RX12_7 dX12_status_15 ?_
    refine j_iload_n hx 1 dX12_status_18 rfl ?_
    have f4 := z0a (j := (x1).toNat) hF0 (zr (k := 1) (t2 := 71) hG ha rfl) rfl (zlen hG (zr (k := 1) (t2 := 71) hG ha rfl) (n := 2) rfl rfl) (show 0 ≤ x1 by omega) (by omega) rfl
    refine j_iald hx hG (zr (k := 1) (t2 := 71) hG ha rfl) (by decide) rfl (zlen hG (zr (k := 1) (t2 := 71) hG ha rfl) (n := 2) rfl rfl) (by omega) (by omega) (j := (x1).toNat) rfl (v := (s0 (gP G a 1) (x1).toNat)) (by rw [e_s1, zU_at (Or.inl (zne ha (zr (k := 1) (t2 := 71) hG ha rfl) (by decide)))]) dX12_status_19 ?_
    refine j_goto hx 24 dX12_status_20 rfl ?_
    exact j_iret hx hq rfl (by decide) (by decide) dX12_status_24 ⟨(s0 (gP G a 1) (x1).toNat), rfl, rfl, hS_s1, (zFr_u zFr_rf e_s1 ha (by decide)), (by omega)⟩

set_option maxHeartbeats 4000000 in
set_option maxRecDepth 20000 in
theorem c_X12_count {E : zE} {l : Launch} (hst : l.stackTraces = false) (a : Nat) (x1 : Int) : Con E l yX12_count cX12_count 2 (some .int) { frames := 0, cells := 0, slots := 0, locals := 0 } (fun G s vs => vs = [.ref a, .int (zI x1)] ∧ zGK G ∧ zSK G s ∧ (gT G a = 13) ∧ ((-2147483648) ≤ x1 ∧ x1 ≤ 2147483647) ∧ (zS0 G s)) (fun G s _ => pI (fun r G2 s2 => G2 = G ∧ zSK G s2 ∧ zFr [13] G s s2 ∧ ((-2147483648) ≤ r ∧ r ≤ 2147483647))) := by
  refine Con.mk hst (by decide) (fun G s vs h => by rw [h.1]; exact Nat.le_of_ble_eq_true rfl) ?_
  rintro X G s0 vs ⟨rfl, hG, hS0, ha, hx1, hF0⟩ rfl hx hq
  show JJ X E 2 G s0 0 0 [(0, .ref a), (1, .int (zI x1))] 0 []
  refine j_aload_n hx 0 dX12_count_0 rfl ?_
  refine j_iconst hx dX12_count_1 ?_
  refine p13_0 hx hG ha kf_RX12_3 dX12_count_2 ?_
  obtain ⟨s1, e_s1⟩ : ∃ z, z = zU s0 a 0 0 := ⟨_, rfl⟩
  rw [← e_s1]
  have hS_s1 : zSK G s1 := by rw [e_s1]; exact zSK_F hS0 ha rfl rfl rfl (by omega)
  refine j_iload_n hx 1 dX12_count_5 rfl ?_
  refine j_if_ne hx 16 dX12_count_6 rfl (by omega) (fun h1 => ?_) (fun h1 => ?_)
  · skip
    refine j_iload_n hx 1 dX12_count_16 rfl ?_
    refine j_iconst hx dX12_count_17 ?_
    refine j_icmp_ne hx 28 dX12_count_18 rfl (by omega) ⟨by decide, by decide⟩ (fun h2 => ?_) (fun h2 => ?_)
    · skip
      refine j_iload_n hx 1 dX12_count_28 rfl ?_
      refine j_iconst hx dX12_count_29 ?_
      refine j_icmp_ne hx 40 dX12_count_30 rfl (by omega) ⟨by decide, by decide⟩ (fun h3 => ?_) (fun h3 => ?_)
      · skip
        refine j_iload_n hx 1 dX12_count_40 rfl ?_
        refine j_iconst hx dX12_count_41 ?_
        refine j_icmp_ne hx 65 dX12_count_42 rfl (by omega) ⟨by decide, by decide⟩ (fun h4 => ?_) (fun h4 => ?_)
        · skip
          refine j_iconst hx dX12_count_65 ?_
          exact j_iret hx hq rfl (by decide) (by decide) dX12_count_66 ⟨(-1), rfl, rfl, hS_s1, (zFr_u zFr_rf e_s1 ha (by decide)), (by omega)⟩
        · skip
          refine j_aload_n hx 0 dX12_count_45 rfl ?_
          refine g13_27 hx hG ha kf_RX12_56 dX12_count_46 ?_
          refine j_sipush hx dX12_count_49 rfl ?_
          have f5 := z0a (j := 488) hF0 (zr (k := 27) (t2 := 84) hG ha rfl) rfl (zlen hG (zr (k := 27) (t2 := 84) hG ha rfl) (n := 515) rfl rfl) (show 0 ≤ 488 by omega) (by omega) rfl
          refine j_iald hx hG (zr (k := 27) (t2 := 84) hG ha rfl) (by decide) rfl (zlen hG (zr (k := 27) (t2 := 84) hG ha rfl) (n := 515) rfl rfl) (by omega) (by omega) (j := 488) rfl (v := (s0 (gP G a 27) 488)) (by rw [e_s1, zU_at (Or.inl (zne ha (zr (k := 27) (t2 := 84) hG ha rfl) (by decide)))]) dX12_count_52 ?_
          refine j_aload_n hx 0 dX12_count_53 rfl ?_
          refine g13_28 hx hG ha kf_RX12_59 dX12_count_54 ?_
          refine j_sipush hx dX12_count_57 rfl ?_
          have f6 := z0a (j := 488) hF0 (zr (k := 28) (t2 := 85) hG ha rfl) rfl (zlen hG (zr (k := 28) (t2 := 85) hG ha rfl) (n := 515) rfl rfl) (show 0 ≤ 488 by omega) (by omega) rfl
          refine j_iald hx hG (zr (k := 28) (t2 := 85) hG ha rfl) (by decide) rfl (zlen hG (zr (k := 28) (t2 := 85) hG ha rfl) (n := 515) rfl rfl) (by omega) (by omega) (j := 488) rfl (v := (s0 (gP G a 28) 488)) (by rw [e_s1, zU_at (Or.inl (zne ha (zr (k := 28) (t2 := 85) hG ha rfl) (by decide)))]) dX12_count_60 ?_
          refine j_isub hx (r := (s0 (gP G a 27) 488) - (s0 (gP G a 28) 488)) dX12_count_61 (by omega) ?_
          refine j_goto hx 66 dX12_count_62 rfl ?_
          exact j_iret hx hq rfl (by decide) (by decide) dX12_count_66 ⟨(s0 (gP G a 27) 488) - (s0 (gP G a 28) 488), rfl, rfl, hS_s1, (zFr_u zFr_rf e_s1 ha (by decide)), (by omega)⟩
      · skip
        refine j_aload_n hx 0 dX12_count_33 rfl ?_
        have f7 := z0f hF0 ha (k := 41) rfl
        refine g13_41 hx hG ha kf_RX12_198 (v := (s0 a 41)) (by rw [e_s1, zU_at (Or.inr (by decide))]) dX12_count_34 ?_
        refine j_goto hx 66 dX12_count_37 rfl ?_
        exact j_iret hx hq rfl (by decide) (by decide) dX12_count_66 ⟨(s0 a 41), rfl, rfl, hS_s1, (zFr_u zFr_rf e_s1 ha (by decide)), (by omega)⟩
    · skip
      refine j_aload_n hx 0 dX12_count_21 rfl ?_
      have f8 := z0f hF0 ha (k := 2) rfl
      refine g13_2 hx hG ha kf_RX12_134 (v := (s0 a 2)) (by rw [e_s1, zU_at (Or.inr (by decide))]) dX12_count_22 ?_
      refine j_goto hx 66 dX12_count_25 rfl ?_
      exact j_iret hx hq rfl (by decide) (by decide) dX12_count_66 ⟨(s0 a 2), rfl, rfl, hS_s1, (zFr_u zFr_rf e_s1 ha (by decide)), (by omega)⟩
  · skip
    refine j_aload_n hx 0 dX12_count_9 rfl ?_
    have f9 := z0f hF0 ha (k := 58) rfl
    refine g13_58 hx hG ha kf_RX12_201 (v := (s0 a 58)) (by rw [e_s1, zU_at (Or.inr (by decide))]) dX12_count_10 ?_
    refine j_goto hx 66 dX12_count_13 rfl ?_
    exact j_iret hx hq rfl (by decide) (by decide) dX12_count_66 ⟨(s0 a 58), rfl, rfl, hS_s1, (zFr_u zFr_rf e_s1 ha (by decide)), (by omega)⟩

set_option maxHeartbeats 4000000 in
set_option maxRecDepth 20000 in
theorem c_X12_thrown {E : zE} {l : Launch} (hst : l.stackTraces = false) (a : Nat) : Con E l yX12_thrown cX12_thrown 1 (some .int) { frames := 0, cells := 0, slots := 0, locals := 0 } (fun G s vs => vs = [.ref a] ∧ zGK G ∧ zSK G s ∧ (gT G a = 13)) (fun G s _ => pI (fun r G2 s2 => G2 = G ∧ s2 = s ∧ ((-2147483648) ≤ r ∧ r ≤ 2147483647))) := by
  refine Con.mk hst (by decide) (fun G s vs h => by rw [h.1]; exact Nat.le_of_ble_eq_true rfl) ?_
  rintro X G s0 vs ⟨rfl, hG, hS0, ha⟩ rfl hx hq
  show JJ X E 1 G s0 0 0 [(0, .ref a)] 0 []
  refine j_aload_n hx 0 dX12_thrown_0 rfl ?_
  have f1 := zf hS0 ha (k := 0) rfl
  refine g13_0 hx hG ha kf_RX12_3 rfl dX12_thrown_1 ?_
  exact j_iret hx hq rfl (by decide) (by decide) dX12_thrown_4 ⟨(s0 a 0), rfl, rfl, rfl, (by omega)⟩
