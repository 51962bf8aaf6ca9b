theorem lk_RX12_210 : LkS RX12 210 yX12_isKind cX12_isKind 1 (some .boolean) 1 := ⟨km_RX12_210, kst_yX12_isKind, kn_RX12, kc_yX12_isKind, by decide +kernel, by decide +kernel, by decide +kernel⟩
set_option maxHeartbeats 1200000 in
set_option maxRecDepth 20000 in
theorem c_X12_readCards {E : zE} {l : Launch} (hst : l.stackTraces = false) (a : Nat) (x1 : Int) : Con E l yX12_readCards cX12_readCards 2 none { frames := 1, cells := 0, slots := 0, locals := 22 } (fun G s vs => vs = [.ref a, .int (zI x1)] ∧ zGK G ∧ zSK G s ∧ (gT G a = 13) ∧ (0 ≤ x1 ∧ x1 ≤ 2) ∧ (s (gP G a 13) 0 + s (gP G a 13) 1 + s (gP G a 13) 2 = s a 22) ∧ (s a 4 ≤ s a 3 + 2)) (fun G s _ => pV (fun G2 s2 => G2 = G ∧ zSK G s2 ∧ zFr [13, 75, 76] G s s2 ∧ s a 4 ≤ s2 a 4 ∧ s a 5 ≤ s2 a 5 ∧ s2 (gP G a 13) 0 + s2 (gP G a 13) 1 + s2 (gP G a 13) 2 = s2 a 22 ∧ s2 a 4 ≤ s a 3 + 2 ∧ s2 a 0 = s a 0 ∧ s2 a 3 = s a 3 ∧ s2 a 7 = s a 7 ∧ s2 a 21 = s a 21 ∧ s2 a 23 = s a 23 ∧ s2 a 24 = s a 24 ∧ s2 a 38 = s a 38 ∧ s2 a 51 = s a 51 ∧ s2 a 52 = s a 52)) := by
  refine Con.mk hst (by decide) (fun G s vs h => by rw [h.1]; exact Nat.le_of_ble_eq_true rfl) ?_
  rintro X G s0 vs ⟨rfl, hG, hS0, ha, hx1, e0, e1⟩ rfl hx hq
  show JJ X E 2 G s0 0 0 [(0, .ref a), (1, .int (zI x1))] 0 []
  rcases (show x1 = 0 ∨ x1 = 1 ∨ x1 = 2 by omega) with rfl | rfl | rfl
  · skip
    refine j_aload_n hx 0 dX12_readCards_0 rfl ?_
    refine j_callV hx hG (c_X12_fine hst a) lk_RX12_166 ha (by decide) rfl rfl rfl rfl [] ⟨rfl, hG, hS0, ha⟩ rfl rfl ⟨by decide, by decide⟩ ⟨by decide, by decide⟩ (k2 := 0) (n2 := 0) rfl rfl (Nat.le_of_ble_eq_true rfl) dX12_readCards_1 (kIP (fun v1 q2 => ?_))
    refine j_if_ne hx 8 dX12_readCards_4 rfl (by omega) (fun h3 => ?_) (fun h3 => ?_)
    · skip
      refine j_aload_n hx 0 dX12_readCards_8 rfl ?_
      have f4 := zf hS0 ha (k := 4) rfl
      have f5 := zf hS0 ha (k := 3) rfl
      have f6 := zf hS0 ha (k := 0) rfl
      have f7 := zf hS0 ha (k := 5) rfl
      have f8 := zf hS0 ha (k := 7) rfl
      have f9 := zf hS0 ha (k := 21) rfl
      have f10 := zf hS0 ha (k := 22) rfl
      have f11 := zf hS0 ha (k := 23) rfl
      have f12 := zf hS0 ha (k := 24) rfl
      have f13 := zf hS0 ha (k := 38) rfl
      have f14 := zf hS0 ha (k := 51) rfl
      have f15 := zf hS0 ha (k := 52) rfl
      refine j_callV hx hG (c_X12_here hst a) lk_RX12_149 ha (by decide) rfl rfl rfl rfl [] ⟨rfl, hG, hS0, ha, (by omega)⟩ rfl rfl ⟨by decide, by decide⟩ ⟨by decide, by decide⟩ (k2 := 0) (n2 := 0) rfl rfl (Nat.le_of_ble_eq_true rfl) dX12_readCards_9 (kIM (fun v16 s1 hS_s1 hF_s1 q17 => ?_))
      refine j_callS hx (c_X12_isKind hst v16) lk_RX12_210 [.int (zI v16)] ⟨rfl, hG, hS_s1, (by omega)⟩ rfl rfl ⟨by decide, by decide⟩ ⟨by decide, by decide⟩ (k2 := 0) (n2 := 0) rfl rfl (Nat.le_of_ble_eq_true rfl) dX12_readCards_12 (kIP (fun v18 q19 => ?_))
      have f20 := zf hS_s1 ha (k := 0) rfl
      have f21 := zf hS_s1 ha (k := 3) rfl
      have f22 := zf hS_s1 ha (k := 7) rfl
      have f23 := zf hS_s1 ha (k := 21) rfl
      have f24 := zf hS_s1 ha (k := 23) rfl
      have f25 := zf hS_s1 ha (k := 24) rfl
      have f26 := zf hS_s1 ha (k := 38) rfl
      have f27 := zf hS_s1 ha (k := 51) rfl
      have f28 := zf hS_s1 ha (k := 52) rfl
      have f29 := zf hS_s1 ha (k := 4) rfl
      have f30 := zf hS_s1 ha (k := 5) rfl
      have c27_2 : ∀ (m_c27_2 : Nat) (s3 : zS), 3000 - 2 * s3 a 4 - s3 a 5 < m_c27_2 → (zSK G s3) → (zFr [13, 75, 76] G s1 s3) → (s3 a 0 = s1 a 0) → (s3 a 3 = s1 a 3) → (s3 a 7 = s1 a 7) → (s3 a 21 = s1 a 21) → (s3 a 23 = s1 a 23) → (s3 a 24 = s1 a 24) → (s3 a 38 = s1 a 38) → (s3 a 51 = s1 a 51) → (s3 a 52 = s1 a 52) → (s1 a 4 ≤ s3 a 4) → (s1 a 5 ≤ s3 a 5) → (s3 (gP G a 13) 0 + s3 (gP G a 13) 1 + s3 (gP G a 13) 2 = s3 a 22) → (s3 a 4 ≤ s3 a 3 + 2) → (s3 a 4 ≤ 700) → (s3 a 5 ≤ 700) → JJ X E 2 G s3 0 0 [(0, .ref a), (1, .int (zI 0))] 27 [] := by
        intro m_c27_2
        induction m_c27_2 with
        | zero => intro s3 hm_c27_2 hS_s3 hF_s3 fA6 fA7 fA8 fA9 fA10 fA11 fA12 fA13 fA14 fA15 fA16 fA17 fA18 fA19 fA20; exfalso; omega
        | succ m_c27_2 ih_c27_2 => 
          intro s3 hm_c27_2 hS_s3 hF_s3 fA6 fA7 fA8 fA9 fA10 fA11 fA12 fA13 fA14 fA15 fA16 fA17 fA18 fA19 fA20
          have f31 := zaI (j := 0) hS_s3 (zr (k := 13) (t2 := 76) hG ha rfl) rfl (zlen hG (zr (k := 13) (t2 := 76) hG ha rfl) (n := 3) rfl rfl) (show (0 : Int) ≤ 0 by decide) (by decide) rfl
          have f32 := zaI (j := 1) hS_s3 (zr (k := 13) (t2 := 76) hG ha rfl) rfl (zlen hG (zr (k := 13) (t2 := 76) hG ha rfl) (n := 3) rfl rfl) (show (0 : Int) ≤ 1 by decide) (by decide) rfl
          have f33 := zaI (j := 2) hS_s3 (zr (k := 13) (t2 := 76) hG ha rfl) rfl (zlen hG (zr (k := 13) (t2 := 76) hG ha rfl) (n := 3) rfl rfl) (show (0 : Int) ≤ 2 by decide) (by decide) rfl
          refine j_aload_n hx 0 dX12_readCards_27 rfl ?_
          refine j_callV hx hG (c_X12_fine hst a) lk_RX12_166 ha (by decide) rfl rfl rfl rfl [] ⟨rfl, hG, hS_s3, ha⟩ rfl rfl ⟨by decide, by decide⟩ ⟨by decide, by decide⟩ (k2 := 0) (n2 := 0) rfl rfl (Nat.le_of_ble_eq_true rfl) dX12_readCards_28 (kIP (fun v34 q35 => ?_))
          refine j_if_eq hx 174 dX12_readCards_31 rfl (by omega) (fun h36 => ?_) (fun h36 => ?_)
          · skip
            have f37 := zf hS_s3 ha (k := 4) rfl
            have f38 := zf hS_s3 ha (k := 5) rfl
            have f39 := zf hS_s3 ha (k := 22) rfl
            have f40 := zf hS_s3 ha (k := 0) rfl
            have f41 := zf hS_s3 ha (k := 3) rfl
            have f42 := zf hS_s3 ha (k := 7) rfl
            have f43 := zf hS_s3 ha (k := 21) rfl
            have f44 := zf hS_s3 ha (k := 23) rfl
            have f45 := zf hS_s3 ha (k := 24) rfl
            have f46 := zf hS_s3 ha (k := 38) rfl
            have f47 := zf hS_s3 ha (k := 51) rfl
            have f48 := zf hS_s3 ha (k := 52) rfl
            exact j_vret hx hq rfl (by decide) (by decide) dX12_readCards_174 ⟨rfl, rfl, hS_s3, (zFr_t (zFr_t zFr_rf hF_s1 (by decide)) hF_s3 (by decide)), ⟨by omega, by omega, by omega, by omega, by omega, by omega, by omega, by omega, by omega, by omega, by omega, by omega, by omega⟩⟩
          · skip
            refine j_aload_n hx 0 dX12_readCards_34 rfl ?_
            have f49 := zf hS_s3 ha (k := 4) rfl
            refine g13_4 hx hG ha kf_RX12_143 rfl dX12_readCards_35 ?_
            refine j_aload_n hx 0 dX12_readCards_38 rfl ?_
            have f50 := zf hS_s3 ha (k := 3) rfl
            refine g13_3 hx hG ha kf_RX12_146 rfl dX12_readCards_39 ?_
            refine j_icmp_ge hx 174 dX12_readCards_42 rfl (by omega) (by omega) (fun h51 => ?_) (fun h51 => ?_)
            · skip
              have f52 := zf hS_s3 ha (k := 5) rfl
              have f53 := zf hS_s3 ha (k := 22) rfl
              have f54 := zf hS_s3 ha (k := 0) rfl
              have f55 := zf hS_s3 ha (k := 7) rfl
              have f56 := zf hS_s3 ha (k := 21) rfl
              have f57 := zf hS_s3 ha (k := 23) rfl
              have f58 := zf hS_s3 ha (k := 24) rfl
              have f59 := zf hS_s3 ha (k := 38) rfl
              have f60 := zf hS_s3 ha (k := 51) rfl
              have f61 := zf hS_s3 ha (k := 52) rfl
              exact j_vret hx hq rfl (by decide) (by decide) dX12_readCards_174 ⟨rfl, rfl, hS_s3, (zFr_t (zFr_t zFr_rf hF_s1 (by decide)) hF_s3 (by decide)), ⟨by omega, by omega, by omega, by omega, by omega, by omega, by omega, by omega, by omega, by omega, by omega, by omega, by omega⟩⟩
            · skip
              refine j_aload_n hx 0 dX12_readCards_45 rfl ?_
              refine g13_9 hx hG ha kf_RX12_20 dX12_readCards_46 ?_
              refine j_aload_n hx 0 dX12_readCards_49 rfl ?_
              refine g13_4 hx hG ha kf_RX12_143 rfl dX12_readCards_50 ?_
              have f62 := zaI (j := ((s3 a 4)).toNat) hS0 (zr (k := 9) (t2 := 72) hG ha rfl) rfl (zlen hG (zr (k := 9) (t2 := 72) hG ha rfl) (n := 600) rfl rfl) (show 0 ≤ (s3 a 4) by omega) (by omega) rfl
              refine j_iald hx hG (zr (k := 9) (t2 := 72) hG ha rfl) (by decide) rfl (zlen hG (zr (k := 9) (t2 := 72) hG ha rfl) (n := 600) rfl rfl) (by omega) (by omega) (j := ((s3 a 4)).toNat) rfl (v := (s0 (gP G a 9) ((s3 a 4)).toNat)) (by rw [(zFr_g hF_s3 (zr (k := 9) (t2 := 72) hG ha rfl) (by decide)), (zFr_g hF_s1 (zr (k := 9) (t2 := 72) hG ha rfl) (by decide))]) dX12_readCards_53 ?_
              refine j_callS hx (c_X12_isSmall hst ((s0 (gP G a 9) ((s3 a 4)).toNat))) lk_RX12_153 [.int (zI ((s0 (gP G a 9) ((s3 a 4)).toNat)))] ⟨rfl, hG, hS_s3, (by omega)⟩ rfl rfl ⟨by decide, by decide⟩ ⟨by decide, by decide⟩ (k2 := 0) (n2 := 0) rfl rfl (Nat.le_of_ble_eq_true rfl) dX12_readCards_54 (kIP (fun v63 q64 => ?_))
              refine j_if_eq hx 174 dX12_readCards_57 rfl (by omega) (fun h65 => ?_) (fun h65 => ?_)
              · skip
                have f66 := zf hS_s3 ha (k := 5) rfl
                have f67 := zf hS_s3 ha (k := 22) rfl
                have f68 := zf hS_s3 ha (k := 0) rfl
                have f69 := zf hS_s3 ha (k := 7) rfl
                have f70 := zf hS_s3 ha (k := 21) rfl
                have f71 := zf hS_s3 ha (k := 23) rfl
                have f72 := zf hS_s3 ha (k := 24) rfl
                have f73 := zf hS_s3 ha (k := 38) rfl
                have f74 := zf hS_s3 ha (k := 51) rfl
                have f75 := zf hS_s3 ha (k := 52) rfl
                exact j_vret hx hq rfl (by decide) (by decide) dX12_readCards_174 ⟨rfl, rfl, hS_s3, (zFr_t (zFr_t zFr_rf hF_s1 (by decide)) hF_s3 (by decide)), ⟨by omega, by omega, by omega, by omega, by omega, by omega, by omega, by omega, by omega, by omega, by omega, by omega, by omega⟩⟩
              · skip
                refine j_aload_n hx 0 dX12_readCards_60 rfl ?_
                refine g13_9 hx hG ha kf_RX12_20 dX12_readCards_61 ?_
                refine j_aload_n hx 0 dX12_readCards_64 rfl ?_
                refine g13_4 hx hG ha kf_RX12_143 rfl dX12_readCards_65 ?_
                refine j_iald hx hG (zr (k := 9) (t2 := 72) hG ha rfl) (by decide) rfl (zlen hG (zr (k := 9) (t2 := 72) hG ha rfl) (n := 600) rfl rfl) (by omega) (by omega) (j := ((s3 a 4)).toNat) rfl (v := (s0 (gP G a 9) ((s3 a 4)).toNat)) (by rw [(zFr_g hF_s3 (zr (k := 9) (t2 := 72) hG ha rfl) (by decide)), (zFr_g hF_s1 (zr (k := 9) (t2 := 72) hG ha rfl) (by decide))]) dX12_readCards_68 ?_
                refine j_callS hx (c_X12_isKind hst ((s0 (gP G a 9) ((s3 a 4)).toNat))) lk_RX12_210 [.int (zI ((s0 (gP G a 9) ((s3 a 4)).toNat)))] ⟨rfl, hG, hS_s3, (by omega)⟩ rfl rfl ⟨by decide, by decide⟩ ⟨by decide, by decide⟩ (k2 := 0) (n2 := 0) rfl rfl (Nat.le_of_ble_eq_true rfl) dX12_readCards_69 (kIP (fun v76 q77 => ?_))
                have f78 := zf hS_s3 ha (k := 0) rfl
                have f79 := zf hS_s3 ha (k := 7) rfl
                have f80 := zf hS_s3 ha (k := 21) rfl
                have f81 := zf hS_s3 ha (k := 22) rfl
                have f82 := zf hS_s3 ha (k := 23) rfl
                have f83 := zf hS_s3 ha (k := 24) rfl
                have f84 := zf hS_s3 ha (k := 38) rfl
                have f85 := zf hS_s3 ha (k := 51) rfl
                have f86 := zf hS_s3 ha (k := 52) rfl
                have c105_21 : ∀ (s22 : zS), (zSK G s22) → (zFr [13] G s3 s22) → (s22 a 0 = s3 a 0) → (s22 a 3 = s3 a 3) → (s22 a 4 = s3 a 4) → (s22 a 7 = s3 a 7) → (s22 a 21 = s3 a 21) → (s22 a 22 = s3 a 22) → (s22 a 23 = s3 a 23) → (s22 a 24 = s3 a 24) → (s22 a 38 = s3 a 38) → (s22 a 51 = s3 a 51) → (s22 a 52 = s3 a 52) → (s22 a 5 = -1 → s22 a 22 ≤ 59) → JJ X E 2 G s22 0 0 [(0, .ref a), (1, .int (zI 0))] 105 [] := by
                  intro s22 hS_s22 hF_s22 fA25 fA26 fA27 fA28 fA29 fA30 fA31 fA32 fA33 fA34 fA35 fA36
                  refine j_aload_n hx 0 dX12_readCards_105 rfl ?_
                  refine j_callV hx hG (c_X12_fine hst a) lk_RX12_166 ha (by decide) rfl rfl rfl rfl [] ⟨rfl, hG, hS_s22, ha⟩ rfl rfl ⟨by decide, by decide⟩ ⟨by decide, by decide⟩ (k2 := 0) (n2 := 0) rfl rfl (Nat.le_of_ble_eq_true rfl) dX12_readCards_106 (kIP (fun v87 q88 => ?_))
                  refine j_if_ne hx 113 dX12_readCards_109 rfl (by omega) (fun h89 => ?_) (fun h89 => ?_)
                  · skip
                    refine j_aload_n hx 0 dX12_readCards_113 rfl ?_
                    refine g13_12 hx hG ha kf_RX12_29 dX12_readCards_114 ?_
                    refine j_bipush hx dX12_readCards_117 rfl ?_
                    refine j_iload_n hx 1 dX12_readCards_119 rfl ?_
                    refine j_imul hx (r := 0) dX12_readCards_120 (by omega) ?_
                    refine j_aload_n hx 0 dX12_readCards_121 rfl ?_
                    refine g13_13 hx hG ha kf_RX12_32 dX12_readCards_122 ?_
                    refine j_iload_n hx 1 dX12_readCards_125 rfl ?_
                    have f90 := zaI (j := 0) hS_s3 (zr (k := 13) (t2 := 76) hG ha rfl) rfl (zlen hG (zr (k := 13) (t2 := 76) hG ha rfl) (n := 3) rfl rfl) (show 0 ≤ 0 by omega) (by omega) rfl
                    refine j_iald hx hG (zr (k := 13) (t2 := 76) hG ha rfl) (by decide) rfl (zlen hG (zr (k := 13) (t2 := 76) hG ha rfl) (n := 3) rfl rfl) (by omega) (by omega) (j := 0) rfl (v := (s3 (gP G a 13) 0)) (by rw [(zFr_g hF_s22 (zr (k := 13) (t2 := 76) hG ha rfl) (by decide))]) dX12_readCards_126 ?_
                    refine j_iadd hx (r := (s3 (gP G a 13) 0)) dX12_readCards_127 (by omega) ?_
                    refine j_aload_n hx 0 dX12_readCards_128 rfl ?_
                    refine g13_9 hx hG ha kf_RX12_20 dX12_readCards_129 ?_
                    refine j_aload_n hx 0 dX12_readCards_132 rfl ?_
                    have f91 := zf hS_s22 ha (k := 4) rfl
                    refine g13_4 hx hG ha kf_RX12_143 rfl dX12_readCards_133 ?_
                    have f92 := zaI (j := ((s22 a 4)).toNat) hS0 (zr (k := 9) (t2 := 72) hG ha rfl) rfl (zlen hG (zr (k := 9) (t2 := 72) hG ha rfl) (n := 600) rfl rfl) (show 0 ≤ (s22 a 4) by omega) (by omega) rfl
                    refine j_iald hx hG (zr (k := 9) (t2 := 72) hG ha rfl) (by decide) rfl (zlen hG (zr (k := 9) (t2 := 72) hG ha rfl) (n := 600) rfl rfl) (by omega) (by omega) (j := ((s22 a 4)).toNat) rfl (v := (s0 (gP G a 9) ((s22 a 4)).toNat)) (by rw [(zFr_g hF_s22 (zr (k := 9) (t2 := 72) hG ha rfl) (by decide)), (zFr_g hF_s3 (zr (k := 9) (t2 := 72) hG ha rfl) (by decide)), (zFr_g hF_s1 (zr (k := 9) (t2 := 72) hG ha rfl) (by decide))]) dX12_readCards_136 ?_
                    refine j_bipush hx dX12_readCards_137 rfl ?_
                    refine j_isub hx (r := (s0 (gP G a 9) ((s22 a 4)).toNat) - 97) dX12_readCards_139 (by omega) ?_
                    refine j_iast hx hG (zr (k := 12) (t2 := 75) hG ha rfl) (by decide) rfl (zlen hG (zr (k := 12) (t2 := 75) hG ha rfl) (n := 180) rfl rfl) (by omega) (by omega) (j := ((s3 (gP G a 13) 0)).toNat) rfl dX12_readCards_140 ?_
                    obtain ⟨s37, e_s37⟩ : ∃ z, z = zU s22 (gP G a 12) ((s3 (gP G a 13) 0)).toNat ((s0 (gP G a 9) ((s22 a 4)).toNat) - 97) := ⟨_, rfl⟩
                    rw [← e_s37]
                    have hS_s37 : zSK G s37 := by rw [e_s37]; exact zSK_A hS_s22 (zr (k := 12) (t2 := 75) hG ha rfl) rfl rfl rfl (by omega)
                    refine j_aload_n hx 0 dX12_readCards_141 rfl ?_
                    refine g13_13 hx hG ha kf_RX12_32 dX12_readCards_142 ?_
                    refine j_iload_n hx 1 dX12_readCards_145 rfl ?_
                    refine j_dup2 hx dX12_readCards_146 rfl rfl ?_
                    refine j_iald hx hG (zr (k := 13) (t2 := 76) hG ha rfl) (by decide) rfl (zlen hG (zr (k := 13) (t2 := 76) hG ha rfl) (n := 3) rfl rfl) (by omega) (by omega) (j := 0) rfl (v := (s3 (gP G a 13) 0)) (by rw [e_s37, zU_at (Or.inl (zne (zr (k := 12) (t2 := 75) hG ha rfl) (zr (k := 13) (t2 := 76) hG ha rfl) (by decide))), (zFr_g hF_s22 (zr (k := 13) (t2 := 76) hG ha rfl) (by decide))]) dX12_readCards_147 ?_
                    refine j_iconst hx dX12_readCards_148 ?_
                    refine j_iadd hx (r := (s3 (gP G a 13) 0) + 1) dX12_readCards_149 (by omega) ?_
                    refine j_iast hx hG (zr (k := 13) (t2 := 76) hG ha rfl) (by decide) rfl (zlen hG (zr (k := 13) (t2 := 76) hG ha rfl) (n := 3) rfl rfl) (by omega) (by omega) (j := 0) rfl dX12_readCards_150 ?_
                    obtain ⟨s38, e_s38⟩ : ∃ z, z = zU s37 (gP G a 13) 0 ((s3 (gP G a 13) 0) + 1) := ⟨_, rfl⟩
                    rw [← e_s38]
                    have hS_s38 : zSK G s38 := by rw [e_s38]; exact zSK_A hS_s37 (zr (k := 13) (t2 := 76) hG ha rfl) rfl rfl rfl (by omega)
                    refine j_aload_n hx 0 dX12_readCards_151 rfl ?_
                    refine j_dup hx dX12_readCards_152 rfl ?_
                    have f93 := zf hS_s22 ha (k := 22) rfl
                    refine g13_22 hx hG ha kf_RX12_183 (v := (s22 a 22)) (by rw [e_s38, zU_at (Or.inl (zne (zr (k := 13) (t2 := 76) hG ha rfl) ha (by decide))), e_s37, zU_at (Or.inl (zne (zr (k := 12) (t2 := 75) hG ha rfl) ha (by decide)))]) dX12_readCards_153 ?_
                    refine j_iconst hx dX12_readCards_156 ?_
                    refine j_iadd hx (r := (s22 a 22) + 1) dX12_readCards_157 (by omega) ?_
                    refine p13_22 hx hG ha kf_RX12_183 dX12_readCards_158 ?_
                    obtain ⟨s39, e_s39⟩ : ∃ z, z = zU s38 a 22 ((s22 a 22) + 1) := ⟨_, rfl⟩
                    rw [← e_s39]
                    have hS_s39 : zSK G s39 := by rw [e_s39]; exact zSK_F hS_s38 ha rfl rfl rfl (by omega)
                    refine j_aload_n hx 0 dX12_readCards_161 rfl ?_
                    refine j_dup hx dX12_readCards_162 rfl ?_
                    refine g13_4 hx hG ha kf_RX12_143 (v := (s22 a 4)) (by rw [e_s39, zU_at (Or.inr (by decide)), e_s38, zU_at (Or.inl (zne (zr (k := 13) (t2 := 76) hG ha rfl) ha (by decide))), e_s37, zU_at (Or.inl (zne (zr (k := 12) (t2 := 75) hG ha rfl) ha (by decide)))]) dX12_readCards_163 ?_
                    refine j_iconst hx dX12_readCards_166 ?_
                    refine j_iadd hx (r := (s22 a 4) + 1) dX12_readCards_167 (by omega) ?_
                    refine p13_4 hx hG ha kf_RX12_143 dX12_readCards_168 ?_
                    obtain ⟨s40, e_s40⟩ : ∃ z, z = zU s39 a 4 ((s22 a 4) + 1) := ⟨_, rfl⟩
                    rw [← e_s40]
                    have hS_s40 : zSK G s40 := by rw [e_s40]; exact zSK_F hS_s39 ha rfl rfl rfl (by omega)
                    refine j_goto hx 27 dX12_readCards_171 rfl ?_
                    have g94 : s40 a 4 = (s22 a 4) + 1 := (by rw [e_s40, zU_eq])
                    have g95 : s40 a 5 = s22 a 5 := (by rw [e_s40, zU_at (Or.inr (by decide)), e_s39, zU_at (Or.inr (by decide)), e_s38, zU_at (Or.inl (zne (zr (k := 13) (t2 := 76) hG ha rfl) ha (by decide))), e_s37, zU_at (Or.inl (zne (zr (k := 12) (t2 := 75) hG ha rfl) ha (by decide)))])
                    have f96 := zf hS_s22 ha (k := 5) rfl
                    have g97 : s40 a 0 = s22 a 0 := (by rw [e_s40, zU_at (Or.inr (by decide)), e_s39, zU_at (Or.inr (by decide)), e_s38, zU_at (Or.inl (zne (zr (k := 13) (t2 := 76) hG ha rfl) ha (by decide))), e_s37, zU_at (Or.inl (zne (zr (k := 12) (t2 := 75) hG ha rfl) ha (by decide)))])
                    have f98 := zf hS_s22 ha (k := 0) rfl
                    have g99 : s40 a 3 = s22 a 3 := (by rw [e_s40, zU_at (Or.inr (by decide)), e_s39, zU_at (Or.inr (by decide)), e_s38, zU_at (Or.inl (zne (zr (k := 13) (t2 := 76) hG ha rfl) ha (by decide))), e_s37, zU_at (Or.inl (zne (zr (k := 12) (t2 := 75) hG ha rfl) ha (by decide)))])
                    have f100 := zf hS_s22 ha (k := 3) rfl
                    have g101 : s40 a 7 = s22 a 7 := (by rw [e_s40, zU_at (Or.inr (by decide)), e_s39, zU_at (Or.inr (by decide)), e_s38, zU_at (Or.inl (zne (zr (k := 13) (t2 := 76) hG ha rfl) ha (by decide))), e_s37, zU_at (Or.inl (zne (zr (k := 12) (t2 := 75) hG ha rfl) ha (by decide)))])
                    have f102 := zf hS_s22 ha (k := 7) rfl
                    have g103 : s40 a 21 = s22 a 21 := (by rw [e_s40, zU_at (Or.inr (by decide)), e_s39, zU_at (Or.inr (by decide)), e_s38, zU_at (Or.inl (zne (zr (k := 13) (t2 := 76) hG ha rfl) ha (by decide))), e_s37, zU_at (Or.inl (zne (zr (k := 12) (t2 := 75) hG ha rfl) ha (by decide)))])
                    have f104 := zf hS_s22 ha (k := 21) rfl
                    have g105 : s40 a 23 = s22 a 23 := (by rw [e_s40, zU_at (Or.inr (by decide)), e_s39, zU_at (Or.inr (by decide)), e_s38, zU_at (Or.inl (zne (zr (k := 13) (t2 := 76) hG ha rfl) ha (by decide))), e_s37, zU_at (Or.inl (zne (zr (k := 12) (t2 := 75) hG ha rfl) ha (by decide)))])
                    have f106 := zf hS_s22 ha (k := 23) rfl
                    have g107 : s40 a 24 = s22 a 24 := (by rw [e_s40, zU_at (Or.inr (by decide)), e_s39, zU_at (Or.inr (by decide)), e_s38, zU_at (Or.inl (zne (zr (k := 13) (t2 := 76) hG ha rfl) ha (by decide))), e_s37, zU_at (Or.inl (zne (zr (k := 12) (t2 := 75) hG ha rfl) ha (by decide)))])
                    have f108 := zf hS_s22 ha (k := 24) rfl
                    have g109 : s40 a 38 = s22 a 38 := (by rw [e_s40, zU_at (Or.inr (by decide)), e_s39, zU_at (Or.inr (by decide)), e_s38, zU_at (Or.inl (zne (zr (k := 13) (t2 := 76) hG ha rfl) ha (by decide))), e_s37, zU_at (Or.inl (zne (zr (k := 12) (t2 := 75) hG ha rfl) ha (by decide)))])
                    have f110 := zf hS_s22 ha (k := 38) rfl
                    have g111 : s40 a 51 = s22 a 51 := (by rw [e_s40, zU_at (Or.inr (by decide)), e_s39, zU_at (Or.inr (by decide)), e_s38, zU_at (Or.inl (zne (zr (k := 13) (t2 := 76) hG ha rfl) ha (by decide))), e_s37, zU_at (Or.inl (zne (zr (k := 12) (t2 := 75) hG ha rfl) ha (by decide)))])
                    have f112 := zf hS_s22 ha (k := 51) rfl
                    have g113 : s40 a 52 = s22 a 52 := (by rw [e_s40, zU_at (Or.inr (by decide)), e_s39, zU_at (Or.inr (by decide)), e_s38, zU_at (Or.inl (zne (zr (k := 13) (t2 := 76) hG ha rfl) ha (by decide))), e_s37, zU_at (Or.inl (zne (zr (k := 12) (t2 := 75) hG ha rfl) ha (by decide)))])
                    have f114 := zf hS_s22 ha (k := 52) rfl
                    have g115 : s40 (gP G a 13) 0 = (s3 (gP G a 13) 0) + 1 := (by rw [e_s40, zU_at (Or.inl (zne ha (zr (k := 13) (t2 := 76) hG ha rfl) (by decide))), e_s39, zU_at (Or.inl (zne ha (zr (k := 13) (t2 := 76) hG ha rfl) (by decide))), e_s38, zU_eq])
                    have g116 : s40 (gP G a 13) 1 = s3 (gP G a 13) 1 := (by rw [e_s40, zU_at (Or.inl (zne ha (zr (k := 13) (t2 := 76) hG ha rfl) (by decide))), e_s39, zU_at (Or.inl (zne ha (zr (k := 13) (t2 := 76) hG ha rfl) (by decide))), e_s38, zU_at (Or.inr (by decide)), e_s37, zU_at (Or.inl (zne (zr (k := 12) (t2 := 75) hG ha rfl) (zr (k := 13) (t2 := 76) hG ha rfl) (by decide))), (zFr_g hF_s22 (zr (k := 13) (t2 := 76) hG ha rfl) (by decide))])
                    have g117 : s40 (gP G a 13) 2 = s3 (gP G a 13) 2 := (by rw [e_s40, zU_at (Or.inl (zne ha (zr (k := 13) (t2 := 76) hG ha rfl) (by decide))), e_s39, zU_at (Or.inl (zne ha (zr (k := 13) (t2 := 76) hG ha rfl) (by decide))), e_s38, zU_at (Or.inr (by decide)), e_s37, zU_at (Or.inl (zne (zr (k := 12) (t2 := 75) hG ha rfl) (zr (k := 13) (t2 := 76) hG ha rfl) (by decide))), (zFr_g hF_s22 (zr (k := 13) (t2 := 76) hG ha rfl) (by decide))])
                    have g118 : s40 a 22 = (s22 a 22) + 1 := (by rw [e_s40, zU_at (Or.inr (by decide)), e_s39, zU_eq])
                    exact j_sub [0, 1] [(0, .ref a), (1, .int (zI 0))] rfl (ih_c27_2 s40 (by omega) hS_s40 (zFr_u (zFr_u (zFr_u (zFr_u (zFr_t (zFr_t zFr_rf hF_s3 (by decide)) hF_s22 (by decide)) e_s37 (zr (k := 12) (t2 := 75) hG ha rfl) (by decide)) e_s38 (zr (k := 13) (t2 := 76) hG ha rfl) (by decide)) e_s39 ha (by decide)) e_s40 ha (by decide)) (by omega) (by omega) (by omega) (by omega) (by omega) (by omega) (by omega) (by omega) (by omega) (by omega) (by omega) (by omega) (by omega) (by omega) (by omega))
                  · skip
                    have f119 := zf hS_s22 ha (k := 4) rfl
                    have f120 := zf hS_s22 ha (k := 5) rfl
                    have g121 : s22 (gP G a 13) 0 = s3 (gP G a 13) 0 := (by rw [(zFr_g hF_s22 (zr (k := 13) (t2 := 76) hG ha rfl) (by decide))])
                    have g122 : s22 (gP G a 13) 1 = s3 (gP G a 13) 1 := (by rw [(zFr_g hF_s22 (zr (k := 13) (t2 := 76) hG ha rfl) (by decide))])
                    have g123 : s22 (gP G a 13) 2 = s3 (gP G a 13) 2 := (by rw [(zFr_g hF_s22 (zr (k := 13) (t2 := 76) hG ha rfl) (by decide))])
                    have f124 := zf hS_s22 ha (k := 22) rfl
                    have f125 := zf hS_s22 ha (k := 0) rfl
                    have f126 := zf hS_s22 ha (k := 3) rfl
                    have f127 := zf hS_s22 ha (k := 7) rfl
                    have f128 := zf hS_s22 ha (k := 21) rfl
                    have f129 := zf hS_s22 ha (k := 23) rfl
                    have f130 := zf hS_s22 ha (k := 24) rfl
                    have f131 := zf hS_s22 ha (k := 38) rfl
                    have f132 := zf hS_s22 ha (k := 51) rfl
                    have f133 := zf hS_s22 ha (k := 52) rfl
                    exact j_vret hx hq rfl (by decide) (by decide) dX12_readCards_112 ⟨rfl, rfl, hS_s22, (zFr_t (zFr_t (zFr_t zFr_rf hF_s1 (by decide)) hF_s3 (by decide)) hF_s22 (by decide)), ⟨by omega, by omega, by omega, by omega, by omega, by omega, by omega, by omega, by omega, by omega, by omega, by omega, by omega⟩⟩
                refine j_if_ne hx 87 dX12_readCards_72 rfl (by omega) (fun h134 => ?_) (fun h134 => ?_)
                · skip
                  refine j_aload_n hx 0 dX12_readCards_87 rfl ?_
                  refine g13_22 hx hG ha kf_RX12_183 rfl dX12_readCards_88 ?_
                  refine j_bipush hx dX12_readCards_91 rfl ?_
                  refine j_icmp_ne hx 105 dX12_readCards_93 rfl (by omega) ⟨by decide, by decide⟩ (fun h135 => ?_) (fun h135 => ?_)
                  · skip
                    have f136 := zf hS_s3 ha (k := 5) rfl
                    exact j_sub [0, 1] [(0, .ref a), (1, .int (zI 0))] rfl (c105_21 s3 hS_s3 zFr_rf (by omega) (by omega) (by omega) (by omega) (by omega) (by omega) (by omega) (by omega) (by omega) (by omega) (by omega) (by omega))
                  · skip
                    refine j_aload_n hx 0 dX12_readCards_96 rfl ?_
                    refine j_iconst hx dX12_readCards_97 ?_
                    refine j_aload_n hx 0 dX12_readCards_98 rfl ?_
                    refine g13_4 hx hG ha kf_RX12_143 rfl dX12_readCards_99 ?_
                    have f137 := zf hS_s3 ha (k := 5) rfl
                    refine j_callV hx hG (c_X12_wrong hst a 3 ((s3 a 4))) lk_RX12_173 ha (by decide) rfl rfl rfl rfl [.int (zI 3), .int (zI ((s3 a 4)))] ⟨rfl, hG, hS_s3, ha, (by omega), (by omega)⟩ rfl rfl ⟨by decide, by decide⟩ ⟨by decide, by decide⟩ (k2 := 0) (n2 := 0) rfl rfl (Nat.le_of_ble_eq_true rfl) dX12_readCards_102 (kVM (fun s41 hS_s41 hF_s41 q139 => ?_))
                    have f140 := zf hS_s41 ha (k := 0) rfl
                    have f141 := zf hS_s41 ha (k := 3) rfl
                    have f142 := zf hS_s41 ha (k := 4) rfl
                    have f143 := zf hS_s41 ha (k := 7) rfl
                    have f144 := zf hS_s41 ha (k := 21) rfl
                    have f145 := zf hS_s41 ha (k := 22) rfl
                    have f146 := zf hS_s41 ha (k := 23) rfl
                    have f147 := zf hS_s41 ha (k := 24) rfl
                    have f148 := zf hS_s41 ha (k := 38) rfl
                    have f149 := zf hS_s41 ha (k := 51) rfl
                    have f150 := zf hS_s41 ha (k := 52) rfl
                    have f151 := zf hS_s41 ha (k := 5) rfl
                    exact j_sub [0, 1] [(0, .ref a), (1, .int (zI 0))] rfl (c105_21 s41 hS_s41 (zFr_t zFr_rf hF_s41 (by decide)) (by omega) (by omega) (by omega) (by omega) (by omega) (by omega) (by omega) (by omega) (by omega) (by omega) (by omega) (by omega))
                · skip
                  refine j_aload_n hx 0 dX12_readCards_75 rfl ?_
                  refine j_iconst hx dX12_readCards_76 ?_
                  refine j_aload_n hx 0 dX12_readCards_77 rfl ?_
                  refine g13_4 hx hG ha kf_RX12_143 rfl dX12_readCards_78 ?_
                  have f152 := zf hS_s3 ha (k := 5) rfl
                  refine j_callV hx hG (c_X12_wrong hst a 1 ((s3 a 4))) lk_RX12_173 ha (by decide) rfl rfl rfl rfl [.int (zI 1), .int (zI ((s3 a 4)))] ⟨rfl, hG, hS_s3, ha, (by omega), (by omega)⟩ rfl rfl ⟨by decide, by decide⟩ ⟨by decide, by decide⟩ (k2 := 0) (n2 := 0) rfl rfl (Nat.le_of_ble_eq_true rfl) dX12_readCards_81 (kVM (fun s42 hS_s42 hF_s42 q154 => ?_))
                  refine j_goto hx 105 dX12_readCards_84 rfl ?_
                  have f155 := zf hS_s42 ha (k := 0) rfl
                  have f156 := zf hS_s42 ha (k := 3) rfl
                  have f157 := zf hS_s42 ha (k := 4) rfl
                  have f158 := zf hS_s42 ha (k := 7) rfl
                  have f159 := zf hS_s42 ha (k := 21) rfl
                  have f160 := zf hS_s42 ha (k := 22) rfl
                  have f161 := zf hS_s42 ha (k := 23) rfl
                  have f162 := zf hS_s42 ha (k := 24) rfl
                  have f163 := zf hS_s42 ha (k := 38) rfl
                  have f164 := zf hS_s42 ha (k := 51) rfl
                  have f165 := zf hS_s42 ha (k := 52) rfl
                  have f166 := zf hS_s42 ha (k := 5) rfl
                  exact j_sub [0, 1] [(0, .ref a), (1, .int (zI 0))] rfl (c105_21 s42 hS_s42 (zFr_t zFr_rf hF_s42 (by decide)) (by omega) (by omega) (by omega) (by omega) (by omega) (by omega) (by omega) (by omega) (by omega) (by omega) (by omega) (by omega))
      refine j_if_ne hx 27 dX12_readCards_15 rfl (by omega) (fun h167 => ?_) (fun h167 => ?_)
      · skip
        have g168 : s1 (gP G a 13) 0 = s0 (gP G a 13) 0 := (by rw [(zFr_g hF_s1 (zr (k := 13) (t2 := 76) hG ha rfl) (by decide))])
        have g169 : s1 (gP G a 13) 1 = s0 (gP G a 13) 1 := (by rw [(zFr_g hF_s1 (zr (k := 13) (t2 := 76) hG ha rfl) (by decide))])
        have g170 : s1 (gP G a 13) 2 = s0 (gP G a 13) 2 := (by rw [(zFr_g hF_s1 (zr (k := 13) (t2 := 76) hG ha rfl) (by decide))])
        have f171 := zf hS_s1 ha (k := 22) rfl
        exact j_sub [0, 1] [(0, .ref a), (1, .int (zI 0))] rfl (c27_2 (2147483648 * 4) s1 (by omega) hS_s1 zFr_rf (by omega) (by omega) (by omega) (by omega) (by omega) (by omega) (by omega) (by omega) (by omega) (by omega) (by omega) (by omega) (by omega) (by omega) (by omega))
      · skip
        refine j_aload_n hx 0 dX12_readCards_18 rfl ?_
        refine j_iconst hx dX12_readCards_19 ?_
        refine j_aload_n hx 0 dX12_readCards_20 rfl ?_
        refine g13_4 hx hG ha kf_RX12_143 rfl dX12_readCards_21 ?_
        have f172 := zf hS_s1 ha (k := 22) rfl
        refine j_callV hx hG (c_X12_wrong hst a 1 ((s1 a 4))) lk_RX12_173 ha (by decide) rfl rfl rfl rfl [.int (zI 1), .int (zI ((s1 a 4)))] ⟨rfl, hG, hS_s1, ha, (by omega), (by omega)⟩ rfl rfl ⟨by decide, by decide⟩ ⟨by decide, by decide⟩ (k2 := 0) (n2 := 0) rfl rfl (Nat.le_of_ble_eq_true rfl) dX12_readCards_24 (kVM (fun s43 hS_s43 hF_s43 q174 => ?_))
        have f175 := zf hS_s43 ha (k := 4) rfl
        have f176 := zf hS_s43 ha (k := 5) rfl
        have f177 := zf hS_s43 ha (k := 0) rfl
        have f178 := zf hS_s43 ha (k := 3) rfl
        have f179 := zf hS_s43 ha (k := 7) rfl
        have f180 := zf hS_s43 ha (k := 21) rfl
        have f181 := zf hS_s43 ha (k := 23) rfl
        have f182 := zf hS_s43 ha (k := 24) rfl
        have f183 := zf hS_s43 ha (k := 38) rfl
        have f184 := zf hS_s43 ha (k := 51) rfl
        have f185 := zf hS_s43 ha (k := 52) rfl
        have g186 : s43 (gP G a 13) 0 = s0 (gP G a 13) 0 := (by rw [(zFr_g hF_s43 (zr (k := 13) (t2 := 76) hG ha rfl) (by decide)), (zFr_g hF_s1 (zr (k := 13) (t2 := 76) hG ha rfl) (by decide))])
        have g187 : s43 (gP G a 13) 1 = s0 (gP G a 13) 1 := (by rw [(zFr_g hF_s43 (zr (k := 13) (t2 := 76) hG ha rfl) (by decide)), (zFr_g hF_s1 (zr (k := 13) (t2 := 76) hG ha rfl) (by decide))])
        have g188 : s43 (gP G a 13) 2 = s0 (gP G a 13) 2 := (by rw [(zFr_g hF_s43 (zr (k := 13) (t2 := 76) hG ha rfl) (by decide)), (zFr_g hF_s1 (zr (k := 13) (t2 := 76) hG ha rfl) (by decide))])
        have f189 := zf hS_s43 ha (k := 22) rfl
        exact j_sub [0, 1] [(0, .ref a), (1, .int (zI 0))] rfl (c27_2 (2147483648 * 4) s43 (by omega) hS_s43 (zFr_t zFr_rf hF_s43 (by decide)) (by omega) (by omega) (by omega) (by omega) (by omega) (by omega) (by omega) (by omega) (by omega) (by omega) (by omega) (by omega) (by omega) (by omega) (by omega))
    · skip
      have f190 := zf hS0 ha (k := 4) rfl
      have f191 := zf hS0 ha (k := 5) rfl
      have f192 := zf hS0 ha (k := 22) rfl
      have f193 := zf hS0 ha (k := 3) rfl
      have f194 := zf hS0 ha (k := 0) rfl
      have f195 := zf hS0 ha (k := 7) rfl
      have f196 := zf hS0 ha (k := 21) rfl
      have f197 := zf hS0 ha (k := 23) rfl
      have f198 := zf hS0 ha (k := 24) rfl
      have f199 := zf hS0 ha (k := 38) rfl
      have f200 := zf hS0 ha (k := 51) rfl
      have f201 := zf hS0 ha (k := 52) rfl
      exact j_vret hx hq rfl (by decide) (by decide) dX12_readCards_7 ⟨rfl, rfl, hS0, zFr_rf, ⟨by omega, by omega, by omega, by omega, by omega, by omega, by omega, by omega, by omega, by omega, by omega, by omega, by omega⟩⟩
  · skip
    refine j_aload_n hx 0 dX12_readCards_0 rfl ?_
    refine j_callV hx hG (c_X12_fine hst a) lk_RX12_166 ha (by decide) rfl rfl rfl rfl [] ⟨rfl, hG, hS0, ha⟩ rfl rfl ⟨by decide, by decide⟩ ⟨by decide, by decide⟩ (k2 := 0) (n2 := 0) rfl rfl (Nat.le_of_ble_eq_true rfl) dX12_readCards_1 (kIP (fun v202 q203 => ?_))
    refine j_if_ne hx 8 dX12_readCards_4 rfl (by omega) (fun h204 => ?_) (fun h204 => ?_)
    · skip
      refine j_aload_n hx 0 dX12_readCards_8 rfl ?_
      have f205 := zf hS0 ha (k := 4) rfl
      have f206 := zf hS0 ha (k := 3) rfl
      have f207 := zf hS0 ha (k := 0) rfl
      have f208 := zf hS0 ha (k := 5) rfl
      have f209 := zf hS0 ha (k := 7) rfl
      have f210 := zf hS0 ha (k := 21) rfl
      have f211 := zf hS0 ha (k := 22) rfl
      have f212 := zf hS0 ha (k := 23) rfl
      have f213 := zf hS0 ha (k := 24) rfl
      have f214 := zf hS0 ha (k := 38) rfl
      have f215 := zf hS0 ha (k := 51) rfl
      have f216 := zf hS0 ha (k := 52) rfl
      refine j_callV hx hG (c_X12_here hst a) lk_RX12_149 ha (by decide) rfl rfl rfl rfl [] ⟨rfl, hG, hS0, ha, (by omega)⟩ rfl rfl ⟨by decide, by decide⟩ ⟨by decide, by decide⟩ (k2 := 0) (n2 := 0) rfl rfl (Nat.le_of_ble_eq_true rfl) dX12_readCards_9 (kIM (fun v217 s44 hS_s44 hF_s44 q218 => ?_))
      refine j_callS hx (c_X12_isKind hst v217) lk_RX12_210 [.int (zI v217)] ⟨rfl, hG, hS_s44, (by omega)⟩ rfl rfl ⟨by decide, by decide⟩ ⟨by decide, by decide⟩ (k2 := 0) (n2 := 0) rfl rfl (Nat.le_of_ble_eq_true rfl) dX12_readCards_12 (kIP (fun v219 q220 => ?_))
      have f221 := zf hS_s44 ha (k := 0) rfl
      have f222 := zf hS_s44 ha (k := 3) rfl
      have f223 := zf hS_s44 ha (k := 7) rfl
      have f224 := zf hS_s44 ha (k := 21) rfl
      have f225 := zf hS_s44 ha (k := 23) rfl
      have f226 := zf hS_s44 ha (k := 24) rfl
      have f227 := zf hS_s44 ha (k := 38) rfl
      have f228 := zf hS_s44 ha (k := 51) rfl
      have f229 := zf hS_s44 ha (k := 52) rfl
      have f230 := zf hS_s44 ha (k := 4) rfl
      have f231 := zf hS_s44 ha (k := 5) rfl
      have c27_45 : ∀ (m_c27_45 : Nat) (s46 : zS), 3000 - 2 * s46 a 4 - s46 a 5 < m_c27_45 → (zSK G s46) → (zFr [13, 75, 76] G s44 s46) → (s46 a 0 = s44 a 0) → (s46 a 3 = s44 a 3) → (s46 a 7 = s44 a 7) → (s46 a 21 = s44 a 21) → (s46 a 23 = s44 a 23) → (s46 a 24 = s44 a 24) → (s46 a 38 = s44 a 38) → (s46 a 51 = s44 a 51) → (s46 a 52 = s44 a 52) → (s44 a 4 ≤ s46 a 4) → (s44 a 5 ≤ s46 a 5) → (s46 (gP G a 13) 0 + s46 (gP G a 13) 1 + s46 (gP G a 13) 2 = s46 a 22) → (s46 a 4 ≤ s46 a 3 + 2) → (s46 a 4 ≤ 700) → (s46 a 5 ≤ 700) → JJ X E 2 G s46 0 0 [(0, .ref a), (1, .int (zI 1))] 27 [] := by
        intro m_c27_45
        induction m_c27_45 with
        | zero => intro s46 hm_c27_45 hS_s46 hF_s46 fA49 fA50 fA51 fA52 fA53 fA54 fA55 fA56 fA57 fA58 fA59 fA60 fA61 fA62 fA63; exfalso; omega
        | succ m_c27_45 ih_c27_45 => 
          intro s46 hm_c27_45 hS_s46 hF_s46 fA49 fA50 fA51 fA52 fA53 fA54 fA55 fA56 fA57 fA58 fA59 fA60 fA61 fA62 fA63
          have f232 := zaI (j := 0) hS_s46 (zr (k := 13) (t2 := 76) hG ha rfl) rfl (zlen hG (zr (k := 13) (t2 := 76) hG ha rfl) (n := 3) rfl rfl) (show (0 : Int) ≤ 0 by decide) (by decide) rfl
          have f233 := zaI (j := 1) hS_s46 (zr (k := 13) (t2 := 76) hG ha rfl) rfl (zlen hG (zr (k := 13) (t2 := 76) hG ha rfl) (n := 3) rfl rfl) (show (0 : Int) ≤ 1 by decide) (by decide) rfl
          have f234 := zaI (j := 2) hS_s46 (zr (k := 13) (t2 := 76) hG ha rfl) rfl (zlen hG (zr (k := 13) (t2 := 76) hG ha rfl) (n := 3) rfl rfl) (show (0 : Int) ≤ 2 by decide) (by decide) rfl
          refine j_aload_n hx 0 dX12_readCards_27 rfl ?_
          refine j_callV hx hG (c_X12_fine hst a) lk_RX12_166 ha (by decide) rfl rfl rfl rfl [] ⟨rfl, hG, hS_s46, ha⟩ rfl rfl ⟨by decide, by decide⟩ ⟨by decide, by decide⟩ (k2 := 0) (n2 := 0) rfl rfl (Nat.le_of_ble_eq_true rfl) dX12_readCards_28 (kIP (fun v235 q236 => ?_))
          refine j_if_eq hx 174 dX12_readCards_31 rfl (by omega) (fun h237 => ?_) (fun h237 => ?_)
          · skip
            have f238 := zf hS_s46 ha (k := 4) rfl
            have f239 := zf hS_s46 ha (k := 5) rfl
            have f240 := zf hS_s46 ha (k := 22) rfl
            have f241 := zf hS_s46 ha (k := 0) rfl
            have f242 := zf hS_s46 ha (k := 3) rfl
            have f243 := zf hS_s46 ha (k := 7) rfl
            have f244 := zf hS_s46 ha (k := 21) rfl
            have f245 := zf hS_s46 ha (k := 23) rfl
            have f246 := zf hS_s46 ha (k := 24) rfl
            have f247 := zf hS_s46 ha (k := 38) rfl
            have f248 := zf hS_s46 ha (k := 51) rfl
            have f249 := zf hS_s46 ha (k := 52) rfl
            exact j_vret hx hq rfl (by decide) (by decide) dX12_readCards_174 ⟨rfl, rfl, hS_s46, (zFr_t (zFr_t zFr_rf hF_s44 (by decide)) hF_s46 (by decide)), ⟨by omega, by omega, by omega, by omega, by omega, by omega, by omega, by omega, by omega, by omega, by omega, by omega, by omega⟩⟩
          · skip
            refine j_aload_n hx 0 dX12_readCards_34 rfl ?_
            have f250 := zf hS_s46 ha (k := 4) rfl
            refine g13_4 hx hG ha kf_RX12_143 rfl dX12_readCards_35 ?_
            refine j_aload_n hx 0 dX12_readCards_38 rfl ?_
            have f251 := zf hS_s46 ha (k := 3) rfl
            refine g13_3 hx hG ha kf_RX12_146 rfl dX12_readCards_39 ?_
            refine j_icmp_ge hx 174 dX12_readCards_42 rfl (by omega) (by omega) (fun h252 => ?_) (fun h252 => ?_)
            · skip
              have f253 := zf hS_s46 ha (k := 5) rfl
              have f254 := zf hS_s46 ha (k := 22) rfl
              have f255 := zf hS_s46 ha (k := 0) rfl
              have f256 := zf hS_s46 ha (k := 7) rfl
              have f257 := zf hS_s46 ha (k := 21) rfl
              have f258 := zf hS_s46 ha (k := 23) rfl
              have f259 := zf hS_s46 ha (k := 24) rfl
              have f260 := zf hS_s46 ha (k := 38) rfl
              have f261 := zf hS_s46 ha (k := 51) rfl
              have f262 := zf hS_s46 ha (k := 52) rfl
              exact j_vret hx hq rfl (by decide) (by decide) dX12_readCards_174 ⟨rfl, rfl, hS_s46, (zFr_t (zFr_t zFr_rf hF_s44 (by decide)) hF_s46 (by decide)), ⟨by omega, by omega, by omega, by omega, by omega, by omega, by omega, by omega, by omega, by omega, by omega, by omega, by omega⟩⟩
            · skip
              refine j_aload_n hx 0 dX12_readCards_45 rfl ?_
              refine g13_9 hx hG ha kf_RX12_20 dX12_readCards_46 ?_
              refine j_aload_n hx 0 dX12_readCards_49 rfl ?_
              refine g13_4 hx hG ha kf_RX12_143 rfl dX12_readCards_50 ?_
              have f263 := zaI (j := ((s46 a 4)).toNat) hS0 (zr (k := 9) (t2 := 72) hG ha rfl) rfl (zlen hG (zr (k := 9) (t2 := 72) hG ha rfl) (n := 600) rfl rfl) (show 0 ≤ (s46 a 4) by omega) (by omega) rfl
              refine j_iald hx hG (zr (k := 9) (t2 := 72) hG ha rfl) (by decide) rfl (zlen hG (zr (k := 9) (t2 := 72) hG ha rfl) (n := 600) rfl rfl) (by omega) (by omega) (j := ((s46 a 4)).toNat) rfl (v := (s0 (gP G a 9) ((s46 a 4)).toNat)) (by rw [(zFr_g hF_s46 (zr (k := 9) (t2 := 72) hG ha rfl) (by decide)), (zFr_g hF_s44 (zr (k := 9) (t2 := 72) hG ha rfl) (by decide))]) dX12_readCards_53 ?_
              refine j_callS hx (c_X12_isSmall hst ((s0 (gP G a 9) ((s46 a 4)).toNat))) lk_RX12_153 [.int (zI ((s0 (gP G a 9) ((s46 a 4)).toNat)))] ⟨rfl, hG, hS_s46, (by omega)⟩ rfl rfl ⟨by decide, by decide⟩ ⟨by decide, by decide⟩ (k2 := 0) (n2 := 0) rfl rfl (Nat.le_of_ble_eq_true rfl) dX12_readCards_54 (kIP (fun v264 q265 => ?_))
              refine j_if_eq hx 174 dX12_readCards_57 rfl (by omega) (fun h266 => ?_) (fun h266 => ?_)
              · skip
                have f267 := zf hS_s46 ha (k := 5) rfl
                have f268 := zf hS_s46 ha (k := 22) rfl
                have f269 := zf hS_s46 ha (k := 0) rfl
                have f270 := zf hS_s46 ha (k := 7) rfl
                have f271 := zf hS_s46 ha (k := 21) rfl
                have f272 := zf hS_s46 ha (k := 23) rfl
                have f273 := zf hS_s46 ha (k := 24) rfl
                have f274 := zf hS_s46 ha (k := 38) rfl
                have f275 := zf hS_s46 ha (k := 51) rfl
                have f276 := zf hS_s46 ha (k := 52) rfl
                exact j_vret hx hq rfl (by decide) (by decide) dX12_readCards_174 ⟨rfl, rfl, hS_s46, (zFr_t (zFr_t zFr_rf hF_s44 (by decide)) hF_s46 (by decide)), ⟨by omega, by omega, by omega, by omega, by omega, by omega, by omega, by omega, by omega, by omega, by omega, by omega, by omega⟩⟩
              · skip
                refine j_aload_n hx 0 dX12_readCards_60 rfl ?_
                refine g13_9 hx hG ha kf_RX12_20 dX12_readCards_61 ?_
                refine j_aload_n hx 0 dX12_readCards_64 rfl ?_
                refine g13_4 hx hG ha kf_RX12_143 rfl dX12_readCards_65 ?_
                refine j_iald hx hG (zr (k := 9) (t2 := 72) hG ha rfl) (by decide) rfl (zlen hG (zr (k := 9) (t2 := 72) hG ha rfl) (n := 600) rfl rfl) (by omega) (by omega) (j := ((s46 a 4)).toNat) rfl (v := (s0 (gP G a 9) ((s46 a 4)).toNat)) (by rw [(zFr_g hF_s46 (zr (k := 9) (t2 := 72) hG ha rfl) (by decide)), (zFr_g hF_s44 (zr (k := 9) (t2 := 72) hG ha rfl) (by decide))]) dX12_readCards_68 ?_
                refine j_callS hx (c_X12_isKind hst ((s0 (gP G a 9) ((s46 a 4)).toNat))) lk_RX12_210 [.int (zI ((s0 (gP G a 9) ((s46 a 4)).toNat)))] ⟨rfl, hG, hS_s46, (by omega)⟩ rfl rfl ⟨by decide, by decide⟩ ⟨by decide, by decide⟩ (k2 := 0) (n2 := 0) rfl rfl (Nat.le_of_ble_eq_true rfl) dX12_readCards_69 (kIP (fun v277 q278 => ?_))
                have f279 := zf hS_s46 ha (k := 0) rfl
                have f280 := zf hS_s46 ha (k := 7) rfl
                have f281 := zf hS_s46 ha (k := 21) rfl
                have f282 := zf hS_s46 ha (k := 22) rfl
                have f283 := zf hS_s46 ha (k := 23) rfl
                have f284 := zf hS_s46 ha (k := 24) rfl
                have f285 := zf hS_s46 ha (k := 38) rfl
                have f286 := zf hS_s46 ha (k := 51) rfl
                have f287 := zf hS_s46 ha (k := 52) rfl
                have c105_64 : ∀ (s65 : zS), (zSK G s65) → (zFr [13] G s46 s65) → (s65 a 0 = s46 a 0) → (s65 a 3 = s46 a 3) → (s65 a 4 = s46 a 4) → (s65 a 7 = s46 a 7) → (s65 a 21 = s46 a 21) → (s65 a 22 = s46 a 22) → (s65 a 23 = s46 a 23) → (s65 a 24 = s46 a 24) → (s65 a 38 = s46 a 38) → (s65 a 51 = s46 a 51) → (s65 a 52 = s46 a 52) → (s65 a 5 = -1 → s65 a 22 ≤ 59) → JJ X E 2 G s65 0 0 [(0, .ref a), (1, .int (zI 1))] 105 [] := by
                  intro s65 hS_s65 hF_s65 fA68 fA69 fA70 fA71 fA72 fA73 fA74 fA75 fA76 fA77 fA78 fA79
                  refine j_aload_n hx 0 dX12_readCards_105 rfl ?_
                  refine j_callV hx hG (c_X12_fine hst a) lk_RX12_166 ha (by decide) rfl rfl rfl rfl [] ⟨rfl, hG, hS_s65, ha⟩ rfl rfl ⟨by decide, by decide⟩ ⟨by decide, by decide⟩ (k2 := 0) (n2 := 0) rfl rfl (Nat.le_of_ble_eq_true rfl) dX12_readCards_106 (kIP (fun v288 q289 => ?_))
                  refine j_if_ne hx 113 dX12_readCards_109 rfl (by omega) (fun h290 => ?_) (fun h290 => ?_)
                  · skip
                    refine j_aload_n hx 0 dX12_readCards_113 rfl ?_
                    refine g13_12 hx hG ha kf_RX12_29 dX12_readCards_114 ?_
                    refine j_bipush hx dX12_readCards_117 rfl ?_
                    refine j_iload_n hx 1 dX12_readCards_119 rfl ?_
                    refine j_imul hx (r := 60) dX12_readCards_120 (by omega) ?_
                    refine j_aload_n hx 0 dX12_readCards_121 rfl ?_
                    refine g13_13 hx hG ha kf_RX12_32 dX12_readCards_122 ?_
                    refine j_iload_n hx 1 dX12_readCards_125 rfl ?_
                    have f291 := zaI (j := 1) hS_s46 (zr (k := 13) (t2 := 76) hG ha rfl) rfl (zlen hG (zr (k := 13) (t2 := 76) hG ha rfl) (n := 3) rfl rfl) (show 0 ≤ 1 by omega) (by omega) rfl
                    refine j_iald hx hG (zr (k := 13) (t2 := 76) hG ha rfl) (by decide) rfl (zlen hG (zr (k := 13) (t2 := 76) hG ha rfl) (n := 3) rfl rfl) (by omega) (by omega) (j := 1) rfl (v := (s46 (gP G a 13) 1)) (by rw [(zFr_g hF_s65 (zr (k := 13) (t2 := 76) hG ha rfl) (by decide))]) dX12_readCards_126 ?_
                    refine j_iadd hx (r := (s46 (gP G a 13) 1) + 60) dX12_readCards_127 (by omega) ?_
                    refine j_aload_n hx 0 dX12_readCards_128 rfl ?_
                    refine g13_9 hx hG ha kf_RX12_20 dX12_readCards_129 ?_
                    refine j_aload_n hx 0 dX12_readCards_132 rfl ?_
                    have f292 := zf hS_s65 ha (k := 4) rfl
                    refine g13_4 hx hG ha kf_RX12_143 rfl dX12_readCards_133 ?_
                    have f293 := zaI (j := ((s65 a 4)).toNat) hS0 (zr (k := 9) (t2 := 72) hG ha rfl) rfl (zlen hG (zr (k := 9) (t2 := 72) hG ha rfl) (n := 600) rfl rfl) (show 0 ≤ (s65 a 4) by omega) (by omega) rfl
                    refine j_iald hx hG (zr (k := 9) (t2 := 72) hG ha rfl) (by decide) rfl (zlen hG (zr (k := 9) (t2 := 72) hG ha rfl) (n := 600) rfl rfl) (by omega) (by omega) (j := ((s65 a 4)).toNat) rfl (v := (s0 (gP G a 9) ((s65 a 4)).toNat)) (by rw [(zFr_g hF_s65 (zr (k := 9) (t2 := 72) hG ha rfl) (by decide)), (zFr_g hF_s46 (zr (k := 9) (t2 := 72) hG ha rfl) (by decide)), (zFr_g hF_s44 (zr (k := 9) (t2 := 72) hG ha rfl) (by decide))]) dX12_readCards_136 ?_
                    refine j_bipush hx dX12_readCards_137 rfl ?_
                    refine j_isub hx (r := (s0 (gP G a 9) ((s65 a 4)).toNat) - 97) dX12_readCards_139 (by omega) ?_
                    refine j_iast hx hG (zr (k := 12) (t2 := 75) hG ha rfl) (by decide) rfl (zlen hG (zr (k := 12) (t2 := 75) hG ha rfl) (n := 180) rfl rfl) (by omega) (by omega) (j := ((s46 (gP G a 13) 1) + 60).toNat) rfl dX12_readCards_140 ?_
                    obtain ⟨s80, e_s80⟩ : ∃ z, z = zU s65 (gP G a 12) ((s46 (gP G a 13) 1) + 60).toNat ((s0 (gP G a 9) ((s65 a 4)).toNat) - 97) := ⟨_, rfl⟩
                    rw [← e_s80]
                    have hS_s80 : zSK G s80 := by rw [e_s80]; exact zSK_A hS_s65 (zr (k := 12) (t2 := 75) hG ha rfl) rfl rfl rfl (by omega)
                    refine j_aload_n hx 0 dX12_readCards_141 rfl ?_
                    refine g13_13 hx hG ha kf_RX12_32 dX12_readCards_142 ?_
                    refine j_iload_n hx 1 dX12_readCards_145 rfl ?_
                    refine j_dup2 hx dX12_readCards_146 rfl rfl ?_
                    refine j_iald hx hG (zr (k := 13) (t2 := 76) hG ha rfl) (by decide) rfl (zlen hG (zr (k := 13) (t2 := 76) hG ha rfl) (n := 3) rfl rfl) (by omega) (by omega) (j := 1) rfl (v := (s46 (gP G a 13) 1)) (by rw [e_s80, zU_at (Or.inl (zne (zr (k := 12) (t2 := 75) hG ha rfl) (zr (k := 13) (t2 := 76) hG ha rfl) (by decide))), (zFr_g hF_s65 (zr (k := 13) (t2 := 76) hG ha rfl) (by decide))]) dX12_readCards_147 ?_
                    refine j_iconst hx dX12_readCards_148 ?_
                    refine j_iadd hx (r := (s46 (gP G a 13) 1) + 1) dX12_readCards_149 (by omega) ?_
                    refine j_iast hx hG (zr (k := 13) (t2 := 76) hG ha rfl) (by decide) rfl (zlen hG (zr (k := 13) (t2 := 76) hG ha rfl) (n := 3) rfl rfl) (by omega) (by omega) (j := 1) rfl dX12_readCards_150 ?_
                    obtain ⟨s81, e_s81⟩ : ∃ z, z = zU s80 (gP G a 13) 1 ((s46 (gP G a 13) 1) + 1) := ⟨_, rfl⟩
                    rw [← e_s81]
                    have hS_s81 : zSK G s81 := by rw [e_s81]; exact zSK_A hS_s80 (zr (k := 13) (t2 := 76) hG ha rfl) rfl rfl rfl (by omega)
                    refine j_aload_n hx 0 dX12_readCards_151 rfl ?_
                    refine j_dup hx dX12_readCards_152 rfl ?_
                    have f294 := zf hS_s65 ha (k := 22) rfl
                    refine g13_22 hx hG ha kf_RX12_183 (v := (s65 a 22)) (by rw [e_s81, zU_at (Or.inl (zne (zr (k := 13) (t2 := 76) hG ha rfl) ha (by decide))), e_s80, zU_at (Or.inl (zne (zr (k := 12) (t2 := 75) hG ha rfl) ha (by decide)))]) dX12_readCards_153 ?_
                    refine j_iconst hx dX12_readCards_156 ?_
                    refine j_iadd hx (r := (s65 a 22) + 1) dX12_readCards_157 (by omega) ?_
                    refine p13_22 hx hG ha kf_RX12_183 dX12_readCards_158 ?_
                    obtain ⟨s82, e_s82⟩ : ∃ z, z = zU s81 a 22 ((s65 a 22) + 1) := ⟨_, rfl⟩
                    rw [← e_s82]
                    have hS_s82 : zSK G s82 := by rw [e_s82]; exact zSK_F hS_s81 ha rfl rfl rfl (by omega)
                    refine j_aload_n hx 0 dX12_readCards_161 rfl ?_
                    refine j_dup hx dX12_readCards_162 rfl ?_
                    refine g13_4 hx hG ha kf_RX12_143 (v := (s65 a 4)) (by rw [e_s82, zU_at (Or.inr (by decide)), e_s81, zU_at (Or.inl (zne (zr (k := 13) (t2 := 76) hG ha rfl) ha (by decide))), e_s80, zU_at (Or.inl (zne (zr (k := 12) (t2 := 75) hG ha rfl) ha (by decide)))]) dX12_readCards_163 ?_
                    refine j_iconst hx dX12_readCards_166 ?_
                    refine j_iadd hx (r := (s65 a 4) + 1) dX12_readCards_167 (by omega) ?_
                    refine p13_4 hx hG ha kf_RX12_143 dX12_readCards_168 ?_
                    obtain ⟨s83, e_s83⟩ : ∃ z, z = zU s82 a 4 ((s65 a 4) + 1) := ⟨_, rfl⟩
                    rw [← e_s83]
                    have hS_s83 : zSK G s83 := by rw [e_s83]; exact zSK_F hS_s82 ha rfl rfl rfl (by omega)
                    refine j_goto hx 27 dX12_readCards_171 rfl ?_
                    have g295 : s83 a 4 = (s65 a 4) + 1 := (by rw [e_s83, zU_eq])
                    have g296 : s83 a 5 = s65 a 5 := (by rw [e_s83, zU_at (Or.inr (by decide)), e_s82, zU_at (Or.inr (by decide)), e_s81, zU_at (Or.inl (zne (zr (k := 13) (t2 := 76) hG ha rfl) ha (by decide))), e_s80, zU_at (Or.inl (zne (zr (k := 12) (t2 := 75) hG ha rfl) ha (by decide)))])
                    have f297 := zf hS_s65 ha (k := 5) rfl
                    have g298 : s83 a 0 = s65 a 0 := (by rw [e_s83, zU_at (Or.inr (by decide)), e_s82, zU_at (Or.inr (by decide)), e_s81, zU_at (Or.inl (zne (zr (k := 13) (t2 := 76) hG ha rfl) ha (by decide))), e_s80, zU_at (Or.inl (zne (zr (k := 12) (t2 := 75) hG ha rfl) ha (by decide)))])
                    have f299 := zf hS_s65 ha (k := 0) rfl
                    have g300 : s83 a 3 = s65 a 3 := (by rw [e_s83, zU_at (Or.inr (by decide)), e_s82, zU_at (Or.inr (by decide)), e_s81, zU_at (Or.inl (zne (zr (k := 13) (t2 := 76) hG ha rfl) ha (by decide))), e_s80, zU_at (Or.inl (zne (zr (k := 12) (t2 := 75) hG ha rfl) ha (by decide)))])
                    have f301 := zf hS_s65 ha (k := 3) rfl
                    have g302 : s83 a 7 = s65 a 7 := (by rw [e_s83, zU_at (Or.inr (by decide)), e_s82, zU_at (Or.inr (by decide)), e_s81, zU_at (Or.inl (zne (zr (k := 13) (t2 := 76) hG ha rfl) ha (by decide))), e_s80, zU_at (Or.inl (zne (zr (k := 12) (t2 := 75) hG ha rfl) ha (by decide)))])
                    have f303 := zf hS_s65 ha (k := 7) rfl
                    have g304 : s83 a 21 = s65 a 21 := (by rw [e_s83, zU_at (Or.inr (by decide)), e_s82, zU_at (Or.inr (by decide)), e_s81, zU_at (Or.inl (zne (zr (k := 13) (t2 := 76) hG ha rfl) ha (by decide))), e_s80, zU_at (Or.inl (zne (zr (k := 12) (t2 := 75) hG ha rfl) ha (by decide)))])
                    have f305 := zf hS_s65 ha (k := 21) rfl
                    have g306 : s83 a 23 = s65 a 23 := (by rw [e_s83, zU_at (Or.inr (by decide)), e_s82, zU_at (Or.inr (by decide)), e_s81, zU_at (Or.inl (zne (zr (k := 13) (t2 := 76) hG ha rfl) ha (by decide))), e_s80, zU_at (Or.inl (zne (zr (k := 12) (t2 := 75) hG ha rfl) ha (by decide)))])
                    have f307 := zf hS_s65 ha (k := 23) rfl
                    have g308 : s83 a 24 = s65 a 24 := (by rw [e_s83, zU_at (Or.inr (by decide)), e_s82, zU_at (Or.inr (by decide)), e_s81, zU_at (Or.inl (zne (zr (k := 13) (t2 := 76) hG ha rfl) ha (by decide))), e_s80, zU_at (Or.inl (zne (zr (k := 12) (t2 := 75) hG ha rfl) ha (by decide)))])
                    have f309 := zf hS_s65 ha (k := 24) rfl
                    have g310 : s83 a 38 = s65 a 38 := (by rw [e_s83, zU_at (Or.inr (by decide)), e_s82, zU_at (Or.inr (by decide)), e_s81, zU_at (Or.inl (zne (zr (k := 13) (t2 := 76) hG ha rfl) ha (by decide))), e_s80, zU_at (Or.inl (zne (zr (k := 12) (t2 := 75) hG ha rfl) ha (by decide)))])
                    have f311 := zf hS_s65 ha (k := 38) rfl
                    have g312 : s83 a 51 = s65 a 51 := (by rw [e_s83, zU_at (Or.inr (by decide)), e_s82, zU_at (Or.inr (by decide)), e_s81, zU_at (Or.inl (zne (zr (k := 13) (t2 := 76) hG ha rfl) ha (by decide))), e_s80, zU_at (Or.inl (zne (zr (k := 12) (t2 := 75) hG ha rfl) ha (by decide)))])
                    have f313 := zf hS_s65 ha (k := 51) rfl
                    have g314 : s83 a 52 = s65 a 52 := (by rw [e_s83, zU_at (Or.inr (by decide)), e_s82, zU_at (Or.inr (by decide)), e_s81, zU_at (Or.inl (zne (zr (k := 13) (t2 := 76) hG ha rfl) ha (by decide))), e_s80, zU_at (Or.inl (zne (zr (k := 12) (t2 := 75) hG ha rfl) ha (by decide)))])
                    have f315 := zf hS_s65 ha (k := 52) rfl
                    have g316 : s83 (gP G a 13) 0 = s46 (gP G a 13) 0 := (by rw [e_s83, zU_at (Or.inl (zne ha (zr (k := 13) (t2 := 76) hG ha rfl) (by decide))), e_s82, zU_at (Or.inl (zne ha (zr (k := 13) (t2 := 76) hG ha rfl) (by decide))), e_s81, zU_at (Or.inr (by decide)), e_s80, zU_at (Or.inl (zne (zr (k := 12) (t2 := 75) hG ha rfl) (zr (k := 13) (t2 := 76) hG ha rfl) (by decide))), (zFr_g hF_s65 (zr (k := 13) (t2 := 76) hG ha rfl) (by decide))])
                    have g317 : s83 (gP G a 13) 1 = (s46 (gP G a 13) 1) + 1 := (by rw [e_s83, zU_at (Or.inl (zne ha (zr (k := 13) (t2 := 76) hG ha rfl) (by decide))), e_s82, zU_at (Or.inl (zne ha (zr (k := 13) (t2 := 76) hG ha rfl) (by decide))), e_s81, zU_eq])
                    have g318 : s83 (gP G a 13) 2 = s46 (gP G a 13) 2 := (by rw [e_s83, zU_at (Or.inl (zne ha (zr (k := 13) (t2 := 76) hG ha rfl) (by decide))), e_s82, zU_at (Or.inl (zne ha (zr (k := 13) (t2 := 76) hG ha rfl) (by decide))), e_s81, zU_at (Or.inr (by decide)), e_s80, zU_at (Or.inl (zne (zr (k := 12) (t2 := 75) hG ha rfl) (zr (k := 13) (t2 := 76) hG ha rfl) (by decide))), (zFr_g hF_s65 (zr (k := 13) (t2 := 76) hG ha rfl) (by decide))])
                    have g319 : s83 a 22 = (s65 a 22) + 1 := (by rw [e_s83, zU_at (Or.inr (by decide)), e_s82, zU_eq])
                    exact j_sub [0, 1] [(0, .ref a), (1, .int (zI 1))] rfl (ih_c27_45 s83 (by omega) hS_s83 (zFr_u (zFr_u (zFr_u (zFr_u (zFr_t (zFr_t zFr_rf hF_s46 (by decide)) hF_s65 (by decide)) e_s80 (zr (k := 12) (t2 := 75) hG ha rfl) (by decide)) e_s81 (zr (k := 13) (t2 := 76) hG ha rfl) (by decide)) e_s82 ha (by decide)) e_s83 ha (by decide)) (by omega) (by omega) (by omega) (by omega) (by omega) (by omega) (by omega) (by omega) (by omega) (by omega) (by omega) (by omega) (by omega) (by omega) (by omega))
                  · skip
                    have f320 := zf hS_s65 ha (k := 4) rfl
                    have f321 := zf hS_s65 ha (k := 5) rfl
                    have g322 : s65 (gP G a 13) 0 = s46 (gP G a 13) 0 := (by rw [(zFr_g hF_s65 (zr (k := 13) (t2 := 76) hG ha rfl) (by decide))])
                    have g323 : s65 (gP G a 13) 1 = s46 (gP G a 13) 1 := (by rw [(zFr_g hF_s65 (zr (k := 13) (t2 := 76) hG ha rfl) (by decide))])
                    have g324 : s65 (gP G a 13) 2 = s46 (gP G a 13) 2 := (by rw [(zFr_g hF_s65 (zr (k := 13) (t2 := 76) hG ha rfl) (by decide))])
                    have f325 := zf hS_s65 ha (k := 22) rfl
                    have f326 := zf hS_s65 ha (k := 0) rfl
                    have f327 := zf hS_s65 ha (k := 3) rfl
                    have f328 := zf hS_s65 ha (k := 7) rfl
                    have f329 := zf hS_s65 ha (k := 21) rfl
                    have f330 := zf hS_s65 ha (k := 23) rfl
                    have f331 := zf hS_s65 ha (k := 24) rfl
                    have f332 := zf hS_s65 ha (k := 38) rfl
                    have f333 := zf hS_s65 ha (k := 51) rfl
                    have f334 := zf hS_s65 ha (k := 52) rfl
                    exact j_vret hx hq rfl (by decide) (by decide) dX12_readCards_112 ⟨rfl, rfl, hS_s65, (zFr_t (zFr_t (zFr_t zFr_rf hF_s44 (by decide)) hF_s46 (by decide)) hF_s65 (by decide)), ⟨by omega, by omega, by omega, by omega, by omega, by omega, by omega, by omega, by omega, by omega, by omega, by omega, by omega⟩⟩
                refine j_if_ne hx 87 dX12_readCards_72 rfl (by omega) (fun h335 => ?_) (fun h335 => ?_)
                · skip
                  refine j_aload_n hx 0 dX12_readCards_87 rfl ?_
                  refine g13_22 hx hG ha kf_RX12_183 rfl dX12_readCards_88 ?_
                  refine j_bipush hx dX12_readCards_91 rfl ?_
                  refine j_icmp_ne hx 105 dX12_readCards_93 rfl (by omega) ⟨by decide, by decide⟩ (fun h336 => ?_) (fun h336 => ?_)
                  · skip
                    have f337 := zf hS_s46 ha (k := 5) rfl
                    exact j_sub [0, 1] [(0, .ref a), (1, .int (zI 1))] rfl (c105_64 s46 hS_s46 zFr_rf (by omega) (by omega) (by omega) (by omega) (by omega) (by omega) (by omega) (by omega) (by omega) (by omega) (by omega) (by omega))
                  · skip
                    refine j_aload_n hx 0 dX12_readCards_96 rfl ?_
                    refine j_iconst hx dX12_readCards_97 ?_
                    refine j_aload_n hx 0 dX12_readCards_98 rfl ?_
                    refine g13_4 hx hG ha kf_RX12_143 rfl dX12_readCards_99 ?_
                    have f338 := zf hS_s46 ha (k := 5) rfl
                    refine j_callV hx hG (c_X12_wrong hst a 3 ((s46 a 4))) lk_RX12_173 ha (by decide) rfl rfl rfl rfl [.int (zI 3), .int (zI ((s46 a 4)))] ⟨rfl, hG, hS_s46, ha, (by omega), (by omega)⟩ rfl rfl ⟨by decide, by decide⟩ ⟨by decide, by decide⟩ (k2 := 0) (n2 := 0) rfl rfl (Nat.le_of_ble_eq_true rfl) dX12_readCards_102 (kVM (fun s84 hS_s84 hF_s84 q340 => ?_))
                    have f341 := zf hS_s84 ha (k := 0) rfl
                    have f342 := zf hS_s84 ha (k := 3) rfl
                    have f343 := zf hS_s84 ha (k := 4) rfl
                    have f344 := zf hS_s84 ha (k := 7) rfl
                    have f345 := zf hS_s84 ha (k := 21) rfl
                    have f346 := zf hS_s84 ha (k := 22) rfl
                    have f347 := zf hS_s84 ha (k := 23) rfl
                    have f348 := zf hS_s84 ha (k := 24) rfl
                    have f349 := zf hS_s84 ha (k := 38) rfl
                    have f350 := zf hS_s84 ha (k := 51) rfl
                    have f351 := zf hS_s84 ha (k := 52) rfl
                    have f352 := zf hS_s84 ha (k := 5) rfl
                    exact j_sub [0, 1] [(0, .ref a), (1, .int (zI 1))] rfl (c105_64 s84 hS_s84 (zFr_t zFr_rf hF_s84 (by decide)) (by omega) (by omega) (by omega) (by omega) (by omega) (by omega) (by omega) (by omega) (by omega) (by omega) (by omega) (by omega))
                · skip
                  refine j_aload_n hx 0 dX12_readCards_75 rfl ?_
                  refine j_iconst hx dX12_readCards_76 ?_
                  refine j_aload_n hx 0 dX12_readCards_77 rfl ?_
                  refine g13_4 hx hG ha kf_RX12_143 rfl dX12_readCards_78 ?_
                  have f353 := zf hS_s46 ha (k := 5) rfl
                  refine j_callV hx hG (c_X12_wrong hst a 1 ((s46 a 4))) lk_RX12_173 ha (by decide) rfl rfl rfl rfl [.int (zI 1), .int (zI ((s46 a 4)))] ⟨rfl, hG, hS_s46, ha, (by omega), (by omega)⟩ rfl rfl ⟨by decide, by decide⟩ ⟨by decide, by decide⟩ (k2 := 0) (n2 := 0) rfl rfl (Nat.le_of_ble_eq_true rfl) dX12_readCards_81 (kVM (fun s85 hS_s85 hF_s85 q355 => ?_))
                  refine j_goto hx 105 dX12_readCards_84 rfl ?_
                  have f356 := zf hS_s85 ha (k := 0) rfl
                  have f357 := zf hS_s85 ha (k := 3) rfl
                  have f358 := zf hS_s85 ha (k := 4) rfl
                  have f359 := zf hS_s85 ha (k := 7) rfl
                  have f360 := zf hS_s85 ha (k := 21) rfl
                  have f361 := zf hS_s85 ha (k := 22) rfl
                  have f362 := zf hS_s85 ha (k := 23) rfl
                  have f363 := zf hS_s85 ha (k := 24) rfl
                  have f364 := zf hS_s85 ha (k := 38) rfl
                  have f365 := zf hS_s85 ha (k := 51) rfl
                  have f366 := zf hS_s85 ha (k := 52) rfl
                  have f367 := zf hS_s85 ha (k := 5) rfl
                  exact j_sub [0, 1] [(0, .ref a), (1, .int (zI 1))] rfl (c105_64 s85 hS_s85 (zFr_t zFr_rf hF_s85 (by decide)) (by omega) (by omega) (by omega) (by omega) (by omega) (by omega) (by omega) (by omega) (by omega) (by omega) (by omega) (by omega))
      refine j_if_ne hx 27 dX12_readCards_15 rfl (by omega) (fun h368 => ?_) (fun h368 => ?_)
      · skip
        have g369 : s44 (gP G a 13) 0 = s0 (gP G a 13) 0 := (by rw [(zFr_g hF_s44 (zr (k := 13) (t2 := 76) hG ha rfl) (by decide))])
        have g370 : s44 (gP G a 13) 1 = s0 (gP G a 13) 1 := (by rw [(zFr_g hF_s44 (zr (k := 13) (t2 := 76) hG ha rfl) (by decide))])
        have g371 : s44 (gP G a 13) 2 = s0 (gP G a 13) 2 := (by rw [(zFr_g hF_s44 (zr (k := 13) (t2 := 76) hG ha rfl) (by decide))])
        have f372 := zf hS_s44 ha (k := 22) rfl
        exact j_sub [0, 1] [(0, .ref a), (1, .int (zI 1))] rfl (c27_45 (2147483648 * 4) s44 (by omega) hS_s44 zFr_rf (by omega) (by omega) (by omega) (by omega) (by omega) (by omega) (by omega) (by omega) (by omega) (by omega) (by omega) (by omega) (by omega) (by omega) (by omega))
      · skip
        refine j_aload_n hx 0 dX12_readCards_18 rfl ?_
        refine j_iconst hx dX12_readCards_19 ?_
        refine j_aload_n hx 0 dX12_readCards_20 rfl ?_
        refine g13_4 hx hG ha kf_RX12_143 rfl dX12_readCards_21 ?_
        have f373 := zf hS_s44 ha (k := 22) rfl
        refine j_callV hx hG (c_X12_wrong hst a 1 ((s44 a 4))) lk_RX12_173 ha (by decide) rfl rfl rfl rfl [.int (zI 1), .int (zI ((s44 a 4)))] ⟨rfl, hG, hS_s44, ha, (by omega), (by omega)⟩ rfl rfl ⟨by decide, by decide⟩ ⟨by decide, by decide⟩ (k2 := 0) (n2 := 0) rfl rfl (Nat.le_of_ble_eq_true rfl) dX12_readCards_24 (kVM (fun s86 hS_s86 hF_s86 q375 => ?_))
        have f376 := zf hS_s86 ha (k := 4) rfl
        have f377 := zf hS_s86 ha (k := 5) rfl
        have f378 := zf hS_s86 ha (k := 0) rfl
        have f379 := zf hS_s86 ha (k := 3) rfl
        have f380 := zf hS_s86 ha (k := 7) rfl
        have f381 := zf hS_s86 ha (k := 21) rfl
        have f382 := zf hS_s86 ha (k := 23) rfl
        have f383 := zf hS_s86 ha (k := 24) rfl
        have f384 := zf hS_s86 ha (k := 38) rfl
        have f385 := zf hS_s86 ha (k := 51) rfl
        have f386 := zf hS_s86 ha (k := 52) rfl
        have g387 : s86 (gP G a 13) 0 = s0 (gP G a 13) 0 := (by rw [(zFr_g hF_s86 (zr (k := 13) (t2 := 76) hG ha rfl) (by decide)), (zFr_g hF_s44 (zr (k := 13) (t2 := 76) hG ha rfl) (by decide))])
        have g388 : s86 (gP G a 13) 1 = s0 (gP G a 13) 1 := (by rw [(zFr_g hF_s86 (zr (k := 13) (t2 := 76) hG ha rfl) (by decide)), (zFr_g hF_s44 (zr (k := 13) (t2 := 76) hG ha rfl) (by decide))])
        have g389 : s86 (gP G a 13) 2 = s0 (gP G a 13) 2 := (by rw [(zFr_g hF_s86 (zr (k := 13) (t2 := 76) hG ha rfl) (by decide)), (zFr_g hF_s44 (zr (k := 13) (t2 := 76) hG ha rfl) (by decide))])
        have f390 := zf hS_s86 ha (k := 22) rfl
        exact j_sub [0, 1] [(0, .ref a), (1, .int (zI 1))] rfl (c27_45 (2147483648 * 4) s86 (by omega) hS_s86 (zFr_t zFr_rf hF_s86 (by decide)) (by omega) (by omega) (by omega) (by omega) (by omega) (by omega) (by omega) (by omega) (by omega) (by omega) (by omega) (by omega) (by omega) (by omega) (by omega))
    · skip
      have f391 := zf hS0 ha (k := 4) rfl
      have f392 := zf hS0 ha (k := 5) rfl
      have f393 := zf hS0 ha (k := 22) rfl
      have f394 := zf hS0 ha (k := 3) rfl
      have f395 := zf hS0 ha (k := 0) rfl
      have f396 := zf hS0 ha (k := 7) rfl
      have f397 := zf hS0 ha (k := 21) rfl
      have f398 := zf hS0 ha (k := 23) rfl
      have f399 := zf hS0 ha (k := 24) rfl
      have f400 := zf hS0 ha (k := 38) rfl
      have f401 := zf hS0 ha (k := 51) rfl
      have f402 := zf hS0 ha (k := 52) rfl
      exact j_vret hx hq rfl (by decide) (by decide) dX12_readCards_7 ⟨rfl, rfl, hS0, zFr_rf, ⟨by omega, by omega, by omega, by omega, by omega, by omega, by omega, by omega, by omega, by omega, by omega, by omega, by omega⟩⟩
  · skip
    refine j_aload_n hx 0 dX12_readCards_0 rfl ?_
    refine j_callV hx hG (c_X12_fine hst a) lk_RX12_166 ha (by decide) rfl rfl rfl rfl [] ⟨rfl, hG, hS0, ha⟩ rfl rfl ⟨by decide, by decide⟩ ⟨by decide, by decide⟩ (k2 := 0) (n2 := 0) rfl rfl (Nat.le_of_ble_eq_true rfl) dX12_readCards_1 (kIP (fun v403 q404 => ?_))
    refine j_if_ne hx 8 dX12_readCards_4 rfl (by omega) (fun h405 => ?_) (fun h405 => ?_)
    · skip
      refine j_aload_n hx 0 dX12_readCards_8 rfl ?_
      have f406 := zf hS0 ha (k := 4) rfl
      have f407 := zf hS0 ha (k := 3) rfl
      have f408 := zf hS0 ha (k := 0) rfl
      have f409 := zf hS0 ha (k := 5) rfl
      have f410 := zf hS0 ha (k := 7) rfl
      have f411 := zf hS0 ha (k := 21) rfl
      have f412 := zf hS0 ha (k := 22) rfl
      have f413 := zf hS0 ha (k := 23) rfl
      have f414 := zf hS0 ha (k := 24) rfl
      have f415 := zf hS0 ha (k := 38) rfl
      have f416 := zf hS0 ha (k := 51) rfl
      have f417 := zf hS0 ha (k := 52) rfl
      refine j_callV hx hG (c_X12_here hst a) lk_RX12_149 ha (by decide) rfl rfl rfl rfl [] ⟨rfl, hG, hS0, ha, (by omega)⟩ rfl rfl ⟨by decide, by decide⟩ ⟨by decide, by decide⟩ (k2 := 0) (n2 := 0) rfl rfl (Nat.le_of_ble_eq_true rfl) dX12_readCards_9 (kIM (fun v418 s87 hS_s87 hF_s87 q419 => ?_))
      refine j_callS hx (c_X12_isKind hst v418) lk_RX12_210 [.int (zI v418)] ⟨rfl, hG, hS_s87, (by omega)⟩ rfl rfl ⟨by decide, by decide⟩ ⟨by decide, by decide⟩ (k2 := 0) (n2 := 0) rfl rfl (Nat.le_of_ble_eq_true rfl) dX12_readCards_12 (kIP (fun v420 q421 => ?_))
      have f422 := zf hS_s87 ha (k := 0) rfl
      have f423 := zf hS_s87 ha (k := 3) rfl
      have f424 := zf hS_s87 ha (k := 7) rfl
      have f425 := zf hS_s87 ha (k := 21) rfl
      have f426 := zf hS_s87 ha (k := 23) rfl
      have f427 := zf hS_s87 ha (k := 24) rfl
      have f428 := zf hS_s87 ha (k := 38) rfl
      have f429 := zf hS_s87 ha (k := 51) rfl
      have f430 := zf hS_s87 ha (k := 52) rfl
      have f431 := zf hS_s87 ha (k := 4) rfl
      have f432 := zf hS_s87 ha (k := 5) rfl
      have c27_88 : ∀ (m_c27_88 : Nat) (s89 : zS), 3000 - 2 * s89 a 4 - s89 a 5 < m_c27_88 → (zSK G s89) → (zFr [13, 75, 76] G s87 s89) → (s89 a 0 = s87 a 0) → (s89 a 3 = s87 a 3) → (s89 a 7 = s87 a 7) → (s89 a 21 = s87 a 21) → (s89 a 23 = s87 a 23) → (s89 a 24 = s87 a 24) → (s89 a 38 = s87 a 38) → (s89 a 51 = s87 a 51) → (s89 a 52 = s87 a 52) → (s87 a 4 ≤ s89 a 4) → (s87 a 5 ≤ s89 a 5) → (s89 (gP G a 13) 0 + s89 (gP G a 13) 1 + s89 (gP G a 13) 2 = s89 a 22) → (s89 a 4 ≤ s89 a 3 + 2) → (s89 a 4 ≤ 700) → (s89 a 5 ≤ 700) → JJ X E 2 G s89 0 0 [(0, .ref a), (1, .int (zI 2))] 27 [] := by
        intro m_c27_88
        induction m_c27_88 with
        | zero => intro s89 hm_c27_88 hS_s89 hF_s89 fA92 fA93 fA94 fA95 fA96 fA97 fA98 fA99 fA100 fA101 fA102 fA103 fA104 fA105 fA106; exfalso; omega
        | succ m_c27_88 ih_c27_88 => 
          intro s89 hm_c27_88 hS_s89 hF_s89 fA92 fA93 fA94 fA95 fA96 fA97 fA98 fA99 fA100 fA101 fA102 fA103 fA104 fA105 fA106
          have f433 := zaI (j := 0) hS_s89 (zr (k := 13) (t2 := 76) hG ha rfl) rfl (zlen hG (zr (k := 13) (t2 := 76) hG ha rfl) (n := 3) rfl rfl) (show (0 : Int) ≤ 0 by decide) (by decide) rfl
          have f434 := zaI (j := 1) hS_s89 (zr (k := 13) (t2 := 76) hG ha rfl) rfl (zlen hG (zr (k := 13) (t2 := 76) hG ha rfl) (n := 3) rfl rfl) (show (0 : Int) ≤ 1 by decide) (by decide) rfl
          have f435 := zaI (j := 2) hS_s89 (zr (k := 13) (t2 := 76) hG ha rfl) rfl (zlen hG (zr (k := 13) (t2 := 76) hG ha rfl) (n := 3) rfl rfl) (show (0 : Int) ≤ 2 by decide) (by decide) rfl
          refine j_aload_n hx 0 dX12_readCards_27 rfl ?_
          refine j_callV hx hG (c_X12_fine hst a) lk_RX12_166 ha (by decide) rfl rfl rfl rfl [] ⟨rfl, hG, hS_s89, ha⟩ rfl rfl ⟨by decide, by decide⟩ ⟨by decide, by decide⟩ (k2 := 0) (n2 := 0) rfl rfl (Nat.le_of_ble_eq_true rfl) dX12_readCards_28 (kIP (fun v436 q437 => ?_))
          refine j_if_eq hx 174 dX12_readCards_31 rfl (by omega) (fun h438 => ?_) (fun h438 => ?_)
          · skip
            have f439 := zf hS_s89 ha (k := 4) rfl
            have f440 := zf hS_s89 ha (k := 5) rfl
            have f441 := zf hS_s89 ha (k := 22) rfl
            have f442 := zf hS_s89 ha (k := 0) rfl
            have f443 := zf hS_s89 ha (k := 3) rfl
            have f444 := zf hS_s89 ha (k := 7) rfl
            have f445 := zf hS_s89 ha (k := 21) rfl
            have f446 := zf hS_s89 ha (k := 23) rfl
            have f447 := zf hS_s89 ha (k := 24) rfl
            have f448 := zf hS_s89 ha (k := 38) rfl
            have f449 := zf hS_s89 ha (k := 51) rfl
            have f450 := zf hS_s89 ha (k := 52) rfl
            exact j_vret hx hq rfl (by decide) (by decide) dX12_readCards_174 ⟨rfl, rfl, hS_s89, (zFr_t (zFr_t zFr_rf hF_s87 (by decide)) hF_s89 (by decide)), ⟨by omega, by omega, by omega, by omega, by omega, by omega, by omega, by omega, by omega, by omega, by omega, by omega, by omega⟩⟩
          · skip
            refine j_aload_n hx 0 dX12_readCards_34 rfl ?_
            have f451 := zf hS_s89 ha (k := 4) rfl
            refine g13_4 hx hG ha kf_RX12_143 rfl dX12_readCards_35 ?_
            refine j_aload_n hx 0 dX12_readCards_38 rfl ?_
            have f452 := zf hS_s89 ha (k := 3) rfl
            refine g13_3 hx hG ha kf_RX12_146 rfl dX12_readCards_39 ?_
            refine j_icmp_ge hx 174 dX12_readCards_42 rfl (by omega) (by omega) (fun h453 => ?_) (fun h453 => ?_)
            · skip
              have f454 := zf hS_s89 ha (k := 5) rfl
              have f455 := zf hS_s89 ha (k := 22) rfl
              have f456 := zf hS_s89 ha (k := 0) rfl
              have f457 := zf hS_s89 ha (k := 7) rfl
              have f458 := zf hS_s89 ha (k := 21) rfl
              have f459 := zf hS_s89 ha (k := 23) rfl
              have f460 := zf hS_s89 ha (k := 24) rfl
              have f461 := zf hS_s89 ha (k := 38) rfl
              have f462 := zf hS_s89 ha (k := 51) rfl
              have f463 := zf hS_s89 ha (k := 52) rfl
              exact j_vret hx hq rfl (by decide) (by decide) dX12_readCards_174 ⟨rfl, rfl, hS_s89, (zFr_t (zFr_t zFr_rf hF_s87 (by decide)) hF_s89 (by decide)), ⟨by omega, by omega, by omega, by omega, by omega, by omega, by omega, by omega, by omega, by omega, by omega, by omega, by omega⟩⟩
            · skip
              refine j_aload_n hx 0 dX12_readCards_45 rfl ?_
              refine g13_9 hx hG ha kf_RX12_20 dX12_readCards_46 ?_
              refine j_aload_n hx 0 dX12_readCards_49 rfl ?_
              refine g13_4 hx hG ha kf_RX12_143 rfl dX12_readCards_50 ?_
              have f464 := zaI (j := ((s89 a 4)).toNat) hS0 (zr (k := 9) (t2 := 72) hG ha rfl) rfl (zlen hG (zr (k := 9) (t2 := 72) hG ha rfl) (n := 600) rfl rfl) (show 0 ≤ (s89 a 4) by omega) (by omega) rfl
              refine j_iald hx hG (zr (k := 9) (t2 := 72) hG ha rfl) (by decide) rfl (zlen hG (zr (k := 9) (t2 := 72) hG ha rfl) (n := 600) rfl rfl) (by omega) (by omega) (j := ((s89 a 4)).toNat) rfl (v := (s0 (gP G a 9) ((s89 a 4)).toNat)) (by rw [(zFr_g hF_s89 (zr (k := 9) (t2 := 72) hG ha rfl) (by decide)), (zFr_g hF_s87 (zr (k := 9) (t2 := 72) hG ha rfl) (by decide))]) dX12_readCards_53 ?_
              refine j_callS hx (c_X12_isSmall hst ((s0 (gP G a 9) ((s89 a 4)).toNat))) lk_RX12_153 [.int (zI ((s0 (gP G a 9) ((s89 a 4)).toNat)))] ⟨rfl, hG, hS_s89, (by omega)⟩ rfl rfl ⟨by decide, by decide⟩ ⟨by decide, by decide⟩ (k2 := 0) (n2 := 0) rfl rfl (Nat.le_of_ble_eq_true rfl) dX12_readCards_54 (kIP (fun v465 q466 => ?_))
              refine j_if_eq hx 174 dX12_readCards_57 rfl (by omega) (fun h467 => ?_) (fun h467 => ?_)
              · skip
                have f468 := zf hS_s89 ha (k := 5) rfl
                have f469 := zf hS_s89 ha (k := 22) rfl
                have f470 := zf hS_s89 ha (k := 0) rfl
                have f471 := zf hS_s89 ha (k := 7) rfl
                have f472 := zf hS_s89 ha (k := 21) rfl
                have f473 := zf hS_s89 ha (k := 23) rfl
                have f474 := zf hS_s89 ha (k := 24) rfl
                have f475 := zf hS_s89 ha (k := 38) rfl
                have f476 := zf hS_s89 ha (k := 51) rfl
                have f477 := zf hS_s89 ha (k := 52) rfl
                exact j_vret hx hq rfl (by decide) (by decide) dX12_readCards_174 ⟨rfl, rfl, hS_s89, (zFr_t (zFr_t zFr_rf hF_s87 (by decide)) hF_s89 (by decide)), ⟨by omega, by omega, by omega, by omega, by omega, by omega, by omega, by omega, by omega, by omega, by omega, by omega, by omega⟩⟩
              · skip
                refine j_aload_n hx 0 dX12_readCards_60 rfl ?_
                refine g13_9 hx hG ha kf_RX12_20 dX12_readCards_61 ?_
                refine j_aload_n hx 0 dX12_readCards_64 rfl ?_
                refine g13_4 hx hG ha kf_RX12_143 rfl dX12_readCards_65 ?_
                refine j_iald hx hG (zr (k := 9) (t2 := 72) hG ha rfl) (by decide) rfl (zlen hG (zr (k := 9) (t2 := 72) hG ha rfl) (n := 600) rfl rfl) (by omega) (by omega) (j := ((s89 a 4)).toNat) rfl (v := (s0 (gP G a 9) ((s89 a 4)).toNat)) (by rw [(zFr_g hF_s89 (zr (k := 9) (t2 := 72) hG ha rfl) (by decide)), (zFr_g hF_s87 (zr (k := 9) (t2 := 72) hG ha rfl) (by decide))]) dX12_readCards_68 ?_
                refine j_callS hx (c_X12_isKind hst ((s0 (gP G a 9) ((s89 a 4)).toNat))) lk_RX12_210 [.int (zI ((s0 (gP G a 9) ((s89 a 4)).toNat)))] ⟨rfl, hG, hS_s89, (by omega)⟩ rfl rfl ⟨by decide, by decide⟩ ⟨by decide, by decide⟩ (k2 := 0) (n2 := 0) rfl rfl (Nat.le_of_ble_eq_true rfl) dX12_readCards_69 (kIP (fun v478 q479 => ?_))
                have f480 := zf hS_s89 ha (k := 0) rfl
                have f481 := zf hS_s89 ha (k := 7) rfl
                have f482 := zf hS_s89 ha (k := 21) rfl
                have f483 := zf hS_s89 ha (k := 22) rfl
                have f484 := zf hS_s89 ha (k := 23) rfl
                have f485 := zf hS_s89 ha (k := 24) rfl
                have f486 := zf hS_s89 ha (k := 38) rfl
                have f487 := zf hS_s89 ha (k := 51) rfl
                have f488 := zf hS_s89 ha (k := 52) rfl
                have c105_107 : ∀ (s108 : zS), (zSK G s108) → (zFr [13] G s89 s108) → (s108 a 0 = s89 a 0) → (s108 a 3 = s89 a 3) → (s108 a 4 = s89 a 4) → (s108 a 7 = s89 a 7) → (s108 a 21 = s89 a 21) → (s108 a 22 = s89 a 22) → (s108 a 23 = s89 a 23) → (s108 a 24 = s89 a 24) → (s108 a 38 = s89 a 38) → (s108 a 51 = s89 a 51) → (s108 a 52 = s89 a 52) → (s108 a 5 = -1 → s108 a 22 ≤ 59) → JJ X E 2 G s108 0 0 [(0, .ref a), (1, .int (zI 2))] 105 [] := by
                  intro s108 hS_s108 hF_s108 fA111 fA112 fA113 fA114 fA115 fA116 fA117 fA118 fA119 fA120 fA121 fA122
                  refine j_aload_n hx 0 dX12_readCards_105 rfl ?_
                  refine j_callV hx hG (c_X12_fine hst a) lk_RX12_166 ha (by decide) rfl rfl rfl rfl [] ⟨rfl, hG, hS_s108, ha⟩ rfl rfl ⟨by decide, by decide⟩ ⟨by decide, by decide⟩ (k2 := 0) (n2 := 0) rfl rfl (Nat.le_of_ble_eq_true rfl) dX12_readCards_106 (kIP (fun v489 q490 => ?_))
                  refine j_if_ne hx 113 dX12_readCards_109 rfl (by omega) (fun h491 => ?_) (fun h491 => ?_)
                  · skip
                    refine j_aload_n hx 0 dX12_readCards_113 rfl ?_
                    refine g13_12 hx hG ha kf_RX12_29 dX12_readCards_114 ?_
                    refine j_bipush hx dX12_readCards_117 rfl ?_
                    refine j_iload_n hx 1 dX12_readCards_119 rfl ?_
                    refine j_imul hx (r := 120) dX12_readCards_120 (by omega) ?_
                    refine j_aload_n hx 0 dX12_readCards_121 rfl ?_
                    refine g13_13 hx hG ha kf_RX12_32 dX12_readCards_122 ?_
                    refine j_iload_n hx 1 dX12_readCards_125 rfl ?_
                    have f492 := zaI (j := 2) hS_s89 (zr (k := 13) (t2 := 76) hG ha rfl) rfl (zlen hG (zr (k := 13) (t2 := 76) hG ha rfl) (n := 3) rfl rfl) (show 0 ≤ 2 by omega) (by omega) rfl
                    refine j_iald hx hG (zr (k := 13) (t2 := 76) hG ha rfl) (by decide) rfl (zlen hG (zr (k := 13) (t2 := 76) hG ha rfl) (n := 3) rfl rfl) (by omega) (by omega) (j := 2) rfl (v := (s89 (gP G a 13) 2)) (by rw [(zFr_g hF_s108 (zr (k := 13) (t2 := 76) hG ha rfl) (by decide))]) dX12_readCards_126 ?_
                    refine j_iadd hx (r := (s89 (gP G a 13) 2) + 120) dX12_readCards_127 (by omega) ?_
                    refine j_aload_n hx 0 dX12_readCards_128 rfl ?_
                    refine g13_9 hx hG ha kf_RX12_20 dX12_readCards_129 ?_
                    refine j_aload_n hx 0 dX12_readCards_132 rfl ?_
                    have f493 := zf hS_s108 ha (k := 4) rfl
                    refine g13_4 hx hG ha kf_RX12_143 rfl dX12_readCards_133 ?_
                    have f494 := zaI (j := ((s108 a 4)).toNat) hS0 (zr (k := 9) (t2 := 72) hG ha rfl) rfl (zlen hG (zr (k := 9) (t2 := 72) hG ha rfl) (n := 600) rfl rfl) (show 0 ≤ (s108 a 4) by omega) (by omega) rfl
                    refine j_iald hx hG (zr (k := 9) (t2 := 72) hG ha rfl) (by decide) rfl (zlen hG (zr (k := 9) (t2 := 72) hG ha rfl) (n := 600) rfl rfl) (by omega) (by omega) (j := ((s108 a 4)).toNat) rfl (v := (s0 (gP G a 9) ((s108 a 4)).toNat)) (by rw [(zFr_g hF_s108 (zr (k := 9) (t2 := 72) hG ha rfl) (by decide)), (zFr_g hF_s89 (zr (k := 9) (t2 := 72) hG ha rfl) (by decide)), (zFr_g hF_s87 (zr (k := 9) (t2 := 72) hG ha rfl) (by decide))]) dX12_readCards_136 ?_
                    refine j_bipush hx dX12_readCards_137 rfl ?_
                    refine j_isub hx (r := (s0 (gP G a 9) ((s108 a 4)).toNat) - 97) dX12_readCards_139 (by omega) ?_
                    refine j_iast hx hG (zr (k := 12) (t2 := 75) hG ha rfl) (by decide) rfl (zlen hG (zr (k := 12) (t2 := 75) hG ha rfl) (n := 180) rfl rfl) (by omega) (by omega) (j := ((s89 (gP G a 13) 2) + 120).toNat) rfl dX12_readCards_140 ?_
                    obtain ⟨s123, e_s123⟩ : ∃ z, z = zU s108 (gP G a 12) ((s89 (gP G a 13) 2) + 120).toNat ((s0 (gP G a 9) ((s108 a 4)).toNat) - 97) := ⟨_, rfl⟩
                    rw [← e_s123]
                    have hS_s123 : zSK G s123 := by rw [e_s123]; exact zSK_A hS_s108 (zr (k := 12) (t2 := 75) hG ha rfl) rfl rfl rfl (by omega)
                    refine j_aload_n hx 0 dX12_readCards_141 rfl ?_
                    refine g13_13 hx hG ha kf_RX12_32 dX12_readCards_142 ?_
                    refine j_iload_n hx 1 dX12_readCards_145 rfl ?_
                    refine j_dup2 hx dX12_readCards_146 rfl rfl ?_
                    refine j_iald hx hG (zr (k := 13) (t2 := 76) hG ha rfl) (by decide) rfl (zlen hG (zr (k := 13) (t2 := 76) hG ha rfl) (n := 3) rfl rfl) (by omega) (by omega) (j := 2) rfl (v := (s89 (gP G a 13) 2)) (by rw [e_s123, zU_at (Or.inl (zne (zr (k := 12) (t2 := 75) hG ha rfl) (zr (k := 13) (t2 := 76) hG ha rfl) (by decide))), (zFr_g hF_s108 (zr (k := 13) (t2 := 76) hG ha rfl) (by decide))]) dX12_readCards_147 ?_
                    refine j_iconst hx dX12_readCards_148 ?_
                    refine j_iadd hx (r := (s89 (gP G a 13) 2) + 1) dX12_readCards_149 (by omega) ?_
                    refine j_iast hx hG (zr (k := 13) (t2 := 76) hG ha rfl) (by decide) rfl (zlen hG (zr (k := 13) (t2 := 76) hG ha rfl) (n := 3) rfl rfl) (by omega) (by omega) (j := 2) rfl dX12_readCards_150 ?_
                    obtain ⟨s124, e_s124⟩ : ∃ z, z = zU s123 (gP G a 13) 2 ((s89 (gP G a 13) 2) + 1) := ⟨_, rfl⟩
                    rw [← e_s124]
                    have hS_s124 : zSK G s124 := by rw [e_s124]; exact zSK_A hS_s123 (zr (k := 13) (t2 := 76) hG ha rfl) rfl rfl rfl (by omega)
                    refine j_aload_n hx 0 dX12_readCards_151 rfl ?_
                    refine j_dup hx dX12_readCards_152 rfl ?_
                    have f495 := zf hS_s108 ha (k := 22) rfl
                    refine g13_22 hx hG ha kf_RX12_183 (v := (s108 a 22)) (by rw [e_s124, zU_at (Or.inl (zne (zr (k := 13) (t2 := 76) hG ha rfl) ha (by decide))), e_s123, zU_at (Or.inl (zne (zr (k := 12) (t2 := 75) hG ha rfl) ha (by decide)))]) dX12_readCards_153 ?_
                    refine j_iconst hx dX12_readCards_156 ?_
                    refine j_iadd hx (r := (s108 a 22) + 1) dX12_readCards_157 (by omega) ?_
                    refine p13_22 hx hG ha kf_RX12_183 dX12_readCards_158 ?_
                    obtain ⟨s125, e_s125⟩ : ∃ z, z = zU s124 a 22 ((s108 a 22) + 1) := ⟨_, rfl⟩
                    rw [← e_s125]
                    have hS_s125 : zSK G s125 := by rw [e_s125]; exact zSK_F hS_s124 ha rfl rfl rfl (by omega)
                    refine j_aload_n hx 0 dX12_readCards_161 rfl ?_
                    refine j_dup hx dX12_readCards_162 rfl ?_
                    refine g13_4 hx hG ha kf_RX12_143 (v := (s108 a 4)) (by rw [e_s125, zU_at (Or.inr (by decide)), e_s124, zU_at (Or.inl (zne (zr (k := 13) (t2 := 76) hG ha rfl) ha (by decide))), e_s123, zU_at (Or.inl (zne (zr (k := 12) (t2 := 75) hG ha rfl) ha (by decide)))]) dX12_readCards_163 ?_
                    refine j_iconst hx dX12_readCards_166 ?_
                    refine j_iadd hx (r := (s108 a 4) + 1) dX12_readCards_167 (by omega) ?_
                    refine p13_4 hx hG ha kf_RX12_143 dX12_readCards_168 ?_
                    obtain ⟨s126, e_s126⟩ : ∃ z, z = zU s125 a 4 ((s108 a 4) + 1) := ⟨_, rfl⟩
                    rw [← e_s126]
                    have hS_s126 : zSK G s126 := by rw [e_s126]; exact zSK_F hS_s125 ha rfl rfl rfl (by omega)
                    refine j_goto hx 27 dX12_readCards_171 rfl ?_
                    have g496 : s126 a 4 = (s108 a 4) + 1 := (by rw [e_s126, zU_eq])
                    have g497 : s126 a 5 = s108 a 5 := (by rw [e_s126, zU_at (Or.inr (by decide)), e_s125, zU_at (Or.inr (by decide)), e_s124, zU_at (Or.inl (zne (zr (k := 13) (t2 := 76) hG ha rfl) ha (by decide))), e_s123, zU_at (Or.inl (zne (zr (k := 12) (t2 := 75) hG ha rfl) ha (by decide)))])
                    have f498 := zf hS_s108 ha (k := 5) rfl
                    have g499 : s126 a 0 = s108 a 0 := (by rw [e_s126, zU_at (Or.inr (by decide)), e_s125, zU_at (Or.inr (by decide)), e_s124, zU_at (Or.inl (zne (zr (k := 13) (t2 := 76) hG ha rfl) ha (by decide))), e_s123, zU_at (Or.inl (zne (zr (k := 12) (t2 := 75) hG ha rfl) ha (by decide)))])
                    have f500 := zf hS_s108 ha (k := 0) rfl
                    have g501 : s126 a 3 = s108 a 3 := (by rw [e_s126, zU_at (Or.inr (by decide)), e_s125, zU_at (Or.inr (by decide)), e_s124, zU_at (Or.inl (zne (zr (k := 13) (t2 := 76) hG ha rfl) ha (by decide))), e_s123, zU_at (Or.inl (zne (zr (k := 12) (t2 := 75) hG ha rfl) ha (by decide)))])
                    have f502 := zf hS_s108 ha (k := 3) rfl
                    have g503 : s126 a 7 = s108 a 7 := (by rw [e_s126, zU_at (Or.inr (by decide)), e_s125, zU_at (Or.inr (by decide)), e_s124, zU_at (Or.inl (zne (zr (k := 13) (t2 := 76) hG ha rfl) ha (by decide))), e_s123, zU_at (Or.inl (zne (zr (k := 12) (t2 := 75) hG ha rfl) ha (by decide)))])
                    have f504 := zf hS_s108 ha (k := 7) rfl
                    have g505 : s126 a 21 = s108 a 21 := (by rw [e_s126, zU_at (Or.inr (by decide)), e_s125, zU_at (Or.inr (by decide)), e_s124, zU_at (Or.inl (zne (zr (k := 13) (t2 := 76) hG ha rfl) ha (by decide))), e_s123, zU_at (Or.inl (zne (zr (k := 12) (t2 := 75) hG ha rfl) ha (by decide)))])
                    have f506 := zf hS_s108 ha (k := 21) rfl
                    have g507 : s126 a 23 = s108 a 23 := (by rw [e_s126, zU_at (Or.inr (by decide)), e_s125, zU_at (Or.inr (by decide)), e_s124, zU_at (Or.inl (zne (zr (k := 13) (t2 := 76) hG ha rfl) ha (by decide))), e_s123, zU_at (Or.inl (zne (zr (k := 12) (t2 := 75) hG ha rfl) ha (by decide)))])
                    have f508 := zf hS_s108 ha (k := 23) rfl
                    have g509 : s126 a 24 = s108 a 24 := (by rw [e_s126, zU_at (Or.inr (by decide)), e_s125, zU_at (Or.inr (by decide)), e_s124, zU_at (Or.inl (zne (zr (k := 13) (t2 := 76) hG ha rfl) ha (by decide))), e_s123, zU_at (Or.inl (zne (zr (k := 12) (t2 := 75) hG ha rfl) ha (by decide)))])
                    have f510 := zf hS_s108 ha (k := 24) rfl
                    have g511 : s126 a 38 = s108 a 38 := (by rw [e_s126, zU_at (Or.inr (by decide)), e_s125, zU_at (Or.inr (by decide)), e_s124, zU_at (Or.inl (zne (zr (k := 13) (t2 := 76) hG ha rfl) ha (by decide))), e_s123, zU_at (Or.inl (zne (zr (k := 12) (t2 := 75) hG ha rfl) ha (by decide)))])
                    have f512 := zf hS_s108 ha (k := 38) rfl
                    have g513 : s126 a 51 = s108 a 51 := (by rw [e_s126, zU_at (Or.inr (by decide)), e_s125, zU_at (Or.inr (by decide)), e_s124, zU_at (Or.inl (zne (zr (k := 13) (t2 := 76) hG ha rfl) ha (by decide))), e_s123, zU_at (Or.inl (zne (zr (k := 12) (t2 := 75) hG ha rfl) ha (by decide)))])
                    have f514 := zf hS_s108 ha (k := 51) rfl
                    have g515 : s126 a 52 = s108 a 52 := (by rw [e_s126, zU_at (Or.inr (by decide)), e_s125, zU_at (Or.inr (by decide)), e_s124, zU_at (Or.inl (zne (zr (k := 13) (t2 := 76) hG ha rfl) ha (by decide))), e_s123, zU_at (Or.inl (zne (zr (k := 12) (t2 := 75) hG ha rfl) ha (by decide)))])
                    have f516 := zf hS_s108 ha (k := 52) rfl
                    have g517 : s126 (gP G a 13) 0 = s89 (gP G a 13) 0 := (by rw [e_s126, zU_at (Or.inl (zne ha (zr (k := 13) (t2 := 76) hG ha rfl) (by decide))), e_s125, zU_at (Or.inl (zne ha (zr (k := 13) (t2 := 76) hG ha rfl) (by decide))), e_s124, zU_at (Or.inr (by decide)), e_s123, zU_at (Or.inl (zne (zr (k := 12) (t2 := 75) hG ha rfl) (zr (k := 13) (t2 := 76) hG ha rfl) (by decide))), (zFr_g hF_s108 (zr (k := 13) (t2 := 76) hG ha rfl) (by decide))])
                    have g518 : s126 (gP G a 13) 1 = s89 (gP G a 13) 1 := (by rw [e_s126, zU_at (Or.inl (zne ha (zr (k := 13) (t2 := 76) hG ha rfl) (by decide))), e_s125, zU_at (Or.inl (zne ha (zr (k := 13) (t2 := 76) hG ha rfl) (by decide))), e_s124, zU_at (Or.inr (by decide)), e_s123, zU_at (Or.inl (zne (zr (k := 12) (t2 := 75) hG ha rfl) (zr (k := 13) (t2 := 76) hG ha rfl) (by decide))), (zFr_g hF_s108 (zr (k := 13) (t2 := 76) hG ha rfl) (by decide))])
                    have g519 : s126 (gP G a 13) 2 = (s89 (gP G a 13) 2) + 1 := (by rw [e_s126, zU_at (Or.inl (zne ha (zr (k := 13) (t2 := 76) hG ha rfl) (by decide))), e_s125, zU_at (Or.inl (zne ha (zr (k := 13) (t2 := 76) hG ha rfl) (by decide))), e_s124, zU_eq])
                    have g520 : s126 a 22 = (s108 a 22) + 1 := (by rw [e_s126, zU_at (Or.inr (by decide)), e_s125, zU_eq])
                    exact j_sub [0, 1] [(0, .ref a), (1, .int (zI 2))] rfl (ih_c27_88 s126 (by omega) hS_s126 (zFr_u (zFr_u (zFr_u (zFr_u (zFr_t (zFr_t zFr_rf hF_s89 (by decide)) hF_s108 (by decide)) e_s123 (zr (k := 12) (t2 := 75) hG ha rfl) (by decide)) e_s124 (zr (k := 13) (t2 := 76) hG ha rfl) (by decide)) e_s125 ha (by decide)) e_s126 ha (by decide)) (by omega) (by omega) (by omega) (by omega) (by omega) (by omega) (by omega) (by omega) (by omega) (by omega) (by omega) (by omega) (by omega) (by omega) (by omega))
                  · skip
                    have f521 := zf hS_s108 ha (k := 4) rfl
                    have f522 := zf hS_s108 ha (k := 5) rfl
                    have g523 : s108 (gP G a 13) 0 = s89 (gP G a 13) 0 := (by rw [(zFr_g hF_s108 (zr (k := 13) (t2 := 76) hG ha rfl) (by decide))])
                    have g524 : s108 (gP G a 13) 1 = s89 (gP G a 13) 1 := (by rw [(zFr_g hF_s108 (zr (k := 13) (t2 := 76) hG ha rfl) (by decide))])
                    have g525 : s108 (gP G a 13) 2 = s89 (gP G a 13) 2 := (by rw [(zFr_g hF_s108 (zr (k := 13) (t2 := 76) hG ha rfl) (by decide))])
                    have f526 := zf hS_s108 ha (k := 22) rfl
                    have f527 := zf hS_s108 ha (k := 0) rfl
                    have f528 := zf hS_s108 ha (k := 3) rfl
                    have f529 := zf hS_s108 ha (k := 7) rfl
                    have f530 := zf hS_s108 ha (k := 21) rfl
                    have f531 := zf hS_s108 ha (k := 23) rfl
                    have f532 := zf hS_s108 ha (k := 24) rfl
                    have f533 := zf hS_s108 ha (k := 38) rfl
                    have f534 := zf hS_s108 ha (k := 51) rfl
                    have f535 := zf hS_s108 ha (k := 52) rfl
                    exact j_vret hx hq rfl (by decide) (by decide) dX12_readCards_112 ⟨rfl, rfl, hS_s108, (zFr_t (zFr_t (zFr_t zFr_rf hF_s87 (by decide)) hF_s89 (by decide)) hF_s108 (by decide)), ⟨by omega, by omega, by omega, by omega, by omega, by omega, by omega, by omega, by omega, by omega, by omega, by omega, by omega⟩⟩
                refine j_if_ne hx 87 dX12_readCards_72 rfl (by omega) (fun h536 => ?_) (fun h536 => ?_)
                · skip
                  refine j_aload_n hx 0 dX12_readCards_87 rfl ?_
                  refine g13_22 hx hG ha kf_RX12_183 rfl dX12_readCards_88 ?_
                  refine j_bipush hx dX12_readCards_91 rfl ?_
                  refine j_icmp_ne hx 105 dX12_readCards_93 rfl (by omega) ⟨by decide, by decide⟩ (fun h537 => ?_) (fun h537 => ?_)
                  · skip
                    have f538 := zf hS_s89 ha (k := 5) rfl
                    exact j_sub [0, 1] [(0, .ref a), (1, .int (zI 2))] rfl (c105_107 s89 hS_s89 zFr_rf (by omega) (by omega) (by omega) (by omega) (by omega) (by omega) (by omega) (by omega) (by omega) (by omega) (by omega) (by omega))
                  · skip
                    refine j_aload_n hx 0 dX12_readCards_96 rfl ?_
                    refine j_iconst hx dX12_readCards_97 ?_
                    refine j_aload_n hx 0 dX12_readCards_98 rfl ?_
                    refine g13_4 hx hG ha kf_RX12_143 rfl dX12_readCards_99 ?_
                    have f539 := zf hS_s89 ha (k := 5) rfl
                    refine j_callV hx hG (c_X12_wrong hst a 3 ((s89 a 4))) lk_RX12_173 ha (by decide) rfl rfl rfl rfl [.int (zI 3), .int (zI ((s89 a 4)))] ⟨rfl, hG, hS_s89, ha, (by omega), (by omega)⟩ rfl rfl ⟨by decide, by decide⟩ ⟨by decide, by decide⟩ (k2 := 0) (n2 := 0) rfl rfl (Nat.le_of_ble_eq_true rfl) dX12_readCards_102 (kVM (fun s127 hS_s127 hF_s127 q541 => ?_))
                    have f542 := zf hS_s127 ha (k := 0) rfl
                    have f543 := zf hS_s127 ha (k := 3) rfl
                    have f544 := zf hS_s127 ha (k := 4) rfl
                    have f545 := zf hS_s127 ha (k := 7) rfl
                    have f546 := zf hS_s127 ha (k := 21) rfl
                    have f547 := zf hS_s127 ha (k := 22) rfl
                    have f548 := zf hS_s127 ha (k := 23) rfl
                    have f549 := zf hS_s127 ha (k := 24) rfl
                    have f550 := zf hS_s127 ha (k := 38) rfl
                    have f551 := zf hS_s127 ha (k := 51) rfl
                    have f552 := zf hS_s127 ha (k := 52) rfl
                    have f553 := zf hS_s127 ha (k := 5) rfl
                    exact j_sub [0, 1] [(0, .ref a), (1, .int (zI 2))] rfl (c105_107 s127 hS_s127 (zFr_t zFr_rf hF_s127 (by decide)) (by omega) (by omega) (by omega) (by omega) (by omega) (by omega) (by omega) (by omega) (by omega) (by omega) (by omega) (by omega))
                · skip
                  refine j_aload_n hx 0 dX12_readCards_75 rfl ?_
                  refine j_iconst hx dX12_readCards_76 ?_
                  refine j_aload_n hx 0 dX12_readCards_77 rfl ?_
                  refine g13_4 hx hG ha kf_RX12_143 rfl dX12_readCards_78 ?_
                  have f554 := zf hS_s89 ha (k := 5) rfl
                  refine j_callV hx hG (c_X12_wrong hst a 1 ((s89 a 4))) lk_RX12_173 ha (by decide) rfl rfl rfl rfl [.int (zI 1), .int (zI ((s89 a 4)))] ⟨rfl, hG, hS_s89, ha, (by omega), (by omega)⟩ rfl rfl ⟨by decide, by decide⟩ ⟨by decide, by decide⟩ (k2 := 0) (n2 := 0) rfl rfl (Nat.le_of_ble_eq_true rfl) dX12_readCards_81 (kVM (fun s128 hS_s128 hF_s128 q556 => ?_))
                  refine j_goto hx 105 dX12_readCards_84 rfl ?_
                  have f557 := zf hS_s128 ha (k := 0) rfl
                  have f558 := zf hS_s128 ha (k := 3) rfl
                  have f559 := zf hS_s128 ha (k := 4) rfl
                  have f560 := zf hS_s128 ha (k := 7) rfl
                  have f561 := zf hS_s128 ha (k := 21) rfl
                  have f562 := zf hS_s128 ha (k := 22) rfl
                  have f563 := zf hS_s128 ha (k := 23) rfl
                  have f564 := zf hS_s128 ha (k := 24) rfl
                  have f565 := zf hS_s128 ha (k := 38) rfl
                  have f566 := zf hS_s128 ha (k := 51) rfl
                  have f567 := zf hS_s128 ha (k := 52) rfl
                  have f568 := zf hS_s128 ha (k := 5) rfl
                  exact j_sub [0, 1] [(0, .ref a), (1, .int (zI 2))] rfl (c105_107 s128 hS_s128 (zFr_t zFr_rf hF_s128 (by decide)) (by omega) (by omega) (by omega) (by omega) (by omega) (by omega) (by omega) (by omega) (by omega) (by omega) (by omega) (by omega))
      refine j_if_ne hx 27 dX12_readCards_15 rfl (by omega) (fun h569 => ?_) (fun h569 => ?_)
      · skip
        have g570 : s87 (gP G a 13) 0 = s0 (gP G a 13) 0 := (by rw [(zFr_g hF_s87 (zr (k := 13) (t2 := 76) hG ha rfl) (by decide))])
        have g571 : s87 (gP G a 13) 1 = s0 (gP G a 13) 1 := (by rw [(zFr_g hF_s87 (zr (k := 13) (t2 := 76) hG ha rfl) (by decide))])
        have g572 : s87 (gP G a 13) 2 = s0 (gP G a 13) 2 := (by rw [(zFr_g hF_s87 (zr (k := 13) (t2 := 76) hG ha rfl) (by decide))])
        have f573 := zf hS_s87 ha (k := 22) rfl
        exact j_sub [0, 1] [(0, .ref a), (1, .int (zI 2))] rfl (c27_88 (2147483648 * 4) s87 (by omega) hS_s87 zFr_rf (by omega) (by omega) (by omega) (by omega) (by omega) (by omega) (by omega) (by omega) (by omega) (by omega) (by omega) (by omega) (by omega) (by omega) (by omega))
      · skip
        refine j_aload_n hx 0 dX12_readCards_18 rfl ?_
        refine j_iconst hx dX12_readCards_19 ?_
        refine j_aload_n hx 0 dX12_readCards_20 rfl ?_
        refine g13_4 hx hG ha kf_RX12_143 rfl dX12_readCards_21 ?_
        have f574 := zf hS_s87 ha (k := 22) rfl
        refine j_callV hx hG (c_X12_wrong hst a 1 ((s87 a 4))) lk_RX12_173 ha (by decide) rfl rfl rfl rfl [.int (zI 1), .int (zI ((s87 a 4)))] ⟨rfl, hG, hS_s87, ha, (by omega), (by omega)⟩ rfl rfl ⟨by decide, by decide⟩ ⟨by decide, by decide⟩ (k2 := 0) (n2 := 0) rfl rfl (Nat.le_of_ble_eq_true rfl) dX12_readCards_24 (kVM (fun s129 hS_s129 hF_s129 q576 => ?_))
        have f577 := zf hS_s129 ha (k := 4) rfl
        have f578 := zf hS_s129 ha (k := 5) rfl
        have f579 := zf hS_s129 ha (k := 0) rfl
        have f580 := zf hS_s129 ha (k := 3) rfl
        have f581 := zf hS_s129 ha (k := 7) rfl
        have f582 := zf hS_s129 ha (k := 21) rfl
        have f583 := zf hS_s129 ha (k := 23) rfl
        have f584 := zf hS_s129 ha (k := 24) rfl
        have f585 := zf hS_s129 ha (k := 38) rfl
        have f586 := zf hS_s129 ha (k := 51) rfl
        have f587 := zf hS_s129 ha (k := 52) rfl
        have g588 : s129 (gP G a 13) 0 = s0 (gP G a 13) 0 := (by rw [(zFr_g hF_s129 (zr (k := 13) (t2 := 76) hG ha rfl) (by decide)), (zFr_g hF_s87 (zr (k := 13) (t2 := 76) hG ha rfl) (by decide))])
        have g589 : s129 (gP G a 13) 1 = s0 (gP G a 13) 1 := (by rw [(zFr_g hF_s129 (zr (k := 13) (t2 := 76) hG ha rfl) (by decide)), (zFr_g hF_s87 (zr (k := 13) (t2 := 76) hG ha rfl) (by decide))])
        have g590 : s129 (gP G a 13) 2 = s0 (gP G a 13) 2 := (by rw [(zFr_g hF_s129 (zr (k := 13) (t2 := 76) hG ha rfl) (by decide)), (zFr_g hF_s87 (zr (k := 13) (t2 := 76) hG ha rfl) (by decide))])
        have f591 := zf hS_s129 ha (k := 22) rfl
        exact j_sub [0, 1] [(0, .ref a), (1, .int (zI 2))] rfl (c27_88 (2147483648 * 4) s129 (by omega) hS_s129 (zFr_t zFr_rf hF_s129 (by decide)) (by omega) (by omega) (by omega) (by omega) (by omega) (by omega) (by omega) (by omega) (by omega) (by omega) (by omega) (by omega) (by omega) (by omega) (by omega))
    · skip
      have f592 := zf hS0 ha (k := 4) rfl
      have f593 := zf hS0 ha (k := 5) rfl
      have f594 := zf hS0 ha (k := 22) rfl
      have f595 := zf hS0 ha (k := 3) rfl
      have f596 := zf hS0 ha (k := 0) rfl
      have f597 := zf hS0 ha (k := 7) rfl
      have f598 := zf hS0 ha (k := 21) rfl
      have f599 := zf hS0 ha (k := 23) rfl
      have f600 := zf hS0 ha (k := 24) rfl
      have f601 := zf hS0 ha (k := 38) rfl
      have f602 := zf hS0 ha (k := 51) rfl
      have f603 := zf hS0 ha (k := 52) rfl
      exact j_vret hx hq rfl (by decide) (by decide) dX12_readCards_7 ⟨rfl, rfl, hS0, zFr_rf, ⟨by omega, by omega, by omega, by omega, by omega, by omega, by omega, by omega, by omega, by omega, by omega, by omega, by omega⟩⟩

theorem lk_RX12_219 : LkV RX12 219 RX12 yX12_readNumber cX12_readNumber 6 (some .int) 2 := ⟨km_RX12_219, ki_yX12_readNumber, ks_RX12_yX12_readNumber, kn_RX12, kc_yX12_readNumber, rfl, by decide +kernel, by decide +kernel, by decide +kernel⟩
theorem lk_RX12_225 : LkV RX12 225 RX12 yX12_readCards cX12_readCards 2 none 1 := ⟨km_RX12_225, ki_yX12_readCards, ks_RX12_yX12_readCards, kn_RX12, kc_yX12_readCards, rfl, by decide +kernel, by decide +kernel, by decide +kernel⟩
set_option maxHeartbeats 1200000 in
set_option maxRecDepth 20000 in
theorem c_X12_readClause {E : zE} {l : Launch} (hst : l.stackTraces = false) (a : Nat) (x1 : Int) : Con E l yX12_readClause cX12_readClause 4 none { frames := 6, cells := 0, slots := 0, locals := 242 } (fun G s vs => vs = [.ref a, .int (zI x1)] ∧ zGK G ∧ zSK G s ∧ (gT G a = 13) ∧ ((-2147483648) ≤ x1 ∧ x1 ≤ 2147483647) ∧ (zQi (s a 5) (s (gP G a 10)) (s a 21)) ∧ (s (gP G a 13) 0 + s (gP G a 13) 1 + s (gP G a 13) 2 = s a 22) ∧ (x1 = tOf 0 → s a 21 ≤ 2) ∧ (x1 = tOf 1 → s a 23 ≤ 11) ∧ (s a 4 ≤ s a 3 + 2)) (fun G s _ => pV (fun G2 s2 => G2 = G ∧ zSK G s2 ∧ zFr [13, 73, 74, 75, 76, 77, 78, 79] G s s2 ∧ s a 4 ≤ s2 a 4 ∧ s a 5 ≤ s2 a 5 ∧ zQi (s2 a 5) (s2 (gP G a 10)) (s2 a 21) ∧ s2 (gP G a 13) 0 + s2 (gP G a 13) 1 + s2 (gP G a 13) 2 = s2 a 22 ∧ s2 a 4 ≤ s a 3 + 2 ∧ s2 a 0 = s a 0 ∧ s2 a 3 = s a 3 ∧ s2 a 7 = s a 7 ∧ s2 a 24 = s a 24 ∧ s2 a 38 = s a 38 ∧ s2 a 51 = s a 51 ∧ s2 a 52 = s a 52)) := by
  refine Con.mk hst (by decide) (fun G s vs h => by rw [h.1]; exact Nat.le_of_ble_eq_true rfl) ?_
  rintro X G s0 vs ⟨rfl, hG, hS0, ha, hx1, e0, e1, e2, e3, e4⟩ rfl hx hq
  show JJ X E 4 G s0 0 0 [(0, .ref a), (1, .int (zI x1))] 0 []
  refine j_iload_n hx 1 dX12_readClause_0 rfl ?_
  refine j_ldcT hx (i := 0) 20 (by decide) rfl rfl rfl dX12_readClause_1 ?_
  refine j_callS hx (c_X12_of hst 0) lk_RX12_215 [.ref (zTa E 0)] ⟨rfl, hG, hS0, (by decide)⟩ rfl rfl ⟨by decide, by decide⟩ ⟨by decide, by decide⟩ (k2 := 0) (n2 := 0) rfl rfl (Nat.le_of_ble_eq_true rfl) dX12_readClause_3 (kIP (fun v1 q2 => ?_))
  refine j_icmp_ne hx 86 dX12_readClause_6 rfl (by omega) (by omega) (fun h3 => ?_) (fun h3 => ?_)
  · skip
    refine j_iload_n hx 1 dX12_readClause_86 rfl ?_
    refine j_ldcT hx (i := 2) 21 (by decide) rfl rfl rfl dX12_readClause_87 ?_
    refine j_callS hx (c_X12_of hst 2) lk_RX12_215 [.ref (zTa E 2)] ⟨rfl, hG, hS0, (by decide)⟩ rfl rfl ⟨by decide, by decide⟩ ⟨by decide, by decide⟩ (k2 := 0) (n2 := 0) rfl rfl (Nat.le_of_ble_eq_true rfl) dX12_readClause_89 (kIP (fun v4 q5 => ?_))
    refine j_icmp_ne hx 115 dX12_readClause_92 rfl (by omega) (by omega) (fun h6 => ?_) (fun h6 => ?_)
    · skip
      refine j_iload_n hx 1 dX12_readClause_115 rfl ?_
      refine j_ldcT hx (i := 3) 22 (by decide) rfl rfl rfl dX12_readClause_116 ?_
      refine j_callS hx (c_X12_of hst 3) lk_RX12_215 [.ref (zTa E 3)] ⟨rfl, hG, hS0, (by decide)⟩ rfl rfl ⟨by decide, by decide⟩ ⟨by decide, by decide⟩ (k2 := 0) (n2 := 0) rfl rfl (Nat.le_of_ble_eq_true rfl) dX12_readClause_118 (kIP (fun v7 q8 => ?_))
      refine j_icmp_ne hx 161 dX12_readClause_121 rfl (by omega) (by omega) (fun h9 => ?_) (fun h9 => ?_)
      · skip
        refine j_iload_n hx 1 dX12_readClause_161 rfl ?_
        refine j_ldcT hx (i := 4) 26 (by decide) rfl rfl rfl dX12_readClause_162 ?_
        refine j_callS hx (c_X12_of hst 4) lk_RX12_215 [.ref (zTa E 4)] ⟨rfl, hG, hS0, (by decide)⟩ rfl rfl ⟨by decide, by decide⟩ ⟨by decide, by decide⟩ (k2 := 0) (n2 := 0) rfl rfl (Nat.le_of_ble_eq_true rfl) dX12_readClause_164 (kIP (fun v10 q11 => ?_))
        refine j_icmp_ne hx 230 dX12_readClause_167 rfl (by omega) (by omega) (fun h12 => ?_) (fun h12 => ?_)
        · skip
          refine j_iload_n hx 1 dX12_readClause_230 rfl ?_
          refine j_ldcT hx (i := 1) 27 (by decide) rfl rfl rfl dX12_readClause_231 ?_
          refine j_callS hx (c_X12_of hst 1) lk_RX12_215 [.ref (zTa E 1)] ⟨rfl, hG, hS0, (by decide)⟩ rfl rfl ⟨by decide, by decide⟩ ⟨by decide, by decide⟩ (k2 := 0) (n2 := 0) rfl rfl (Nat.le_of_ble_eq_true rfl) dX12_readClause_233 (kIP (fun v13 q14 => ?_))
          refine j_icmp_ne hx 268 dX12_readClause_236 rfl (by omega) (by omega) (fun h15 => ?_) (fun h15 => ?_)
          · skip
            refine j_aload_n hx 0 dX12_readClause_268 rfl ?_
            refine g13_15 hx hG ha kf_RX12_38 dX12_readClause_269 ?_
            refine j_iload_n hx 1 dX12_readClause_272 rfl ?_
            refine j_ldcT hx (i := 5) 23 (by decide) rfl rfl rfl dX12_readClause_273 ?_
            refine j_callS hx (c_X12_of hst 5) lk_RX12_215 [.ref (zTa E 5)] ⟨rfl, hG, hS0, (by decide)⟩ rfl rfl ⟨by decide, by decide⟩ ⟨by decide, by decide⟩ (k2 := 0) (n2 := 0) rfl rfl (Nat.le_of_ble_eq_true rfl) dX12_readClause_275 (kIP (fun v16 q17 => ?_))
            refine j_icmp_ne hx 285 dX12_readClause_278 rfl (by omega) (by omega) (fun h18 => ?_) (fun h18 => ?_)
            · skip
              refine j_iload_n hx 1 dX12_readClause_285 rfl ?_
              refine j_ldcT hx (i := 6) 24 (by decide) rfl rfl rfl dX12_readClause_286 ?_
              refine j_callS hx (c_X12_of hst 6) lk_RX12_215 [.ref (zTa E 6)] ⟨rfl, hG, hS0, (by decide)⟩ rfl rfl ⟨by decide, by decide⟩ ⟨by decide, by decide⟩ (k2 := 0) (n2 := 0) rfl rfl (Nat.le_of_ble_eq_true rfl) dX12_readClause_288 (kIP (fun v19 q20 => ?_))
              refine j_icmp_ne hx 298 dX12_readClause_291 rfl (by omega) (by omega) (fun h21 => ?_) (fun h21 => ?_)
              · skip
                refine j_iconst hx dX12_readClause_298 ?_
                refine j_aload_n hx 0 dX12_readClause_299 rfl ?_
                refine j_iconst hx dX12_readClause_300 ?_
                refine j_iconst hx dX12_readClause_301 ?_
                have f22 := zf hS0 ha (k := 4) rfl
                have f23 := zf hS0 ha (k := 3) rfl
                have f24 := zf hS0 ha (k := 5) rfl
                have f25 := zf hS0 ha (k := 0) rfl
                have f26 := zf hS0 ha (k := 7) rfl
                have f27 := zf hS0 ha (k := 21) rfl
                have f28 := zf hS0 ha (k := 22) rfl
                have f29 := zf hS0 ha (k := 23) rfl
                have f30 := zf hS0 ha (k := 24) rfl
                have f31 := zf hS0 ha (k := 38) rfl
                have f32 := zf hS0 ha (k := 51) rfl
                have f33 := zf hS0 ha (k := 52) rfl
                refine j_callV hx hG (c_X12_readNumber hst a 0 2) lk_RX12_219 ha (by decide) rfl rfl rfl rfl [.int (zI 0), .int (zI 2)] ⟨rfl, hG, hS0, ha, (by omega), (by omega), (by omega)⟩ rfl rfl ⟨by decide, by decide⟩ ⟨by decide, by decide⟩ (k2 := 0) (n2 := 0) rfl rfl (Nat.le_of_ble_eq_true rfl) dX12_readClause_302 (kIM (fun v34 s1 hS_s1 hF_s1 q35 => ?_))
                refine j_iast hx hG (zr (k := 15) (t2 := 78) hG ha rfl) (by decide) rfl (zlen hG (zr (k := 15) (t2 := 78) hG ha rfl) (n := 3) rfl rfl) (by omega) (by omega) (j := 2) rfl dX12_readClause_305 ?_
                obtain ⟨s2, e_s2⟩ : ∃ z, z = zU s1 (gP G a 15) 2 v34 := ⟨_, rfl⟩
                rw [← e_s2]
                have hS_s2 : zSK G s2 := by rw [e_s2]; exact zSK_A hS_s1 (zr (k := 15) (t2 := 78) hG ha rfl) rfl rfl rfl (by omega)
                have g36 : s2 a 4 = s1 a 4 := (by rw [e_s2, zU_at (Or.inl (zne (zr (k := 15) (t2 := 78) hG ha rfl) ha (by decide)))])
                have f37 := zf hS_s1 ha (k := 4) rfl
                have g38 : s2 a 5 = s1 a 5 := (by rw [e_s2, zU_at (Or.inl (zne (zr (k := 15) (t2 := 78) hG ha rfl) ha (by decide)))])
                have f39 := zf hS_s1 ha (k := 5) rfl
                have g40 : s2 a 21 = s1 a 21 := (by rw [e_s2, zU_at (Or.inl (zne (zr (k := 15) (t2 := 78) hG ha rfl) ha (by decide)))])
                have f41 := zf hS_s1 ha (k := 21) rfl
                have g42 : s2 (gP G a 13) 0 = s0 (gP G a 13) 0 := (by rw [e_s2, zU_at (Or.inl (zne (zr (k := 15) (t2 := 78) hG ha rfl) (zr (k := 13) (t2 := 76) hG ha rfl) (by decide))), (zFr_g hF_s1 (zr (k := 13) (t2 := 76) hG ha rfl) (by decide))])
                have g43 : s2 (gP G a 13) 1 = s0 (gP G a 13) 1 := (by rw [e_s2, zU_at (Or.inl (zne (zr (k := 15) (t2 := 78) hG ha rfl) (zr (k := 13) (t2 := 76) hG ha rfl) (by decide))), (zFr_g hF_s1 (zr (k := 13) (t2 := 76) hG ha rfl) (by decide))])
                have g44 : s2 (gP G a 13) 2 = s0 (gP G a 13) 2 := (by rw [e_s2, zU_at (Or.inl (zne (zr (k := 15) (t2 := 78) hG ha rfl) (zr (k := 13) (t2 := 76) hG ha rfl) (by decide))), (zFr_g hF_s1 (zr (k := 13) (t2 := 76) hG ha rfl) (by decide))])
                have g45 : s2 a 22 = s1 a 22 := (by rw [e_s2, zU_at (Or.inl (zne (zr (k := 15) (t2 := 78) hG ha rfl) ha (by decide)))])
                have f46 := zf hS_s1 ha (k := 22) rfl
                have g47 : s2 a 0 = s1 a 0 := (by rw [e_s2, zU_at (Or.inl (zne (zr (k := 15) (t2 := 78) hG ha rfl) ha (by decide)))])
                have f48 := zf hS_s1 ha (k := 0) rfl
                have g49 : s2 a 3 = s1 a 3 := (by rw [e_s2, zU_at (Or.inl (zne (zr (k := 15) (t2 := 78) hG ha rfl) ha (by decide)))])
                have f50 := zf hS_s1 ha (k := 3) rfl
                have g51 : s2 a 7 = s1 a 7 := (by rw [e_s2, zU_at (Or.inl (zne (zr (k := 15) (t2 := 78) hG ha rfl) ha (by decide)))])
                have f52 := zf hS_s1 ha (k := 7) rfl
                have g53 : s2 a 24 = s1 a 24 := (by rw [e_s2, zU_at (Or.inl (zne (zr (k := 15) (t2 := 78) hG ha rfl) ha (by decide)))])
                have f54 := zf hS_s1 ha (k := 24) rfl
                have g55 : s2 a 38 = s1 a 38 := (by rw [e_s2, zU_at (Or.inl (zne (zr (k := 15) (t2 := 78) hG ha rfl) ha (by decide)))])
                have f56 := zf hS_s1 ha (k := 38) rfl
                have g57 : s2 a 51 = s1 a 51 := (by rw [e_s2, zU_at (Or.inl (zne (zr (k := 15) (t2 := 78) hG ha rfl) ha (by decide)))])
                have f58 := zf hS_s1 ha (k := 51) rfl
                have g59 : s2 a 52 = s1 a 52 := (by rw [e_s2, zU_at (Or.inl (zne (zr (k := 15) (t2 := 78) hG ha rfl) ha (by decide)))])
                have f60 := zf hS_s1 ha (k := 52) rfl
                exact j_vret hx hq rfl (by decide) (by decide) dX12_readClause_306 ⟨rfl, rfl, hS_s2, (zFr_u (zFr_t zFr_rf hF_s1 (by decide)) e_s2 (zr (k := 15) (t2 := 78) hG ha rfl) (by decide)), ⟨by omega, by omega, (by have q1 : s2 (gP G a 10) = s0 (gP G a 10) := (by rw [e_s2, zU_ne (zne (zr (k := 15) (t2 := 78) hG ha rfl) (zr (k := 10) (t2 := 73) hG ha rfl) (by decide)), hF_s1 (gP G a 10) (by rw [(zr (k := 10) (t2 := 73) hG ha rfl)]; decide)]); rw [q1]; exact (zQi_k e0 (by omega) (by omega))), by omega, by omega, by omega, by omega, by omega, by omega, by omega, by omega, by omega⟩⟩
              · skip
                refine j_iconst hx dX12_readClause_294 ?_
                refine j_goto hx 299 dX12_readClause_295 rfl ?_
                refine j_aload_n hx 0 dX12_readClause_299 rfl ?_
                refine j_iconst hx dX12_readClause_300 ?_
                refine j_iconst hx dX12_readClause_301 ?_
                have f61 := zf hS0 ha (k := 4) rfl
                have f62 := zf hS0 ha (k := 3) rfl
                have f63 := zf hS0 ha (k := 5) rfl
                have f64 := zf hS0 ha (k := 0) rfl
                have f65 := zf hS0 ha (k := 7) rfl
                have f66 := zf hS0 ha (k := 21) rfl
                have f67 := zf hS0 ha (k := 22) rfl
                have f68 := zf hS0 ha (k := 23) rfl
                have f69 := zf hS0 ha (k := 24) rfl
                have f70 := zf hS0 ha (k := 38) rfl
                have f71 := zf hS0 ha (k := 51) rfl
                have f72 := zf hS0 ha (k := 52) rfl
                refine j_callV hx hG (c_X12_readNumber hst a 0 2) lk_RX12_219 ha (by decide) rfl rfl rfl rfl [.int (zI 0), .int (zI 2)] ⟨rfl, hG, hS0, ha, (by omega), (by omega), (by omega)⟩ rfl rfl ⟨by decide, by decide⟩ ⟨by decide, by decide⟩ (k2 := 0) (n2 := 0) rfl rfl (Nat.le_of_ble_eq_true rfl) dX12_readClause_302 (kIM (fun v73 s3 hS_s3 hF_s3 q74 => ?_))
                refine j_iast hx hG (zr (k := 15) (t2 := 78) hG ha rfl) (by decide) rfl (zlen hG (zr (k := 15) (t2 := 78) hG ha rfl) (n := 3) rfl rfl) (by omega) (by omega) (j := 1) rfl dX12_readClause_305 ?_
                obtain ⟨s4, e_s4⟩ : ∃ z, z = zU s3 (gP G a 15) 1 v73 := ⟨_, rfl⟩
                rw [← e_s4]
                have hS_s4 : zSK G s4 := by rw [e_s4]; exact zSK_A hS_s3 (zr (k := 15) (t2 := 78) hG ha rfl) rfl rfl rfl (by omega)
                have g75 : s4 a 4 = s3 a 4 := (by rw [e_s4, zU_at (Or.inl (zne (zr (k := 15) (t2 := 78) hG ha rfl) ha (by decide)))])
                have f76 := zf hS_s3 ha (k := 4) rfl
                have g77 : s4 a 5 = s3 a 5 := (by rw [e_s4, zU_at (Or.inl (zne (zr (k := 15) (t2 := 78) hG ha rfl) ha (by decide)))])
                have f78 := zf hS_s3 ha (k := 5) rfl
                have g79 : s4 a 21 = s3 a 21 := (by rw [e_s4, zU_at (Or.inl (zne (zr (k := 15) (t2 := 78) hG ha rfl) ha (by decide)))])
                have f80 := zf hS_s3 ha (k := 21) rfl
                have g81 : s4 (gP G a 13) 0 = s0 (gP G a 13) 0 := (by rw [e_s4, zU_at (Or.inl (zne (zr (k := 15) (t2 := 78) hG ha rfl) (zr (k := 13) (t2 := 76) hG ha rfl) (by decide))), (zFr_g hF_s3 (zr (k := 13) (t2 := 76) hG ha rfl) (by decide))])
                have g82 : s4 (gP G a 13) 1 = s0 (gP G a 13) 1 := (by rw [e_s4, zU_at (Or.inl (zne (zr (k := 15) (t2 := 78) hG ha rfl) (zr (k := 13) (t2 := 76) hG ha rfl) (by decide))), (zFr_g hF_s3 (zr (k := 13) (t2 := 76) hG ha rfl) (by decide))])
                have g83 : s4 (gP G a 13) 2 = s0 (gP G a 13) 2 := (by rw [e_s4, zU_at (Or.inl (zne (zr (k := 15) (t2 := 78) hG ha rfl) (zr (k := 13) (t2 := 76) hG ha rfl) (by decide))), (zFr_g hF_s3 (zr (k := 13) (t2 := 76) hG ha rfl) (by decide))])
                have g84 : s4 a 22 = s3 a 22 := (by rw [e_s4, zU_at (Or.inl (zne (zr (k := 15) (t2 := 78) hG ha rfl) ha (by decide)))])
                have f85 := zf hS_s3 ha (k := 22) rfl
                have g86 : s4 a 0 = s3 a 0 := (by rw [e_s4, zU_at (Or.inl (zne (zr (k := 15) (t2 := 78) hG ha rfl) ha (by decide)))])
                have f87 := zf hS_s3 ha (k := 0) rfl
                have g88 : s4 a 3 = s3 a 3 := (by rw [e_s4, zU_at (Or.inl (zne (zr (k := 15) (t2 := 78) hG ha rfl) ha (by decide)))])
                have f89 := zf hS_s3 ha (k := 3) rfl
                have g90 : s4 a 7 = s3 a 7 := (by rw [e_s4, zU_at (Or.inl (zne (zr (k := 15) (t2 := 78) hG ha rfl) ha (by decide)))])
                have f91 := zf hS_s3 ha (k := 7) rfl
                have g92 : s4 a 24 = s3 a 24 := (by rw [e_s4, zU_at (Or.inl (zne (zr (k := 15) (t2 := 78) hG ha rfl) ha (by decide)))])
                have f93 := zf hS_s3 ha (k := 24) rfl
                have g94 : s4 a 38 = s3 a 38 := (by rw [e_s4, zU_at (Or.inl (zne (zr (k := 15) (t2 := 78) hG ha rfl) ha (by decide)))])
                have f95 := zf hS_s3 ha (k := 38) rfl
                have g96 : s4 a 51 = s3 a 51 := (by rw [e_s4, zU_at (Or.inl (zne (zr (k := 15) (t2 := 78) hG ha rfl) ha (by decide)))])
                have f97 := zf hS_s3 ha (k := 51) rfl
                have g98 : s4 a 52 = s3 a 52 := (by rw [e_s4, zU_at (Or.inl (zne (zr (k := 15) (t2 := 78) hG ha rfl) ha (by decide)))])
                have f99 := zf hS_s3 ha (k := 52) rfl
                exact j_vret hx hq rfl (by decide) (by decide) dX12_readClause_306 ⟨rfl, rfl, hS_s4, (zFr_u (zFr_t zFr_rf hF_s3 (by decide)) e_s4 (zr (k := 15) (t2 := 78) hG ha rfl) (by decide)), ⟨by omega, by omega, (by have q1 : s4 (gP G a 10) = s0 (gP G a 10) := (by rw [e_s4, zU_ne (zne (zr (k := 15) (t2 := 78) hG ha rfl) (zr (k := 10) (t2 := 73) hG ha rfl) (by decide)), hF_s3 (gP G a 10) (by rw [(zr (k := 10) (t2 := 73) hG ha rfl)]; decide)]); rw [q1]; exact (zQi_k e0 (by omega) (by omega))), by omega, by omega, by omega, by omega, by omega, by omega, by omega, by omega, by omega⟩⟩
            · skip
              refine j_iconst hx dX12_readClause_281 ?_
              refine j_goto hx 299 dX12_readClause_282 rfl ?_
              refine j_aload_n hx 0 dX12_readClause_299 rfl ?_
              refine j_iconst hx dX12_readClause_300 ?_
              refine j_iconst hx dX12_readClause_301 ?_
              have f100 := zf hS0 ha (k := 4) rfl
              have f101 := zf hS0 ha (k := 3) rfl
              have f102 := zf hS0 ha (k := 5) rfl
              have f103 := zf hS0 ha (k := 0) rfl
              have f104 := zf hS0 ha (k := 7) rfl
              have f105 := zf hS0 ha (k := 21) rfl
              have f106 := zf hS0 ha (k := 22) rfl
              have f107 := zf hS0 ha (k := 23) rfl
              have f108 := zf hS0 ha (k := 24) rfl
              have f109 := zf hS0 ha (k := 38) rfl
              have f110 := zf hS0 ha (k := 51) rfl
              have f111 := zf hS0 ha (k := 52) rfl
              refine j_callV hx hG (c_X12_readNumber hst a 0 2) lk_RX12_219 ha (by decide) rfl rfl rfl rfl [.int (zI 0), .int (zI 2)] ⟨rfl, hG, hS0, ha, (by omega), (by omega), (by omega)⟩ rfl rfl ⟨by decide, by decide⟩ ⟨by decide, by decide⟩ (k2 := 0) (n2 := 0) rfl rfl (Nat.le_of_ble_eq_true rfl) dX12_readClause_302 (kIM (fun v112 s5 hS_s5 hF_s5 q113 => ?_))
              refine j_iast hx hG (zr (k := 15) (t2 := 78) hG ha rfl) (by decide) rfl (zlen hG (zr (k := 15) (t2 := 78) hG ha rfl) (n := 3) rfl rfl) (by omega) (by omega) (j := 0) rfl dX12_readClause_305 ?_
              obtain ⟨s6, e_s6⟩ : ∃ z, z = zU s5 (gP G a 15) 0 v112 := ⟨_, rfl⟩
              rw [← e_s6]
              have hS_s6 : zSK G s6 := by rw [e_s6]; exact zSK_A hS_s5 (zr (k := 15) (t2 := 78) hG ha rfl) rfl rfl rfl (by omega)
              have g114 : s6 a 4 = s5 a 4 := (by rw [e_s6, zU_at (Or.inl (zne (zr (k := 15) (t2 := 78) hG ha rfl) ha (by decide)))])
              have f115 := zf hS_s5 ha (k := 4) rfl
              have g116 : s6 a 5 = s5 a 5 := (by rw [e_s6, zU_at (Or.inl (zne (zr (k := 15) (t2 := 78) hG ha rfl) ha (by decide)))])
              have f117 := zf hS_s5 ha (k := 5) rfl
              have g118 : s6 a 21 = s5 a 21 := (by rw [e_s6, zU_at (Or.inl (zne (zr (k := 15) (t2 := 78) hG ha rfl) ha (by decide)))])
              have f119 := zf hS_s5 ha (k := 21) rfl
              have g120 : s6 (gP G a 13) 0 = s0 (gP G a 13) 0 := (by rw [e_s6, zU_at (Or.inl (zne (zr (k := 15) (t2 := 78) hG ha rfl) (zr (k := 13) (t2 := 76) hG ha rfl) (by decide))), (zFr_g hF_s5 (zr (k := 13) (t2 := 76) hG ha rfl) (by decide))])
              have g121 : s6 (gP G a 13) 1 = s0 (gP G a 13) 1 := (by rw [e_s6, zU_at (Or.inl (zne (zr (k := 15) (t2 := 78) hG ha rfl) (zr (k := 13) (t2 := 76) hG ha rfl) (by decide))), (zFr_g hF_s5 (zr (k := 13) (t2 := 76) hG ha rfl) (by decide))])
              have g122 : s6 (gP G a 13) 2 = s0 (gP G a 13) 2 := (by rw [e_s6, zU_at (Or.inl (zne (zr (k := 15) (t2 := 78) hG ha rfl) (zr (k := 13) (t2 := 76) hG ha rfl) (by decide))), (zFr_g hF_s5 (zr (k := 13) (t2 := 76) hG ha rfl) (by decide))])
              have g123 : s6 a 22 = s5 a 22 := (by rw [e_s6, zU_at (Or.inl (zne (zr (k := 15) (t2 := 78) hG ha rfl) ha (by decide)))])
              have f124 := zf hS_s5 ha (k := 22) rfl
              have g125 : s6 a 0 = s5 a 0 := (by rw [e_s6, zU_at (Or.inl (zne (zr (k := 15) (t2 := 78) hG ha rfl) ha (by decide)))])
              have f126 := zf hS_s5 ha (k := 0) rfl
              have g127 : s6 a 3 = s5 a 3 := (by rw [e_s6, zU_at (Or.inl (zne (zr (k := 15) (t2 := 78) hG ha rfl) ha (by decide)))])
              have f128 := zf hS_s5 ha (k := 3) rfl
              have g129 : s6 a 7 = s5 a 7 := (by rw [e_s6, zU_at (Or.inl (zne (zr (k := 15) (t2 := 78) hG ha rfl) ha (by decide)))])
              have f130 := zf hS_s5 ha (k := 7) rfl
              have g131 : s6 a 24 = s5 a 24 := (by rw [e_s6, zU_at (Or.inl (zne (zr (k := 15) (t2 := 78) hG ha rfl) ha (by decide)))])
              have f132 := zf hS_s5 ha (k := 24) rfl
              have g133 : s6 a 38 = s5 a 38 := (by rw [e_s6, zU_at (Or.inl (zne (zr (k := 15) (t2 := 78) hG ha rfl) ha (by decide)))])
              have f134 := zf hS_s5 ha (k := 38) rfl
              have g135 : s6 a 51 = s5 a 51 := (by rw [e_s6, zU_at (Or.inl (zne (zr (k := 15) (t2 := 78) hG ha rfl) ha (by decide)))])
              have f136 := zf hS_s5 ha (k := 51) rfl
              have g137 : s6 a 52 = s5 a 52 := (by rw [e_s6, zU_at (Or.inl (zne (zr (k := 15) (t2 := 78) hG ha rfl) ha (by decide)))])
              have f138 := zf hS_s5 ha (k := 52) rfl
              exact j_vret hx hq rfl (by decide) (by decide) dX12_readClause_306 ⟨rfl, rfl, hS_s6, (zFr_u (zFr_t zFr_rf hF_s5 (by decide)) e_s6 (zr (k := 15) (t2 := 78) hG ha rfl) (by decide)), ⟨by omega, by omega, (by have q1 : s6 (gP G a 10) = s0 (gP G a 10) := (by rw [e_s6, zU_ne (zne (zr (k := 15) (t2 := 78) hG ha rfl) (zr (k := 10) (t2 := 73) hG ha rfl) (by decide)), hF_s5 (gP G a 10) (by rw [(zr (k := 10) (t2 := 73) hG ha rfl)]; decide)]); rw [q1]; exact (zQi_k e0 (by omega) (by omega))), by omega, by omega, by omega, by omega, by omega, by omega, by omega, by omega, by omega⟩⟩
          · skip
            refine j_aload_n hx 0 dX12_readClause_239 rfl ?_
            refine g13_16 hx hG ha kf_RX12_41 dX12_readClause_240 ?_
            refine j_aload_n hx 0 dX12_readClause_243 rfl ?_
            have f139 := zf hS0 ha (k := 23) rfl
            refine g13_23 hx hG ha kf_RX12_186 rfl dX12_readClause_244 ?_
            refine j_aload_n hx 0 dX12_readClause_247 rfl ?_
            refine j_iconst hx dX12_readClause_248 ?_
            refine j_bipush hx dX12_readClause_249 rfl ?_
            have f140 := zf hS0 ha (k := 4) rfl
            have f141 := zf hS0 ha (k := 3) rfl
            have f142 := zf hS0 ha (k := 5) rfl
            have f143 := zf hS0 ha (k := 0) rfl
            have f144 := zf hS0 ha (k := 7) rfl
            have f145 := zf hS0 ha (k := 21) rfl
            have f146 := zf hS0 ha (k := 22) rfl
            have f147 := zf hS0 ha (k := 24) rfl
            have f148 := zf hS0 ha (k := 38) rfl
            have f149 := zf hS0 ha (k := 51) rfl
            have f150 := zf hS0 ha (k := 52) rfl
            refine j_callV hx hG (c_X12_readNumber hst a 0 9) lk_RX12_219 ha (by decide) rfl rfl rfl rfl [.int (zI 0), .int (zI 9)] ⟨rfl, hG, hS0, ha, (by omega), (by omega), (by omega)⟩ rfl rfl ⟨by decide, by decide⟩ ⟨by decide, by decide⟩ (k2 := 0) (n2 := 0) rfl rfl (Nat.le_of_ble_eq_true rfl) dX12_readClause_251 (kIM (fun v151 s7 hS_s7 hF_s7 q152 => ?_))
            refine j_iast hx hG (zr (k := 16) (t2 := 79) hG ha rfl) (by decide) rfl (zlen hG (zr (k := 16) (t2 := 79) hG ha rfl) (n := 12) rfl rfl) (by omega) (by omega) (j := ((s0 a 23)).toNat) rfl dX12_readClause_254 ?_
            obtain ⟨s8, e_s8⟩ : ∃ z, z = zU s7 (gP G a 16) ((s0 a 23)).toNat v151 := ⟨_, rfl⟩
            rw [← e_s8]
            have hS_s8 : zSK G s8 := by rw [e_s8]; exact zSK_A hS_s7 (zr (k := 16) (t2 := 79) hG ha rfl) rfl rfl rfl (by omega)
            refine j_aload_n hx 0 dX12_readClause_255 rfl ?_
            refine j_dup hx dX12_readClause_256 rfl ?_
            have f153 := zf hS_s7 ha (k := 23) rfl
            refine g13_23 hx hG ha kf_RX12_186 (v := (s7 a 23)) (by rw [e_s8, zU_at (Or.inl (zne (zr (k := 16) (t2 := 79) hG ha rfl) ha (by decide)))]) dX12_readClause_257 ?_
            refine j_iconst hx dX12_readClause_260 ?_
            refine j_iadd hx (r := (s7 a 23) + 1) dX12_readClause_261 (by omega) ?_
            refine p13_23 hx hG ha kf_RX12_186 dX12_readClause_262 ?_
            obtain ⟨s9, e_s9⟩ : ∃ z, z = zU s8 a 23 ((s7 a 23) + 1) := ⟨_, rfl⟩
            rw [← e_s9]
            have hS_s9 : zSK G s9 := by rw [e_s9]; exact zSK_F hS_s8 ha rfl rfl rfl (by omega)
            refine j_goto hx 306 dX12_readClause_265 rfl ?_
            have g154 : s9 a 4 = s7 a 4 := (by rw [e_s9, zU_at (Or.inr (by decide)), e_s8, zU_at (Or.inl (zne (zr (k := 16) (t2 := 79) hG ha rfl) ha (by decide)))])
            have f155 := zf hS_s7 ha (k := 4) rfl
            have g156 : s9 a 5 = s7 a 5 := (by rw [e_s9, zU_at (Or.inr (by decide)), e_s8, zU_at (Or.inl (zne (zr (k := 16) (t2 := 79) hG ha rfl) ha (by decide)))])
            have f157 := zf hS_s7 ha (k := 5) rfl
            have g158 : s9 a 21 = s7 a 21 := (by rw [e_s9, zU_at (Or.inr (by decide)), e_s8, zU_at (Or.inl (zne (zr (k := 16) (t2 := 79) hG ha rfl) ha (by decide)))])
            have f159 := zf hS_s7 ha (k := 21) rfl
            have g160 : s9 (gP G a 13) 0 = s0 (gP G a 13) 0 := (by rw [e_s9, zU_at (Or.inl (zne ha (zr (k := 13) (t2 := 76) hG ha rfl) (by decide))), e_s8, zU_at (Or.inl (zne (zr (k := 16) (t2 := 79) hG ha rfl) (zr (k := 13) (t2 := 76) hG ha rfl) (by decide))), (zFr_g hF_s7 (zr (k := 13) (t2 := 76) hG ha rfl) (by decide))])
            have g161 : s9 (gP G a 13) 1 = s0 (gP G a 13) 1 := (by rw [e_s9, zU_at (Or.inl (zne ha (zr (k := 13) (t2 := 76) hG ha rfl) (by decide))), e_s8, zU_at (Or.inl (zne (zr (k := 16) (t2 := 79) hG ha rfl) (zr (k := 13) (t2 := 76) hG ha rfl) (by decide))), (zFr_g hF_s7 (zr (k := 13) (t2 := 76) hG ha rfl) (by decide))])
            have g162 : s9 (gP G a 13) 2 = s0 (gP G a 13) 2 := (by rw [e_s9, zU_at (Or.inl (zne ha (zr (k := 13) (t2 := 76) hG ha rfl) (by decide))), e_s8, zU_at (Or.inl (zne (zr (k := 16) (t2 := 79) hG ha rfl) (zr (k := 13) (t2 := 76) hG ha rfl) (by decide))), (zFr_g hF_s7 (zr (k := 13) (t2 := 76) hG ha rfl) (by decide))])
            have g163 : s9 a 22 = s7 a 22 := (by rw [e_s9, zU_at (Or.inr (by decide)), e_s8, zU_at (Or.inl (zne (zr (k := 16) (t2 := 79) hG ha rfl) ha (by decide)))])
            have f164 := zf hS_s7 ha (k := 22) rfl
            have g165 : s9 a 0 = s7 a 0 := (by rw [e_s9, zU_at (Or.inr (by decide)), e_s8, zU_at (Or.inl (zne (zr (k := 16) (t2 := 79) hG ha rfl) ha (by decide)))])
            have f166 := zf hS_s7 ha (k := 0) rfl
            have g167 : s9 a 3 = s7 a 3 := (by rw [e_s9, zU_at (Or.inr (by decide)), e_s8, zU_at (Or.inl (zne (zr (k := 16) (t2 := 79) hG ha rfl) ha (by decide)))])
            have f168 := zf hS_s7 ha (k := 3) rfl
            have g169 : s9 a 7 = s7 a 7 := (by rw [e_s9, zU_at (Or.inr (by decide)), e_s8, zU_at (Or.inl (zne (zr (k := 16) (t2 := 79) hG ha rfl) ha (by decide)))])
            have f170 := zf hS_s7 ha (k := 7) rfl
            have g171 : s9 a 24 = s7 a 24 := (by rw [e_s9, zU_at (Or.inr (by decide)), e_s8, zU_at (Or.inl (zne (zr (k := 16) (t2 := 79) hG ha rfl) ha (by decide)))])
            have f172 := zf hS_s7 ha (k := 24) rfl
            have g173 : s9 a 38 = s7 a 38 := (by rw [e_s9, zU_at (Or.inr (by decide)), e_s8, zU_at (Or.inl (zne (zr (k := 16) (t2 := 79) hG ha rfl) ha (by decide)))])
            have f174 := zf hS_s7 ha (k := 38) rfl
            have g175 : s9 a 51 = s7 a 51 := (by rw [e_s9, zU_at (Or.inr (by decide)), e_s8, zU_at (Or.inl (zne (zr (k := 16) (t2 := 79) hG ha rfl) ha (by decide)))])
            have f176 := zf hS_s7 ha (k := 51) rfl
            have g177 : s9 a 52 = s7 a 52 := (by rw [e_s9, zU_at (Or.inr (by decide)), e_s8, zU_at (Or.inl (zne (zr (k := 16) (t2 := 79) hG ha rfl) ha (by decide)))])
            have f178 := zf hS_s7 ha (k := 52) rfl
            exact j_vret hx hq rfl (by decide) (by decide) dX12_readClause_306 ⟨rfl, rfl, hS_s9, (zFr_u (zFr_u (zFr_t zFr_rf hF_s7 (by decide)) e_s8 (zr (k := 16) (t2 := 79) hG ha rfl) (by decide)) e_s9 ha (by decide)), ⟨by omega, by omega, (by have q1 : s9 (gP G a 10) = s0 (gP G a 10) := (by rw [e_s9, zU_ne (zne ha (zr (k := 10) (t2 := 73) hG ha rfl) (by decide)), e_s8, zU_ne (zne (zr (k := 16) (t2 := 79) hG ha rfl) (zr (k := 10) (t2 := 73) hG ha rfl) (by decide)), hF_s7 (gP G a 10) (by rw [(zr (k := 10) (t2 := 73) hG ha rfl)]; decide)]); rw [q1]; exact (zQi_k e0 (by omega) (by omega))), by omega, by omega, by omega, by omega, by omega, by omega, by omega, by omega, by omega⟩⟩
        · skip
          refine j_aload_n hx 0 dX12_readClause_170 rfl ?_
          refine j_iconst hx dX12_readClause_171 ?_
          refine j_aload_n hx 0 dX12_readClause_172 rfl ?_
          have f179 := zf hS0 ha (k := 21) rfl
          refine g13_21 hx hG ha kf_RX12_180 rfl dX12_readClause_173 ?_
          refine j_iconst hx dX12_readClause_176 ?_
          refine j_isub hx (r := (s0 a 21) - 1) dX12_readClause_177 (by omega) ?_
          have f180 := zf hS0 ha (k := 4) rfl
          have f181 := zf hS0 ha (k := 3) rfl
          have f182 := zf hS0 ha (k := 5) rfl
          have f183 := zf hS0 ha (k := 0) rfl
          have f184 := zf hS0 ha (k := 7) rfl
          have f185 := zf hS0 ha (k := 22) rfl
          have f186 := zf hS0 ha (k := 23) rfl
          have f187 := zf hS0 ha (k := 24) rfl
          have f188 := zf hS0 ha (k := 38) rfl
          have f189 := zf hS0 ha (k := 51) rfl
          have f190 := zf hS0 ha (k := 52) rfl
          refine j_callV hx hG (c_X12_readNumber_p hst a 0 ((s0 a 21) - 1)) lk_RX12_219 ha (by decide) rfl rfl rfl rfl [.int (zI 0), .int (zI ((s0 a 21) - 1))] ⟨rfl, hG, hS0, ha, (by omega), (by omega), (by omega)⟩ rfl rfl ⟨by decide, by decide⟩ ⟨by decide, by decide⟩ (k2 := 0) (n2 := 0) rfl rfl (Nat.le_of_ble_eq_true rfl) dX12_readClause_178 (kIM (fun v191 s10 hS_s10 hF_s10 q192 => ?_))
          refine j_istore_n hx [(2, .int (zI v191)), (0, .ref a), (1, .int (zI x1))] dX12_readClause_181 (by decide) rfl ?_
          refine j_aload_n hx 1 dX12_readClause_182 rfl ?_
          refine j_iconst hx dX12_readClause_183 ?_
          refine j_aload_n hx 1 dX12_readClause_184 rfl ?_
          refine g13_13 hx hG ha kf_RX12_32 dX12_readClause_185 ?_
          refine j_iload_n hx 0 dX12_readClause_188 rfl ?_
          have f193 := zaI (j := (v191).toNat) hS0 (zr (k := 13) (t2 := 76) hG ha rfl) rfl (zlen hG (zr (k := 13) (t2 := 76) hG ha rfl) (n := 3) rfl rfl) (show 0 ≤ v191 by omega) (by omega) rfl
          refine j_iald hx hG (zr (k := 13) (t2 := 76) hG ha rfl) (by decide) rfl (zlen hG (zr (k := 13) (t2 := 76) hG ha rfl) (n := 3) rfl rfl) (by omega) (by omega) (j := (v191).toNat) rfl (v := (s0 (gP G a 13) (v191).toNat)) (by rw [(zFr_g hF_s10 (zr (k := 13) (t2 := 76) hG ha rfl) (by decide))]) dX12_readClause_189 ?_
          have f194 := zf hS_s10 ha (k := 4) rfl
          have f195 := zf hS_s10 ha (k := 3) rfl
          have f196 := zf hS_s10 ha (k := 5) rfl
          have f197 := zf hS_s10 ha (k := 0) rfl
          have f198 := zf hS_s10 ha (k := 7) rfl
          have f199 := zf hS_s10 ha (k := 21) rfl
          have f200 := zf hS_s10 ha (k := 22) rfl
          have f201 := zf hS_s10 ha (k := 23) rfl
          have f202 := zf hS_s10 ha (k := 24) rfl
          have f203 := zf hS_s10 ha (k := 38) rfl
          have f204 := zf hS_s10 ha (k := 51) rfl
          have f205 := zf hS_s10 ha (k := 52) rfl
          refine j_callV hx hG (c_X12_readNumber hst a 0 ((s0 (gP G a 13) (v191).toNat))) lk_RX12_219 ha (by decide) rfl rfl rfl rfl [.int (zI 0), .int (zI ((s0 (gP G a 13) (v191).toNat)))] ⟨rfl, hG, hS_s10, ha, (by omega), (by omega), (by omega)⟩ rfl rfl ⟨by decide, by decide⟩ ⟨by decide, by decide⟩ (k2 := 0) (n2 := 0) rfl rfl (Nat.le_of_ble_eq_true rfl) dX12_readClause_190 (kIM (fun v206 s11 hS_s11 hF_s11 q207 => ?_))
          refine j_istore_n hx [(3, .int (zI v206)), (2, .int (zI v191)), (0, .ref a), (1, .int (zI x1))] dX12_readClause_193 (by decide) rfl ?_
          refine j_aload_n hx 2 dX12_readClause_194 rfl ?_
          refine j_callV hx hG (c_X12_fine hst a) lk_RX12_166 ha (by decide) rfl rfl rfl rfl [] ⟨rfl, hG, hS_s11, ha⟩ rfl rfl ⟨by decide, by decide⟩ ⟨by decide, by decide⟩ (k2 := 0) (n2 := 0) rfl rfl (Nat.le_of_ble_eq_true rfl) dX12_readClause_195 (kIP (fun v208 q209 => ?_))
          refine j_if_eq hx 227 dX12_readClause_198 rfl (by omega) (fun h210 => ?_) (fun h210 => ?_)
          · skip
            refine j_goto hx 306 dX12_readClause_227 rfl ?_
            have f211 := zf hS_s11 ha (k := 4) rfl
            have f212 := zf hS_s11 ha (k := 5) rfl
            have f213 := zf hS_s11 ha (k := 21) rfl
            have g214 : s11 (gP G a 13) 0 = s0 (gP G a 13) 0 := (by rw [(zFr_g hF_s11 (zr (k := 13) (t2 := 76) hG ha rfl) (by decide)), (zFr_g hF_s10 (zr (k := 13) (t2 := 76) hG ha rfl) (by decide))])
            have g215 : s11 (gP G a 13) 1 = s0 (gP G a 13) 1 := (by rw [(zFr_g hF_s11 (zr (k := 13) (t2 := 76) hG ha rfl) (by decide)), (zFr_g hF_s10 (zr (k := 13) (t2 := 76) hG ha rfl) (by decide))])
            have g216 : s11 (gP G a 13) 2 = s0 (gP G a 13) 2 := (by rw [(zFr_g hF_s11 (zr (k := 13) (t2 := 76) hG ha rfl) (by decide)), (zFr_g hF_s10 (zr (k := 13) (t2 := 76) hG ha rfl) (by decide))])
            have f217 := zf hS_s11 ha (k := 22) rfl
            have f218 := zf hS_s11 ha (k := 0) rfl
            have f219 := zf hS_s11 ha (k := 3) rfl
            have f220 := zf hS_s11 ha (k := 7) rfl
            have f221 := zf hS_s11 ha (k := 24) rfl
            have f222 := zf hS_s11 ha (k := 38) rfl
            have f223 := zf hS_s11 ha (k := 51) rfl
            have f224 := zf hS_s11 ha (k := 52) rfl
            exact j_vret hx hq rfl (by decide) (by decide) dX12_readClause_306 ⟨rfl, rfl, hS_s11, (zFr_t (zFr_t zFr_rf hF_s10 (by decide)) hF_s11 (by decide)), ⟨by omega, by omega, (by have q1 : s11 (gP G a 10) = s0 (gP G a 10) := (by rw [hF_s11 (gP G a 10) (by rw [(zr (k := 10) (t2 := 73) hG ha rfl)]; decide), hF_s10 (gP G a 10) (by rw [(zr (k := 10) (t2 := 73) hG ha rfl)]; decide)]); rw [q1]; exact (zQi_k e0 (by omega) (by omega))), by omega, by omega, by omega, by omega, by omega, by omega, by omega, by omega, by omega⟩⟩
          · skip
            refine j_aload_n hx 2 dX12_readClause_201 rfl ?_
            refine g13_14 hx hG ha kf_RX12_35 dX12_readClause_202 ?_
            refine j_iload_n hx 1 dX12_readClause_205 rfl ?_
            refine j_iload_n hx 0 dX12_readClause_206 rfl ?_
            refine j_aload_n hx 2 dX12_readClause_207 rfl ?_
            refine g13_14 hx hG ha kf_RX12_35 dX12_readClause_208 ?_
            refine j_iload_n hx 1 dX12_readClause_211 rfl ?_
            have f225 := zaI (j := (v191).toNat) hS0 (zr (k := 14) (t2 := 77) hG ha rfl) rfl (zlen hG (zr (k := 14) (t2 := 77) hG ha rfl) (n := 3) rfl rfl) (show 0 ≤ v191 by omega) (by omega) rfl
            refine j_iald hx hG (zr (k := 14) (t2 := 77) hG ha rfl) (by decide) rfl (zlen hG (zr (k := 14) (t2 := 77) hG ha rfl) (n := 3) rfl rfl) (by omega) (by omega) (j := (v191).toNat) rfl (v := (s0 (gP G a 14) (v191).toNat)) (by rw [(zFr_g hF_s11 (zr (k := 14) (t2 := 77) hG ha rfl) (by decide)), (zFr_g hF_s10 (zr (k := 14) (t2 := 77) hG ha rfl) (by decide))]) dX12_readClause_212 ?_
            refine j_icmp_le hx 220 dX12_readClause_213 rfl (by omega) (by omega) (fun h226 => ?_) (fun h226 => ?_)
            · skip
              refine j_aload_n hx 2 dX12_readClause_220 rfl ?_
              refine g13_14 hx hG ha kf_RX12_35 dX12_readClause_221 ?_
              refine j_iload_n hx 1 dX12_readClause_224 rfl ?_
              refine j_iald hx hG (zr (k := 14) (t2 := 77) hG ha rfl) (by decide) rfl (zlen hG (zr (k := 14) (t2 := 77) hG ha rfl) (n := 3) rfl rfl) (by omega) (by omega) (j := (v191).toNat) rfl (v := (s0 (gP G a 14) (v191).toNat)) (by rw [(zFr_g hF_s11 (zr (k := 14) (t2 := 77) hG ha rfl) (by decide)), (zFr_g hF_s10 (zr (k := 14) (t2 := 77) hG ha rfl) (by decide))]) dX12_readClause_225 ?_
              refine j_iast hx hG (zr (k := 14) (t2 := 77) hG ha rfl) (by decide) rfl (zlen hG (zr (k := 14) (t2 := 77) hG ha rfl) (n := 3) rfl rfl) (by omega) (by omega) (j := (v191).toNat) rfl dX12_readClause_226 ?_
              obtain ⟨s12, e_s12⟩ : ∃ z, z = zU s11 (gP G a 14) (v191).toNat ((s0 (gP G a 14) (v191).toNat)) := ⟨_, rfl⟩
              rw [← e_s12]
              have hS_s12 : zSK G s12 := by rw [e_s12]; exact zSK_A hS_s11 (zr (k := 14) (t2 := 77) hG ha rfl) rfl rfl rfl (by omega)
              refine j_goto hx 306 dX12_readClause_227 rfl ?_
              have g227 : s12 a 4 = s11 a 4 := (by rw [e_s12, zU_at (Or.inl (zne (zr (k := 14) (t2 := 77) hG ha rfl) ha (by decide)))])
              have f228 := zf hS_s11 ha (k := 4) rfl
              have g229 : s12 a 5 = s11 a 5 := (by rw [e_s12, zU_at (Or.inl (zne (zr (k := 14) (t2 := 77) hG ha rfl) ha (by decide)))])
              have f230 := zf hS_s11 ha (k := 5) rfl
              have g231 : s12 a 21 = s11 a 21 := (by rw [e_s12, zU_at (Or.inl (zne (zr (k := 14) (t2 := 77) hG ha rfl) ha (by decide)))])
              have f232 := zf hS_s11 ha (k := 21) rfl
              have g233 : s12 (gP G a 13) 0 = s0 (gP G a 13) 0 := (by rw [e_s12, zU_at (Or.inl (zne (zr (k := 14) (t2 := 77) hG ha rfl) (zr (k := 13) (t2 := 76) hG ha rfl) (by decide))), (zFr_g hF_s11 (zr (k := 13) (t2 := 76) hG ha rfl) (by decide)), (zFr_g hF_s10 (zr (k := 13) (t2 := 76) hG ha rfl) (by decide))])
              have g234 : s12 (gP G a 13) 1 = s0 (gP G a 13) 1 := (by rw [e_s12, zU_at (Or.inl (zne (zr (k := 14) (t2 := 77) hG ha rfl) (zr (k := 13) (t2 := 76) hG ha rfl) (by decide))), (zFr_g hF_s11 (zr (k := 13) (t2 := 76) hG ha rfl) (by decide)), (zFr_g hF_s10 (zr (k := 13) (t2 := 76) hG ha rfl) (by decide))])
              have g235 : s12 (gP G a 13) 2 = s0 (gP G a 13) 2 := (by rw [e_s12, zU_at (Or.inl (zne (zr (k := 14) (t2 := 77) hG ha rfl) (zr (k := 13) (t2 := 76) hG ha rfl) (by decide))), (zFr_g hF_s11 (zr (k := 13) (t2 := 76) hG ha rfl) (by decide)), (zFr_g hF_s10 (zr (k := 13) (t2 := 76) hG ha rfl) (by decide))])
              have g236 : s12 a 22 = s11 a 22 := (by rw [e_s12, zU_at (Or.inl (zne (zr (k := 14) (t2 := 77) hG ha rfl) ha (by decide)))])
              have f237 := zf hS_s11 ha (k := 22) rfl
              have g238 : s12 a 0 = s11 a 0 := (by rw [e_s12, zU_at (Or.inl (zne (zr (k := 14) (t2 := 77) hG ha rfl) ha (by decide)))])
              have f239 := zf hS_s11 ha (k := 0) rfl
              have g240 : s12 a 3 = s11 a 3 := (by rw [e_s12, zU_at (Or.inl (zne (zr (k := 14) (t2 := 77) hG ha rfl) ha (by decide)))])
              have f241 := zf hS_s11 ha (k := 3) rfl
              have g242 : s12 a 7 = s11 a 7 := (by rw [e_s12, zU_at (Or.inl (zne (zr (k := 14) (t2 := 77) hG ha rfl) ha (by decide)))])
              have f243 := zf hS_s11 ha (k := 7) rfl
              have g244 : s12 a 24 = s11 a 24 := (by rw [e_s12, zU_at (Or.inl (zne (zr (k := 14) (t2 := 77) hG ha rfl) ha (by decide)))])
              have f245 := zf hS_s11 ha (k := 24) rfl
              have g246 : s12 a 38 = s11 a 38 := (by rw [e_s12, zU_at (Or.inl (zne (zr (k := 14) (t2 := 77) hG ha rfl) ha (by decide)))])
              have f247 := zf hS_s11 ha (k := 38) rfl
              have g248 : s12 a 51 = s11 a 51 := (by rw [e_s12, zU_at (Or.inl (zne (zr (k := 14) (t2 := 77) hG ha rfl) ha (by decide)))])
              have f249 := zf hS_s11 ha (k := 51) rfl
              have g250 : s12 a 52 = s11 a 52 := (by rw [e_s12, zU_at (Or.inl (zne (zr (k := 14) (t2 := 77) hG ha rfl) ha (by decide)))])
              have f251 := zf hS_s11 ha (k := 52) rfl
              exact j_vret hx hq rfl (by decide) (by decide) dX12_readClause_306 ⟨rfl, rfl, hS_s12, (zFr_u (zFr_t (zFr_t zFr_rf hF_s10 (by decide)) hF_s11 (by decide)) e_s12 (zr (k := 14) (t2 := 77) hG ha rfl) (by decide)), ⟨by omega, by omega, (by have q1 : s12 (gP G a 10) = s0 (gP G a 10) := (by rw [e_s12, zU_ne (zne (zr (k := 14) (t2 := 77) hG ha rfl) (zr (k := 10) (t2 := 73) hG ha rfl) (by decide)), hF_s11 (gP G a 10) (by rw [(zr (k := 10) (t2 := 73) hG ha rfl)]; decide), hF_s10 (gP G a 10) (by rw [(zr (k := 10) (t2 := 73) hG ha rfl)]; decide)]); rw [q1]; exact (zQi_k e0 (by omega) (by omega))), by omega, by omega, by omega, by omega, by omega, by omega, by omega, by omega, by omega⟩⟩
            · skip
              refine j_iload_n hx 0 dX12_readClause_216 rfl ?_
              refine j_goto hx 226 dX12_readClause_217 rfl ?_
              refine j_iast hx hG (zr (k := 14) (t2 := 77) hG ha rfl) (by decide) rfl (zlen hG (zr (k := 14) (t2 := 77) hG ha rfl) (n := 3) rfl rfl) (by omega) (by omega) (j := (v191).toNat) rfl dX12_readClause_226 ?_
              obtain ⟨s13, e_s13⟩ : ∃ z, z = zU s11 (gP G a 14) (v191).toNat v206 := ⟨_, rfl⟩
              rw [← e_s13]
              have hS_s13 : zSK G s13 := by rw [e_s13]; exact zSK_A hS_s11 (zr (k := 14) (t2 := 77) hG ha rfl) rfl rfl rfl (by omega)
              refine j_goto hx 306 dX12_readClause_227 rfl ?_
              have g252 : s13 a 4 = s11 a 4 := (by rw [e_s13, zU_at (Or.inl (zne (zr (k := 14) (t2 := 77) hG ha rfl) ha (by decide)))])
              have f253 := zf hS_s11 ha (k := 4) rfl
              have g254 : s13 a 5 = s11 a 5 := (by rw [e_s13, zU_at (Or.inl (zne (zr (k := 14) (t2 := 77) hG ha rfl) ha (by decide)))])
              have f255 := zf hS_s11 ha (k := 5) rfl
              have g256 : s13 a 21 = s11 a 21 := (by rw [e_s13, zU_at (Or.inl (zne (zr (k := 14) (t2 := 77) hG ha rfl) ha (by decide)))])
              have f257 := zf hS_s11 ha (k := 21) rfl
              have g258 : s13 (gP G a 13) 0 = s0 (gP G a 13) 0 := (by rw [e_s13, zU_at (Or.inl (zne (zr (k := 14) (t2 := 77) hG ha rfl) (zr (k := 13) (t2 := 76) hG ha rfl) (by decide))), (zFr_g hF_s11 (zr (k := 13) (t2 := 76) hG ha rfl) (by decide)), (zFr_g hF_s10 (zr (k := 13) (t2 := 76) hG ha rfl) (by decide))])
              have g259 : s13 (gP G a 13) 1 = s0 (gP G a 13) 1 := (by rw [e_s13, zU_at (Or.inl (zne (zr (k := 14) (t2 := 77) hG ha rfl) (zr (k := 13) (t2 := 76) hG ha rfl) (by decide))), (zFr_g hF_s11 (zr (k := 13) (t2 := 76) hG ha rfl) (by decide)), (zFr_g hF_s10 (zr (k := 13) (t2 := 76) hG ha rfl) (by decide))])
              have g260 : s13 (gP G a 13) 2 = s0 (gP G a 13) 2 := (by rw [e_s13, zU_at (Or.inl (zne (zr (k := 14) (t2 := 77) hG ha rfl) (zr (k := 13) (t2 := 76) hG ha rfl) (by decide))), (zFr_g hF_s11 (zr (k := 13) (t2 := 76) hG ha rfl) (by decide)), (zFr_g hF_s10 (zr (k := 13) (t2 := 76) hG ha rfl) (by decide))])
              have g261 : s13 a 22 = s11 a 22 := (by rw [e_s13, zU_at (Or.inl (zne (zr (k := 14) (t2 := 77) hG ha rfl) ha (by decide)))])
              have f262 := zf hS_s11 ha (k := 22) rfl
              have g263 : s13 a 0 = s11 a 0 := (by rw [e_s13, zU_at (Or.inl (zne (zr (k := 14) (t2 := 77) hG ha rfl) ha (by decide)))])
              have f264 := zf hS_s11 ha (k := 0) rfl
              have g265 : s13 a 3 = s11 a 3 := (by rw [e_s13, zU_at (Or.inl (zne (zr (k := 14) (t2 := 77) hG ha rfl) ha (by decide)))])
              have f266 := zf hS_s11 ha (k := 3) rfl
              have g267 : s13 a 7 = s11 a 7 := (by rw [e_s13, zU_at (Or.inl (zne (zr (k := 14) (t2 := 77) hG ha rfl) ha (by decide)))])
              have f268 := zf hS_s11 ha (k := 7) rfl
              have g269 : s13 a 24 = s11 a 24 := (by rw [e_s13, zU_at (Or.inl (zne (zr (k := 14) (t2 := 77) hG ha rfl) ha (by decide)))])
              have f270 := zf hS_s11 ha (k := 24) rfl
              have g271 : s13 a 38 = s11 a 38 := (by rw [e_s13, zU_at (Or.inl (zne (zr (k := 14) (t2 := 77) hG ha rfl) ha (by decide)))])
              have f272 := zf hS_s11 ha (k := 38) rfl
              have g273 : s13 a 51 = s11 a 51 := (by rw [e_s13, zU_at (Or.inl (zne (zr (k := 14) (t2 := 77) hG ha rfl) ha (by decide)))])
              have f274 := zf hS_s11 ha (k := 51) rfl
              have g275 : s13 a 52 = s11 a 52 := (by rw [e_s13, zU_at (Or.inl (zne (zr (k := 14) (t2 := 77) hG ha rfl) ha (by decide)))])
              have f276 := zf hS_s11 ha (k := 52) rfl
              exact j_vret hx hq rfl (by decide) (by decide) dX12_readClause_306 ⟨rfl, rfl, hS_s13, (zFr_u (zFr_t (zFr_t zFr_rf hF_s10 (by decide)) hF_s11 (by decide)) e_s13 (zr (k := 14) (t2 := 77) hG ha rfl) (by decide)), ⟨by omega, by omega, (by have q1 : s13 (gP G a 10) = s0 (gP G a 10) := (by rw [e_s13, zU_ne (zne (zr (k := 14) (t2 := 77) hG ha rfl) (zr (k := 10) (t2 := 73) hG ha rfl) (by decide)), hF_s11 (gP G a 10) (by rw [(zr (k := 10) (t2 := 73) hG ha rfl)]; decide), hF_s10 (gP G a 10) (by rw [(zr (k := 10) (t2 := 73) hG ha rfl)]; decide)]); rw [q1]; exact (zQi_k e0 (by omega) (by omega))), by omega, by omega, by omega, by omega, by omega, by omega, by omega, by omega, by omega⟩⟩
      · skip
        refine j_aload_n hx 0 dX12_readClause_124 rfl ?_
        refine j_iconst hx dX12_readClause_125 ?_
        refine j_aload_n hx 0 dX12_readClause_126 rfl ?_
        have f277 := zf hS0 ha (k := 21) rfl
        refine g13_21 hx hG ha kf_RX12_180 rfl dX12_readClause_127 ?_
        refine j_iconst hx dX12_readClause_130 ?_
        refine j_isub hx (r := (s0 a 21) - 1) dX12_readClause_131 (by omega) ?_
        have f278 := zf hS0 ha (k := 4) rfl
        have f279 := zf hS0 ha (k := 3) rfl
        have f280 := zf hS0 ha (k := 5) rfl
        have f281 := zf hS0 ha (k := 0) rfl
        have f282 := zf hS0 ha (k := 7) rfl
        have f283 := zf hS0 ha (k := 22) rfl
        have f284 := zf hS0 ha (k := 23) rfl
        have f285 := zf hS0 ha (k := 24) rfl
        have f286 := zf hS0 ha (k := 38) rfl
        have f287 := zf hS0 ha (k := 51) rfl
        have f288 := zf hS0 ha (k := 52) rfl
        refine j_callV hx hG (c_X12_readNumber_p hst a 0 ((s0 a 21) - 1)) lk_RX12_219 ha (by decide) rfl rfl rfl rfl [.int (zI 0), .int (zI ((s0 a 21) - 1))] ⟨rfl, hG, hS0, ha, (by omega), (by omega), (by omega)⟩ rfl rfl ⟨by decide, by decide⟩ ⟨by decide, by decide⟩ (k2 := 0) (n2 := 0) rfl rfl (Nat.le_of_ble_eq_true rfl) dX12_readClause_132 (kIM (fun v289 s14 hS_s14 hF_s14 q290 => ?_))
        refine j_istore_n hx [(2, .int (zI v289)), (0, .ref a), (1, .int (zI x1))] dX12_readClause_135 (by decide) rfl ?_
        refine j_aload_n hx 1 dX12_readClause_136 rfl ?_
        refine j_iconst hx dX12_readClause_137 ?_
        refine j_bipush hx dX12_readClause_138 rfl ?_
        have f291 := zf hS_s14 ha (k := 4) rfl
        have f292 := zf hS_s14 ha (k := 3) rfl
        have f293 := zf hS_s14 ha (k := 5) rfl
        have f294 := zf hS_s14 ha (k := 0) rfl
        have f295 := zf hS_s14 ha (k := 7) rfl
        have f296 := zf hS_s14 ha (k := 21) rfl
        have f297 := zf hS_s14 ha (k := 22) rfl
        have f298 := zf hS_s14 ha (k := 23) rfl
        have f299 := zf hS_s14 ha (k := 24) rfl
        have f300 := zf hS_s14 ha (k := 38) rfl
        have f301 := zf hS_s14 ha (k := 51) rfl
        have f302 := zf hS_s14 ha (k := 52) rfl
        refine j_callV hx hG (c_X12_readNumber hst a 1 9) lk_RX12_219 ha (by decide) rfl rfl rfl rfl [.int (zI 1), .int (zI 9)] ⟨rfl, hG, hS_s14, ha, (by omega), (by omega), (by omega)⟩ rfl rfl ⟨by decide, by decide⟩ ⟨by decide, by decide⟩ (k2 := 0) (n2 := 0) rfl rfl (Nat.le_of_ble_eq_true rfl) dX12_readClause_140 (kIM (fun v303 s15 hS_s15 hF_s15 q304 => ?_))
        refine j_istore_n hx [(3, .int (zI v303)), (2, .int (zI v289)), (0, .ref a), (1, .int (zI x1))] dX12_readClause_143 (by decide) rfl ?_
        refine j_aload_n hx 2 dX12_readClause_144 rfl ?_
        refine j_callV hx hG (c_X12_fine hst a) lk_RX12_166 ha (by decide) rfl rfl rfl rfl [] ⟨rfl, hG, hS_s15, ha⟩ rfl rfl ⟨by decide, by decide⟩ ⟨by decide, by decide⟩ (k2 := 0) (n2 := 0) rfl rfl (Nat.le_of_ble_eq_true rfl) dX12_readClause_145 (kIP (fun v305 q306 => ?_))
        refine j_if_eq hx 158 dX12_readClause_148 rfl (by omega) (fun h307 => ?_) (fun h307 => ?_)
        · skip
          refine j_goto hx 306 dX12_readClause_158 rfl ?_
          have f308 := zf hS_s15 ha (k := 4) rfl
          have f309 := zf hS_s15 ha (k := 5) rfl
          have f310 := zf hS_s15 ha (k := 21) rfl
          have g311 : s15 (gP G a 13) 0 = s0 (gP G a 13) 0 := (by rw [(zFr_g hF_s15 (zr (k := 13) (t2 := 76) hG ha rfl) (by decide)), (zFr_g hF_s14 (zr (k := 13) (t2 := 76) hG ha rfl) (by decide))])
          have g312 : s15 (gP G a 13) 1 = s0 (gP G a 13) 1 := (by rw [(zFr_g hF_s15 (zr (k := 13) (t2 := 76) hG ha rfl) (by decide)), (zFr_g hF_s14 (zr (k := 13) (t2 := 76) hG ha rfl) (by decide))])
          have g313 : s15 (gP G a 13) 2 = s0 (gP G a 13) 2 := (by rw [(zFr_g hF_s15 (zr (k := 13) (t2 := 76) hG ha rfl) (by decide)), (zFr_g hF_s14 (zr (k := 13) (t2 := 76) hG ha rfl) (by decide))])
          have f314 := zf hS_s15 ha (k := 22) rfl
          have f315 := zf hS_s15 ha (k := 0) rfl
          have f316 := zf hS_s15 ha (k := 3) rfl
          have f317 := zf hS_s15 ha (k := 7) rfl
          have f318 := zf hS_s15 ha (k := 24) rfl
          have f319 := zf hS_s15 ha (k := 38) rfl
          have f320 := zf hS_s15 ha (k := 51) rfl
          have f321 := zf hS_s15 ha (k := 52) rfl
          exact j_vret hx hq rfl (by decide) (by decide) dX12_readClause_306 ⟨rfl, rfl, hS_s15, (zFr_t (zFr_t zFr_rf hF_s14 (by decide)) hF_s15 (by decide)), ⟨by omega, by omega, (by have q1 : s15 (gP G a 10) = s0 (gP G a 10) := (by rw [hF_s15 (gP G a 10) (by rw [(zr (k := 10) (t2 := 73) hG ha rfl)]; decide), hF_s14 (gP G a 10) (by rw [(zr (k := 10) (t2 := 73) hG ha rfl)]; decide)]); rw [q1]; exact (zQi_k e0 (by omega) (by omega))), by omega, by omega, by omega, by omega, by omega, by omega, by omega, by omega, by omega⟩⟩
        · skip
          refine j_aload_n hx 2 dX12_readClause_151 rfl ?_
          refine g13_11 hx hG ha kf_RX12_26 dX12_readClause_152 ?_
          refine j_iload_n hx 1 dX12_readClause_155 rfl ?_
          refine j_iload_n hx 0 dX12_readClause_156 rfl ?_
          refine j_iast hx hG (zr (k := 11) (t2 := 74) hG ha rfl) (by decide) rfl (zlen hG (zr (k := 11) (t2 := 74) hG ha rfl) (n := 3) rfl rfl) (by omega) (by omega) (j := (v289).toNat) rfl dX12_readClause_157 ?_
          obtain ⟨s16, e_s16⟩ : ∃ z, z = zU s15 (gP G a 11) (v289).toNat v303 := ⟨_, rfl⟩
          rw [← e_s16]
          have hS_s16 : zSK G s16 := by rw [e_s16]; exact zSK_A hS_s15 (zr (k := 11) (t2 := 74) hG ha rfl) rfl rfl rfl (by omega)
          refine j_goto hx 306 dX12_readClause_158 rfl ?_
          have g322 : s16 a 4 = s15 a 4 := (by rw [e_s16, zU_at (Or.inl (zne (zr (k := 11) (t2 := 74) hG ha rfl) ha (by decide)))])
          have f323 := zf hS_s15 ha (k := 4) rfl
          have g324 : s16 a 5 = s15 a 5 := (by rw [e_s16, zU_at (Or.inl (zne (zr (k := 11) (t2 := 74) hG ha rfl) ha (by decide)))])
          have f325 := zf hS_s15 ha (k := 5) rfl
          have g326 : s16 a 21 = s15 a 21 := (by rw [e_s16, zU_at (Or.inl (zne (zr (k := 11) (t2 := 74) hG ha rfl) ha (by decide)))])
          have f327 := zf hS_s15 ha (k := 21) rfl
          have g328 : s16 (gP G a 13) 0 = s0 (gP G a 13) 0 := (by rw [e_s16, zU_at (Or.inl (zne (zr (k := 11) (t2 := 74) hG ha rfl) (zr (k := 13) (t2 := 76) hG ha rfl) (by decide))), (zFr_g hF_s15 (zr (k := 13) (t2 := 76) hG ha rfl) (by decide)), (zFr_g hF_s14 (zr (k := 13) (t2 := 76) hG ha rfl) (by decide))])
          have g329 : s16 (gP G a 13) 1 = s0 (gP G a 13) 1 := (by rw [e_s16, zU_at (Or.inl (zne (zr (k := 11) (t2 := 74) hG ha rfl) (zr (k := 13) (t2 := 76) hG ha rfl) (by decide))), (zFr_g hF_s15 (zr (k := 13) (t2 := 76) hG ha rfl) (by decide)), (zFr_g hF_s14 (zr (k := 13) (t2 := 76) hG ha rfl) (by decide))])
          have g330 : s16 (gP G a 13) 2 = s0 (gP G a 13) 2 := (by rw [e_s16, zU_at (Or.inl (zne (zr (k := 11) (t2 := 74) hG ha rfl) (zr (k := 13) (t2 := 76) hG ha rfl) (by decide))), (zFr_g hF_s15 (zr (k := 13) (t2 := 76) hG ha rfl) (by decide)), (zFr_g hF_s14 (zr (k := 13) (t2 := 76) hG ha rfl) (by decide))])
          have g331 : s16 a 22 = s15 a 22 := (by rw [e_s16, zU_at (Or.inl (zne (zr (k := 11) (t2 := 74) hG ha rfl) ha (by decide)))])
          have f332 := zf hS_s15 ha (k := 22) rfl
          have g333 : s16 a 0 = s15 a 0 := (by rw [e_s16, zU_at (Or.inl (zne (zr (k := 11) (t2 := 74) hG ha rfl) ha (by decide)))])
          have f334 := zf hS_s15 ha (k := 0) rfl
          have g335 : s16 a 3 = s15 a 3 := (by rw [e_s16, zU_at (Or.inl (zne (zr (k := 11) (t2 := 74) hG ha rfl) ha (by decide)))])
          have f336 := zf hS_s15 ha (k := 3) rfl
          have g337 : s16 a 7 = s15 a 7 := (by rw [e_s16, zU_at (Or.inl (zne (zr (k := 11) (t2 := 74) hG ha rfl) ha (by decide)))])
          have f338 := zf hS_s15 ha (k := 7) rfl
          have g339 : s16 a 24 = s15 a 24 := (by rw [e_s16, zU_at (Or.inl (zne (zr (k := 11) (t2 := 74) hG ha rfl) ha (by decide)))])
          have f340 := zf hS_s15 ha (k := 24) rfl
          have g341 : s16 a 38 = s15 a 38 := (by rw [e_s16, zU_at (Or.inl (zne (zr (k := 11) (t2 := 74) hG ha rfl) ha (by decide)))])
          have f342 := zf hS_s15 ha (k := 38) rfl
          have g343 : s16 a 51 = s15 a 51 := (by rw [e_s16, zU_at (Or.inl (zne (zr (k := 11) (t2 := 74) hG ha rfl) ha (by decide)))])
          have f344 := zf hS_s15 ha (k := 51) rfl
          have g345 : s16 a 52 = s15 a 52 := (by rw [e_s16, zU_at (Or.inl (zne (zr (k := 11) (t2 := 74) hG ha rfl) ha (by decide)))])
          have f346 := zf hS_s15 ha (k := 52) rfl
          exact j_vret hx hq rfl (by decide) (by decide) dX12_readClause_306 ⟨rfl, rfl, hS_s16, (zFr_u (zFr_t (zFr_t zFr_rf hF_s14 (by decide)) hF_s15 (by decide)) e_s16 (zr (k := 11) (t2 := 74) hG ha rfl) (by decide)), ⟨by omega, by omega, (by have q1 : s16 (gP G a 10) = s0 (gP G a 10) := (by rw [e_s16, zU_ne (zne (zr (k := 11) (t2 := 74) hG ha rfl) (zr (k := 10) (t2 := 73) hG ha rfl) (by decide)), hF_s15 (gP G a 10) (by rw [(zr (k := 10) (t2 := 73) hG ha rfl)]; decide), hF_s14 (gP G a 10) (by rw [(zr (k := 10) (t2 := 73) hG ha rfl)]; decide)]); rw [q1]; exact (zQi_k e0 (by omega) (by omega))), by omega, by omega, by omega, by omega, by omega, by omega, by omega, by omega, by omega⟩⟩
    · skip
      refine j_aload_n hx 0 dX12_readClause_95 rfl ?_
      refine j_iconst hx dX12_readClause_96 ?_
      refine j_aload_n hx 0 dX12_readClause_97 rfl ?_
      have f347 := zf hS0 ha (k := 21) rfl
      refine g13_21 hx hG ha kf_RX12_180 rfl dX12_readClause_98 ?_
      refine j_iconst hx dX12_readClause_101 ?_
      refine j_isub hx (r := (s0 a 21) - 1) dX12_readClause_102 (by omega) ?_
      have f348 := zf hS0 ha (k := 4) rfl
      have f349 := zf hS0 ha (k := 3) rfl
      have f350 := zf hS0 ha (k := 5) rfl
      have f351 := zf hS0 ha (k := 0) rfl
      have f352 := zf hS0 ha (k := 7) rfl
      have f353 := zf hS0 ha (k := 22) rfl
      have f354 := zf hS0 ha (k := 23) rfl
      have f355 := zf hS0 ha (k := 24) rfl
      have f356 := zf hS0 ha (k := 38) rfl
      have f357 := zf hS0 ha (k := 51) rfl
      have f358 := zf hS0 ha (k := 52) rfl
      refine j_callV hx hG (c_X12_readNumber_p hst a 0 ((s0 a 21) - 1)) lk_RX12_219 ha (by decide) rfl rfl rfl rfl [.int (zI 0), .int (zI ((s0 a 21) - 1))] ⟨rfl, hG, hS0, ha, (by omega), (by omega), (by omega)⟩ rfl rfl ⟨by decide, by decide⟩ ⟨by decide, by decide⟩ (k2 := 0) (n2 := 0) rfl rfl (Nat.le_of_ble_eq_true rfl) dX12_readClause_103 (kIM (fun v359 s17 hS_s17 hF_s17 q360 => ?_))
      refine j_istore_n hx [(2, .int (zI v359)), (0, .ref a), (1, .int (zI x1))] dX12_readClause_106 (by decide) rfl ?_
      refine j_aload_n hx 1 dX12_readClause_107 rfl ?_
      refine j_iload_n hx 0 dX12_readClause_108 rfl ?_
      have g361 : s17 (gP G a 13) 0 = s0 (gP G a 13) 0 := (by rw [(zFr_g hF_s17 (zr (k := 13) (t2 := 76) hG ha rfl) (by decide))])
      have g362 : s17 (gP G a 13) 1 = s0 (gP G a 13) 1 := (by rw [(zFr_g hF_s17 (zr (k := 13) (t2 := 76) hG ha rfl) (by decide))])
      have g363 : s17 (gP G a 13) 2 = s0 (gP G a 13) 2 := (by rw [(zFr_g hF_s17 (zr (k := 13) (t2 := 76) hG ha rfl) (by decide))])
      have f364 := zf hS_s17 ha (k := 22) rfl
      have f365 := zf hS_s17 ha (k := 4) rfl
      have f366 := zf hS_s17 ha (k := 3) rfl
      have f367 := zf hS_s17 ha (k := 5) rfl
      have f368 := zf hS_s17 ha (k := 0) rfl
      have f369 := zf hS_s17 ha (k := 7) rfl
      have f370 := zf hS_s17 ha (k := 21) rfl
      have f371 := zf hS_s17 ha (k := 23) rfl
      have f372 := zf hS_s17 ha (k := 24) rfl
      have f373 := zf hS_s17 ha (k := 38) rfl
      have f374 := zf hS_s17 ha (k := 51) rfl
      have f375 := zf hS_s17 ha (k := 52) rfl
      refine j_callV hx hG (c_X12_readCards hst a v359) lk_RX12_225 ha (by decide) rfl rfl rfl rfl [.int (zI v359)] ⟨rfl, hG, hS_s17, ha, (by omega), (by omega), (by omega)⟩ rfl rfl ⟨by decide, by decide⟩ ⟨by decide, by decide⟩ (k2 := 0) (n2 := 0) rfl rfl (Nat.le_of_ble_eq_true rfl) dX12_readClause_109 (kVM (fun s18 hS_s18 hF_s18 q377 => ?_))
      refine j_goto hx 306 dX12_readClause_112 rfl ?_
      have f378 := zf hS_s18 ha (k := 4) rfl
      have f379 := zf hS_s18 ha (k := 5) rfl
      have f380 := zf hS_s18 ha (k := 21) rfl
      have f381 := zf hS_s18 ha (k := 22) rfl
      have f382 := zf hS_s18 ha (k := 0) rfl
      have f383 := zf hS_s18 ha (k := 3) rfl
      have f384 := zf hS_s18 ha (k := 7) rfl
      have f385 := zf hS_s18 ha (k := 24) rfl
      have f386 := zf hS_s18 ha (k := 38) rfl
      have f387 := zf hS_s18 ha (k := 51) rfl
      have f388 := zf hS_s18 ha (k := 52) rfl
      exact j_vret hx hq rfl (by decide) (by decide) dX12_readClause_306 ⟨rfl, rfl, hS_s18, (zFr_t (zFr_t zFr_rf hF_s17 (by decide)) hF_s18 (by decide)), ⟨by omega, by omega, (by have q1 : s18 (gP G a 10) = s0 (gP G a 10) := (by rw [hF_s18 (gP G a 10) (by rw [(zr (k := 10) (t2 := 73) hG ha rfl)]; decide), hF_s17 (gP G a 10) (by rw [(zr (k := 10) (t2 := 73) hG ha rfl)]; decide)]); rw [q1]; exact (zQi_k e0 (by omega) (by omega))), by omega, by omega, by omega, by omega, by omega, by omega, by omega, by omega, by omega⟩⟩
  · skip
    refine j_iconst hx dX12_readClause_9 ?_
    refine j_aload_n hx 0 dX12_readClause_10 rfl ?_
    have f389 := zf hS0 ha (k := 21) rfl
    refine g13_21 hx hG ha kf_RX12_180 rfl dX12_readClause_11 ?_
    refine j_imul hx (r := 4 * (s0 a 21)) dX12_readClause_14 (by omega) ?_
    refine j_istore_n hx [(2, .int (zI (4 * (s0 a 21)))), (0, .ref a), (1, .int (zI x1))] dX12_readClause_15 (by decide) rfl ?_
    refine j_aload_n hx 1 dX12_readClause_16 rfl ?_
    refine g13_10 hx hG ha kf_RX12_23 dX12_readClause_17 ?_
    refine j_iload_n hx 0 dX12_readClause_20 rfl ?_
    refine j_aload_n hx 1 dX12_readClause_21 rfl ?_
    refine j_iconst hx dX12_readClause_22 ?_
    refine j_bipush hx dX12_readClause_23 rfl ?_
    have f390 := zf hS0 ha (k := 4) rfl
    have f391 := zf hS0 ha (k := 3) rfl
    have f392 := zf hS0 ha (k := 5) rfl
    have f393 := zf hS0 ha (k := 0) rfl
    have f394 := zf hS0 ha (k := 7) rfl
    have f395 := zf hS0 ha (k := 22) rfl
    have f396 := zf hS0 ha (k := 23) rfl
    have f397 := zf hS0 ha (k := 24) rfl
    have f398 := zf hS0 ha (k := 38) rfl
    have f399 := zf hS0 ha (k := 51) rfl
    have f400 := zf hS0 ha (k := 52) rfl
    refine j_callV hx hG (c_X12_readNumber hst a 1 9) lk_RX12_219 ha (by decide) rfl rfl rfl rfl [.int (zI 1), .int (zI 9)] ⟨rfl, hG, hS0, ha, (by omega), (by omega), (by omega)⟩ rfl rfl ⟨by decide, by decide⟩ ⟨by decide, by decide⟩ (k2 := 0) (n2 := 0) rfl rfl (Nat.le_of_ble_eq_true rfl) dX12_readClause_25 (kIM (fun v401 s19 hS_s19 hF_s19 q402 => ?_))
    refine j_iast hx hG (zr (k := 10) (t2 := 73) hG ha rfl) (by decide) rfl (zlen hG (zr (k := 10) (t2 := 73) hG ha rfl) (n := 12) rfl rfl) (by omega) (by omega) (j := (4 * (s0 a 21)).toNat) rfl dX12_readClause_28 ?_
    obtain ⟨s20, e_s20⟩ : ∃ z, z = zU s19 (gP G a 10) (4 * (s0 a 21)).toNat v401 := ⟨_, rfl⟩
    rw [← e_s20]
    have hS_s20 : zSK G s20 := by rw [e_s20]; exact zSK_A hS_s19 (zr (k := 10) (t2 := 73) hG ha rfl) rfl rfl rfl (by omega)
    have g403 : s20 a 5 = s19 a 5 := (by rw [e_s20, zU_at (Or.inl (zne (zr (k := 10) (t2 := 73) hG ha rfl) ha (by decide)))])
    have f404 := zf hS_s19 ha (k := 5) rfl
    have g405 : s20 a 21 = s19 a 21 := (by rw [e_s20, zU_at (Or.inl (zne (zr (k := 10) (t2 := 73) hG ha rfl) ha (by decide)))])
    have f406 := zf hS_s19 ha (k := 21) rfl
    have hP407 : zQi (s20 a 5) (s20 (gP G a 10)) (s0 a 21 + 1) := zQi_a (show zQi (s19 a 5) (s19 (gP G a 10)) (s0 a 21) from (by have q1 : s19 (gP G a 10) = s0 (gP G a 10) := (by rw [hF_s19 (gP G a 10) (by rw [(zr (k := 10) (t2 := 73) hG ha rfl)]; decide)]); rw [q1]; exact (zQi_k e0 (by omega) (by omega)))) e_s20 (b2 := s20 a 5) (by omega) (by omega)
    refine j_aload_n hx 1 dX12_readClause_29 rfl ?_
    refine g13_10 hx hG ha kf_RX12_23 dX12_readClause_30 ?_
    refine j_iload_n hx 0 dX12_readClause_33 rfl ?_
    refine j_iconst hx dX12_readClause_34 ?_
    refine j_iadd hx (r := 4 * (s0 a 21) + 1) dX12_readClause_35 (by omega) ?_
    refine j_aload_n hx 1 dX12_readClause_36 rfl ?_
    refine j_iconst hx dX12_readClause_37 ?_
    refine j_bipush hx dX12_readClause_38 rfl ?_
    have g408 : s20 a 4 = s19 a 4 := (by rw [e_s20, zU_at (Or.inl (zne (zr (k := 10) (t2 := 73) hG ha rfl) ha (by decide)))])
    have f409 := zf hS_s19 ha (k := 4) rfl
    have g410 : s20 a 3 = s19 a 3 := (by rw [e_s20, zU_at (Or.inl (zne (zr (k := 10) (t2 := 73) hG ha rfl) ha (by decide)))])
    have f411 := zf hS_s19 ha (k := 3) rfl
    have g412 : s20 a 0 = s19 a 0 := (by rw [e_s20, zU_at (Or.inl (zne (zr (k := 10) (t2 := 73) hG ha rfl) ha (by decide)))])
    have f413 := zf hS_s19 ha (k := 0) rfl
    have g414 : s20 a 7 = s19 a 7 := (by rw [e_s20, zU_at (Or.inl (zne (zr (k := 10) (t2 := 73) hG ha rfl) ha (by decide)))])
    have f415 := zf hS_s19 ha (k := 7) rfl
    have g416 : s20 a 22 = s19 a 22 := (by rw [e_s20, zU_at (Or.inl (zne (zr (k := 10) (t2 := 73) hG ha rfl) ha (by decide)))])
    have f417 := zf hS_s19 ha (k := 22) rfl
    have g418 : s20 a 23 = s19 a 23 := (by rw [e_s20, zU_at (Or.inl (zne (zr (k := 10) (t2 := 73) hG ha rfl) ha (by decide)))])
    have f419 := zf hS_s19 ha (k := 23) rfl
    have g420 : s20 a 24 = s19 a 24 := (by rw [e_s20, zU_at (Or.inl (zne (zr (k := 10) (t2 := 73) hG ha rfl) ha (by decide)))])
    have f421 := zf hS_s19 ha (k := 24) rfl
    have g422 : s20 a 38 = s19 a 38 := (by rw [e_s20, zU_at (Or.inl (zne (zr (k := 10) (t2 := 73) hG ha rfl) ha (by decide)))])
    have f423 := zf hS_s19 ha (k := 38) rfl
    have g424 : s20 a 51 = s19 a 51 := (by rw [e_s20, zU_at (Or.inl (zne (zr (k := 10) (t2 := 73) hG ha rfl) ha (by decide)))])
    have f425 := zf hS_s19 ha (k := 51) rfl
    have g426 : s20 a 52 = s19 a 52 := (by rw [e_s20, zU_at (Or.inl (zne (zr (k := 10) (t2 := 73) hG ha rfl) ha (by decide)))])
    have f427 := zf hS_s19 ha (k := 52) rfl
    refine j_callV hx hG (c_X12_readNumber hst a 0 60) lk_RX12_219 ha (by decide) rfl rfl rfl rfl [.int (zI 0), .int (zI 60)] ⟨rfl, hG, hS_s20, ha, (by omega), (by omega), (by omega)⟩ rfl rfl ⟨by decide, by decide⟩ ⟨by decide, by decide⟩ (k2 := 0) (n2 := 0) rfl rfl (Nat.le_of_ble_eq_true rfl) dX12_readClause_40 (kIM (fun v428 s21 hS_s21 hF_s21 q429 => ?_))
    refine j_iast hx hG (zr (k := 10) (t2 := 73) hG ha rfl) (by decide) rfl (zlen hG (zr (k := 10) (t2 := 73) hG ha rfl) (n := 12) rfl rfl) (by omega) (by omega) (j := (4 * (s0 a 21) + 1).toNat) rfl dX12_readClause_43 ?_
    obtain ⟨s22, e_s22⟩ : ∃ z, z = zU s21 (gP G a 10) (4 * (s0 a 21) + 1).toNat v428 := ⟨_, rfl⟩
    rw [← e_s22]
    have hS_s22 : zSK G s22 := by rw [e_s22]; exact zSK_A hS_s21 (zr (k := 10) (t2 := 73) hG ha rfl) rfl rfl rfl (by omega)
    have hP430 : zQi (s21 a 5) (s22 (gP G a 10)) (s0 a 21 + 1) := zQi_o (show zQi (s21 a 5) (s21 (gP G a 10)) (s0 a 21 + 1) from (by have q1 : s21 (gP G a 10) = s20 (gP G a 10) := (by rw [hF_s21 (gP G a 10) (by rw [(zr (k := 10) (t2 := 73) hG ha rfl)]; decide)]); rw [q1]; exact (zQi_k hP407 (by omega) (by omega)))) e_s22 (by omega)
    refine j_aload_n hx 1 dX12_readClause_44 rfl ?_
    refine g13_10 hx hG ha kf_RX12_23 dX12_readClause_45 ?_
    refine j_iload_n hx 0 dX12_readClause_48 rfl ?_
    refine j_iconst hx dX12_readClause_49 ?_
    refine j_iadd hx (r := 4 * (s0 a 21) + 2) dX12_readClause_50 (by omega) ?_
    refine j_aload_n hx 1 dX12_readClause_51 rfl ?_
    refine j_iconst hx dX12_readClause_52 ?_
    refine j_bipush hx dX12_readClause_53 rfl ?_
    have g431 : s22 a 4 = s21 a 4 := (by rw [e_s22, zU_at (Or.inl (zne (zr (k := 10) (t2 := 73) hG ha rfl) ha (by decide)))])
    have f432 := zf hS_s21 ha (k := 4) rfl
    have g433 : s22 a 3 = s21 a 3 := (by rw [e_s22, zU_at (Or.inl (zne (zr (k := 10) (t2 := 73) hG ha rfl) ha (by decide)))])
    have f434 := zf hS_s21 ha (k := 3) rfl
    have g435 : s22 a 5 = s21 a 5 := (by rw [e_s22, zU_at (Or.inl (zne (zr (k := 10) (t2 := 73) hG ha rfl) ha (by decide)))])
    have f436 := zf hS_s21 ha (k := 5) rfl
    have g437 : s22 a 0 = s21 a 0 := (by rw [e_s22, zU_at (Or.inl (zne (zr (k := 10) (t2 := 73) hG ha rfl) ha (by decide)))])
    have f438 := zf hS_s21 ha (k := 0) rfl
    have g439 : s22 a 7 = s21 a 7 := (by rw [e_s22, zU_at (Or.inl (zne (zr (k := 10) (t2 := 73) hG ha rfl) ha (by decide)))])
    have f440 := zf hS_s21 ha (k := 7) rfl
    have g441 : s22 a 21 = s21 a 21 := (by rw [e_s22, zU_at (Or.inl (zne (zr (k := 10) (t2 := 73) hG ha rfl) ha (by decide)))])
    have f442 := zf hS_s21 ha (k := 21) rfl
    have g443 : s22 a 22 = s21 a 22 := (by rw [e_s22, zU_at (Or.inl (zne (zr (k := 10) (t2 := 73) hG ha rfl) ha (by decide)))])
    have f444 := zf hS_s21 ha (k := 22) rfl
    have g445 : s22 a 23 = s21 a 23 := (by rw [e_s22, zU_at (Or.inl (zne (zr (k := 10) (t2 := 73) hG ha rfl) ha (by decide)))])
    have f446 := zf hS_s21 ha (k := 23) rfl
    have g447 : s22 a 24 = s21 a 24 := (by rw [e_s22, zU_at (Or.inl (zne (zr (k := 10) (t2 := 73) hG ha rfl) ha (by decide)))])
    have f448 := zf hS_s21 ha (k := 24) rfl
    have g449 : s22 a 38 = s21 a 38 := (by rw [e_s22, zU_at (Or.inl (zne (zr (k := 10) (t2 := 73) hG ha rfl) ha (by decide)))])
    have f450 := zf hS_s21 ha (k := 38) rfl
    have g451 : s22 a 51 = s21 a 51 := (by rw [e_s22, zU_at (Or.inl (zne (zr (k := 10) (t2 := 73) hG ha rfl) ha (by decide)))])
    have f452 := zf hS_s21 ha (k := 51) rfl
    have g453 : s22 a 52 = s21 a 52 := (by rw [e_s22, zU_at (Or.inl (zne (zr (k := 10) (t2 := 73) hG ha rfl) ha (by decide)))])
    have f454 := zf hS_s21 ha (k := 52) rfl
    refine j_callV hx hG (c_X12_readNumber hst a 0 9) lk_RX12_219 ha (by decide) rfl rfl rfl rfl [.int (zI 0), .int (zI 9)] ⟨rfl, hG, hS_s22, ha, (by omega), (by omega), (by omega)⟩ rfl rfl ⟨by decide, by decide⟩ ⟨by decide, by decide⟩ (k2 := 0) (n2 := 0) rfl rfl (Nat.le_of_ble_eq_true rfl) dX12_readClause_55 (kIM (fun v455 s23 hS_s23 hF_s23 q456 => ?_))
    refine j_iast hx hG (zr (k := 10) (t2 := 73) hG ha rfl) (by decide) rfl (zlen hG (zr (k := 10) (t2 := 73) hG ha rfl) (n := 12) rfl rfl) (by omega) (by omega) (j := (4 * (s0 a 21) + 2).toNat) rfl dX12_readClause_58 ?_
    obtain ⟨s24, e_s24⟩ : ∃ z, z = zU s23 (gP G a 10) (4 * (s0 a 21) + 2).toNat v455 := ⟨_, rfl⟩
    rw [← e_s24]
    have hS_s24 : zSK G s24 := by rw [e_s24]; exact zSK_A hS_s23 (zr (k := 10) (t2 := 73) hG ha rfl) rfl rfl rfl (by omega)
    have hP457 : zQi (s23 a 5) (s24 (gP G a 10)) (s0 a 21 + 1) := zQi_o (show zQi (s23 a 5) (s23 (gP G a 10)) (s0 a 21 + 1) from (by have q1 : s23 (gP G a 10) = s22 (gP G a 10) := (by rw [hF_s23 (gP G a 10) (by rw [(zr (k := 10) (t2 := 73) hG ha rfl)]; decide)]); rw [q1]; exact (zQi_k hP430 (by omega) (by omega)))) e_s24 (by omega)
    refine j_aload_n hx 1 dX12_readClause_59 rfl ?_
    refine g13_10 hx hG ha kf_RX12_23 dX12_readClause_60 ?_
    refine j_iload_n hx 0 dX12_readClause_63 rfl ?_
    refine j_iconst hx dX12_readClause_64 ?_
    refine j_iadd hx (r := 4 * (s0 a 21) + 3) dX12_readClause_65 (by omega) ?_
    refine j_aload_n hx 1 dX12_readClause_66 rfl ?_
    refine j_iconst hx dX12_readClause_67 ?_
    refine j_iconst hx dX12_readClause_68 ?_
    have g458 : s24 a 4 = s23 a 4 := (by rw [e_s24, zU_at (Or.inl (zne (zr (k := 10) (t2 := 73) hG ha rfl) ha (by decide)))])
    have f459 := zf hS_s23 ha (k := 4) rfl
    have g460 : s24 a 3 = s23 a 3 := (by rw [e_s24, zU_at (Or.inl (zne (zr (k := 10) (t2 := 73) hG ha rfl) ha (by decide)))])
    have f461 := zf hS_s23 ha (k := 3) rfl
    have g462 : s24 a 5 = s23 a 5 := (by rw [e_s24, zU_at (Or.inl (zne (zr (k := 10) (t2 := 73) hG ha rfl) ha (by decide)))])
    have f463 := zf hS_s23 ha (k := 5) rfl
    have g464 : s24 a 0 = s23 a 0 := (by rw [e_s24, zU_at (Or.inl (zne (zr (k := 10) (t2 := 73) hG ha rfl) ha (by decide)))])
    have f465 := zf hS_s23 ha (k := 0) rfl
    have g466 : s24 a 7 = s23 a 7 := (by rw [e_s24, zU_at (Or.inl (zne (zr (k := 10) (t2 := 73) hG ha rfl) ha (by decide)))])
    have f467 := zf hS_s23 ha (k := 7) rfl
    have g468 : s24 a 21 = s23 a 21 := (by rw [e_s24, zU_at (Or.inl (zne (zr (k := 10) (t2 := 73) hG ha rfl) ha (by decide)))])
    have f469 := zf hS_s23 ha (k := 21) rfl
    have g470 : s24 a 22 = s23 a 22 := (by rw [e_s24, zU_at (Or.inl (zne (zr (k := 10) (t2 := 73) hG ha rfl) ha (by decide)))])
    have f471 := zf hS_s23 ha (k := 22) rfl
    have g472 : s24 a 23 = s23 a 23 := (by rw [e_s24, zU_at (Or.inl (zne (zr (k := 10) (t2 := 73) hG ha rfl) ha (by decide)))])
    have f473 := zf hS_s23 ha (k := 23) rfl
    have g474 : s24 a 24 = s23 a 24 := (by rw [e_s24, zU_at (Or.inl (zne (zr (k := 10) (t2 := 73) hG ha rfl) ha (by decide)))])
    have f475 := zf hS_s23 ha (k := 24) rfl
    have g476 : s24 a 38 = s23 a 38 := (by rw [e_s24, zU_at (Or.inl (zne (zr (k := 10) (t2 := 73) hG ha rfl) ha (by decide)))])
    have f477 := zf hS_s23 ha (k := 38) rfl
    have g478 : s24 a 51 = s23 a 51 := (by rw [e_s24, zU_at (Or.inl (zne (zr (k := 10) (t2 := 73) hG ha rfl) ha (by decide)))])
    have f479 := zf hS_s23 ha (k := 51) rfl
    have g480 : s24 a 52 = s23 a 52 := (by rw [e_s24, zU_at (Or.inl (zne (zr (k := 10) (t2 := 73) hG ha rfl) ha (by decide)))])
    have f481 := zf hS_s23 ha (k := 52) rfl
    refine j_callV hx hG (c_X12_readNumber hst a 0 2) lk_RX12_219 ha (by decide) rfl rfl rfl rfl [.int (zI 0), .int (zI 2)] ⟨rfl, hG, hS_s24, ha, (by omega), (by omega), (by omega)⟩ rfl rfl ⟨by decide, by decide⟩ ⟨by decide, by decide⟩ (k2 := 0) (n2 := 0) rfl rfl (Nat.le_of_ble_eq_true rfl) dX12_readClause_69 (kIM (fun v482 s25 hS_s25 hF_s25 q483 => ?_))
    refine j_iast hx hG (zr (k := 10) (t2 := 73) hG ha rfl) (by decide) rfl (zlen hG (zr (k := 10) (t2 := 73) hG ha rfl) (n := 12) rfl rfl) (by omega) (by omega) (j := (4 * (s0 a 21) + 3).toNat) rfl dX12_readClause_72 ?_
    obtain ⟨s26, e_s26⟩ : ∃ z, z = zU s25 (gP G a 10) (4 * (s0 a 21) + 3).toNat v482 := ⟨_, rfl⟩
    rw [← e_s26]
    have hS_s26 : zSK G s26 := by rw [e_s26]; exact zSK_A hS_s25 (zr (k := 10) (t2 := 73) hG ha rfl) rfl rfl rfl (by omega)
    have hP484 : zQi (s25 a 5) (s26 (gP G a 10)) (s0 a 21 + 1) := zQi_o (show zQi (s25 a 5) (s25 (gP G a 10)) (s0 a 21 + 1) from (by have q1 : s25 (gP G a 10) = s24 (gP G a 10) := (by rw [hF_s25 (gP G a 10) (by rw [(zr (k := 10) (t2 := 73) hG ha rfl)]; decide)]); rw [q1]; exact (zQi_k hP457 (by omega) (by omega)))) e_s26 (by omega)
    refine j_aload_n hx 1 dX12_readClause_73 rfl ?_
    refine j_dup hx dX12_readClause_74 rfl ?_
    have f485 := zf hS_s25 ha (k := 21) rfl
    refine g13_21 hx hG ha kf_RX12_180 (v := (s25 a 21)) (by rw [e_s26, zU_at (Or.inl (zne (zr (k := 10) (t2 := 73) hG ha rfl) ha (by decide)))]) dX12_readClause_75 ?_
    refine j_iconst hx dX12_readClause_78 ?_
    refine j_iadd hx (r := (s25 a 21) + 1) dX12_readClause_79 (by omega) ?_
    refine p13_21 hx hG ha kf_RX12_180 dX12_readClause_80 ?_
    obtain ⟨s27, e_s27⟩ : ∃ z, z = zU s26 a 21 ((s25 a 21) + 1) := ⟨_, rfl⟩
    rw [← e_s27]
    have hS_s27 : zSK G s27 := by rw [e_s27]; exact zSK_F hS_s26 ha rfl rfl rfl (by omega)
    refine j_goto hx 306 dX12_readClause_83 rfl ?_
    have g486 : s27 a 4 = s25 a 4 := (by rw [e_s27, zU_at (Or.inr (by decide)), e_s26, zU_at (Or.inl (zne (zr (k := 10) (t2 := 73) hG ha rfl) ha (by decide)))])
    have f487 := zf hS_s25 ha (k := 4) rfl
    have g488 : s27 a 5 = s25 a 5 := (by rw [e_s27, zU_at (Or.inr (by decide)), e_s26, zU_at (Or.inl (zne (zr (k := 10) (t2 := 73) hG ha rfl) ha (by decide)))])
    have f489 := zf hS_s25 ha (k := 5) rfl
    have g490 : s27 a 21 = (s25 a 21) + 1 := (by rw [e_s27, zU_eq])
    have g491 : s27 (gP G a 13) 0 = s0 (gP G a 13) 0 := (by rw [e_s27, zU_at (Or.inl (zne ha (zr (k := 13) (t2 := 76) hG ha rfl) (by decide))), e_s26, zU_at (Or.inl (zne (zr (k := 10) (t2 := 73) hG ha rfl) (zr (k := 13) (t2 := 76) hG ha rfl) (by decide))), (zFr_g hF_s25 (zr (k := 13) (t2 := 76) hG ha rfl) (by decide)), e_s24, zU_at (Or.inl (zne (zr (k := 10) (t2 := 73) hG ha rfl) (zr (k := 13) (t2 := 76) hG ha rfl) (by decide))), (zFr_g hF_s23 (zr (k := 13) (t2 := 76) hG ha rfl) (by decide)), e_s22, zU_at (Or.inl (zne (zr (k := 10) (t2 := 73) hG ha rfl) (zr (k := 13) (t2 := 76) hG ha rfl) (by decide))), (zFr_g hF_s21 (zr (k := 13) (t2 := 76) hG ha rfl) (by decide)), e_s20, zU_at (Or.inl (zne (zr (k := 10) (t2 := 73) hG ha rfl) (zr (k := 13) (t2 := 76) hG ha rfl) (by decide))), (zFr_g hF_s19 (zr (k := 13) (t2 := 76) hG ha rfl) (by decide))])
    have g492 : s27 (gP G a 13) 1 = s0 (gP G a 13) 1 := (by rw [e_s27, zU_at (Or.inl (zne ha (zr (k := 13) (t2 := 76) hG ha rfl) (by decide))), e_s26, zU_at (Or.inl (zne (zr (k := 10) (t2 := 73) hG ha rfl) (zr (k := 13) (t2 := 76) hG ha rfl) (by decide))), (zFr_g hF_s25 (zr (k := 13) (t2 := 76) hG ha rfl) (by decide)), e_s24, zU_at (Or.inl (zne (zr (k := 10) (t2 := 73) hG ha rfl) (zr (k := 13) (t2 := 76) hG ha rfl) (by decide))), (zFr_g hF_s23 (zr (k := 13) (t2 := 76) hG ha rfl) (by decide)), e_s22, zU_at (Or.inl (zne (zr (k := 10) (t2 := 73) hG ha rfl) (zr (k := 13) (t2 := 76) hG ha rfl) (by decide))), (zFr_g hF_s21 (zr (k := 13) (t2 := 76) hG ha rfl) (by decide)), e_s20, zU_at (Or.inl (zne (zr (k := 10) (t2 := 73) hG ha rfl) (zr (k := 13) (t2 := 76) hG ha rfl) (by decide))), (zFr_g hF_s19 (zr (k := 13) (t2 := 76) hG ha rfl) (by decide))])
    have g493 : s27 (gP G a 13) 2 = s0 (gP G a 13) 2 := (by rw [e_s27, zU_at (Or.inl (zne ha (zr (k := 13) (t2 := 76) hG ha rfl) (by decide))), e_s26, zU_at (Or.inl (zne (zr (k := 10) (t2 := 73) hG ha rfl) (zr (k := 13) (t2 := 76) hG ha rfl) (by decide))), (zFr_g hF_s25 (zr (k := 13) (t2 := 76) hG ha rfl) (by decide)), e_s24, zU_at (Or.inl (zne (zr (k := 10) (t2 := 73) hG ha rfl) (zr (k := 13) (t2 := 76) hG ha rfl) (by decide))), (zFr_g hF_s23 (zr (k := 13) (t2 := 76) hG ha rfl) (by decide)), e_s22, zU_at (Or.inl (zne (zr (k := 10) (t2 := 73) hG ha rfl) (zr (k := 13) (t2 := 76) hG ha rfl) (by decide))), (zFr_g hF_s21 (zr (k := 13) (t2 := 76) hG ha rfl) (by decide)), e_s20, zU_at (Or.inl (zne (zr (k := 10) (t2 := 73) hG ha rfl) (zr (k := 13) (t2 := 76) hG ha rfl) (by decide))), (zFr_g hF_s19 (zr (k := 13) (t2 := 76) hG ha rfl) (by decide))])
    have g494 : s27 a 22 = s25 a 22 := (by rw [e_s27, zU_at (Or.inr (by decide)), e_s26, zU_at (Or.inl (zne (zr (k := 10) (t2 := 73) hG ha rfl) ha (by decide)))])
    have f495 := zf hS_s25 ha (k := 22) rfl
    have g496 : s27 a 0 = s25 a 0 := (by rw [e_s27, zU_at (Or.inr (by decide)), e_s26, zU_at (Or.inl (zne (zr (k := 10) (t2 := 73) hG ha rfl) ha (by decide)))])
    have f497 := zf hS_s25 ha (k := 0) rfl
    have g498 : s27 a 3 = s25 a 3 := (by rw [e_s27, zU_at (Or.inr (by decide)), e_s26, zU_at (Or.inl (zne (zr (k := 10) (t2 := 73) hG ha rfl) ha (by decide)))])
    have f499 := zf hS_s25 ha (k := 3) rfl
    have g500 : s27 a 7 = s25 a 7 := (by rw [e_s27, zU_at (Or.inr (by decide)), e_s26, zU_at (Or.inl (zne (zr (k := 10) (t2 := 73) hG ha rfl) ha (by decide)))])
    have f501 := zf hS_s25 ha (k := 7) rfl
    have g502 : s27 a 24 = s25 a 24 := (by rw [e_s27, zU_at (Or.inr (by decide)), e_s26, zU_at (Or.inl (zne (zr (k := 10) (t2 := 73) hG ha rfl) ha (by decide)))])
    have f503 := zf hS_s25 ha (k := 24) rfl
    have g504 : s27 a 38 = s25 a 38 := (by rw [e_s27, zU_at (Or.inr (by decide)), e_s26, zU_at (Or.inl (zne (zr (k := 10) (t2 := 73) hG ha rfl) ha (by decide)))])
    have f505 := zf hS_s25 ha (k := 38) rfl
    have g506 : s27 a 51 = s25 a 51 := (by rw [e_s27, zU_at (Or.inr (by decide)), e_s26, zU_at (Or.inl (zne (zr (k := 10) (t2 := 73) hG ha rfl) ha (by decide)))])
    have f507 := zf hS_s25 ha (k := 51) rfl
    have g508 : s27 a 52 = s25 a 52 := (by rw [e_s27, zU_at (Or.inr (by decide)), e_s26, zU_at (Or.inl (zne (zr (k := 10) (t2 := 73) hG ha rfl) ha (by decide)))])
    have f509 := zf hS_s25 ha (k := 52) rfl
    exact j_vret hx hq rfl (by decide) (by decide) dX12_readClause_306 ⟨rfl, rfl, hS_s27, (zFr_u (zFr_u (zFr_t (zFr_u (zFr_t (zFr_u (zFr_t (zFr_u (zFr_t zFr_rf hF_s19 (by decide)) e_s20 (zr (k := 10) (t2 := 73) hG ha rfl) (by decide)) hF_s21 (by decide)) e_s22 (zr (k := 10) (t2 := 73) hG ha rfl) (by decide)) hF_s23 (by decide)) e_s24 (zr (k := 10) (t2 := 73) hG ha rfl) (by decide)) hF_s25 (by decide)) e_s26 (zr (k := 10) (t2 := 73) hG ha rfl) (by decide)) e_s27 ha (by decide)), ⟨by omega, by omega, (by have q1 : s27 (gP G a 10) = s26 (gP G a 10) := (by rw [e_s27, zU_ne (zne ha (zr (k := 10) (t2 := 73) hG ha rfl) (by decide))]); rw [q1]; exact (zQi_k hP484 (by omega) (by omega))), by omega, by omega, by omega, by omega, by omega, by omega, by omega, by omega, by omega⟩⟩

set_option maxHeartbeats 1200000 in
set_option maxRecDepth 20000 in
theorem c_X12_sign {E : zE} {l : Launch} (hst : l.stackTraces = false) (a : Nat) (x1 : Int) : Con E l yX12_sign cX12_sign 2 none { frames := 1, cells := 0, slots := 0, locals := 22 } (fun G s vs => vs = [.ref a, .int (zI x1)] ∧ zGK G ∧ zSK G s ∧ (gT G a = 13) ∧ (1 ≤ x1 ∧ x1 ≤ 255) ∧ (s a 4 ≤ s a 3 + 2)) (fun G s _ => pV (fun G2 s2 => G2 = G ∧ zSK G s2 ∧ zFr [13] G s s2 ∧ s a 4 ≤ s2 a 4 ∧ s a 5 ≤ s2 a 5 ∧ (s2 a 5 = -1 → s a 4 + 1 ≤ s2 a 4 ∧ s2 a 4 ≤ s a 3) ∧ s2 a 4 ≤ s a 3 + 2 ∧ s2 a 0 = s a 0 ∧ s2 a 3 = s a 3 ∧ s2 a 7 = s a 7 ∧ s2 a 21 = s a 21 ∧ s2 a 22 = s a 22 ∧ s2 a 23 = s a 23 ∧ s2 a 24 = s a 24 ∧ s2 a 38 = s a 38 ∧ s2 a 51 = s a 51 ∧ s2 a 52 = s a 52)) := by
  refine Con.mk hst (by decide) (fun G s vs h => by rw [h.1]; exact Nat.le_of_ble_eq_true rfl) ?_
  rintro X G s0 vs ⟨rfl, hG, hS0, ha, hx1, e0⟩ rfl hx hq
  show JJ X E 2 G s0 0 0 [(0, .ref a), (1, .int (zI x1))] 0 []
  refine j_aload_n hx 0 dX12_sign_0 rfl ?_
  refine j_callV hx hG (c_X12_fine hst a) lk_RX12_166 ha (by decide) rfl rfl rfl rfl [] ⟨rfl, hG, hS0, ha⟩ rfl rfl ⟨by decide, by decide⟩ ⟨by decide, by decide⟩ (k2 := 0) (n2 := 0) rfl rfl (Nat.le_of_ble_eq_true rfl) dX12_sign_1 (kIP (fun v1 q2 => ?_))
  refine j_if_eq hx 24 dX12_sign_4 rfl (by omega) (fun h3 => ?_) (fun h3 => ?_)
  · skip
    refine j_aload_n hx 0 dX12_sign_24 rfl ?_
    refine j_callV hx hG (c_X12_fine hst a) lk_RX12_166 ha (by decide) rfl rfl rfl rfl [] ⟨rfl, hG, hS0, ha⟩ rfl rfl ⟨by decide, by decide⟩ ⟨by decide, by decide⟩ (k2 := 0) (n2 := 0) rfl rfl (Nat.le_of_ble_eq_true rfl) dX12_sign_25 (kIP (fun v4 q5 => ?_))
    refine j_if_eq hx 41 dX12_sign_28 rfl (by omega) (fun h6 => ?_) (fun h6 => ?_)
    · skip
      have f7 := zf hS0 ha (k := 4) rfl
      have f8 := zf hS0 ha (k := 5) rfl
      have f9 := zf hS0 ha (k := 3) rfl
      have f10 := zf hS0 ha (k := 0) rfl
      have f11 := zf hS0 ha (k := 7) rfl
      have f12 := zf hS0 ha (k := 21) rfl
      have f13 := zf hS0 ha (k := 22) rfl
      have f14 := zf hS0 ha (k := 23) rfl
      have f15 := zf hS0 ha (k := 24) rfl
      have f16 := zf hS0 ha (k := 38) rfl
      have f17 := zf hS0 ha (k := 51) rfl
      have f18 := zf hS0 ha (k := 52) rfl
      exact j_vret hx hq rfl (by decide) (by decide) dX12_sign_41 ⟨rfl, rfl, hS0, zFr_rf, ⟨by omega, by omega, by omega, by omega, by omega, by omega, by omega, by omega, by omega, by omega, by omega, by omega, by omega, by omega⟩⟩
    · skip
      refine j_aload_n hx 0 dX12_sign_31 rfl ?_
      refine j_dup hx dX12_sign_32 rfl ?_
      have f19 := zf hS0 ha (k := 4) rfl
      refine g13_4 hx hG ha kf_RX12_143 rfl dX12_sign_33 ?_
      refine j_iconst hx dX12_sign_36 ?_
      refine j_iadd hx (r := (s0 a 4) + 1) dX12_sign_37 (by omega) ?_
      refine p13_4 hx hG ha kf_RX12_143 dX12_sign_38 ?_
      obtain ⟨s1, e_s1⟩ : ∃ z, z = zU s0 a 4 ((s0 a 4) + 1) := ⟨_, rfl⟩
      rw [← e_s1]
      have hS_s1 : zSK G s1 := by rw [e_s1]; exact zSK_F hS0 ha rfl rfl rfl (by omega)
      have g20 : s1 a 4 = (s0 a 4) + 1 := (by rw [e_s1, zU_eq])
      have g21 : s1 a 5 = s0 a 5 := (by rw [e_s1, zU_at (Or.inr (by decide))])
      have f22 := zf hS0 ha (k := 5) rfl
      have g23 : s1 a 0 = s0 a 0 := (by rw [e_s1, zU_at (Or.inr (by decide))])
      have f24 := zf hS0 ha (k := 0) rfl
      have g25 : s1 a 3 = s0 a 3 := (by rw [e_s1, zU_at (Or.inr (by decide))])
      have f26 := zf hS0 ha (k := 3) rfl
      have g27 : s1 a 7 = s0 a 7 := (by rw [e_s1, zU_at (Or.inr (by decide))])
      have f28 := zf hS0 ha (k := 7) rfl
      have g29 : s1 a 21 = s0 a 21 := (by rw [e_s1, zU_at (Or.inr (by decide))])
      have f30 := zf hS0 ha (k := 21) rfl
      have g31 : s1 a 22 = s0 a 22 := (by rw [e_s1, zU_at (Or.inr (by decide))])
      have f32 := zf hS0 ha (k := 22) rfl
      have g33 : s1 a 23 = s0 a 23 := (by rw [e_s1, zU_at (Or.inr (by decide))])
      have f34 := zf hS0 ha (k := 23) rfl
      have g35 : s1 a 24 = s0 a 24 := (by rw [e_s1, zU_at (Or.inr (by decide))])
      have f36 := zf hS0 ha (k := 24) rfl
      have g37 : s1 a 38 = s0 a 38 := (by rw [e_s1, zU_at (Or.inr (by decide))])
      have f38 := zf hS0 ha (k := 38) rfl
      have g39 : s1 a 51 = s0 a 51 := (by rw [e_s1, zU_at (Or.inr (by decide))])
      have f40 := zf hS0 ha (k := 51) rfl
      have g41 : s1 a 52 = s0 a 52 := (by rw [e_s1, zU_at (Or.inr (by decide))])
      have f42 := zf hS0 ha (k := 52) rfl
      exact j_vret hx hq rfl (by decide) (by decide) dX12_sign_41 ⟨rfl, rfl, hS_s1, (zFr_u zFr_rf e_s1 ha (by decide)), ⟨by omega, by omega, by omega, by omega, by omega, by omega, by omega, by omega, by omega, by omega, by omega, by omega, by omega, by omega⟩⟩
  · skip
    refine j_aload_n hx 0 dX12_sign_7 rfl ?_
    have f43 := zf hS0 ha (k := 4) rfl
    have f44 := zf hS0 ha (k := 3) rfl
    have f45 := zf hS0 ha (k := 0) rfl
    have f46 := zf hS0 ha (k := 5) rfl
    have f47 := zf hS0 ha (k := 7) rfl
    have f48 := zf hS0 ha (k := 21) rfl
    have f49 := zf hS0 ha (k := 22) rfl
    have f50 := zf hS0 ha (k := 23) rfl
    have f51 := zf hS0 ha (k := 24) rfl
    have f52 := zf hS0 ha (k := 38) rfl
    have f53 := zf hS0 ha (k := 51) rfl
    have f54 := zf hS0 ha (k := 52) rfl
    refine j_callV hx hG (c_X12_here hst a) lk_RX12_149 ha (by decide) rfl rfl rfl rfl [] ⟨rfl, hG, hS0, ha, (by omega)⟩ rfl rfl ⟨by decide, by decide⟩ ⟨by decide, by decide⟩ (k2 := 0) (n2 := 0) rfl rfl (Nat.le_of_ble_eq_true rfl) dX12_sign_8 (kIM (fun v55 s2 hS_s2 hF_s2 q56 => ?_))
    refine j_iload_n hx 1 dX12_sign_11 rfl ?_
    refine j_icmp_eq hx 24 dX12_sign_12 rfl (by omega) (by omega) (fun h57 => ?_) (fun h57 => ?_)
    · skip
      refine j_aload_n hx 0 dX12_sign_24 rfl ?_
      refine j_callV hx hG (c_X12_fine hst a) lk_RX12_166 ha (by decide) rfl rfl rfl rfl [] ⟨rfl, hG, hS_s2, ha⟩ rfl rfl ⟨by decide, by decide⟩ ⟨by decide, by decide⟩ (k2 := 0) (n2 := 0) rfl rfl (Nat.le_of_ble_eq_true rfl) dX12_sign_25 (kIP (fun v58 q59 => ?_))
      refine j_if_eq hx 41 dX12_sign_28 rfl (by omega) (fun h60 => ?_) (fun h60 => ?_)
      · skip
        have f61 := zf hS_s2 ha (k := 4) rfl
        have f62 := zf hS_s2 ha (k := 5) rfl
        have f63 := zf hS_s2 ha (k := 0) rfl
        have f64 := zf hS_s2 ha (k := 3) rfl
        have f65 := zf hS_s2 ha (k := 7) rfl
        have f66 := zf hS_s2 ha (k := 21) rfl
        have f67 := zf hS_s2 ha (k := 22) rfl
        have f68 := zf hS_s2 ha (k := 23) rfl
        have f69 := zf hS_s2 ha (k := 24) rfl
        have f70 := zf hS_s2 ha (k := 38) rfl
        have f71 := zf hS_s2 ha (k := 51) rfl
        have f72 := zf hS_s2 ha (k := 52) rfl
        exact j_vret hx hq rfl (by decide) (by decide) dX12_sign_41 ⟨rfl, rfl, hS_s2, (zFr_t zFr_rf hF_s2 (by decide)), ⟨by omega, by omega, by omega, by omega, by omega, by omega, by omega, by omega, by omega, by omega, by omega, by omega, by omega, by omega⟩⟩
      · skip
        refine j_aload_n hx 0 dX12_sign_31 rfl ?_
        refine j_dup hx dX12_sign_32 rfl ?_
        have f73 := zf hS_s2 ha (k := 4) rfl
        refine g13_4 hx hG ha kf_RX12_143 rfl dX12_sign_33 ?_
        refine j_iconst hx dX12_sign_36 ?_
        refine j_iadd hx (r := (s2 a 4) + 1) dX12_sign_37 (by omega) ?_
        refine p13_4 hx hG ha kf_RX12_143 dX12_sign_38 ?_
        obtain ⟨s3, e_s3⟩ : ∃ z, z = zU s2 a 4 ((s2 a 4) + 1) := ⟨_, rfl⟩
        rw [← e_s3]
        have hS_s3 : zSK G s3 := by rw [e_s3]; exact zSK_F hS_s2 ha rfl rfl rfl (by omega)
        have g74 : s3 a 4 = (s2 a 4) + 1 := (by rw [e_s3, zU_eq])
        have g75 : s3 a 5 = s2 a 5 := (by rw [e_s3, zU_at (Or.inr (by decide))])
        have f76 := zf hS_s2 ha (k := 5) rfl
        have g77 : s3 a 0 = s2 a 0 := (by rw [e_s3, zU_at (Or.inr (by decide))])
        have f78 := zf hS_s2 ha (k := 0) rfl
        have g79 : s3 a 3 = s2 a 3 := (by rw [e_s3, zU_at (Or.inr (by decide))])
        have f80 := zf hS_s2 ha (k := 3) rfl
        have g81 : s3 a 7 = s2 a 7 := (by rw [e_s3, zU_at (Or.inr (by decide))])
        have f82 := zf hS_s2 ha (k := 7) rfl
        have g83 : s3 a 21 = s2 a 21 := (by rw [e_s3, zU_at (Or.inr (by decide))])
        have f84 := zf hS_s2 ha (k := 21) rfl
        have g85 : s3 a 22 = s2 a 22 := (by rw [e_s3, zU_at (Or.inr (by decide))])
        have f86 := zf hS_s2 ha (k := 22) rfl
        have g87 : s3 a 23 = s2 a 23 := (by rw [e_s3, zU_at (Or.inr (by decide))])
        have f88 := zf hS_s2 ha (k := 23) rfl
        have g89 : s3 a 24 = s2 a 24 := (by rw [e_s3, zU_at (Or.inr (by decide))])
        have f90 := zf hS_s2 ha (k := 24) rfl
        have g91 : s3 a 38 = s2 a 38 := (by rw [e_s3, zU_at (Or.inr (by decide))])
        have f92 := zf hS_s2 ha (k := 38) rfl
        have g93 : s3 a 51 = s2 a 51 := (by rw [e_s3, zU_at (Or.inr (by decide))])
        have f94 := zf hS_s2 ha (k := 51) rfl
        have g95 : s3 a 52 = s2 a 52 := (by rw [e_s3, zU_at (Or.inr (by decide))])
        have f96 := zf hS_s2 ha (k := 52) rfl
        exact j_vret hx hq rfl (by decide) (by decide) dX12_sign_41 ⟨rfl, rfl, hS_s3, (zFr_u (zFr_t zFr_rf hF_s2 (by decide)) e_s3 ha (by decide)), ⟨by omega, by omega, by omega, by omega, by omega, by omega, by omega, by omega, by omega, by omega, by omega, by omega, by omega, by omega⟩⟩
    · skip
      refine j_aload_n hx 0 dX12_sign_15 rfl ?_
      refine j_iconst hx dX12_sign_16 ?_
      refine j_aload_n hx 0 dX12_sign_17 rfl ?_
      have f97 := zf hS_s2 ha (k := 4) rfl
      refine g13_4 hx hG ha kf_RX12_143 rfl dX12_sign_18 ?_
      have f98 := zf hS_s2 ha (k := 5) rfl
      have f99 := zf hS_s2 ha (k := 0) rfl
      have f100 := zf hS_s2 ha (k := 3) rfl
      have f101 := zf hS_s2 ha (k := 7) rfl
      have f102 := zf hS_s2 ha (k := 21) rfl
      have f103 := zf hS_s2 ha (k := 22) rfl
      have f104 := zf hS_s2 ha (k := 23) rfl
      have f105 := zf hS_s2 ha (k := 24) rfl
      have f106 := zf hS_s2 ha (k := 38) rfl
      have f107 := zf hS_s2 ha (k := 51) rfl
      have f108 := zf hS_s2 ha (k := 52) rfl
      refine j_callV hx hG (c_X12_wrong hst a 1 ((s2 a 4))) lk_RX12_173 ha (by decide) rfl rfl rfl rfl [.int (zI 1), .int (zI ((s2 a 4)))] ⟨rfl, hG, hS_s2, ha, (by omega), (by omega)⟩ rfl rfl ⟨by decide, by decide⟩ ⟨by decide, by decide⟩ (k2 := 0) (n2 := 0) rfl rfl (Nat.le_of_ble_eq_true rfl) dX12_sign_21 (kVM (fun s4 hS_s4 hF_s4 q110 => ?_))
      refine j_aload_n hx 0 dX12_sign_24 rfl ?_
      refine j_callV hx hG (c_X12_fine hst a) lk_RX12_166 ha (by decide) rfl rfl rfl rfl [] ⟨rfl, hG, hS_s4, ha⟩ rfl rfl ⟨by decide, by decide⟩ ⟨by decide, by decide⟩ (k2 := 0) (n2 := 0) rfl rfl (Nat.le_of_ble_eq_true rfl) dX12_sign_25 (kIP (fun v111 q112 => ?_))
      refine j_if_eq hx 41 dX12_sign_28 rfl (by omega) (fun h113 => ?_) (fun h113 => ?_)
      · skip
        have f114 := zf hS_s4 ha (k := 4) rfl
        have f115 := zf hS_s4 ha (k := 5) rfl
        have f116 := zf hS_s4 ha (k := 0) rfl
        have f117 := zf hS_s4 ha (k := 3) rfl
        have f118 := zf hS_s4 ha (k := 7) rfl
        have f119 := zf hS_s4 ha (k := 21) rfl
        have f120 := zf hS_s4 ha (k := 22) rfl
        have f121 := zf hS_s4 ha (k := 23) rfl
        have f122 := zf hS_s4 ha (k := 24) rfl
        have f123 := zf hS_s4 ha (k := 38) rfl
        have f124 := zf hS_s4 ha (k := 51) rfl
        have f125 := zf hS_s4 ha (k := 52) rfl
        exact j_vret hx hq rfl (by decide) (by decide) dX12_sign_41 ⟨rfl, rfl, hS_s4, (zFr_t (zFr_t zFr_rf hF_s2 (by decide)) hF_s4 (by decide)), ⟨by omega, by omega, by omega, by omega, by omega, by omega, by omega, by omega, by omega, by omega, by omega, by omega, by omega, by omega⟩⟩
      · skip
        refine j_aload_n hx 0 dX12_sign_31 rfl ?_
        refine j_dup hx dX12_sign_32 rfl ?_
        have f126 := zf hS_s4 ha (k := 4) rfl
        refine g13_4 hx hG ha kf_RX12_143 rfl dX12_sign_33 ?_
        refine j_iconst hx dX12_sign_36 ?_
        refine j_iadd hx (r := (s4 a 4) + 1) dX12_sign_37 (by omega) ?_
        refine p13_4 hx hG ha kf_RX12_143 dX12_sign_38 ?_
        obtain ⟨s5, e_s5⟩ : ∃ z, z = zU s4 a 4 ((s4 a 4) + 1) := ⟨_, rfl⟩
        rw [← e_s5]
        have hS_s5 : zSK G s5 := by rw [e_s5]; exact zSK_F hS_s4 ha rfl rfl rfl (by omega)
        have g127 : s5 a 4 = (s4 a 4) + 1 := (by rw [e_s5, zU_eq])
        have g128 : s5 a 5 = s4 a 5 := (by rw [e_s5, zU_at (Or.inr (by decide))])
        have f129 := zf hS_s4 ha (k := 5) rfl
        have g130 : s5 a 0 = s4 a 0 := (by rw [e_s5, zU_at (Or.inr (by decide))])
        have f131 := zf hS_s4 ha (k := 0) rfl
        have g132 : s5 a 3 = s4 a 3 := (by rw [e_s5, zU_at (Or.inr (by decide))])
        have f133 := zf hS_s4 ha (k := 3) rfl
        have g134 : s5 a 7 = s4 a 7 := (by rw [e_s5, zU_at (Or.inr (by decide))])
        have f135 := zf hS_s4 ha (k := 7) rfl
        have g136 : s5 a 21 = s4 a 21 := (by rw [e_s5, zU_at (Or.inr (by decide))])
        have f137 := zf hS_s4 ha (k := 21) rfl
        have g138 : s5 a 22 = s4 a 22 := (by rw [e_s5, zU_at (Or.inr (by decide))])
        have f139 := zf hS_s4 ha (k := 22) rfl
        have g140 : s5 a 23 = s4 a 23 := (by rw [e_s5, zU_at (Or.inr (by decide))])
        have f141 := zf hS_s4 ha (k := 23) rfl
        have g142 : s5 a 24 = s4 a 24 := (by rw [e_s5, zU_at (Or.inr (by decide))])
        have f143 := zf hS_s4 ha (k := 24) rfl
        have g144 : s5 a 38 = s4 a 38 := (by rw [e_s5, zU_at (Or.inr (by decide))])
        have f145 := zf hS_s4 ha (k := 38) rfl
        have g146 : s5 a 51 = s4 a 51 := (by rw [e_s5, zU_at (Or.inr (by decide))])
        have f147 := zf hS_s4 ha (k := 51) rfl
        have g148 : s5 a 52 = s4 a 52 := (by rw [e_s5, zU_at (Or.inr (by decide))])
        have f149 := zf hS_s4 ha (k := 52) rfl
        exact j_vret hx hq rfl (by decide) (by decide) dX12_sign_41 ⟨rfl, rfl, hS_s5, (zFr_u (zFr_t (zFr_t zFr_rf hF_s2 (by decide)) hF_s4 (by decide)) e_s5 ha (by decide)), ⟨by omega, by omega, by omega, by omega, by omega, by omega, by omega, by omega, by omega, by omega, by omega, by omega, by omega, by omega⟩⟩

set_option maxHeartbeats 1200000 in
set_option maxRecDepth 20000 in
theorem c_X12_result {E : zE} {l : Launch} (hst : l.stackTraces = false) (a : Nat) (x1 : Int) : Con E l yX12_result cX12_result 2 (some .int) { frames := 1, cells := 0, slots := 0, locals := 20 } (fun G s vs => vs = [.ref a, .int (zI x1)] ∧ zGK G ∧ zSK G s ∧ (gT G a = 13) ∧ ((-2147483648) ≤ x1 ∧ x1 ≤ 2147483647)) (fun G s _ => pI (fun r G2 s2 => G2 = G ∧ zSK G s2 ∧ zFr [13] G s s2 ∧ ((-2147483648) ≤ r ∧ r ≤ 2147483647) ∧ s2 a 0 = s a 0 ∧ s2 a 3 = s a 3 ∧ s2 a 4 = s a 4 ∧ s2 a 5 = s a 5 ∧ s2 a 7 = s a 7 ∧ s2 a 21 = s a 21 ∧ s2 a 22 = s a 22 ∧ s2 a 23 = s a 23 ∧ s2 a 24 = s a 24 ∧ s2 a 38 = s a 38 ∧ s2 a 51 = s a 51 ∧ s2 a 52 = s a 52)) := by
  refine Con.mk hst (by decide) (fun G s vs h => by rw [h.1]; exact Nat.le_of_ble_eq_true rfl) ?_
  rintro X G s0 vs ⟨rfl, hG, hS0, ha, hx1⟩ rfl hx hq
  show JJ X E 2 G s0 0 0 [(0, .ref a), (1, .int (zI x1))] 0 []
  refine j_aload_n hx 0 dX12_result_0 rfl ?_
  refine j_aload_n hx 0 dX12_result_1 rfl ?_
  have f1 := zf hS0 ha (k := 5) rfl
  refine g13_5 hx hG ha kf_RX12_137 rfl dX12_result_2 ?_
  refine p13_8 hx hG ha kf_RX12_17 dX12_result_5 ?_
  obtain ⟨s1, e_s1⟩ : ∃ z, z = zU s0 a 8 ((s0 a 5)) := ⟨_, rfl⟩
  rw [← e_s1]
  have hS_s1 : zSK G s1 := by rw [e_s1]; exact zSK_F hS0 ha rfl rfl rfl (by omega)
  refine j_aload_n hx 0 dX12_result_8 rfl ?_
  refine j_callV hx hG (c_X12_fine hst a) lk_RX12_166 ha (by decide) rfl rfl rfl rfl [] ⟨rfl, hG, hS_s1, ha⟩ rfl rfl ⟨by decide, by decide⟩ ⟨by decide, by decide⟩ (k2 := 0) (n2 := 0) rfl rfl (Nat.le_of_ble_eq_true rfl) dX12_result_9 (kIP (fun v2 q3 => ?_))
  refine j_if_eq hx 19 dX12_result_12 rfl (by omega) (fun h4 => ?_) (fun h4 => ?_)
  · skip
    refine j_aload_n hx 0 dX12_result_19 rfl ?_
    have f5 := zf hS0 ha (k := 6) rfl
    refine g13_6 hx hG ha kf_RX12_140 (v := (s0 a 6)) (by rw [e_s1, zU_at (Or.inr (by decide))]) dX12_result_20 ?_
    refine j_bipush hx dX12_result_23 rfl ?_
    refine j_isub hx (r := (s0 a 6) - 10) dX12_result_25 (by omega) ?_
    have g6 : s1 a 0 = s0 a 0 := (by rw [e_s1, zU_at (Or.inr (by decide))])
    have f7 := zf hS0 ha (k := 0) rfl
    have g8 : s1 a 3 = s0 a 3 := (by rw [e_s1, zU_at (Or.inr (by decide))])
    have f9 := zf hS0 ha (k := 3) rfl
    have g10 : s1 a 4 = s0 a 4 := (by rw [e_s1, zU_at (Or.inr (by decide))])
    have f11 := zf hS0 ha (k := 4) rfl
    have g12 : s1 a 5 = s0 a 5 := (by rw [e_s1, zU_at (Or.inr (by decide))])
    have g13 : s1 a 7 = s0 a 7 := (by rw [e_s1, zU_at (Or.inr (by decide))])
    have f14 := zf hS0 ha (k := 7) rfl
    have g15 : s1 a 21 = s0 a 21 := (by rw [e_s1, zU_at (Or.inr (by decide))])
    have f16 := zf hS0 ha (k := 21) rfl
    have g17 : s1 a 22 = s0 a 22 := (by rw [e_s1, zU_at (Or.inr (by decide))])
    have f18 := zf hS0 ha (k := 22) rfl
    have g19 : s1 a 23 = s0 a 23 := (by rw [e_s1, zU_at (Or.inr (by decide))])
    have f20 := zf hS0 ha (k := 23) rfl
    have g21 : s1 a 24 = s0 a 24 := (by rw [e_s1, zU_at (Or.inr (by decide))])
    have f22 := zf hS0 ha (k := 24) rfl
    have g23 : s1 a 38 = s0 a 38 := (by rw [e_s1, zU_at (Or.inr (by decide))])
    have f24 := zf hS0 ha (k := 38) rfl
    have g25 : s1 a 51 = s0 a 51 := (by rw [e_s1, zU_at (Or.inr (by decide))])
    have f26 := zf hS0 ha (k := 51) rfl
    have g27 : s1 a 52 = s0 a 52 := (by rw [e_s1, zU_at (Or.inr (by decide))])
    have f28 := zf hS0 ha (k := 52) rfl
    exact j_iret hx hq rfl (by decide) (by decide) dX12_result_26 ⟨(s0 a 6) - 10, rfl, rfl, hS_s1, (zFr_u zFr_rf e_s1 ha (by decide)), ⟨(by omega), by omega, by omega, by omega, by omega, by omega, by omega, by omega, by omega, by omega, by omega, by omega, by omega⟩⟩
  · skip
    refine j_iload_n hx 1 dX12_result_15 rfl ?_
    refine j_goto hx 26 dX12_result_16 rfl ?_
    have g29 : s1 a 0 = s0 a 0 := (by rw [e_s1, zU_at (Or.inr (by decide))])
    have f30 := zf hS0 ha (k := 0) rfl
    have g31 : s1 a 3 = s0 a 3 := (by rw [e_s1, zU_at (Or.inr (by decide))])
    have f32 := zf hS0 ha (k := 3) rfl
    have g33 : s1 a 4 = s0 a 4 := (by rw [e_s1, zU_at (Or.inr (by decide))])
    have f34 := zf hS0 ha (k := 4) rfl
    have g35 : s1 a 5 = s0 a 5 := (by rw [e_s1, zU_at (Or.inr (by decide))])
    have g36 : s1 a 7 = s0 a 7 := (by rw [e_s1, zU_at (Or.inr (by decide))])
    have f37 := zf hS0 ha (k := 7) rfl
    have g38 : s1 a 21 = s0 a 21 := (by rw [e_s1, zU_at (Or.inr (by decide))])
    have f39 := zf hS0 ha (k := 21) rfl
    have g40 : s1 a 22 = s0 a 22 := (by rw [e_s1, zU_at (Or.inr (by decide))])
    have f41 := zf hS0 ha (k := 22) rfl
    have g42 : s1 a 23 = s0 a 23 := (by rw [e_s1, zU_at (Or.inr (by decide))])
    have f43 := zf hS0 ha (k := 23) rfl
    have g44 : s1 a 24 = s0 a 24 := (by rw [e_s1, zU_at (Or.inr (by decide))])
    have f45 := zf hS0 ha (k := 24) rfl
    have g46 : s1 a 38 = s0 a 38 := (by rw [e_s1, zU_at (Or.inr (by decide))])
    have f47 := zf hS0 ha (k := 38) rfl
    have g48 : s1 a 51 = s0 a 51 := (by rw [e_s1, zU_at (Or.inr (by decide))])
    have f49 := zf hS0 ha (k := 51) rfl
    have g50 : s1 a 52 = s0 a 52 := (by rw [e_s1, zU_at (Or.inr (by decide))])
    have f51 := zf hS0 ha (k := 52) rfl
    exact j_iret hx hq rfl (by decide) (by decide) dX12_result_26 ⟨x1, rfl, rfl, hS_s1, (zFr_u zFr_rf e_s1 ha (by decide)), ⟨(by omega), by omega, by omega, by omega, by omega, by omega, by omega, by omega, by omega, by omega, by omega, by omega, by omega⟩⟩

set_option maxHeartbeats 1200000 in
set_option maxRecDepth 20000 in
theorem c_X12_forgets {E : zE} {l : Launch} (hst : l.stackTraces = false) (a : Nat) : Con E l yX12_forgets cX12_forgets 2 none { frames := 0, cells := 0, slots := 0, locals := 0 } (fun G s vs => vs = [.ref a] ∧ zGK G ∧ zSK G s ∧ (gT G a = 13)) (fun G s _ => pV (fun G2 s2 => G2 = G ∧ zSK G s2 ∧ zFr [87] G s s2 ∧ True)) := by
  refine Con.mk hst (by decide) (fun G s vs h => by rw [h.1]; exact Nat.le_of_ble_eq_true rfl) ?_
  rintro X G s0 vs ⟨rfl, hG, hS0, ha⟩ rfl hx hq
  show JJ X E 2 G s0 0 0 [(0, .ref a)] 0 []
  refine j_iconst hx dX12_forgets_0 ?_
  refine j_istore_n hx [(1, .int (zI 0)), (0, .ref a)] dX12_forgets_1 (by decide) rfl ?_
  have c2_1 : ∀ (m_c2_1 : Nat) (v1 : Int) (s2 : zS), 2147483648 - v1 < m_c2_1 → (0 ≤ v1 ∧ v1 ≤ 5) → (zSK G s2) → (zFr [87] G s0 s2) → JJ X E 2 G s2 0 0 [(0, .ref a), (1, .int (zI v1))] 2 [] := by
    intro m_c2_1
    induction m_c2_1 with
    | zero => intro v1 s2 hm_c2_1 fA3 hS_s2 hF_s2; exfalso; omega
    | succ m_c2_1 ih_c2_1 => 
      intro v1 s2 hm_c2_1 fA3 hS_s2 hF_s2
      refine j_iload_n hx 1 dX12_forgets_2 rfl ?_
      refine j_iconst hx dX12_forgets_3 ?_
      refine j_icmp_ge hx 20 dX12_forgets_4 rfl (by omega) ⟨by decide, by decide⟩ (fun h2 => ?_) (fun h2 => ?_)
      · skip
        exact j_vret hx hq rfl (by decide) (by decide) dX12_forgets_20 ⟨rfl, rfl, hS_s2, (zFr_t zFr_rf hF_s2 (by decide)), trivial⟩
      · skip
        refine j_aload_n hx 0 dX12_forgets_7 rfl ?_
        refine g13_30 hx hG ha kf_RX12_65 dX12_forgets_8 ?_
        refine j_iload_n hx 1 dX12_forgets_11 rfl ?_
        refine j_iconst hx dX12_forgets_12 ?_
        refine j_iast hx hG (zr (k := 30) (t2 := 87) hG ha rfl) (by decide) rfl (zlen hG (zr (k := 30) (t2 := 87) hG ha rfl) (n := 5) rfl rfl) (by omega) (by omega) (j := (v1).toNat) rfl dX12_forgets_13 ?_
        obtain ⟨s6, e_s6⟩ : ∃ z, z = zU s2 (gP G a 30) (v1).toNat (-1) := ⟨_, rfl⟩
        rw [← e_s6]
        have hS_s6 : zSK G s6 := by rw [e_s6]; exact zSK_A hS_s2 (zr (k := 30) (t2 := 87) hG ha rfl) rfl rfl rfl (by omega)
        refine j_iinc hx 1 [(1, .int (zI (v1 + 1))), (0, .ref a)] dX12_forgets_14 rfl (by omega) (by decide) rfl ?_
        refine j_goto hx 2 dX12_forgets_17 rfl ?_
        exact j_sub [1, 0] [(0, .ref a), (1, .int (zI (v1 + 1)))] rfl (ih_c2_1 (v1 + 1) s6 (by omega) (by omega) hS_s6 (zFr_u (zFr_t zFr_rf hF_s2 (by decide)) e_s6 (zr (k := 30) (t2 := 87) hG ha rfl) (by decide)))
  exact j_sub [1, 0] [(0, .ref a), (1, .int (zI 0))] rfl (c2_1 (2147483648 * 4) 0 s0 (by omega) (by omega) hS0 zFr_rf)

set_option maxHeartbeats 1200000 in
set_option maxRecDepth 20000 in
theorem c_X12_stays {E : zE} {l : Launch} (hst : l.stackTraces = false) (a : Nat) : Con E l yX12_stays cX12_stays 2 none { frames := 0, cells := 0, slots := 0, locals := 0 } (fun G s vs => vs = [.ref a] ∧ zGK G ∧ zSK G s ∧ (gT G a = 13)) (fun G s _ => pV (fun G2 s2 => G2 = G ∧ zSK G s2 ∧ zFr [85] G s s2 ∧ zc (s2 (gP G a 28)) = zc (s (gP G a 27)) ∧ s2 (gP G a 28) 488 = s (gP G a 27) 488)) := by
  refine Con.mk hst (by decide) (fun G s vs h => by rw [h.1]; exact Nat.le_of_ble_eq_true rfl) ?_
  rintro X G s0 vs ⟨rfl, hG, hS0, ha⟩ rfl hx hq
  show JJ X E 2 G s0 0 0 [(0, .ref a)] 0 []
  refine j_iconst hx dX12_stays_0 ?_
  refine j_istore_n hx [(1, .int (zI 0)), (0, .ref a)] dX12_stays_1 (by decide) rfl ?_
  have c2_1 : ∀ (m_c2_1 : Nat) (v1 : Int) (s2 : zS), 2147483648 - v1 < m_c2_1 → (0 ≤ v1 ∧ v1 ≤ 515) → (zSK G s2) → (zFr [85] G s0 s2) → (zEq (v1).toNat (s2 (gP G a 28)) (s0 (gP G a 27))) → JJ X E 2 G s2 0 0 [(0, .ref a), (1, .int (zI v1))] 2 [] := by
    intro m_c2_1
    induction m_c2_1 with
    | zero => intro v1 s2 hm_c2_1 fA3 hS_s2 hF_s2 hE1; exfalso; omega
    | succ m_c2_1 ih_c2_1 => 
      intro v1 s2 hm_c2_1 fA3 hS_s2 hF_s2 hE1
      refine j_iload_n hx 1 dX12_stays_2 rfl ?_
      refine j_sipush hx dX12_stays_3 rfl ?_
      refine j_icmp_ge hx 27 dX12_stays_6 rfl (by omega) ⟨by decide, by decide⟩ (fun h2 => ?_) (fun h2 => ?_)
      · skip
        have z3 := zEq_zc hE1 (by omega)
        exact j_vret hx hq rfl (by decide) (by decide) dX12_stays_27 ⟨rfl, rfl, hS_s2, (zFr_t zFr_rf hF_s2 (by decide)), ⟨by omega, by omega⟩⟩
      · skip
        refine j_aload_n hx 0 dX12_stays_9 rfl ?_
        refine g13_28 hx hG ha kf_RX12_59 dX12_stays_10 ?_
        refine j_iload_n hx 1 dX12_stays_13 rfl ?_
        refine j_aload_n hx 0 dX12_stays_14 rfl ?_
        refine g13_27 hx hG ha kf_RX12_56 dX12_stays_15 ?_
        refine j_iload_n hx 1 dX12_stays_18 rfl ?_
        have f4 := zah (j := (v1).toNat) hS0 (zr (k := 27) (t2 := 84) hG ha rfl) (fun k => ⟨_, rfl, (axS_h _).1, (axS_h _).2.1⟩) (zlen hG (zr (k := 27) (t2 := 84) hG ha rfl) (n := 515) rfl rfl) (show 0 ≤ v1 by omega) (by omega) rfl
        refine j_iald hx hG (zr (k := 27) (t2 := 84) hG ha rfl) (by decide) rfl (zlen hG (zr (k := 27) (t2 := 84) hG ha rfl) (n := 515) rfl rfl) (by omega) (by omega) (j := (v1).toNat) rfl (v := (s0 (gP G a 27) (v1).toNat)) (by rw [(zFr_g hF_s2 (zr (k := 27) (t2 := 84) hG ha rfl) (by decide))]) dX12_stays_19 ?_
        refine j_iast hx hG (zr (k := 28) (t2 := 85) hG ha rfl) (by decide) rfl (zlen hG (zr (k := 28) (t2 := 85) hG ha rfl) (n := 515) rfl rfl) (by omega) (by omega) (j := (v1).toNat) rfl dX12_stays_20 ?_
        obtain ⟨s7, e_s7⟩ : ∃ z, z = zU s2 (gP G a 28) (v1).toNat ((s0 (gP G a 27) (v1).toNat)) := ⟨_, rfl⟩
        rw [← e_s7]
        have hS_s7 : zSK G s7 := by rw [e_s7]; exact zSK_cq hS_s2 hS0 (zr (k := 28) (t2 := 85) hG ha rfl) (zr (k := 27) (t2 := 84) hG ha rfl) (fun _ => rfl) rfl (j2 := (v1).toNat) (by rfl) (by have := (zlen hG (zr (k := 27) (t2 := 84) hG ha rfl) (n := 515) rfl rfl); omega) rfl
        refine j_iinc hx 1 [(1, .int (zI (v1 + 1))), (0, .ref a)] dX12_stays_21 rfl (by omega) (by decide) rfl ?_
        refine j_goto hx 2 dX12_stays_24 rfl ?_
        exact j_sub [1, 0] [(0, .ref a), (1, .int (zI (v1 + 1)))] rfl (ih_c2_1 (v1 + 1) s7 (by omega) (by omega) hS_s7 (zFr_u (zFr_t zFr_rf hF_s2 (by decide)) e_s7 (zr (k := 28) (t2 := 85) hG ha rfl) (by decide)) (zEq_s hE1 e_s7 (by omega) rfl))
  exact j_sub [1, 0] [(0, .ref a), (1, .int (zI 0))] rfl (c2_1 (2147483648 * 4) 0 s0 (by omega) (by omega) hS0 zFr_rf (zEq_0 (by omega)))
