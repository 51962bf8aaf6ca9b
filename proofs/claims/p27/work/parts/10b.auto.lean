theorem lk_RX12_210 : LkS RX12 210 yX12_isKind cX12_isKind 1 (some .boolean) 1 := ⟨km_RX12_210, kst_yX12_isKind, kn_RX12, kc_yX12_isKind, by decide +kernel, by decide +kernel, by decide +kernel⟩
set_option maxHeartbeats 4000000 in
set_option maxRecDepth 20000 in
theorem c_X12_readCards {E : zE} {l : Launch} (hst : l.stackTraces = false) (a : Nat) (x1 : Int) : Con E l yX12_readCards cX12_readCards 2 none { frames := 1, cells := 0, slots := 0, locals := 22 } (fun G s vs => vs = [.ref a, .int (zI x1)] ∧ zGK G ∧ zSK G s ∧ (gT G a = 13) ∧ (0 ≤ x1 ∧ x1 ≤ 2) ∧ (s (gP G a 13) 0 + s (gP G a 13) 1 + s (gP G a 13) 2 = s a 22)) (fun G s _ => pV (fun G2 s2 => G2 = G ∧ zSK G s2 ∧ zFr [13, 75, 76] G s s2 ∧ s a 4 ≤ s2 a 4 ∧ 0 ≤ s a 5 → 0 ≤ s2 a 5 ∧ s2 (gP G a 13) 0 + s2 (gP G a 13) 1 + s2 (gP G a 13) 2 = s2 a 22 ∧ s2 a 4 ≤ s a 4 ∨ s2 a 4 ≤ s a 3 ∧ s2 a 0 = s a 0 ∧ s2 a 3 = s a 3 ∧ s2 a 7 = s a 7 ∧ s2 a 21 = s a 21 ∧ s2 a 23 = s a 23 ∧ s2 a 24 = s a 24 ∧ s2 a 38 = s a 38 ∧ s2 a 51 = s a 51 ∧ s2 a 52 = s a 52)) := by
  refine Con.mk hst (by decide) (fun G s vs h => by rw [h.1]; exact Nat.le_of_ble_eq_true rfl) ?_
  rintro X G s0 vs ⟨rfl, hG, hS0, ha, hx1, e0⟩ rfl hx hq
  show JJ X E 2 G s0 0 0 [(0, .ref a), (1, .int (zI x1))] 0 []
  rcases (show x1 = 0 ∨ x1 = 1 ∨ x1 = 2 by omega) with rfl | rfl | rfl
  · skip
    refine j_aload_n hx 0 dX12_readCards_0 rfl ?_
    refine j_callV hx hG (c_X12_fine hst a) lk_RX12_166 ha (by decide) rfl rfl rfl rfl [] ⟨rfl, hG, hS0, ha⟩ rfl rfl ⟨by decide, by decide⟩ ⟨by decide, by decide⟩ (k2 := 0) (n2 := 0) rfl rfl (Nat.le_of_ble_eq_true rfl) dX12_readCards_1 (kIP (fun v1 q2 => ?_))
    refine j_if_ne hx 8 dX12_readCards_4 rfl (by omega) (fun h3 => ?_) (fun h3 => ?_)
    · skip
      refine j_aload_n hx 0 dX12_readCards_8 rfl ?_
      have f4 := zf hS0 ha (k := 4) rfl
      have f5 := zf hS0 ha (k := 3) rfl
      have f6 := zf hS0 ha (k := 0) rfl
      have f7 := zf hS0 ha (k := 5) rfl
      have f8 := zf hS0 ha (k := 7) rfl
      have f9 := zf hS0 ha (k := 21) rfl
      have f10 := zf hS0 ha (k := 22) rfl
      have f11 := zf hS0 ha (k := 23) rfl
      have f12 := zf hS0 ha (k := 24) rfl
      have f13 := zf hS0 ha (k := 38) rfl
      have f14 := zf hS0 ha (k := 51) rfl
      have f15 := zf hS0 ha (k := 52) rfl
      refine j_callV hx hG (c_X12_here hst a) lk_RX12_149 ha (by decide) rfl rfl rfl rfl [] ⟨rfl, hG, hS0, ha⟩ rfl rfl ⟨by decide, by decide⟩ ⟨by decide, by decide⟩ (k2 := 0) (n2 := 0) rfl rfl (Nat.le_of_ble_eq_true rfl) dX12_readCards_9 (kIM (fun v16 s1 hS_s1 hF_s1 q17 => ?_))
      refine j_callS hx (c_X12_isKind hst v16) lk_RX12_210 [.int (zI v16)] ⟨rfl, hG, hS_s1, (by omega)⟩ rfl rfl ⟨by decide, by decide⟩ ⟨by decide, by decide⟩ (k2 := 0) (n2 := 0) rfl rfl (Nat.le_of_ble_eq_true rfl) dX12_readCards_12 (kIP (fun v18 q19 => ?_))
      have f20 := zf hS_s1 ha (k := 0) rfl
      have f21 := zf hS_s1 ha (k := 3) rfl
      have f22 := zf hS_s1 ha (k := 7) rfl
      have f23 := zf hS_s1 ha (k := 21) rfl
      have f24 := zf hS_s1 ha (k := 23) rfl
      have f25 := zf hS_s1 ha (k := 24) rfl
      have f26 := zf hS_s1 ha (k := 38) rfl
      have f27 := zf hS_s1 ha (k := 51) rfl
      have f28 := zf hS_s1 ha (k := 52) rfl
      have f29 := zf hS_s1 ha (k := 4) rfl
      have f30 := zf hS_s1 ha (k := 5) rfl
      have c27_2 : ∀ (m_c27_2 : Nat) (s3 : zS), 2 * (1000 - s3 a 4) + max 0 (0 - s3 a 5) < m_c27_2 → (zSK G s3) → (zFr [13, 75, 76] G s1 s3) → (s3 a 0 = s1 a 0) → (s3 a 3 = s1 a 3) → (s3 a 7 = s1 a 7) → (s3 a 21 = s1 a 21) → (s3 a 23 = s1 a 23) → (s3 a 24 = s1 a 24) → (s3 a 38 = s1 a 38) → (s3 a 51 = s1 a 51) → (s3 a 52 = s1 a 52) → (s1 a 4 ≤ s3 a 4) → (0 ≤ s1 a 5 → 0 ≤ s3 a 5) → (s3 (gP G a 13) 0 + s3 (gP G a 13) 1 + s3 (gP G a 13) 2 = s3 a 22) → (s3 a 4 ≤ s1 a 4 ∨ s3 a 4 ≤ s3 a 3) → JJ X E 2 G s3 0 0 [(0, .ref a), (1, .int (zI 0))] 27 [] := by
        intro m_c27_2
        induction m_c27_2 with
        | zero => intro s3 hm_c27_2 hS_s3 hF_s3 fA6 fA7 fA8 fA9 fA10 fA11 fA12 fA13 fA14 fA15 fA16 fA17 fA18; exfalso; omega
        | succ m_c27_2 ih_c27_2 => 
          intro s3 hm_c27_2 hS_s3 hF_s3 fA6 fA7 fA8 fA9 fA10 fA11 fA12 fA13 fA14 fA15 fA16 fA17 fA18
          refine j_aload_n hx 0 dX12_readCards_27 rfl ?_
          refine j_callV hx hG (c_X12_fine hst a) lk_RX12_166 ha (by decide) rfl rfl rfl rfl [] ⟨rfl, hG, hS_s3, ha⟩ rfl rfl ⟨by decide, by decide⟩ ⟨by decide, by decide⟩ (k2 := 0) (n2 := 0) rfl rfl (Nat.le_of_ble_eq_true rfl) dX12_readCards_28 (kIP (fun v31 q32 => ?_))
          refine j_if_eq hx 174 dX12_readCards_31 rfl (by omega) (fun h33 => ?_) (fun h33 => ?_)
          · skip
            have f34 := zf hS_s3 ha (k := 4) rfl
            have f35 := zf hS_s3 ha (k := 5) rfl
            have f36 := zf hS_s3 ha (k := 22) rfl
            have f37 := zf hS_s3 ha (k := 0) rfl
            have f38 := zf hS_s3 ha (k := 3) rfl
            have f39 := zf hS_s3 ha (k := 7) rfl
            have f40 := zf hS_s3 ha (k := 21) rfl
            have f41 := zf hS_s3 ha (k := 23) rfl
            have f42 := zf hS_s3 ha (k := 24) rfl
            have f43 := zf hS_s3 ha (k := 38) rfl
            have f44 := zf hS_s3 ha (k := 51) rfl
            have f45 := zf hS_s3 ha (k := 52) rfl
            exact j_vret hx hq rfl (by decide) (by decide) dX12_readCards_174 ⟨rfl, rfl, hS_s3, (zFr_t (zFr_t zFr_rf hF_s1 (by decide)) hF_s3 (by decide)), ⟨by omega, by omega, by omega, by omega, by omega, by omega, by omega, by omega, by omega, by omega, by omega, by omega, by omega⟩⟩
          · skip
            refine j_aload_n hx 0 dX12_readCards_34 rfl ?_
            have f46 := zf hS_s3 ha (k := 4) rfl
            refine g13_4 hx hG ha kf_RX12_143 rfl dX12_readCards_35 ?_
            refine j_aload_n hx 0 dX12_readCards_38 rfl ?_
            have f47 := zf hS_s3 ha (k := 3) rfl
            refine g13_3 hx hG ha kf_RX12_146 rfl dX12_readCards_39 ?_
            refine j_icmp_ge hx 174 dX12_readCards_42 rfl (by omega) (by omega) (fun h48 => ?_) (fun h48 => ?_)
            · skip
              have f49 := zf hS_s3 ha (k := 5) rfl
              have f50 := zf hS_s3 ha (k := 22) rfl
              have f51 := zf hS_s3 ha (k := 0) rfl
              have f52 := zf hS_s3 ha (k := 7) rfl
              have f53 := zf hS_s3 ha (k := 21) rfl
              have f54 := zf hS_s3 ha (k := 23) rfl
              have f55 := zf hS_s3 ha (k := 24) rfl
              have f56 := zf hS_s3 ha (k := 38) rfl
              have f57 := zf hS_s3 ha (k := 51) rfl
              have f58 := zf hS_s3 ha (k := 52) rfl
              exact j_vret hx hq rfl (by decide) (by decide) dX12_readCards_174 ⟨rfl, rfl, hS_s3, (zFr_t (zFr_t zFr_rf hF_s1 (by decide)) hF_s3 (by decide)), ⟨by omega, by omega, by omega, by omega, by omega, by omega, by omega, by omega, by omega, by omega, by omega, by omega, by omega⟩⟩
            · skip
              refine j_aload_n hx 0 dX12_readCards_45 rfl ?_
              refine g13_9 hx hG ha kf_RX12_20 dX12_readCards_46 ?_
              refine j_aload_n hx 0 dX12_readCards_49 rfl ?_
              refine g13_4 hx hG ha kf_RX12_143 rfl dX12_readCards_50 ?_
              have f59 := zaI (j := ((s3 a 4)).toNat) hS0 (zr (k := 9) (t2 := 72) hG ha rfl) rfl (zlen hG (zr (k := 9) (t2 := 72) hG ha rfl) (n := 600) rfl rfl) (show 0 ≤ (s3 a 4) by omega) (by omega) rfl
              refine j_iald hx hG (zr (k := 9) (t2 := 72) hG ha rfl) (by decide) rfl (zlen hG (zr (k := 9) (t2 := 72) hG ha rfl) (n := 600) rfl rfl) (by omega) (by omega) (j := ((s3 a 4)).toNat) rfl (v := (s0 (gP G a 9) ((s3 a 4)).toNat)) (by rw [(zFr_g hF_s3 (zr (k := 9) (t2 := 72) hG ha rfl) (by decide)), (zFr_g hF_s1 (zr (k := 9) (t2 := 72) hG ha rfl) (by decide))]) dX12_readCards_53 ?_
              refine j_callS hx (c_X12_isSmall hst ((s0 (gP G a 9) ((s3 a 4)).toNat))) lk_RX12_153 [.int (zI ((s0 (gP G a 9) ((s3 a 4)).toNat)))] ⟨rfl, hG, hS_s3, (by omega)⟩ rfl rfl ⟨by decide, by decide⟩ ⟨by decide, by decide⟩ (k2 := 0) (n2 := 0) rfl rfl (Nat.le_of_ble_eq_true rfl) dX12_readCards_54 (kIP (fun v60 q61 => ?_))
              refine j_if_eq hx 174 dX12_readCards_57 rfl (by omega) (fun h62 => ?_) (fun h62 => ?_)
              · skip
                have f63 := zf hS_s3 ha (k := 5) rfl
                have f64 := zf hS_s3 ha (k := 22) rfl
                have f65 := zf hS_s3 ha (k := 0) rfl
                have f66 := zf hS_s3 ha (k := 7) rfl
                have f67 := zf hS_s3 ha (k := 21) rfl
                have f68 := zf hS_s3 ha (k := 23) rfl
                have f69 := zf hS_s3 ha (k := 24) rfl
                have f70 := zf hS_s3 ha (k := 38) rfl
                have f71 := zf hS_s3 ha (k := 51) rfl
                have f72 := zf hS_s3 ha (k := 52) rfl
                exact j_vret hx hq rfl (by decide) (by decide) dX12_readCards_174 ⟨rfl, rfl, hS_s3, (zFr_t (zFr_t zFr_rf hF_s1 (by decide)) hF_s3 (by decide)), ⟨by omega, by omega, by omega, by omega, by omega, by omega, by omega, by omega, by omega, by omega, by omega, by omega, by omega⟩⟩
              · skip
                refine j_aload_n hx 0 dX12_readCards_60 rfl ?_
                refine g13_9 hx hG ha kf_RX12_20 dX12_readCards_61 ?_
                refine j_aload_n hx 0 dX12_readCards_64 rfl ?_
                refine g13_4 hx hG ha kf_RX12_143 rfl dX12_readCards_65 ?_
                refine j_iald hx hG (zr (k := 9) (t2 := 72) hG ha rfl) (by decide) rfl (zlen hG (zr (k := 9) (t2 := 72) hG ha rfl) (n := 600) rfl rfl) (by omega) (by omega) (j := ((s3 a 4)).toNat) rfl (v := (s0 (gP G a 9) ((s3 a 4)).toNat)) (by rw [(zFr_g hF_s3 (zr (k := 9) (t2 := 72) hG ha rfl) (by decide)), (zFr_g hF_s1 (zr (k := 9) (t2 := 72) hG ha rfl) (by decide))]) dX12_readCards_68 ?_
                refine j_callS hx (c_X12_isKind hst ((s0 (gP G a 9) ((s3 a 4)).toNat))) lk_RX12_210 [.int (zI ((s0 (gP G a 9) ((s3 a 4)).toNat)))] ⟨rfl, hG, hS_s3, (by omega)⟩ rfl rfl ⟨by decide, by decide⟩ ⟨by decide, by decide⟩ (k2 := 0) (n2 := 0) rfl rfl (Nat.le_of_ble_eq_true rfl) dX12_readCards_69 (kIP (fun v73 q74 => ?_))
                have f75 := zf hS_s3 ha (k := 0) rfl
                have f76 := zf hS_s3 ha (k := 7) rfl
                have f77 := zf hS_s3 ha (k := 21) rfl
                have f78 := zf hS_s3 ha (k := 22) rfl
                have f79 := zf hS_s3 ha (k := 23) rfl
                have f80 := zf hS_s3 ha (k := 24) rfl
                have f81 := zf hS_s3 ha (k := 38) rfl
                have f82 := zf hS_s3 ha (k := 51) rfl
                have f83 := zf hS_s3 ha (k := 52) rfl
                have c105_19 : ∀ (s20 : zS), (zSK G s20) → (zFr [13] G s3 s20) → (s20 a 0 = s3 a 0) → (s20 a 3 = s3 a 3) → (s20 a 4 = s3 a 4) → (s20 a 7 = s3 a 7) → (s20 a 21 = s3 a 21) → (s20 a 22 = s3 a 22) → (s20 a 23 = s3 a 23) → (s20 a 24 = s3 a 24) → (s20 a 38 = s3 a 38) → (s20 a 51 = s3 a 51) → (s20 a 52 = s3 a 52) → JJ X E 2 G s20 0 0 [(0, .ref a), (1, .int (zI 0))] 105 [] := by
                  intro s20 hS_s20 hF_s20 fA23 fA24 fA25 fA26 fA27 fA28 fA29 fA30 fA31 fA32 fA33
                  refine j_aload_n hx 0 dX12_readCards_105 rfl ?_
                  refine j_callV hx hG (c_X12_fine hst a) lk_RX12_166 ha (by decide) rfl rfl rfl rfl [] ⟨rfl, hG, hS_s20, ha⟩ rfl rfl ⟨by decide, by decide⟩ ⟨by decide, by decide⟩ (k2 := 0) (n2 := 0) rfl rfl (Nat.le_of_ble_eq_true rfl) dX12_readCards_106 (kIP (fun v84 q85 => ?_))
                  refine j_if_ne hx 113 dX12_readCards_109 rfl (by omega) (fun h86 => ?_) (fun h86 => ?_)
                  · skip
                    refine j_aload_n hx 0 dX12_readCards_113 rfl ?_
                    refine g13_12 hx hG ha kf_RX12_29 dX12_readCards_114 ?_
                    refine j_bipush hx dX12_readCards_117 rfl ?_
                    refine j_iload_n hx 1 dX12_readCards_119 rfl ?_
                    refine j_imul hx (r := 0) dX12_readCards_120 (by omega) ?_
                    refine j_aload_n hx 0 dX12_readCards_121 rfl ?_
                    refine g13_13 hx hG ha kf_RX12_32 dX12_readCards_122 ?_
                    refine j_iload_n hx 1 dX12_readCards_125 rfl ?_
                    have f87 := zaI (j := 0) hS_s3 (zr (k := 13) (t2 := 76) hG ha rfl) rfl (zlen hG (zr (k := 13) (t2 := 76) hG ha rfl) (n := 3) rfl rfl) (show 0 ≤ 0 by omega) (by omega) rfl
                    refine j_iald hx hG (zr (k := 13) (t2 := 76) hG ha rfl) (by decide) rfl (zlen hG (zr (k := 13) (t2 := 76) hG ha rfl) (n := 3) rfl rfl) (by omega) (by omega) (j := 0) rfl (v := (s3 (gP G a 13) 0)) (by rw [(zFr_g hF_s20 (zr (k := 13) (t2 := 76) hG ha rfl) (by decide))]) dX12_readCards_126 ?_
                    refine j_iadd hx (r := (s3 (gP G a 13) 0)) dX12_readCards_127 (by omega) ?_
                    refine j_aload_n hx 0 dX12_readCards_128 rfl ?_
                    refine g13_9 hx hG ha kf_RX12_20 dX12_readCards_129 ?_
                    refine j_aload_n hx 0 dX12_readCards_132 rfl ?_
                    have f88 := zf hS_s20 ha (k := 4) rfl
                    refine g13_4 hx hG ha kf_RX12_143 rfl dX12_readCards_133 ?_
                    have f89 := zaI (j := ((s20 a 4)).toNat) hS0 (zr (k := 9) (t2 := 72) hG ha rfl) rfl (zlen hG (zr (k := 9) (t2 := 72) hG ha rfl) (n := 600) rfl rfl) (show 0 ≤ (s20 a 4) by omega) (by omega) rfl
                    refine j_iald hx hG (zr (k := 9) (t2 := 72) hG ha rfl) (by decide) rfl (zlen hG (zr (k := 9) (t2 := 72) hG ha rfl) (n := 600) rfl rfl) (by omega) (by omega) (j := ((s20 a 4)).toNat) rfl (v := (s0 (gP G a 9) ((s20 a 4)).toNat)) (by rw [(zFr_g hF_s20 (zr (k := 9) (t2 := 72) hG ha rfl) (by decide)), (zFr_g hF_s3 (zr (k := 9) (t2 := 72) hG ha rfl) (by decide)), (zFr_g hF_s1 (zr (k := 9) (t2 := 72) hG ha rfl) (by decide))]) dX12_readCards_136 ?_
                    refine j_bipush hx dX12_readCards_137 rfl ?_
                    refine j_isub hx (r := (s0 (gP G a 9) ((s20 a 4)).toNat) - 97) dX12_readCards_139 (by omega) ?_
                    refine j_iast hx hG (zr (k := 12) (t2 := 75) hG ha rfl) (by decide) rfl (zlen hG (zr (k := 12) (t2 := 75) hG ha rfl) (n := 180) rfl rfl) (by omega) (by omega) (j := ((s3 (gP G a 13) 0)).toNat) rfl dX12_readCards_140 ?_
                    obtain ⟨s34, e_s34⟩ : ∃ z, z = zU s20 (gP G a 12) ((s3 (gP G a 13) 0)).toNat ((s0 (gP G a 9) ((s20 a 4)).toNat) - 97) := ⟨_, rfl⟩
                    rw [← e_s34]
                    have hS_s34 : zSK G s34 := by rw [e_s34]; exact zSK_A hS_s20 (zr (k := 12) (t2 := 75) hG ha rfl) rfl rfl rfl (by omega)
                    refine j_aload_n hx 0 dX12_readCards_141 rfl ?_
                    refine g13_13 hx hG ha kf_RX12_32 dX12_readCards_142 ?_
                    refine j_iload_n hx 1 dX12_readCards_145 rfl ?_
                    refine j_dup2 hx dX12_readCards_146 rfl rfl ?_
                    refine j_iald hx hG (zr (k := 13) (t2 := 76) hG ha rfl) (by decide) rfl (zlen hG (zr (k := 13) (t2 := 76) hG ha rfl) (n := 3) rfl rfl) (by omega) (by omega) (j := 0) rfl (v := (s3 (gP G a 13) 0)) (by rw [e_s34, zU_at (Or.inl (zne (zr (k := 12) (t2 := 75) hG ha rfl) (zr (k := 13) (t2 := 76) hG ha rfl) (by decide))), (zFr_g hF_s20 (zr (k := 13) (t2 := 76) hG ha rfl) (by decide))]) dX12_readCards_147 ?_
                    refine j_iconst hx dX12_readCards_148 ?_
                    refine j_iadd hx (r := (s3 (gP G a 13) 0) + 1) dX12_readCards_149 (by omega) ?_
                    refine j_iast hx hG (zr (k := 13) (t2 := 76) hG ha rfl) (by decide) rfl (zlen hG (zr (k := 13) (t2 := 76) hG ha rfl) (n := 3) rfl rfl) (by omega) (by omega) (j := 0) rfl dX12_readCards_150 ?_
                    obtain ⟨s35, e_s35⟩ : ∃ z, z = zU s34 (gP G a 13) 0 ((s3 (gP G a 13) 0) + 1) := ⟨_, rfl⟩
                    rw [← e_s35]
                    have hS_s35 : zSK G s35 := by rw [e_s35]; exact zSK_A hS_s34 (zr (k := 13) (t2 := 76) hG ha rfl) rfl rfl rfl (by omega)
                    refine j_aload_n hx 0 dX12_readCards_151 rfl ?_
                    refine j_dup hx dX12_readCards_152 rfl ?_
                    have f90 := zf hS_s20 ha (k := 22) rfl
                    refine g13_22 hx hG ha kf_RX12_183 (v := (s20 a 22)) (by rw [e_s35, zU_at (Or.inl (zne (zr (k := 13) (t2 := 76) hG ha rfl) ha (by decide))), e_s34, zU_at (Or.inl (zne (zr (k := 12) (t2 := 75) hG ha rfl) ha (by decide)))]) dX12_readCards_153 ?_
                    refine j_iconst hx dX12_readCards_156 ?_
                    refine j_iadd hx (r := (s20 a 22) + 1) dX12_readCards_157 (by omega) ?_
                    refine p13_22 hx hG ha kf_RX12_183 dX12_readCards_158 ?_
                    obtain ⟨s36, e_s36⟩ : ∃ z, z = zU s35 a 22 ((s20 a 22) + 1) := ⟨_, rfl⟩
                    rw [← e_s36]
                    have hS_s36 : zSK G s36 := by rw [e_s36]; exact zSK_F hS_s35 ha rfl rfl rfl (by omega)
                    refine j_aload_n hx 0 dX12_readCards_161 rfl ?_
                    refine j_dup hx dX12_readCards_162 rfl ?_
                    refine g13_4 hx hG ha kf_RX12_143 (v := (s20 a 4)) (by rw [e_s36, zU_at (Or.inr (by decide)), e_s35, zU_at (Or.inl (zne (zr (k := 13) (t2 := 76) hG ha rfl) ha (by decide))), e_s34, zU_at (Or.inl (zne (zr (k := 12) (t2 := 75) hG ha rfl) ha (by decide)))]) dX12_readCards_163 ?_
                    refine j_iconst hx dX12_readCards_166 ?_
                    refine j_iadd hx (r := (s20 a 4) + 1) dX12_readCards_167 (by omega) ?_
                    refine p13_4 hx hG ha kf_RX12_143 dX12_readCards_168 ?_
                    obtain ⟨s37, e_s37⟩ : ∃ z, z = zU s36 a 4 ((s20 a 4) + 1) := ⟨_, rfl⟩
                    rw [← e_s37]
                    have hS_s37 : zSK G s37 := by rw [e_s37]; exact zSK_F hS_s36 ha rfl rfl rfl (by omega)
                    refine j_goto hx 27 dX12_readCards_171 rfl ?_
                    have g91 : s37 a 4 = (s20 a 4) + 1 := (by rw [e_s37, zU_eq])
                    have g92 : s37 a 5 = s20 a 5 := (by rw [e_s37, zU_at (Or.inr (by decide)), e_s36, zU_at (Or.inr (by decide)), e_s35, zU_at (Or.inl (zne (zr (k := 13) (t2 := 76) hG ha rfl) ha (by decide))), e_s34, zU_at (Or.inl (zne (zr (k := 12) (t2 := 75) hG ha rfl) ha (by decide)))])
                    have f93 := zf hS_s20 ha (k := 5) rfl
                    have g94 : s37 a 0 = s20 a 0 := (by rw [e_s37, zU_at (Or.inr (by decide)), e_s36, zU_at (Or.inr (by decide)), e_s35, zU_at (Or.inl (zne (zr (k := 13) (t2 := 76) hG ha rfl) ha (by decide))), e_s34, zU_at (Or.inl (zne (zr (k := 12) (t2 := 75) hG ha rfl) ha (by decide)))])
                    have f95 := zf hS_s20 ha (k := 0) rfl
                    have g96 : s37 a 3 = s20 a 3 := (by rw [e_s37, zU_at (Or.inr (by decide)), e_s36, zU_at (Or.inr (by decide)), e_s35, zU_at (Or.inl (zne (zr (k := 13) (t2 := 76) hG ha rfl) ha (by decide))), e_s34, zU_at (Or.inl (zne (zr (k := 12) (t2 := 75) hG ha rfl) ha (by decide)))])
                    have f97 := zf hS_s20 ha (k := 3) rfl
                    have g98 : s37 a 7 = s20 a 7 := (by rw [e_s37, zU_at (Or.inr (by decide)), e_s36, zU_at (Or.inr (by decide)), e_s35, zU_at (Or.inl (zne (zr (k := 13) (t2 := 76) hG ha rfl) ha (by decide))), e_s34, zU_at (Or.inl (zne (zr (k := 12) (t2 := 75) hG ha rfl) ha (by decide)))])
                    have f99 := zf hS_s20 ha (k := 7) rfl
                    have g100 : s37 a 21 = s20 a 21 := (by rw [e_s37, zU_at (Or.inr (by decide)), e_s36, zU_at (Or.inr (by decide)), e_s35, zU_at (Or.inl (zne (zr (k := 13) (t2 := 76) hG ha rfl) ha (by decide))), e_s34, zU_at (Or.inl (zne (zr (k := 12) (t2 := 75) hG ha rfl) ha (by decide)))])
                    have f101 := zf hS_s20 ha (k := 21) rfl
                    have g102 : s37 a 23 = s20 a 23 := (by rw [e_s37, zU_at (Or.inr (by decide)), e_s36, zU_at (Or.inr (by decide)), e_s35, zU_at (Or.inl (zne (zr (k := 13) (t2 := 76) hG ha rfl) ha (by decide))), e_s34, zU_at (Or.inl (zne (zr (k := 12) (t2 := 75) hG ha rfl) ha (by decide)))])
                    have f103 := zf hS_s20 ha (k := 23) rfl
                    have g104 : s37 a 24 = s20 a 24 := (by rw [e_s37, zU_at (Or.inr (by decide)), e_s36, zU_at (Or.inr (by decide)), e_s35, zU_at (Or.inl (zne (zr (k := 13) (t2 := 76) hG ha rfl) ha (by decide))), e_s34, zU_at (Or.inl (zne (zr (k := 12) (t2 := 75) hG ha rfl) ha (by decide)))])
                    have f105 := zf hS_s20 ha (k := 24) rfl
                    have g106 : s37 a 38 = s20 a 38 := (by rw [e_s37, zU_at (Or.inr (by decide)), e_s36, zU_at (Or.inr (by decide)), e_s35, zU_at (Or.inl (zne (zr (k := 13) (t2 := 76) hG ha rfl) ha (by decide))), e_s34, zU_at (Or.inl (zne (zr (k := 12) (t2 := 75) hG ha rfl) ha (by decide)))])
                    have f107 := zf hS_s20 ha (k := 38) rfl
                    have g108 : s37 a 51 = s20 a 51 := (by rw [e_s37, zU_at (Or.inr (by decide)), e_s36, zU_at (Or.inr (by decide)), e_s35, zU_at (Or.inl (zne (zr (k := 13) (t2 := 76) hG ha rfl) ha (by decide))), e_s34, zU_at (Or.inl (zne (zr (k := 12) (t2 := 75) hG ha rfl) ha (by decide)))])
                    have f109 := zf hS_s20 ha (k := 51) rfl
                    have g110 : s37 a 52 = s20 a 52 := (by rw [e_s37, zU_at (Or.inr (by decide)), e_s36, zU_at (Or.inr (by decide)), e_s35, zU_at (Or.inl (zne (zr (k := 13) (t2 := 76) hG ha rfl) ha (by decide))), e_s34, zU_at (Or.inl (zne (zr (k := 12) (t2 := 75) hG ha rfl) ha (by decide)))])
                    have f111 := zf hS_s20 ha (k := 52) rfl
                    have g112 : s37 (gP G a 13) 0 = (s3 (gP G a 13) 0) + 1 := (by rw [e_s37, zU_at (Or.inl (zne ha (zr (k := 13) (t2 := 76) hG ha rfl) (by decide))), e_s36, zU_at (Or.inl (zne ha (zr (k := 13) (t2 := 76) hG ha rfl) (by decide))), e_s35, zU_eq])
                    have g113 : s37 (gP G a 13) 1 = s3 (gP G a 13) 1 := (by rw [e_s37, zU_at (Or.inl (zne ha (zr (k := 13) (t2 := 76) hG ha rfl) (by decide))), e_s36, zU_at (Or.inl (zne ha (zr (k := 13) (t2 := 76) hG ha rfl) (by decide))), e_s35, zU_at (Or.inr (by decide)), e_s34, zU_at (Or.inl (zne (zr (k := 12) (t2 := 75) hG ha rfl) (zr (k := 13) (t2 := 76) hG ha rfl) (by decide))), (zFr_g hF_s20 (zr (k := 13) (t2 := 76) hG ha rfl) (by decide))])
                    have g114 : s37 (gP G a 13) 2 = s3 (gP G a 13) 2 := (by rw [e_s37, zU_at (Or.inl (zne ha (zr (k := 13) (t2 := 76) hG ha rfl) (by decide))), e_s36, zU_at (Or.inl (zne ha (zr (k := 13) (t2 := 76) hG ha rfl) (by decide))), e_s35, zU_at (Or.inr (by decide)), e_s34, zU_at (Or.inl (zne (zr (k := 12) (t2 := 75) hG ha rfl) (zr (k := 13) (t2 := 76) hG ha rfl) (by decide))), (zFr_g hF_s20 (zr (k := 13) (t2 := 76) hG ha rfl) (by decide))])
                    have g115 : s37 a 22 = (s20 a 22) + 1 := (by rw [e_s37, zU_at (Or.inr (by decide)), e_s36, zU_eq])
                    exact j_sub [0, 1] [(0, .ref a), (1, .int (zI 0))] rfl (ih_c27_2 s37 (by omega) hS_s37 (zFr_u (zFr_u (zFr_u (zFr_u (zFr_t (zFr_t zFr_rf hF_s3 (by decide)) hF_s20 (by decide)) e_s34 (zr (k := 12) (t2 := 75) hG ha rfl) (by decide)) e_s35 (zr (k := 13) (t2 := 76) hG ha rfl) (by decide)) e_s36 ha (by decide)) e_s37 ha (by decide)) (by omega) (by omega) (by omega) (by omega) (by omega) (by omega) (by omega) (by omega) (by omega) (by omega) (by omega) (by omega) (by omega))
                  · skip
                    have f116 := zf hS_s20 ha (k := 4) rfl
                    have f117 := zf hS_s20 ha (k := 5) rfl
                    have g118 : s20 (gP G a 13) 0 = s3 (gP G a 13) 0 := (by rw [(zFr_g hF_s20 (zr (k := 13) (t2 := 76) hG ha rfl) (by decide))])
                    have g119 : s20 (gP G a 13) 1 = s3 (gP G a 13) 1 := (by rw [(zFr_g hF_s20 (zr (k := 13) (t2 := 76) hG ha rfl) (by decide))])
                    have g120 : s20 (gP G a 13) 2 = s3 (gP G a 13) 2 := (by rw [(zFr_g hF_s20 (zr (k := 13) (t2 := 76) hG ha rfl) (by decide))])
                    have f121 := zf hS_s20 ha (k := 22) rfl
                    have f122 := zf hS_s20 ha (k := 0) rfl
                    have f123 := zf hS_s20 ha (k := 3) rfl
                    have f124 := zf hS_s20 ha (k := 7) rfl
                    have f125 := zf hS_s20 ha (k := 21) rfl
                    have f126 := zf hS_s20 ha (k := 23) rfl
                    have f127 := zf hS_s20 ha (k := 24) rfl
                    have f128 := zf hS_s20 ha (k := 38) rfl
                    have f129 := zf hS_s20 ha (k := 51) rfl
                    have f130 := zf hS_s20 ha (k := 52) rfl
                    exact j_vret hx hq rfl (by decide) (by decide) dX12_readCards_112 ⟨rfl, rfl, hS_s20, (zFr_t (zFr_t (zFr_t zFr_rf hF_s1 (by decide)) hF_s3 (by decide)) hF_s20 (by decide)), ⟨by omega, by omega, by omega, by omega, by omega, by omega, by omega, by omega, by omega, by omega, by omega, by omega, by omega⟩⟩
                refine j_if_ne hx 87 dX12_readCards_72 rfl (by omega) (fun h131 => ?_) (fun h131 => ?_)
                · skip
                  refine j_aload_n hx 0 dX12_readCards_87 rfl ?_
                  refine g13_22 hx hG ha kf_RX12_183 rfl dX12_readCards_88 ?_
                  refine j_bipush hx dX12_readCards_91 rfl ?_
                  refine j_icmp_ne hx 105 dX12_readCards_93 rfl (by omega) ⟨by decide, by decide⟩ (fun h132 => ?_) (fun h132 => ?_)
                  · skip
                    exact j_sub [0, 1] [(0, .ref a), (1, .int (zI 0))] rfl (c105_19 s3 hS_s3 zFr_rf (by omega) (by omega) (by omega) (by omega) (by omega) (by omega) (by omega) (by omega) (by omega) (by omega) (by omega))
                  · skip
                    refine j_aload_n hx 0 dX12_readCards_96 rfl ?_
                    refine j_iconst hx dX12_readCards_97 ?_
                    refine j_aload_n hx 0 dX12_readCards_98 rfl ?_
                    refine g13_4 hx hG ha kf_RX12_143 rfl dX12_readCards_99 ?_
                    refine j_callV hx hG (c_X12_wrong hst a 3 ((s3 a 4))) lk_RX12_173 ha (by decide) rfl rfl rfl rfl [.int (zI 3), .int (zI ((s3 a 4)))] ⟨rfl, hG, hS_s3, ha, (by omega), (by omega)⟩ rfl rfl ⟨by decide, by decide⟩ ⟨by decide, by decide⟩ (k2 := 0) (n2 := 0) rfl rfl (Nat.le_of_ble_eq_true rfl) dX12_readCards_102 (kVM (fun s38 hS_s38 hF_s38 q134 => ?_))
                    have f135 := zf hS_s38 ha (k := 0) rfl
                    have f136 := zf hS_s38 ha (k := 3) rfl
                    have f137 := zf hS_s38 ha (k := 4) rfl
                    have f138 := zf hS_s38 ha (k := 7) rfl
                    have f139 := zf hS_s38 ha (k := 21) rfl
                    have f140 := zf hS_s38 ha (k := 22) rfl
                    have f141 := zf hS_s38 ha (k := 23) rfl
                    have f142 := zf hS_s38 ha (k := 24) rfl
                    have f143 := zf hS_s38 ha (k := 38) rfl
                    have f144 := zf hS_s38 ha (k := 51) rfl
                    have f145 := zf hS_s38 ha (k := 52) rfl
                    exact j_sub [0, 1] [(0, .ref a), (1, .int (zI 0))] rfl (c105_19 s38 hS_s38 (zFr_t zFr_rf hF_s38 (by decide)) (by omega) (by omega) (by omega) (by omega) (by omega) (by omega) (by omega) (by omega) (by omega) (by omega) (by omega))
                · skip
                  refine j_aload_n hx 0 dX12_readCards_75 rfl ?_
                  refine j_iconst hx dX12_readCards_76 ?_
                  refine j_aload_n hx 0 dX12_readCards_77 rfl ?_
                  refine g13_4 hx hG ha kf_RX12_143 rfl dX12_readCards_78 ?_
                  refine j_callV hx hG (c_X12_wrong hst a 1 ((s3 a 4))) lk_RX12_173 ha (by decide) rfl rfl rfl rfl [.int (zI 1), .int (zI ((s3 a 4)))] ⟨rfl, hG, hS_s3, ha, (by omega), (by omega)⟩ rfl rfl ⟨by decide, by decide⟩ ⟨by decide, by decide⟩ (k2 := 0) (n2 := 0) rfl rfl (Nat.le_of_ble_eq_true rfl) dX12_readCards_81 (kVM (fun s39 hS_s39 hF_s39 q147 => ?_))
                  refine j_goto hx 105 dX12_readCards_84 rfl ?_
                  have f148 := zf hS_s39 ha (k := 0) rfl
                  have f149 := zf hS_s39 ha (k := 3) rfl
                  have f150 := zf hS_s39 ha (k := 4) rfl
                  have f151 := zf hS_s39 ha (k := 7) rfl
                  have f152 := zf hS_s39 ha (k := 21) rfl
                  have f153 := zf hS_s39 ha (k := 22) rfl
                  have f154 := zf hS_s39 ha (k := 23) rfl
                  have f155 := zf hS_s39 ha (k := 24) rfl
                  have f156 := zf hS_s39 ha (k := 38) rfl
                  have f157 := zf hS_s39 ha (k := 51) rfl
                  have f158 := zf hS_s39 ha (k := 52) rfl
                  exact j_sub [0, 1] [(0, .ref a), (1, .int (zI 0))] rfl (c105_19 s39 hS_s39 (zFr_t zFr_rf hF_s39 (by decide)) (by omega) (by omega) (by omega) (by omega) (by omega) (by omega) (by omega) (by omega) (by omega) (by omega) (by omega))
      refine j_if_ne hx 27 dX12_readCards_15 rfl (by omega) (fun h159 => ?_) (fun h159 => ?_)
      · skip
        have g160 : s1 (gP G a 13) 0 = s0 (gP G a 13) 0 := (by rw [(zFr_g hF_s1 (zr (k := 13) (t2 := 76) hG ha rfl) (by decide))])
        have g161 : s1 (gP G a 13) 1 = s0 (gP G a 13) 1 := (by rw [(zFr_g hF_s1 (zr (k := 13) (t2 := 76) hG ha rfl) (by decide))])
        have g162 : s1 (gP G a 13) 2 = s0 (gP G a 13) 2 := (by rw [(zFr_g hF_s1 (zr (k := 13) (t2 := 76) hG ha rfl) (by decide))])
        have f163 := zf hS_s1 ha (k := 22) rfl
        exact j_sub [0, 1] [(0, .ref a), (1, .int (zI 0))] rfl (c27_2 (2147483648 * 4) s1 (by omega) hS_s1 zFr_rf (by omega) (by omega) (by omega) (by omega) (by omega) (by omega) (by omega) (by omega) (by omega) (by omega) (by omega) (by omega) (by omega))
      · skip
        refine j_aload_n hx 0 dX12_readCards_18 rfl ?_
        refine j_iconst hx dX12_readCards_19 ?_
        refine j_aload_n hx 0 dX12_readCards_20 rfl ?_
        refine g13_4 hx hG ha kf_RX12_143 rfl dX12_readCards_21 ?_
        have f164 := zf hS_s1 ha (k := 22) rfl
        refine j_callV hx hG (c_X12_wrong hst a 1 ((s1 a 4))) lk_RX12_173 ha (by decide) rfl rfl rfl rfl [.int (zI 1), .int (zI ((s1 a 4)))] ⟨rfl, hG, hS_s1, ha, (by omega), (by omega)⟩ rfl rfl ⟨by decide, by decide⟩ ⟨by decide, by decide⟩ (k2 := 0) (n2 := 0) rfl rfl (Nat.le_of_ble_eq_true rfl) dX12_readCards_24 (kVM (fun s40 hS_s40 hF_s40 q166 => ?_))
        have f167 := zf hS_s40 ha (k := 4) rfl
        have f168 := zf hS_s40 ha (k := 5) rfl
        have f169 := zf hS_s40 ha (k := 0) rfl
        have f170 := zf hS_s40 ha (k := 3) rfl
        have f171 := zf hS_s40 ha (k := 7) rfl
        have f172 := zf hS_s40 ha (k := 21) rfl
        have f173 := zf hS_s40 ha (k := 23) rfl
        have f174 := zf hS_s40 ha (k := 24) rfl
        have f175 := zf hS_s40 ha (k := 38) rfl
        have f176 := zf hS_s40 ha (k := 51) rfl
        have f177 := zf hS_s40 ha (k := 52) rfl
        have g178 : s40 (gP G a 13) 0 = s0 (gP G a 13) 0 := (by rw [(zFr_g hF_s40 (zr (k := 13) (t2 := 76) hG ha rfl) (by decide)), (zFr_g hF_s1 (zr (k := 13) (t2 := 76) hG ha rfl) (by decide))])
        have g179 : s40 (gP G a 13) 1 = s0 (gP G a 13) 1 := (by rw [(zFr_g hF_s40 (zr (k := 13) (t2 := 76) hG ha rfl) (by decide)), (zFr_g hF_s1 (zr (k := 13) (t2 := 76) hG ha rfl) (by decide))])
        have g180 : s40 (gP G a 13) 2 = s0 (gP G a 13) 2 := (by rw [(zFr_g hF_s40 (zr (k := 13) (t2 := 76) hG ha rfl) (by decide)), (zFr_g hF_s1 (zr (k := 13) (t2 := 76) hG ha rfl) (by decide))])
        have f181 := zf hS_s40 ha (k := 22) rfl
        exact j_sub [0, 1] [(0, .ref a), (1, .int (zI 0))] rfl (c27_2 (2147483648 * 4) s40 (by omega) hS_s40 (zFr_t zFr_rf hF_s40 (by decide)) (by omega) (by omega) (by omega) (by omega) (by omega) (by omega) (by omega) (by omega) (by omega) (by omega) (by omega) (by omega) (by omega))
    · skip
      have f182 := zf hS0 ha (k := 4) rfl
      have f183 := zf hS0 ha (k := 5) rfl
      have f184 := zf hS0 ha (k := 22) rfl
      have f185 := zf hS0 ha (k := 3) rfl
      have f186 := zf hS0 ha (k := 0) rfl
      have f187 := zf hS0 ha (k := 7) rfl
      have f188 := zf hS0 ha (k := 21) rfl
      have f189 := zf hS0 ha (k := 23) rfl
      have f190 := zf hS0 ha (k := 24) rfl
      have f191 := zf hS0 ha (k := 38) rfl
      have f192 := zf hS0 ha (k := 51) rfl
      have f193 := zf hS0 ha (k := 52) rfl
      exact j_vret hx hq rfl (by decide) (by decide) dX12_readCards_7 ⟨rfl, rfl, hS0, zFr_rf, ⟨by omega, by omega, by omega, by omega, by omega, by omega, by omega, by omega, by omega, by omega, by omega, by omega, by omega⟩⟩
  · skip
    refine j_aload_n hx 0 dX12_readCards_0 rfl ?_
    refine j_callV hx hG (c_X12_fine hst a) lk_RX12_166 ha (by decide) rfl rfl rfl rfl [] ⟨rfl, hG, hS0, ha⟩ rfl rfl ⟨by decide, by decide⟩ ⟨by decide, by decide⟩ (k2 := 0) (n2 := 0) rfl rfl (Nat.le_of_ble_eq_true rfl) dX12_readCards_1 (kIP (fun v194 q195 => ?_))
    refine j_if_ne hx 8 dX12_readCards_4 rfl (by omega) (fun h196 => ?_) (fun h196 => ?_)
    · skip
      refine j_aload_n hx 0 dX12_readCards_8 rfl ?_
      have f197 := zf hS0 ha (k := 4) rfl
      have f198 := zf hS0 ha (k := 3) rfl
      have f199 := zf hS0 ha (k := 0) rfl
      have f200 := zf hS0 ha (k := 5) rfl
      have f201 := zf hS0 ha (k := 7) rfl
      have f202 := zf hS0 ha (k := 21) rfl
      have f203 := zf hS0 ha (k := 22) rfl
      have f204 := zf hS0 ha (k := 23) rfl
      have f205 := zf hS0 ha (k := 24) rfl
      have f206 := zf hS0 ha (k := 38) rfl
      have f207 := zf hS0 ha (k := 51) rfl
      have f208 := zf hS0 ha (k := 52) rfl
      refine j_callV hx hG (c_X12_here hst a) lk_RX12_149 ha (by decide) rfl rfl rfl rfl [] ⟨rfl, hG, hS0, ha⟩ rfl rfl ⟨by decide, by decide⟩ ⟨by decide, by decide⟩ (k2 := 0) (n2 := 0) rfl rfl (Nat.le_of_ble_eq_true rfl) dX12_readCards_9 (kIM (fun v209 s41 hS_s41 hF_s41 q210 => ?_))
      refine j_callS hx (c_X12_isKind hst v209) lk_RX12_210 [.int (zI v209)] ⟨rfl, hG, hS_s41, (by omega)⟩ rfl rfl ⟨by decide, by decide⟩ ⟨by decide, by decide⟩ (k2 := 0) (n2 := 0) rfl rfl (Nat.le_of_ble_eq_true rfl) dX12_readCards_12 (kIP (fun v211 q212 => ?_))
      have f213 := zf hS_s41 ha (k := 0) rfl
      have f214 := zf hS_s41 ha (k := 3) rfl
      have f215 := zf hS_s41 ha (k := 7) rfl
      have f216 := zf hS_s41 ha (k := 21) rfl
      have f217 := zf hS_s41 ha (k := 23) rfl
      have f218 := zf hS_s41 ha (k := 24) rfl
      have f219 := zf hS_s41 ha (k := 38) rfl
      have f220 := zf hS_s41 ha (k := 51) rfl
      have f221 := zf hS_s41 ha (k := 52) rfl
      have f222 := zf hS_s41 ha (k := 4) rfl
      have f223 := zf hS_s41 ha (k := 5) rfl
      have c27_42 : ∀ (m_c27_42 : Nat) (s43 : zS), 2 * (1000 - s43 a 4) + max 0 (0 - s43 a 5) < m_c27_42 → (zSK G s43) → (zFr [13, 75, 76] G s41 s43) → (s43 a 0 = s41 a 0) → (s43 a 3 = s41 a 3) → (s43 a 7 = s41 a 7) → (s43 a 21 = s41 a 21) → (s43 a 23 = s41 a 23) → (s43 a 24 = s41 a 24) → (s43 a 38 = s41 a 38) → (s43 a 51 = s41 a 51) → (s43 a 52 = s41 a 52) → (s41 a 4 ≤ s43 a 4) → (0 ≤ s41 a 5 → 0 ≤ s43 a 5) → (s43 (gP G a 13) 0 + s43 (gP G a 13) 1 + s43 (gP G a 13) 2 = s43 a 22) → (s43 a 4 ≤ s41 a 4 ∨ s43 a 4 ≤ s43 a 3) → JJ X E 2 G s43 0 0 [(0, .ref a), (1, .int (zI 1))] 27 [] := by
        intro m_c27_42
        induction m_c27_42 with
        | zero => intro s43 hm_c27_42 hS_s43 hF_s43 fA46 fA47 fA48 fA49 fA50 fA51 fA52 fA53 fA54 fA55 fA56 fA57 fA58; exfalso; omega
        | succ m_c27_42 ih_c27_42 => 
          intro s43 hm_c27_42 hS_s43 hF_s43 fA46 fA47 fA48 fA49 fA50 fA51 fA52 fA53 fA54 fA55 fA56 fA57 fA58
          refine j_aload_n hx 0 dX12_readCards_27 rfl ?_
          refine j_callV hx hG (c_X12_fine hst a) lk_RX12_166 ha (by decide) rfl rfl rfl rfl [] ⟨rfl, hG, hS_s43, ha⟩ rfl rfl ⟨by decide, by decide⟩ ⟨by decide, by decide⟩ (k2 := 0) (n2 := 0) rfl rfl (Nat.le_of_ble_eq_true rfl) dX12_readCards_28 (kIP (fun v224 q225 => ?_))
          refine j_if_eq hx 174 dX12_readCards_31 rfl (by omega) (fun h226 => ?_) (fun h226 => ?_)
          · skip
            have f227 := zf hS_s43 ha (k := 4) rfl
            have f228 := zf hS_s43 ha (k := 5) rfl
            have f229 := zf hS_s43 ha (k := 22) rfl
            have f230 := zf hS_s43 ha (k := 0) rfl
            have f231 := zf hS_s43 ha (k := 3) rfl
            have f232 := zf hS_s43 ha (k := 7) rfl
            have f233 := zf hS_s43 ha (k := 21) rfl
            have f234 := zf hS_s43 ha (k := 23) rfl
            have f235 := zf hS_s43 ha (k := 24) rfl
            have f236 := zf hS_s43 ha (k := 38) rfl
            have f237 := zf hS_s43 ha (k := 51) rfl
            have f238 := zf hS_s43 ha (k := 52) rfl
            exact j_vret hx hq rfl (by decide) (by decide) dX12_readCards_174 ⟨rfl, rfl, hS_s43, (zFr_t (zFr_t zFr_rf hF_s41 (by decide)) hF_s43 (by decide)), ⟨by omega, by omega, by omega, by omega, by omega, by omega, by omega, by omega, by omega, by omega, by omega, by omega, by omega⟩⟩
          · skip
            refine j_aload_n hx 0 dX12_readCards_34 rfl ?_
            have f239 := zf hS_s43 ha (k := 4) rfl
            refine g13_4 hx hG ha kf_RX12_143 rfl dX12_readCards_35 ?_
            refine j_aload_n hx 0 dX12_readCards_38 rfl ?_
            have f240 := zf hS_s43 ha (k := 3) rfl
            refine g13_3 hx hG ha kf_RX12_146 rfl dX12_readCards_39 ?_
            refine j_icmp_ge hx 174 dX12_readCards_42 rfl (by omega) (by omega) (fun h241 => ?_) (fun h241 => ?_)
            · skip
              have f242 := zf hS_s43 ha (k := 5) rfl
              have f243 := zf hS_s43 ha (k := 22) rfl
              have f244 := zf hS_s43 ha (k := 0) rfl
              have f245 := zf hS_s43 ha (k := 7) rfl
              have f246 := zf hS_s43 ha (k := 21) rfl
              have f247 := zf hS_s43 ha (k := 23) rfl
              have f248 := zf hS_s43 ha (k := 24) rfl
              have f249 := zf hS_s43 ha (k := 38) rfl
              have f250 := zf hS_s43 ha (k := 51) rfl
              have f251 := zf hS_s43 ha (k := 52) rfl
              exact j_vret hx hq rfl (by decide) (by decide) dX12_readCards_174 ⟨rfl, rfl, hS_s43, (zFr_t (zFr_t zFr_rf hF_s41 (by decide)) hF_s43 (by decide)), ⟨by omega, by omega, by omega, by omega, by omega, by omega, by omega, by omega, by omega, by omega, by omega, by omega, by omega⟩⟩
            · skip
              refine j_aload_n hx 0 dX12_readCards_45 rfl ?_
              refine g13_9 hx hG ha kf_RX12_20 dX12_readCards_46 ?_
              refine j_aload_n hx 0 dX12_readCards_49 rfl ?_
              refine g13_4 hx hG ha kf_RX12_143 rfl dX12_readCards_50 ?_
              have f252 := zaI (j := ((s43 a 4)).toNat) hS0 (zr (k := 9) (t2 := 72) hG ha rfl) rfl (zlen hG (zr (k := 9) (t2 := 72) hG ha rfl) (n := 600) rfl rfl) (show 0 ≤ (s43 a 4) by omega) (by omega) rfl
              refine j_iald hx hG (zr (k := 9) (t2 := 72) hG ha rfl) (by decide) rfl (zlen hG (zr (k := 9) (t2 := 72) hG ha rfl) (n := 600) rfl rfl) (by omega) (by omega) (j := ((s43 a 4)).toNat) rfl (v := (s0 (gP G a 9) ((s43 a 4)).toNat)) (by rw [(zFr_g hF_s43 (zr (k := 9) (t2 := 72) hG ha rfl) (by decide)), (zFr_g hF_s41 (zr (k := 9) (t2 := 72) hG ha rfl) (by decide))]) dX12_readCards_53 ?_
              refine j_callS hx (c_X12_isSmall hst ((s0 (gP G a 9) ((s43 a 4)).toNat))) lk_RX12_153 [.int (zI ((s0 (gP G a 9) ((s43 a 4)).toNat)))] ⟨rfl, hG, hS_s43, (by omega)⟩ rfl rfl ⟨by decide, by decide⟩ ⟨by decide, by decide⟩ (k2 := 0) (n2 := 0) rfl rfl (Nat.le_of_ble_eq_true rfl) dX12_readCards_54 (kIP (fun v253 q254 => ?_))
              refine j_if_eq hx 174 dX12_readCards_57 rfl (by omega) (fun h255 => ?_) (fun h255 => ?_)
              · skip
                have f256 := zf hS_s43 ha (k := 5) rfl
                have f257 := zf hS_s43 ha (k := 22) rfl
                have f258 := zf hS_s43 ha (k := 0) rfl
                have f259 := zf hS_s43 ha (k := 7) rfl
                have f260 := zf hS_s43 ha (k := 21) rfl
                have f261 := zf hS_s43 ha (k := 23) rfl
                have f262 := zf hS_s43 ha (k := 24) rfl
                have f263 := zf hS_s43 ha (k := 38) rfl
                have f264 := zf hS_s43 ha (k := 51) rfl
                have f265 := zf hS_s43 ha (k := 52) rfl
                exact j_vret hx hq rfl (by decide) (by decide) dX12_readCards_174 ⟨rfl, rfl, hS_s43, (zFr_t (zFr_t zFr_rf hF_s41 (by decide)) hF_s43 (by decide)), ⟨by omega, by omega, by omega, by omega, by omega, by omega, by omega, by omega, by omega, by omega, by omega, by omega, by omega⟩⟩
              · skip
                refine j_aload_n hx 0 dX12_readCards_60 rfl ?_
                refine g13_9 hx hG ha kf_RX12_20 dX12_readCards_61 ?_
                refine j_aload_n hx 0 dX12_readCards_64 rfl ?_
                refine g13_4 hx hG ha kf_RX12_143 rfl dX12_readCards_65 ?_
                refine j_iald hx hG (zr (k := 9) (t2 := 72) hG ha rfl) (by decide) rfl (zlen hG (zr (k := 9) (t2 := 72) hG ha rfl) (n := 600) rfl rfl) (by omega) (by omega) (j := ((s43 a 4)).toNat) rfl (v := (s0 (gP G a 9) ((s43 a 4)).toNat)) (by rw [(zFr_g hF_s43 (zr (k := 9) (t2 := 72) hG ha rfl) (by decide)), (zFr_g hF_s41 (zr (k := 9) (t2 := 72) hG ha rfl) (by decide))]) dX12_readCards_68 ?_
                refine j_callS hx (c_X12_isKind hst ((s0 (gP G a 9) ((s43 a 4)).toNat))) lk_RX12_210 [.int (zI ((s0 (gP G a 9) ((s43 a 4)).toNat)))] ⟨rfl, hG, hS_s43, (by omega)⟩ rfl rfl ⟨by decide, by decide⟩ ⟨by decide, by decide⟩ (k2 := 0) (n2 := 0) rfl rfl (Nat.le_of_ble_eq_true rfl) dX12_readCards_69 (kIP (fun v266 q267 => ?_))
                have f268 := zf hS_s43 ha (k := 0) rfl
                have f269 := zf hS_s43 ha (k := 7) rfl
                have f270 := zf hS_s43 ha (k := 21) rfl
                have f271 := zf hS_s43 ha (k := 22) rfl
                have f272 := zf hS_s43 ha (k := 23) rfl
                have f273 := zf hS_s43 ha (k := 24) rfl
                have f274 := zf hS_s43 ha (k := 38) rfl
                have f275 := zf hS_s43 ha (k := 51) rfl
                have f276 := zf hS_s43 ha (k := 52) rfl
                have c105_59 : ∀ (s60 : zS), (zSK G s60) → (zFr [13] G s43 s60) → (s60 a 0 = s43 a 0) → (s60 a 3 = s43 a 3) → (s60 a 4 = s43 a 4) → (s60 a 7 = s43 a 7) → (s60 a 21 = s43 a 21) → (s60 a 22 = s43 a 22) → (s60 a 23 = s43 a 23) → (s60 a 24 = s43 a 24) → (s60 a 38 = s43 a 38) → (s60 a 51 = s43 a 51) → (s60 a 52 = s43 a 52) → JJ X E 2 G s60 0 0 [(0, .ref a), (1, .int (zI 1))] 105 [] := by
                  intro s60 hS_s60 hF_s60 fA63 fA64 fA65 fA66 fA67 fA68 fA69 fA70 fA71 fA72 fA73
                  refine j_aload_n hx 0 dX12_readCards_105 rfl ?_
                  refine j_callV hx hG (c_X12_fine hst a) lk_RX12_166 ha (by decide) rfl rfl rfl rfl [] ⟨rfl, hG, hS_s60, ha⟩ rfl rfl ⟨by decide, by decide⟩ ⟨by decide, by decide⟩ (k2 := 0) (n2 := 0) rfl rfl (Nat.le_of_ble_eq_true rfl) dX12_readCards_106 (kIP (fun v277 q278 => ?_))
                  refine j_if_ne hx 113 dX12_readCards_109 rfl (by omega) (fun h279 => ?_) (fun h279 => ?_)
                  · skip
                    refine j_aload_n hx 0 dX12_readCards_113 rfl ?_
                    refine g13_12 hx hG ha kf_RX12_29 dX12_readCards_114 ?_
                    refine j_bipush hx dX12_readCards_117 rfl ?_
                    refine j_iload_n hx 1 dX12_readCards_119 rfl ?_
                    refine j_imul hx (r := 60) dX12_readCards_120 (by omega) ?_
                    refine j_aload_n hx 0 dX12_readCards_121 rfl ?_
                    refine g13_13 hx hG ha kf_RX12_32 dX12_readCards_122 ?_
                    refine j_iload_n hx 1 dX12_readCards_125 rfl ?_
                    have f280 := zaI (j := 1) hS_s43 (zr (k := 13) (t2 := 76) hG ha rfl) rfl (zlen hG (zr (k := 13) (t2 := 76) hG ha rfl) (n := 3) rfl rfl) (show 0 ≤ 1 by omega) (by omega) rfl
                    refine j_iald hx hG (zr (k := 13) (t2 := 76) hG ha rfl) (by decide) rfl (zlen hG (zr (k := 13) (t2 := 76) hG ha rfl) (n := 3) rfl rfl) (by omega) (by omega) (j := 1) rfl (v := (s43 (gP G a 13) 1)) (by rw [(zFr_g hF_s60 (zr (k := 13) (t2 := 76) hG ha rfl) (by decide))]) dX12_readCards_126 ?_
                    refine j_iadd hx (r := (s43 (gP G a 13) 1) + 60) dX12_readCards_127 (by omega) ?_
                    refine j_aload_n hx 0 dX12_readCards_128 rfl ?_
                    refine g13_9 hx hG ha kf_RX12_20 dX12_readCards_129 ?_
                    refine j_aload_n hx 0 dX12_readCards_132 rfl ?_
                    have f281 := zf hS_s60 ha (k := 4) rfl
                    refine g13_4 hx hG ha kf_RX12_143 rfl dX12_readCards_133 ?_
                    have f282 := zaI (j := ((s60 a 4)).toNat) hS0 (zr (k := 9) (t2 := 72) hG ha rfl) rfl (zlen hG (zr (k := 9) (t2 := 72) hG ha rfl) (n := 600) rfl rfl) (show 0 ≤ (s60 a 4) by omega) (by omega) rfl
                    refine j_iald hx hG (zr (k := 9) (t2 := 72) hG ha rfl) (by decide) rfl (zlen hG (zr (k := 9) (t2 := 72) hG ha rfl) (n := 600) rfl rfl) (by omega) (by omega) (j := ((s60 a 4)).toNat) rfl (v := (s0 (gP G a 9) ((s60 a 4)).toNat)) (by rw [(zFr_g hF_s60 (zr (k := 9) (t2 := 72) hG ha rfl) (by decide)), (zFr_g hF_s43 (zr (k := 9) (t2 := 72) hG ha rfl) (by decide)), (zFr_g hF_s41 (zr (k := 9) (t2 := 72) hG ha rfl) (by decide))]) dX12_readCards_136 ?_
                    refine j_bipush hx dX12_readCards_137 rfl ?_
                    refine j_isub hx (r := (s0 (gP G a 9) ((s60 a 4)).toNat) - 97) dX12_readCards_139 (by omega) ?_
                    refine j_iast hx hG (zr (k := 12) (t2 := 75) hG ha rfl) (by decide) rfl (zlen hG (zr (k := 12) (t2 := 75) hG ha rfl) (n := 180) rfl rfl) (by omega) (by omega) (j := ((s43 (gP G a 13) 1) + 60).toNat) rfl dX12_readCards_140 ?_
                    obtain ⟨s74, e_s74⟩ : ∃ z, z = zU s60 (gP G a 12) ((s43 (gP G a 13) 1) + 60).toNat ((s0 (gP G a 9) ((s60 a 4)).toNat) - 97) := ⟨_, rfl⟩
                    rw [← e_s74]
                    have hS_s74 : zSK G s74 := by rw [e_s74]; exact zSK_A hS_s60 (zr (k := 12) (t2 := 75) hG ha rfl) rfl rfl rfl (by omega)
                    refine j_aload_n hx 0 dX12_readCards_141 rfl ?_
                    refine g13_13 hx hG ha kf_RX12_32 dX12_readCards_142 ?_
                    refine j_iload_n hx 1 dX12_readCards_145 rfl ?_
                    refine j_dup2 hx dX12_readCards_146 rfl rfl ?_
                    refine j_iald hx hG (zr (k := 13) (t2 := 76) hG ha rfl) (by decide) rfl (zlen hG (zr (k := 13) (t2 := 76) hG ha rfl) (n := 3) rfl rfl) (by omega) (by omega) (j := 1) rfl (v := (s43 (gP G a 13) 1)) (by rw [e_s74, zU_at (Or.inl (zne (zr (k := 12) (t2 := 75) hG ha rfl) (zr (k := 13) (t2 := 76) hG ha rfl) (by decide))), (zFr_g hF_s60 (zr (k := 13) (t2 := 76) hG ha rfl) (by decide))]) dX12_readCards_147 ?_
                    refine j_iconst hx dX12_readCards_148 ?_
                    refine j_iadd hx (r := (s43 (gP G a 13) 1) + 1) dX12_readCards_149 (by omega) ?_
                    refine j_iast hx hG (zr (k := 13) (t2 := 76) hG ha rfl) (by decide) rfl (zlen hG (zr (k := 13) (t2 := 76) hG ha rfl) (n := 3) rfl rfl) (by omega) (by omega) (j := 1) rfl dX12_readCards_150 ?_
                    obtain ⟨s75, e_s75⟩ : ∃ z, z = zU s74 (gP G a 13) 1 ((s43 (gP G a 13) 1) + 1) := ⟨_, rfl⟩
                    rw [← e_s75]
                    have hS_s75 : zSK G s75 := by rw [e_s75]; exact zSK_A hS_s74 (zr (k := 13) (t2 := 76) hG ha rfl) rfl rfl rfl (by omega)
                    refine j_aload_n hx 0 dX12_readCards_151 rfl ?_
                    refine j_dup hx dX12_readCards_152 rfl ?_
                    have f283 := zf hS_s60 ha (k := 22) rfl
                    refine g13_22 hx hG ha kf_RX12_183 (v := (s60 a 22)) (by rw [e_s75, zU_at (Or.inl (zne (zr (k := 13) (t2 := 76) hG ha rfl) ha (by decide))), e_s74, zU_at (Or.inl (zne (zr (k := 12) (t2 := 75) hG ha rfl) ha (by decide)))]) dX12_readCards_153 ?_
                    refine j_iconst hx dX12_readCards_156 ?_
                    refine j_iadd hx (r := (s60 a 22) + 1) dX12_readCards_157 (by omega) ?_
                    refine p13_22 hx hG ha kf_RX12_183 dX12_readCards_158 ?_
                    obtain ⟨s76, e_s76⟩ : ∃ z, z = zU s75 a 22 ((s60 a 22) + 1) := ⟨_, rfl⟩
                    rw [← e_s76]
                    have hS_s76 : zSK G s76 := by rw [e_s76]; exact zSK_F hS_s75 ha rfl rfl rfl (by omega)
                    refine j_aload_n hx 0 dX12_readCards_161 rfl ?_
                    refine j_dup hx dX12_readCards_162 rfl ?_
                    refine g13_4 hx hG ha kf_RX12_143 (v := (s60 a 4)) (by rw [e_s76, zU_at (Or.inr (by decide)), e_s75, zU_at (Or.inl (zne (zr (k := 13) (t2 := 76) hG ha rfl) ha (by decide))), e_s74, zU_at (Or.inl (zne (zr (k := 12) (t2 := 75) hG ha rfl) ha (by decide)))]) dX12_readCards_163 ?_
                    refine j_iconst hx dX12_readCards_166 ?_
                    refine j_iadd hx (r := (s60 a 4) + 1) dX12_readCards_167 (by omega) ?_
                    refine p13_4 hx hG ha kf_RX12_143 dX12_readCards_168 ?_
                    obtain ⟨s77, e_s77⟩ : ∃ z, z = zU s76 a 4 ((s60 a 4) + 1) := ⟨_, rfl⟩
                    rw [← e_s77]
                    have hS_s77 : zSK G s77 := by rw [e_s77]; exact zSK_F hS_s76 ha rfl rfl rfl (by omega)
                    refine j_goto hx 27 dX12_readCards_171 rfl ?_
                    have g284 : s77 a 4 = (s60 a 4) + 1 := (by rw [e_s77, zU_eq])
                    have g285 : s77 a 5 = s60 a 5 := (by rw [e_s77, zU_at (Or.inr (by decide)), e_s76, zU_at (Or.inr (by decide)), e_s75, zU_at (Or.inl (zne (zr (k := 13) (t2 := 76) hG ha rfl) ha (by decide))), e_s74, zU_at (Or.inl (zne (zr (k := 12) (t2 := 75) hG ha rfl) ha (by decide)))])
                    have f286 := zf hS_s60 ha (k := 5) rfl
                    have g287 : s77 a 0 = s60 a 0 := (by rw [e_s77, zU_at (Or.inr (by decide)), e_s76, zU_at (Or.inr (by decide)), e_s75, zU_at (Or.inl (zne (zr (k := 13) (t2 := 76) hG ha rfl) ha (by decide))), e_s74, zU_at (Or.inl (zne (zr (k := 12) (t2 := 75) hG ha rfl) ha (by decide)))])
                    have f288 := zf hS_s60 ha (k := 0) rfl
                    have g289 : s77 a 3 = s60 a 3 := (by rw [e_s77, zU_at (Or.inr (by decide)), e_s76, zU_at (Or.inr (by decide)), e_s75, zU_at (Or.inl (zne (zr (k := 13) (t2 := 76) hG ha rfl) ha (by decide))), e_s74, zU_at (Or.inl (zne (zr (k := 12) (t2 := 75) hG ha rfl) ha (by decide)))])
                    have f290 := zf hS_s60 ha (k := 3) rfl
                    have g291 : s77 a 7 = s60 a 7 := (by rw [e_s77, zU_at (Or.inr (by decide)), e_s76, zU_at (Or.inr (by decide)), e_s75, zU_at (Or.inl (zne (zr (k := 13) (t2 := 76) hG ha rfl) ha (by decide))), e_s74, zU_at (Or.inl (zne (zr (k := 12) (t2 := 75) hG ha rfl) ha (by decide)))])
                    have f292 := zf hS_s60 ha (k := 7) rfl
                    have g293 : s77 a 21 = s60 a 21 := (by rw [e_s77, zU_at (Or.inr (by decide)), e_s76, zU_at (Or.inr (by decide)), e_s75, zU_at (Or.inl (zne (zr (k := 13) (t2 := 76) hG ha rfl) ha (by decide))), e_s74, zU_at (Or.inl (zne (zr (k := 12) (t2 := 75) hG ha rfl) ha (by decide)))])
                    have f294 := zf hS_s60 ha (k := 21) rfl
                    have g295 : s77 a 23 = s60 a 23 := (by rw [e_s77, zU_at (Or.inr (by decide)), e_s76, zU_at (Or.inr (by decide)), e_s75, zU_at (Or.inl (zne (zr (k := 13) (t2 := 76) hG ha rfl) ha (by decide))), e_s74, zU_at (Or.inl (zne (zr (k := 12) (t2 := 75) hG ha rfl) ha (by decide)))])
                    have f296 := zf hS_s60 ha (k := 23) rfl
                    have g297 : s77 a 24 = s60 a 24 := (by rw [e_s77, zU_at (Or.inr (by decide)), e_s76, zU_at (Or.inr (by decide)), e_s75, zU_at (Or.inl (zne (zr (k := 13) (t2 := 76) hG ha rfl) ha (by decide))), e_s74, zU_at (Or.inl (zne (zr (k := 12) (t2 := 75) hG ha rfl) ha (by decide)))])
                    have f298 := zf hS_s60 ha (k := 24) rfl
                    have g299 : s77 a 38 = s60 a 38 := (by rw [e_s77, zU_at (Or.inr (by decide)), e_s76, zU_at (Or.inr (by decide)), e_s75, zU_at (Or.inl (zne (zr (k := 13) (t2 := 76) hG ha rfl) ha (by decide))), e_s74, zU_at (Or.inl (zne (zr (k := 12) (t2 := 75) hG ha rfl) ha (by decide)))])
                    have f300 := zf hS_s60 ha (k := 38) rfl
                    have g301 : s77 a 51 = s60 a 51 := (by rw [e_s77, zU_at (Or.inr (by decide)), e_s76, zU_at (Or.inr (by decide)), e_s75, zU_at (Or.inl (zne (zr (k := 13) (t2 := 76) hG ha rfl) ha (by decide))), e_s74, zU_at (Or.inl (zne (zr (k := 12) (t2 := 75) hG ha rfl) ha (by decide)))])
                    have f302 := zf hS_s60 ha (k := 51) rfl
                    have g303 : s77 a 52 = s60 a 52 := (by rw [e_s77, zU_at (Or.inr (by decide)), e_s76, zU_at (Or.inr (by decide)), e_s75, zU_at (Or.inl (zne (zr (k := 13) (t2 := 76) hG ha rfl) ha (by decide))), e_s74, zU_at (Or.inl (zne (zr (k := 12) (t2 := 75) hG ha rfl) ha (by decide)))])
                    have f304 := zf hS_s60 ha (k := 52) rfl
                    have g305 : s77 (gP G a 13) 0 = s43 (gP G a 13) 0 := (by rw [e_s77, zU_at (Or.inl (zne ha (zr (k := 13) (t2 := 76) hG ha rfl) (by decide))), e_s76, zU_at (Or.inl (zne ha (zr (k := 13) (t2 := 76) hG ha rfl) (by decide))), e_s75, zU_at (Or.inr (by decide)), e_s74, zU_at (Or.inl (zne (zr (k := 12) (t2 := 75) hG ha rfl) (zr (k := 13) (t2 := 76) hG ha rfl) (by decide))), (zFr_g hF_s60 (zr (k := 13) (t2 := 76) hG ha rfl) (by decide))])
                    have g306 : s77 (gP G a 13) 1 = (s43 (gP G a 13) 1) + 1 := (by rw [e_s77, zU_at (Or.inl (zne ha (zr (k := 13) (t2 := 76) hG ha rfl) (by decide))), e_s76, zU_at (Or.inl (zne ha (zr (k := 13) (t2 := 76) hG ha rfl) (by decide))), e_s75, zU_eq])
                    have g307 : s77 (gP G a 13) 2 = s43 (gP G a 13) 2 := (by rw [e_s77, zU_at (Or.inl (zne ha (zr (k := 13) (t2 := 76) hG ha rfl) (by decide))), e_s76, zU_at (Or.inl (zne ha (zr (k := 13) (t2 := 76) hG ha rfl) (by decide))), e_s75, zU_at (Or.inr (by decide)), e_s74, zU_at (Or.inl (zne (zr (k := 12) (t2 := 75) hG ha rfl) (zr (k := 13) (t2 := 76) hG ha rfl) (by decide))), (zFr_g hF_s60 (zr (k := 13) (t2 := 76) hG ha rfl) (by decide))])
                    have g308 : s77 a 22 = (s60 a 22) + 1 := (by rw [e_s77, zU_at (Or.inr (by decide)), e_s76, zU_eq])
                    exact j_sub [0, 1] [(0, .ref a), (1, .int (zI 1))] rfl (ih_c27_42 s77 (by omega) hS_s77 (zFr_u (zFr_u (zFr_u (zFr_u (zFr_t (zFr_t zFr_rf hF_s43 (by decide)) hF_s60 (by decide)) e_s74 (zr (k := 12) (t2 := 75) hG ha rfl) (by decide)) e_s75 (zr (k := 13) (t2 := 76) hG ha rfl) (by decide)) e_s76 ha (by decide)) e_s77 ha (by decide)) (by omega) (by omega) (by omega) (by omega) (by omega) (by omega) (by omega) (by omega) (by omega) (by omega) (by omega) (by omega) (by omega))
                  · skip
                    have f309 := zf hS_s60 ha (k := 4) rfl
                    have f310 := zf hS_s60 ha (k := 5) rfl
                    have g311 : s60 (gP G a 13) 0 = s43 (gP G a 13) 0 := (by rw [(zFr_g hF_s60 (zr (k := 13) (t2 := 76) hG ha rfl) (by decide))])
                    have g312 : s60 (gP G a 13) 1 = s43 (gP G a 13) 1 := (by rw [(zFr_g hF_s60 (zr (k := 13) (t2 := 76) hG ha rfl) (by decide))])
                    have g313 : s60 (gP G a 13) 2 = s43 (gP G a 13) 2 := (by rw [(zFr_g hF_s60 (zr (k := 13) (t2 := 76) hG ha rfl) (by decide))])
                    have f314 := zf hS_s60 ha (k := 22) rfl
                    have f315 := zf hS_s60 ha (k := 0) rfl
                    have f316 := zf hS_s60 ha (k := 3) rfl
                    have f317 := zf hS_s60 ha (k := 7) rfl
                    have f318 := zf hS_s60 ha (k := 21) rfl
                    have f319 := zf hS_s60 ha (k := 23) rfl
                    have f320 := zf hS_s60 ha (k := 24) rfl
                    have f321 := zf hS_s60 ha (k := 38) rfl
                    have f322 := zf hS_s60 ha (k := 51) rfl
                    have f323 := zf hS_s60 ha (k := 52) rfl
                    exact j_vret hx hq rfl (by decide) (by decide) dX12_readCards_112 ⟨rfl, rfl, hS_s60, (zFr_t (zFr_t (zFr_t zFr_rf hF_s41 (by decide)) hF_s43 (by decide)) hF_s60 (by decide)), ⟨by omega, by omega, by omega, by omega, by omega, by omega, by omega, by omega, by omega, by omega, by omega, by omega, by omega⟩⟩
                refine j_if_ne hx 87 dX12_readCards_72 rfl (by omega) (fun h324 => ?_) (fun h324 => ?_)
                · skip
                  refine j_aload_n hx 0 dX12_readCards_87 rfl ?_
                  refine g13_22 hx hG ha kf_RX12_183 rfl dX12_readCards_88 ?_
                  refine j_bipush hx dX12_readCards_91 rfl ?_
                  refine j_icmp_ne hx 105 dX12_readCards_93 rfl (by omega) ⟨by decide, by decide⟩ (fun h325 => ?_) (fun h325 => ?_)
                  · skip
                    exact j_sub [0, 1] [(0, .ref a), (1, .int (zI 1))] rfl (c105_59 s43 hS_s43 zFr_rf (by omega) (by omega) (by omega) (by omega) (by omega) (by omega) (by omega) (by omega) (by omega) (by omega) (by omega))
                  · skip
                    refine j_aload_n hx 0 dX12_readCards_96 rfl ?_
                    refine j_iconst hx dX12_readCards_97 ?_
                    refine j_aload_n hx 0 dX12_readCards_98 rfl ?_
                    refine g13_4 hx hG ha kf_RX12_143 rfl dX12_readCards_99 ?_
                    refine j_callV hx hG (c_X12_wrong hst a 3 ((s43 a 4))) lk_RX12_173 ha (by decide) rfl rfl rfl rfl [.int (zI 3), .int (zI ((s43 a 4)))] ⟨rfl, hG, hS_s43, ha, (by omega), (by omega)⟩ rfl rfl ⟨by decide, by decide⟩ ⟨by decide, by decide⟩ (k2 := 0) (n2 := 0) rfl rfl (Nat.le_of_ble_eq_true rfl) dX12_readCards_102 (kVM (fun s78 hS_s78 hF_s78 q327 => ?_))
                    have f328 := zf hS_s78 ha (k := 0) rfl
                    have f329 := zf hS_s78 ha (k := 3) rfl
                    have f330 := zf hS_s78 ha (k := 4) rfl
                    have f331 := zf hS_s78 ha (k := 7) rfl
                    have f332 := zf hS_s78 ha (k := 21) rfl
                    have f333 := zf hS_s78 ha (k := 22) rfl
                    have f334 := zf hS_s78 ha (k := 23) rfl
                    have f335 := zf hS_s78 ha (k := 24) rfl
                    have f336 := zf hS_s78 ha (k := 38) rfl
                    have f337 := zf hS_s78 ha (k := 51) rfl
                    have f338 := zf hS_s78 ha (k := 52) rfl
                    exact j_sub [0, 1] [(0, .ref a), (1, .int (zI 1))] rfl (c105_59 s78 hS_s78 (zFr_t zFr_rf hF_s78 (by decide)) (by omega) (by omega) (by omega) (by omega) (by omega) (by omega) (by omega) (by omega) (by omega) (by omega) (by omega))
                · skip
                  refine j_aload_n hx 0 dX12_readCards_75 rfl ?_
                  refine j_iconst hx dX12_readCards_76 ?_
                  refine j_aload_n hx 0 dX12_readCards_77 rfl ?_
                  refine g13_4 hx hG ha kf_RX12_143 rfl dX12_readCards_78 ?_
                  refine j_callV hx hG (c_X12_wrong hst a 1 ((s43 a 4))) lk_RX12_173 ha (by decide) rfl rfl rfl rfl [.int (zI 1), .int (zI ((s43 a 4)))] ⟨rfl, hG, hS_s43, ha, (by omega), (by omega)⟩ rfl rfl ⟨by decide, by decide⟩ ⟨by decide, by decide⟩ (k2 := 0) (n2 := 0) rfl rfl (Nat.le_of_ble_eq_true rfl) dX12_readCards_81 (kVM (fun s79 hS_s79 hF_s79 q340 => ?_))
                  refine j_goto hx 105 dX12_readCards_84 rfl ?_
                  have f341 := zf hS_s79 ha (k := 0) rfl
                  have f342 := zf hS_s79 ha (k := 3) rfl
                  have f343 := zf hS_s79 ha (k := 4) rfl
                  have f344 := zf hS_s79 ha (k := 7) rfl
                  have f345 := zf hS_s79 ha (k := 21) rfl
                  have f346 := zf hS_s79 ha (k := 22) rfl
                  have f347 := zf hS_s79 ha (k := 23) rfl
                  have f348 := zf hS_s79 ha (k := 24) rfl
                  have f349 := zf hS_s79 ha (k := 38) rfl
                  have f350 := zf hS_s79 ha (k := 51) rfl
                  have f351 := zf hS_s79 ha (k := 52) rfl
                  exact j_sub [0, 1] [(0, .ref a), (1, .int (zI 1))] rfl (c105_59 s79 hS_s79 (zFr_t zFr_rf hF_s79 (by decide)) (by omega) (by omega) (by omega) (by omega) (by omega) (by omega) (by omega) (by omega) (by omega) (by omega) (by omega))
      refine j_if_ne hx 27 dX12_readCards_15 rfl (by omega) (fun h352 => ?_) (fun h352 => ?_)
      · skip
        have g353 : s41 (gP G a 13) 0 = s0 (gP G a 13) 0 := (by rw [(zFr_g hF_s41 (zr (k := 13) (t2 := 76) hG ha rfl) (by decide))])
        have g354 : s41 (gP G a 13) 1 = s0 (gP G a 13) 1 := (by rw [(zFr_g hF_s41 (zr (k := 13) (t2 := 76) hG ha rfl) (by decide))])
        have g355 : s41 (gP G a 13) 2 = s0 (gP G a 13) 2 := (by rw [(zFr_g hF_s41 (zr (k := 13) (t2 := 76) hG ha rfl) (by decide))])
        have f356 := zf hS_s41 ha (k := 22) rfl
        exact j_sub [0, 1] [(0, .ref a), (1, .int (zI 1))] rfl (c27_42 (2147483648 * 4) s41 (by omega) hS_s41 zFr_rf (by omega) (by omega) (by omega) (by omega) (by omega) (by omega) (by omega) (by omega) (by omega) (by omega) (by omega) (by omega) (by omega))
      · skip
        refine j_aload_n hx 0 dX12_readCards_18 rfl ?_
        refine j_iconst hx dX12_readCards_19 ?_
        refine j_aload_n hx 0 dX12_readCards_20 rfl ?_
        refine g13_4 hx hG ha kf_RX12_143 rfl dX12_readCards_21 ?_
        have f357 := zf hS_s41 ha (k := 22) rfl
        refine j_callV hx hG (c_X12_wrong hst a 1 ((s41 a 4))) lk_RX12_173 ha (by decide) rfl rfl rfl rfl [.int (zI 1), .int (zI ((s41 a 4)))] ⟨rfl, hG, hS_s41, ha, (by omega), (by omega)⟩ rfl rfl ⟨by decide, by decide⟩ ⟨by decide, by decide⟩ (k2 := 0) (n2 := 0) rfl rfl (Nat.le_of_ble_eq_true rfl) dX12_readCards_24 (kVM (fun s80 hS_s80 hF_s80 q359 => ?_))
        have f360 := zf hS_s80 ha (k := 4) rfl
        have f361 := zf hS_s80 ha (k := 5) rfl
        have f362 := zf hS_s80 ha (k := 0) rfl
        have f363 := zf hS_s80 ha (k := 3) rfl
        have f364 := zf hS_s80 ha (k := 7) rfl
        have f365 := zf hS_s80 ha (k := 21) rfl
        have f366 := zf hS_s80 ha (k := 23) rfl
        have f367 := zf hS_s80 ha (k := 24) rfl
        have f368 := zf hS_s80 ha (k := 38) rfl
        have f369 := zf hS_s80 ha (k := 51) rfl
        have f370 := zf hS_s80 ha (k := 52) rfl
        have g371 : s80 (gP G a 13) 0 = s0 (gP G a 13) 0 := (by rw [(zFr_g hF_s80 (zr (k := 13) (t2 := 76) hG ha rfl) (by decide)), (zFr_g hF_s41 (zr (k := 13) (t2 := 76) hG ha rfl) (by decide))])
        have g372 : s80 (gP G a 13) 1 = s0 (gP G a 13) 1 := (by rw [(zFr_g hF_s80 (zr (k := 13) (t2 := 76) hG ha rfl) (by decide)), (zFr_g hF_s41 (zr (k := 13) (t2 := 76) hG ha rfl) (by decide))])
        have g373 : s80 (gP G a 13) 2 = s0 (gP G a 13) 2 := (by rw [(zFr_g hF_s80 (zr (k := 13) (t2 := 76) hG ha rfl) (by decide)), (zFr_g hF_s41 (zr (k := 13) (t2 := 76) hG ha rfl) (by decide))])
        have f374 := zf hS_s80 ha (k := 22) rfl
        exact j_sub [0, 1] [(0, .ref a), (1, .int (zI 1))] rfl (c27_42 (2147483648 * 4) s80 (by omega) hS_s80 (zFr_t zFr_rf hF_s80 (by decide)) (by omega) (by omega) (by omega) (by omega) (by omega) (by omega) (by omega) (by omega) (by omega) (by omega) (by omega) (by omega) (by omega))
    · skip
      have f375 := zf hS0 ha (k := 4) rfl
      have f376 := zf hS0 ha (k := 5) rfl
      have f377 := zf hS0 ha (k := 22) rfl
      have f378 := zf hS0 ha (k := 3) rfl
      have f379 := zf hS0 ha (k := 0) rfl
      have f380 := zf hS0 ha (k := 7) rfl
      have f381 := zf hS0 ha (k := 21) rfl
      have f382 := zf hS0 ha (k := 23) rfl
      have f383 := zf hS0 ha (k := 24) rfl
      have f384 := zf hS0 ha (k := 38) rfl
      have f385 := zf hS0 ha (k := 51) rfl
      have f386 := zf hS0 ha (k := 52) rfl
      exact j_vret hx hq rfl (by decide) (by decide) dX12_readCards_7 ⟨rfl, rfl, hS0, zFr_rf, ⟨by omega, by omega, by omega, by omega, by omega, by omega, by omega, by omega, by omega, by omega, by omega, by omega, by omega⟩⟩
  · skip
    refine j_aload_n hx 0 dX12_readCards_0 rfl ?_
    refine j_callV hx hG (c_X12_fine hst a) lk_RX12_166 ha (by decide) rfl rfl rfl rfl [] ⟨rfl, hG, hS0, ha⟩ rfl rfl ⟨by decide, by decide⟩ ⟨by decide, by decide⟩ (k2 := 0) (n2 := 0) rfl rfl (Nat.le_of_ble_eq_true rfl) dX12_readCards_1 (kIP (fun v387 q388 => ?_))
    refine j_if_ne hx 8 dX12_readCards_4 rfl (by omega) (fun h389 => ?_) (fun h389 => ?_)
    · skip
      refine j_aload_n hx 0 dX12_readCards_8 rfl ?_
      have f390 := zf hS0 ha (k := 4) rfl
      have f391 := zf hS0 ha (k := 3) rfl
      have f392 := zf hS0 ha (k := 0) rfl
      have f393 := zf hS0 ha (k := 5) rfl
      have f394 := zf hS0 ha (k := 7) rfl
      have f395 := zf hS0 ha (k := 21) rfl
      have f396 := zf hS0 ha (k := 22) rfl
      have f397 := zf hS0 ha (k := 23) rfl
      have f398 := zf hS0 ha (k := 24) rfl
      have f399 := zf hS0 ha (k := 38) rfl
      have f400 := zf hS0 ha (k := 51) rfl
      have f401 := zf hS0 ha (k := 52) rfl
      refine j_callV hx hG (c_X12_here hst a) lk_RX12_149 ha (by decide) rfl rfl rfl rfl [] ⟨rfl, hG, hS0, ha⟩ rfl rfl ⟨by decide, by decide⟩ ⟨by decide, by decide⟩ (k2 := 0) (n2 := 0) rfl rfl (Nat.le_of_ble_eq_true rfl) dX12_readCards_9 (kIM (fun v402 s81 hS_s81 hF_s81 q403 => ?_))
      refine j_callS hx (c_X12_isKind hst v402) lk_RX12_210 [.int (zI v402)] ⟨rfl, hG, hS_s81, (by omega)⟩ rfl rfl ⟨by decide, by decide⟩ ⟨by decide, by decide⟩ (k2 := 0) (n2 := 0) rfl rfl (Nat.le_of_ble_eq_true rfl) dX12_readCards_12 (kIP (fun v404 q405 => ?_))
      have f406 := zf hS_s81 ha (k := 0) rfl
      have f407 := zf hS_s81 ha (k := 3) rfl
      have f408 := zf hS_s81 ha (k := 7) rfl
      have f409 := zf hS_s81 ha (k := 21) rfl
      have f410 := zf hS_s81 ha (k := 23) rfl
      have f411 := zf hS_s81 ha (k := 24) rfl
      have f412 := zf hS_s81 ha (k := 38) rfl
      have f413 := zf hS_s81 ha (k := 51) rfl
      have f414 := zf hS_s81 ha (k := 52) rfl
      have f415 := zf hS_s81 ha (k := 4) rfl
      have f416 := zf hS_s81 ha (k := 5) rfl
      have c27_82 : ∀ (m_c27_82 : Nat) (s83 : zS), 2 * (1000 - s83 a 4) + max 0 (0 - s83 a 5) < m_c27_82 → (zSK G s83) → (zFr [13, 75, 76] G s81 s83) → (s83 a 0 = s81 a 0) → (s83 a 3 = s81 a 3) → (s83 a 7 = s81 a 7) → (s83 a 21 = s81 a 21) → (s83 a 23 = s81 a 23) → (s83 a 24 = s81 a 24) → (s83 a 38 = s81 a 38) → (s83 a 51 = s81 a 51) → (s83 a 52 = s81 a 52) → (s81 a 4 ≤ s83 a 4) → (0 ≤ s81 a 5 → 0 ≤ s83 a 5) → (s83 (gP G a 13) 0 + s83 (gP G a 13) 1 + s83 (gP G a 13) 2 = s83 a 22) → (s83 a 4 ≤ s81 a 4 ∨ s83 a 4 ≤ s83 a 3) → JJ X E 2 G s83 0 0 [(0, .ref a), (1, .int (zI 2))] 27 [] := by
        intro m_c27_82
        induction m_c27_82 with
        | zero => intro s83 hm_c27_82 hS_s83 hF_s83 fA86 fA87 fA88 fA89 fA90 fA91 fA92 fA93 fA94 fA95 fA96 fA97 fA98; exfalso; omega
        | succ m_c27_82 ih_c27_82 => 
          intro s83 hm_c27_82 hS_s83 hF_s83 fA86 fA87 fA88 fA89 fA90 fA91 fA92 fA93 fA94 fA95 fA96 fA97 fA98
          refine j_aload_n hx 0 dX12_readCards_27 rfl ?_
          refine j_callV hx hG (c_X12_fine hst a) lk_RX12_166 ha (by decide) rfl rfl rfl rfl [] ⟨rfl, hG, hS_s83, ha⟩ rfl rfl ⟨by decide, by decide⟩ ⟨by decide, by decide⟩ (k2 := 0) (n2 := 0) rfl rfl (Nat.le_of_ble_eq_true rfl) dX12_readCards_28 (kIP (fun v417 q418 => ?_))
          refine j_if_eq hx 174 dX12_readCards_31 rfl (by omega) (fun h419 => ?_) (fun h419 => ?_)
          · skip
            have f420 := zf hS_s83 ha (k := 4) rfl
            have f421 := zf hS_s83 ha (k := 5) rfl
            have f422 := zf hS_s83 ha (k := 22) rfl
            have f423 := zf hS_s83 ha (k := 0) rfl
            have f424 := zf hS_s83 ha (k := 3) rfl
            have f425 := zf hS_s83 ha (k := 7) rfl
            have f426 := zf hS_s83 ha (k := 21) rfl
            have f427 := zf hS_s83 ha (k := 23) rfl
            have f428 := zf hS_s83 ha (k := 24) rfl
            have f429 := zf hS_s83 ha (k := 38) rfl
            have f430 := zf hS_s83 ha (k := 51) rfl
            have f431 := zf hS_s83 ha (k := 52) rfl
            exact j_vret hx hq rfl (by decide) (by decide) dX12_readCards_174 ⟨rfl, rfl, hS_s83, (zFr_t (zFr_t zFr_rf hF_s81 (by decide)) hF_s83 (by decide)), ⟨by omega, by omega, by omega, by omega, by omega, by omega, by omega, by omega, by omega, by omega, by omega, by omega, by omega⟩⟩
          · skip
            refine j_aload_n hx 0 dX12_readCards_34 rfl ?_
            have f432 := zf hS_s83 ha (k := 4) rfl
            refine g13_4 hx hG ha kf_RX12_143 rfl dX12_readCards_35 ?_
            refine j_aload_n hx 0 dX12_readCards_38 rfl ?_
            have f433 := zf hS_s83 ha (k := 3) rfl
            refine g13_3 hx hG ha kf_RX12_146 rfl dX12_readCards_39 ?_
            refine j_icmp_ge hx 174 dX12_readCards_42 rfl (by omega) (by omega) (fun h434 => ?_) (fun h434 => ?_)
            · skip
              have f435 := zf hS_s83 ha (k := 5) rfl
              have f436 := zf hS_s83 ha (k := 22) rfl
              have f437 := zf hS_s83 ha (k := 0) rfl
              have f438 := zf hS_s83 ha (k := 7) rfl
              have f439 := zf hS_s83 ha (k := 21) rfl
              have f440 := zf hS_s83 ha (k := 23) rfl
              have f441 := zf hS_s83 ha (k := 24) rfl
              have f442 := zf hS_s83 ha (k := 38) rfl
              have f443 := zf hS_s83 ha (k := 51) rfl
              have f444 := zf hS_s83 ha (k := 52) rfl
              exact j_vret hx hq rfl (by decide) (by decide) dX12_readCards_174 ⟨rfl, rfl, hS_s83, (zFr_t (zFr_t zFr_rf hF_s81 (by decide)) hF_s83 (by decide)), ⟨by omega, by omega, by omega, by omega, by omega, by omega, by omega, by omega, by omega, by omega, by omega, by omega, by omega⟩⟩
            · skip
              refine j_aload_n hx 0 dX12_readCards_45 rfl ?_
              refine g13_9 hx hG ha kf_RX12_20 dX12_readCards_46 ?_
              refine j_aload_n hx 0 dX12_readCards_49 rfl ?_
              refine g13_4 hx hG ha kf_RX12_143 rfl dX12_readCards_50 ?_
              have f445 := zaI (j := ((s83 a 4)).toNat) hS0 (zr (k := 9) (t2 := 72) hG ha rfl) rfl (zlen hG (zr (k := 9) (t2 := 72) hG ha rfl) (n := 600) rfl rfl) (show 0 ≤ (s83 a 4) by omega) (by omega) rfl
              refine j_iald hx hG (zr (k := 9) (t2 := 72) hG ha rfl) (by decide) rfl (zlen hG (zr (k := 9) (t2 := 72) hG ha rfl) (n := 600) rfl rfl) (by omega) (by omega) (j := ((s83 a 4)).toNat) rfl (v := (s0 (gP G a 9) ((s83 a 4)).toNat)) (by rw [(zFr_g hF_s83 (zr (k := 9) (t2 := 72) hG ha rfl) (by decide)), (zFr_g hF_s81 (zr (k := 9) (t2 := 72) hG ha rfl) (by decide))]) dX12_readCards_53 ?_
              refine j_callS hx (c_X12_isSmall hst ((s0 (gP G a 9) ((s83 a 4)).toNat))) lk_RX12_153 [.int (zI ((s0 (gP G a 9) ((s83 a 4)).toNat)))] ⟨rfl, hG, hS_s83, (by omega)⟩ rfl rfl ⟨by decide, by decide⟩ ⟨by decide, by decide⟩ (k2 := 0) (n2 := 0) rfl rfl (Nat.le_of_ble_eq_true rfl) dX12_readCards_54 (kIP (fun v446 q447 => ?_))
              refine j_if_eq hx 174 dX12_readCards_57 rfl (by omega) (fun h448 => ?_) (fun h448 => ?_)
              · skip
                have f449 := zf hS_s83 ha (k := 5) rfl
                have f450 := zf hS_s83 ha (k := 22) rfl
                have f451 := zf hS_s83 ha (k := 0) rfl
                have f452 := zf hS_s83 ha (k := 7) rfl
                have f453 := zf hS_s83 ha (k := 21) rfl
                have f454 := zf hS_s83 ha (k := 23) rfl
                have f455 := zf hS_s83 ha (k := 24) rfl
                have f456 := zf hS_s83 ha (k := 38) rfl
                have f457 := zf hS_s83 ha (k := 51) rfl
                have f458 := zf hS_s83 ha (k := 52) rfl
                exact j_vret hx hq rfl (by decide) (by decide) dX12_readCards_174 ⟨rfl, rfl, hS_s83, (zFr_t (zFr_t zFr_rf hF_s81 (by decide)) hF_s83 (by decide)), ⟨by omega, by omega, by omega, by omega, by omega, by omega, by omega, by omega, by omega, by omega, by omega, by omega, by omega⟩⟩
              · skip
                refine j_aload_n hx 0 dX12_readCards_60 rfl ?_
                refine g13_9 hx hG ha kf_RX12_20 dX12_readCards_61 ?_
                refine j_aload_n hx 0 dX12_readCards_64 rfl ?_
                refine g13_4 hx hG ha kf_RX12_143 rfl dX12_readCards_65 ?_
                refine j_iald hx hG (zr (k := 9) (t2 := 72) hG ha rfl) (by decide) rfl (zlen hG (zr (k := 9) (t2 := 72) hG ha rfl) (n := 600) rfl rfl) (by omega) (by omega) (j := ((s83 a 4)).toNat) rfl (v := (s0 (gP G a 9) ((s83 a 4)).toNat)) (by rw [(zFr_g hF_s83 (zr (k := 9) (t2 := 72) hG ha rfl) (by decide)), (zFr_g hF_s81 (zr (k := 9) (t2 := 72) hG ha rfl) (by decide))]) dX12_readCards_68 ?_
                refine j_callS hx (c_X12_isKind hst ((s0 (gP G a 9) ((s83 a 4)).toNat))) lk_RX12_210 [.int (zI ((s0 (gP G a 9) ((s83 a 4)).toNat)))] ⟨rfl, hG, hS_s83, (by omega)⟩ rfl rfl ⟨by decide, by decide⟩ ⟨by decide, by decide⟩ (k2 := 0) (n2 := 0) rfl rfl (Nat.le_of_ble_eq_true rfl) dX12_readCards_69 (kIP (fun v459 q460 => ?_))
                have f461 := zf hS_s83 ha (k := 0) rfl
                have f462 := zf hS_s83 ha (k := 7) rfl
                have f463 := zf hS_s83 ha (k := 21) rfl
                have f464 := zf hS_s83 ha (k := 22) rfl
                have f465 := zf hS_s83 ha (k := 23) rfl
                have f466 := zf hS_s83 ha (k := 24) rfl
                have f467 := zf hS_s83 ha (k := 38) rfl
                have f468 := zf hS_s83 ha (k := 51) rfl
                have f469 := zf hS_s83 ha (k := 52) rfl
                have c105_99 : ∀ (s100 : zS), (zSK G s100) → (zFr [13] G s83 s100) → (s100 a 0 = s83 a 0) → (s100 a 3 = s83 a 3) → (s100 a 4 = s83 a 4) → (s100 a 7 = s83 a 7) → (s100 a 21 = s83 a 21) → (s100 a 22 = s83 a 22) → (s100 a 23 = s83 a 23) → (s100 a 24 = s83 a 24) → (s100 a 38 = s83 a 38) → (s100 a 51 = s83 a 51) → (s100 a 52 = s83 a 52) → JJ X E 2 G s100 0 0 [(0, .ref a), (1, .int (zI 2))] 105 [] := by
                  intro s100 hS_s100 hF_s100 fA103 fA104 fA105 fA106 fA107 fA108 fA109 fA110 fA111 fA112 fA113
                  refine j_aload_n hx 0 dX12_readCards_105 rfl ?_
                  refine j_callV hx hG (c_X12_fine hst a) lk_RX12_166 ha (by decide) rfl rfl rfl rfl [] ⟨rfl, hG, hS_s100, ha⟩ rfl rfl ⟨by decide, by decide⟩ ⟨by decide, by decide⟩ (k2 := 0) (n2 := 0) rfl rfl (Nat.le_of_ble_eq_true rfl) dX12_readCards_106 (kIP (fun v470 q471 => ?_))
                  refine j_if_ne hx 113 dX12_readCards_109 rfl (by omega) (fun h472 => ?_) (fun h472 => ?_)
                  · skip
                    refine j_aload_n hx 0 dX12_readCards_113 rfl ?_
                    refine g13_12 hx hG ha kf_RX12_29 dX12_readCards_114 ?_
                    refine j_bipush hx dX12_readCards_117 rfl ?_
                    refine j_iload_n hx 1 dX12_readCards_119 rfl ?_
                    refine j_imul hx (r := 120) dX12_readCards_120 (by omega) ?_
                    refine j_aload_n hx 0 dX12_readCards_121 rfl ?_
                    refine g13_13 hx hG ha kf_RX12_32 dX12_readCards_122 ?_
                    refine j_iload_n hx 1 dX12_readCards_125 rfl ?_
                    have f473 := zaI (j := 2) hS_s83 (zr (k := 13) (t2 := 76) hG ha rfl) rfl (zlen hG (zr (k := 13) (t2 := 76) hG ha rfl) (n := 3) rfl rfl) (show 0 ≤ 2 by omega) (by omega) rfl
                    refine j_iald hx hG (zr (k := 13) (t2 := 76) hG ha rfl) (by decide) rfl (zlen hG (zr (k := 13) (t2 := 76) hG ha rfl) (n := 3) rfl rfl) (by omega) (by omega) (j := 2) rfl (v := (s83 (gP G a 13) 2)) (by rw [(zFr_g hF_s100 (zr (k := 13) (t2 := 76) hG ha rfl) (by decide))]) dX12_readCards_126 ?_
                    refine j_iadd hx (r := (s83 (gP G a 13) 2) + 120) dX12_readCards_127 (by omega) ?_
                    refine j_aload_n hx 0 dX12_readCards_128 rfl ?_
                    refine g13_9 hx hG ha kf_RX12_20 dX12_readCards_129 ?_
                    refine j_aload_n hx 0 dX12_readCards_132 rfl ?_
                    have f474 := zf hS_s100 ha (k := 4) rfl
                    refine g13_4 hx hG ha kf_RX12_143 rfl dX12_readCards_133 ?_
                    have f475 := zaI (j := ((s100 a 4)).toNat) hS0 (zr (k := 9) (t2 := 72) hG ha rfl) rfl (zlen hG (zr (k := 9) (t2 := 72) hG ha rfl) (n := 600) rfl rfl) (show 0 ≤ (s100 a 4) by omega) (by omega) rfl
                    refine j_iald hx hG (zr (k := 9) (t2 := 72) hG ha rfl) (by decide) rfl (zlen hG (zr (k := 9) (t2 := 72) hG ha rfl) (n := 600) rfl rfl) (by omega) (by omega) (j := ((s100 a 4)).toNat) rfl (v := (s0 (gP G a 9) ((s100 a 4)).toNat)) (by rw [(zFr_g hF_s100 (zr (k := 9) (t2 := 72) hG ha rfl) (by decide)), (zFr_g hF_s83 (zr (k := 9) (t2 := 72) hG ha rfl) (by decide)), (zFr_g hF_s81 (zr (k := 9) (t2 := 72) hG ha rfl) (by decide))]) dX12_readCards_136 ?_
                    refine j_bipush hx dX12_readCards_137 rfl ?_
                    refine j_isub hx (r := (s0 (gP G a 9) ((s100 a 4)).toNat) - 97) dX12_readCards_139 (by omega) ?_
                    refine j_iast hx hG (zr (k := 12) (t2 := 75) hG ha rfl) (by decide) rfl (zlen hG (zr (k := 12) (t2 := 75) hG ha rfl) (n := 180) rfl rfl) (by omega) (by omega) (j := ((s83 (gP G a 13) 2) + 120).toNat) rfl dX12_readCards_140 ?_
                    obtain ⟨s114, e_s114⟩ : ∃ z, z = zU s100 (gP G a 12) ((s83 (gP G a 13) 2) + 120).toNat ((s0 (gP G a 9) ((s100 a 4)).toNat) - 97) := ⟨_, rfl⟩
                    rw [← e_s114]
                    have hS_s114 : zSK G s114 := by rw [e_s114]; exact zSK_A hS_s100 (zr (k := 12) (t2 := 75) hG ha rfl) rfl rfl rfl (by omega)
                    refine j_aload_n hx 0 dX12_readCards_141 rfl ?_
                    refine g13_13 hx hG ha kf_RX12_32 dX12_readCards_142 ?_
                    refine j_iload_n hx 1 dX12_readCards_145 rfl ?_
                    refine j_dup2 hx dX12_readCards_146 rfl rfl ?_
                    refine j_iald hx hG (zr (k := 13) (t2 := 76) hG ha rfl) (by decide) rfl (zlen hG (zr (k := 13) (t2 := 76) hG ha rfl) (n := 3) rfl rfl) (by omega) (by omega) (j := 2) rfl (v := (s83 (gP G a 13) 2)) (by rw [e_s114, zU_at (Or.inl (zne (zr (k := 12) (t2 := 75) hG ha rfl) (zr (k := 13) (t2 := 76) hG ha rfl) (by decide))), (zFr_g hF_s100 (zr (k := 13) (t2 := 76) hG ha rfl) (by decide))]) dX12_readCards_147 ?_
                    refine j_iconst hx dX12_readCards_148 ?_
                    refine j_iadd hx (r := (s83 (gP G a 13) 2) + 1) dX12_readCards_149 (by omega) ?_
                    refine j_iast hx hG (zr (k := 13) (t2 := 76) hG ha rfl) (by decide) rfl (zlen hG (zr (k := 13) (t2 := 76) hG ha rfl) (n := 3) rfl rfl) (by omega) (by omega) (j := 2) rfl dX12_readCards_150 ?_
                    obtain ⟨s115, e_s115⟩ : ∃ z, z = zU s114 (gP G a 13) 2 ((s83 (gP G a 13) 2) + 1) := ⟨_, rfl⟩
                    rw [← e_s115]
                    have hS_s115 : zSK G s115 := by rw [e_s115]; exact zSK_A hS_s114 (zr (k := 13) (t2 := 76) hG ha rfl) rfl rfl rfl (by omega)
                    refine j_aload_n hx 0 dX12_readCards_151 rfl ?_
                    refine j_dup hx dX12_readCards_152 rfl ?_
                    have f476 := zf hS_s100 ha (k := 22) rfl
                    refine g13_22 hx hG ha kf_RX12_183 (v := (s100 a 22)) (by rw [e_s115, zU_at (Or.inl (zne (zr (k := 13) (t2 := 76) hG ha rfl) ha (by decide))), e_s114, zU_at (Or.inl (zne (zr (k := 12) (t2 := 75) hG ha rfl) ha (by decide)))]) dX12_readCards_153 ?_
                    refine j_iconst hx dX12_readCards_156 ?_
                    refine j_iadd hx (r := (s100 a 22) + 1) dX12_readCards_157 (by omega) ?_
                    refine p13_22 hx hG ha kf_RX12_183 dX12_readCards_158 ?_
                    obtain ⟨s116, e_s116⟩ : ∃ z, z = zU s115 a 22 ((s100 a 22) + 1) := ⟨_, rfl⟩
                    rw [← e_s116]
                    have hS_s116 : zSK G s116 := by rw [e_s116]; exact zSK_F hS_s115 ha rfl rfl rfl (by omega)
                    refine j_aload_n hx 0 dX12_readCards_161 rfl ?_
                    refine j_dup hx dX12_readCards_162 rfl ?_
                    refine g13_4 hx hG ha kf_RX12_143 (v := (s100 a 4)) (by rw [e_s116, zU_at (Or.inr (by decide)), e_s115, zU_at (Or.inl (zne (zr (k := 13) (t2 := 76) hG ha rfl) ha (by decide))), e_s114, zU_at (Or.inl (zne (zr (k := 12) (t2 := 75) hG ha rfl) ha (by decide)))]) dX12_readCards_163 ?_
                    refine j_iconst hx dX12_readCards_166 ?_
                    refine j_iadd hx (r := (s100 a 4) + 1) dX12_readCards_167 (by omega) ?_
                    refine p13_4 hx hG ha kf_RX12_143 dX12_readCards_168 ?_
                    obtain ⟨s117, e_s117⟩ : ∃ z, z = zU s116 a 4 ((s100 a 4) + 1) := ⟨_, rfl⟩
                    rw [← e_s117]
                    have hS_s117 : zSK G s117 := by rw [e_s117]; exact zSK_F hS_s116 ha rfl rfl rfl (by omega)
                    refine j_goto hx 27 dX12_readCards_171 rfl ?_
                    have g477 : s117 a 4 = (s100 a 4) + 1 := (by rw [e_s117, zU_eq])
                    have g478 : s117 a 5 = s100 a 5 := (by rw [e_s117, zU_at (Or.inr (by decide)), e_s116, zU_at (Or.inr (by decide)), e_s115, zU_at (Or.inl (zne (zr (k := 13) (t2 := 76) hG ha rfl) ha (by decide))), e_s114, zU_at (Or.inl (zne (zr (k := 12) (t2 := 75) hG ha rfl) ha (by decide)))])
                    have f479 := zf hS_s100 ha (k := 5) rfl
                    have g480 : s117 a 0 = s100 a 0 := (by rw [e_s117, zU_at (Or.inr (by decide)), e_s116, zU_at (Or.inr (by decide)), e_s115, zU_at (Or.inl (zne (zr (k := 13) (t2 := 76) hG ha rfl) ha (by decide))), e_s114, zU_at (Or.inl (zne (zr (k := 12) (t2 := 75) hG ha rfl) ha (by decide)))])
                    have f481 := zf hS_s100 ha (k := 0) rfl
                    have g482 : s117 a 3 = s100 a 3 := (by rw [e_s117, zU_at (Or.inr (by decide)), e_s116, zU_at (Or.inr (by decide)), e_s115, zU_at (Or.inl (zne (zr (k := 13) (t2 := 76) hG ha rfl) ha (by decide))), e_s114, zU_at (Or.inl (zne (zr (k := 12) (t2 := 75) hG ha rfl) ha (by decide)))])
                    have f483 := zf hS_s100 ha (k := 3) rfl
                    have g484 : s117 a 7 = s100 a 7 := (by rw [e_s117, zU_at (Or.inr (by decide)), e_s116, zU_at (Or.inr (by decide)), e_s115, zU_at (Or.inl (zne (zr (k := 13) (t2 := 76) hG ha rfl) ha (by decide))), e_s114, zU_at (Or.inl (zne (zr (k := 12) (t2 := 75) hG ha rfl) ha (by decide)))])
                    have f485 := zf hS_s100 ha (k := 7) rfl
                    have g486 : s117 a 21 = s100 a 21 := (by rw [e_s117, zU_at (Or.inr (by decide)), e_s116, zU_at (Or.inr (by decide)), e_s115, zU_at (Or.inl (zne (zr (k := 13) (t2 := 76) hG ha rfl) ha (by decide))), e_s114, zU_at (Or.inl (zne (zr (k := 12) (t2 := 75) hG ha rfl) ha (by decide)))])
                    have f487 := zf hS_s100 ha (k := 21) rfl
                    have g488 : s117 a 23 = s100 a 23 := (by rw [e_s117, zU_at (Or.inr (by decide)), e_s116, zU_at (Or.inr (by decide)), e_s115, zU_at (Or.inl (zne (zr (k := 13) (t2 := 76) hG ha rfl) ha (by decide))), e_s114, zU_at (Or.inl (zne (zr (k := 12) (t2 := 75) hG ha rfl) ha (by decide)))])
                    have f489 := zf hS_s100 ha (k := 23) rfl
                    have g490 : s117 a 24 = s100 a 24 := (by rw [e_s117, zU_at (Or.inr (by decide)), e_s116, zU_at (Or.inr (by decide)), e_s115, zU_at (Or.inl (zne (zr (k := 13) (t2 := 76) hG ha rfl) ha (by decide))), e_s114, zU_at (Or.inl (zne (zr (k := 12) (t2 := 75) hG ha rfl) ha (by decide)))])
                    have f491 := zf hS_s100 ha (k := 24) rfl
                    have g492 : s117 a 38 = s100 a 38 := (by rw [e_s117, zU_at (Or.inr (by decide)), e_s116, zU_at (Or.inr (by decide)), e_s115, zU_at (Or.inl (zne (zr (k := 13) (t2 := 76) hG ha rfl) ha (by decide))), e_s114, zU_at (Or.inl (zne (zr (k := 12) (t2 := 75) hG ha rfl) ha (by decide)))])
                    have f493 := zf hS_s100 ha (k := 38) rfl
                    have g494 : s117 a 51 = s100 a 51 := (by rw [e_s117, zU_at (Or.inr (by decide)), e_s116, zU_at (Or.inr (by decide)), e_s115, zU_at (Or.inl (zne (zr (k := 13) (t2 := 76) hG ha rfl) ha (by decide))), e_s114, zU_at (Or.inl (zne (zr (k := 12) (t2 := 75) hG ha rfl) ha (by decide)))])
                    have f495 := zf hS_s100 ha (k := 51) rfl
                    have g496 : s117 a 52 = s100 a 52 := (by rw [e_s117, zU_at (Or.inr (by decide)), e_s116, zU_at (Or.inr (by decide)), e_s115, zU_at (Or.inl (zne (zr (k := 13) (t2 := 76) hG ha rfl) ha (by decide))), e_s114, zU_at (Or.inl (zne (zr (k := 12) (t2 := 75) hG ha rfl) ha (by decide)))])
                    have f497 := zf hS_s100 ha (k := 52) rfl
                    have g498 : s117 (gP G a 13) 0 = s83 (gP G a 13) 0 := (by rw [e_s117, zU_at (Or.inl (zne ha (zr (k := 13) (t2 := 76) hG ha rfl) (by decide))), e_s116, zU_at (Or.inl (zne ha (zr (k := 13) (t2 := 76) hG ha rfl) (by decide))), e_s115, zU_at (Or.inr (by decide)), e_s114, zU_at (Or.inl (zne (zr (k := 12) (t2 := 75) hG ha rfl) (zr (k := 13) (t2 := 76) hG ha rfl) (by decide))), (zFr_g hF_s100 (zr (k := 13) (t2 := 76) hG ha rfl) (by decide))])
                    have g499 : s117 (gP G a 13) 1 = s83 (gP G a 13) 1 := (by rw [e_s117, zU_at (Or.inl (zne ha (zr (k := 13) (t2 := 76) hG ha rfl) (by decide))), e_s116, zU_at (Or.inl (zne ha (zr (k := 13) (t2 := 76) hG ha rfl) (by decide))), e_s115, zU_at (Or.inr (by decide)), e_s114, zU_at (Or.inl (zne (zr (k := 12) (t2 := 75) hG ha rfl) (zr (k := 13) (t2 := 76) hG ha rfl) (by decide))), (zFr_g hF_s100 (zr (k := 13) (t2 := 76) hG ha rfl) (by decide))])
                    have g500 : s117 (gP G a 13) 2 = (s83 (gP G a 13) 2) + 1 := (by rw [e_s117, zU_at (Or.inl (zne ha (zr (k := 13) (t2 := 76) hG ha rfl) (by decide))), e_s116, zU_at (Or.inl (zne ha (zr (k := 13) (t2 := 76) hG ha rfl) (by decide))), e_s115, zU_eq])
                    have g501 : s117 a 22 = (s100 a 22) + 1 := (by rw [e_s117, zU_at (Or.inr (by decide)), e_s116, zU_eq])
                    exact j_sub [0, 1] [(0, .ref a), (1, .int (zI 2))] rfl (ih_c27_82 s117 (by omega) hS_s117 (zFr_u (zFr_u (zFr_u (zFr_u (zFr_t (zFr_t zFr_rf hF_s83 (by decide)) hF_s100 (by decide)) e_s114 (zr (k := 12) (t2 := 75) hG ha rfl) (by decide)) e_s115 (zr (k := 13) (t2 := 76) hG ha rfl) (by decide)) e_s116 ha (by decide)) e_s117 ha (by decide)) (by omega) (by omega) (by omega) (by omega) (by omega) (by omega) (by omega) (by omega) (by omega) (by omega) (by omega) (by omega) (by omega))
                  · skip
                    have f502 := zf hS_s100 ha (k := 4) rfl
                    have f503 := zf hS_s100 ha (k := 5) rfl
                    have g504 : s100 (gP G a 13) 0 = s83 (gP G a 13) 0 := (by rw [(zFr_g hF_s100 (zr (k := 13) (t2 := 76) hG ha rfl) (by decide))])
                    have g505 : s100 (gP G a 13) 1 = s83 (gP G a 13) 1 := (by rw [(zFr_g hF_s100 (zr (k := 13) (t2 := 76) hG ha rfl) (by decide))])
                    have g506 : s100 (gP G a 13) 2 = s83 (gP G a 13) 2 := (by rw [(zFr_g hF_s100 (zr (k := 13) (t2 := 76) hG ha rfl) (by decide))])
                    have f507 := zf hS_s100 ha (k := 22) rfl
                    have f508 := zf hS_s100 ha (k := 0) rfl
                    have f509 := zf hS_s100 ha (k := 3) rfl
                    have f510 := zf hS_s100 ha (k := 7) rfl
                    have f511 := zf hS_s100 ha (k := 21) rfl
                    have f512 := zf hS_s100 ha (k := 23) rfl
                    have f513 := zf hS_s100 ha (k := 24) rfl
                    have f514 := zf hS_s100 ha (k := 38) rfl
                    have f515 := zf hS_s100 ha (k := 51) rfl
                    have f516 := zf hS_s100 ha (k := 52) rfl
                    exact j_vret hx hq rfl (by decide) (by decide) dX12_readCards_112 ⟨rfl, rfl, hS_s100, (zFr_t (zFr_t (zFr_t zFr_rf hF_s81 (by decide)) hF_s83 (by decide)) hF_s100 (by decide)), ⟨by omega, by omega, by omega, by omega, by omega, by omega, by omega, by omega, by omega, by omega, by omega, by omega, by omega⟩⟩
                refine j_if_ne hx 87 dX12_readCards_72 rfl (by omega) (fun h517 => ?_) (fun h517 => ?_)
                · skip
                  refine j_aload_n hx 0 dX12_readCards_87 rfl ?_
                  refine g13_22 hx hG ha kf_RX12_183 rfl dX12_readCards_88 ?_
                  refine j_bipush hx dX12_readCards_91 rfl ?_
                  refine j_icmp_ne hx 105 dX12_readCards_93 rfl (by omega) ⟨by decide, by decide⟩ (fun h518 => ?_) (fun h518 => ?_)
                  · skip
                    exact j_sub [0, 1] [(0, .ref a), (1, .int (zI 2))] rfl (c105_99 s83 hS_s83 zFr_rf (by omega) (by omega) (by omega) (by omega) (by omega) (by omega) (by omega) (by omega) (by omega) (by omega) (by omega))
                  · skip
                    refine j_aload_n hx 0 dX12_readCards_96 rfl ?_
                    refine j_iconst hx dX12_readCards_97 ?_
                    refine j_aload_n hx 0 dX12_readCards_98 rfl ?_
                    refine g13_4 hx hG ha kf_RX12_143 rfl dX12_readCards_99 ?_
                    refine j_callV hx hG (c_X12_wrong hst a 3 ((s83 a 4))) lk_RX12_173 ha (by decide) rfl rfl rfl rfl [.int (zI 3), .int (zI ((s83 a 4)))] ⟨rfl, hG, hS_s83, ha, (by omega), (by omega)⟩ rfl rfl ⟨by decide, by decide⟩ ⟨by decide, by decide⟩ (k2 := 0) (n2 := 0) rfl rfl (Nat.le_of_ble_eq_true rfl) dX12_readCards_102 (kVM (fun s118 hS_s118 hF_s118 q520 => ?_))
                    have f521 := zf hS_s118 ha (k := 0) rfl
                    have f522 := zf hS_s118 ha (k := 3) rfl
                    have f523 := zf hS_s118 ha (k := 4) rfl
                    have f524 := zf hS_s118 ha (k := 7) rfl
                    have f525 := zf hS_s118 ha (k := 21) rfl
                    have f526 := zf hS_s118 ha (k := 22) rfl
                    have f527 := zf hS_s118 ha (k := 23) rfl
                    have f528 := zf hS_s118 ha (k := 24) rfl
                    have f529 := zf hS_s118 ha (k := 38) rfl
                    have f530 := zf hS_s118 ha (k := 51) rfl
                    have f531 := zf hS_s118 ha (k := 52) rfl
                    exact j_sub [0, 1] [(0, .ref a), (1, .int (zI 2))] rfl (c105_99 s118 hS_s118 (zFr_t zFr_rf hF_s118 (by decide)) (by omega) (by omega) (by omega) (by omega) (by omega) (by omega) (by omega) (by omega) (by omega) (by omega) (by omega))
                · skip
                  refine j_aload_n hx 0 dX12_readCards_75 rfl ?_
                  refine j_iconst hx dX12_readCards_76 ?_
                  refine j_aload_n hx 0 dX12_readCards_77 rfl ?_
                  refine g13_4 hx hG ha kf_RX12_143 rfl dX12_readCards_78 ?_
                  refine j_callV hx hG (c_X12_wrong hst a 1 ((s83 a 4))) lk_RX12_173 ha (by decide) rfl rfl rfl rfl [.int (zI 1), .int (zI ((s83 a 4)))] ⟨rfl, hG, hS_s83, ha, (by omega), (by omega)⟩ rfl rfl ⟨by decide, by decide⟩ ⟨by decide, by decide⟩ (k2 := 0) (n2 := 0) rfl rfl (Nat.le_of_ble_eq_true rfl) dX12_readCards_81 (kVM (fun s119 hS_s119 hF_s119 q533 => ?_))
                  refine j_goto hx 105 dX12_readCards_84 rfl ?_
                  have f534 := zf hS_s119 ha (k := 0) rfl
                  have f535 := zf hS_s119 ha (k := 3) rfl
                  have f536 := zf hS_s119 ha (k := 4) rfl
                  have f537 := zf hS_s119 ha (k := 7) rfl
                  have f538 := zf hS_s119 ha (k := 21) rfl
                  have f539 := zf hS_s119 ha (k := 22) rfl
                  have f540 := zf hS_s119 ha (k := 23) rfl
                  have f541 := zf hS_s119 ha (k := 24) rfl
                  have f542 := zf hS_s119 ha (k := 38) rfl
                  have f543 := zf hS_s119 ha (k := 51) rfl
                  have f544 := zf hS_s119 ha (k := 52) rfl
                  exact j_sub [0, 1] [(0, .ref a), (1, .int (zI 2))] rfl (c105_99 s119 hS_s119 (zFr_t zFr_rf hF_s119 (by decide)) (by omega) (by omega) (by omega) (by omega) (by omega) (by omega) (by omega) (by omega) (by omega) (by omega) (by omega))
      refine j_if_ne hx 27 dX12_readCards_15 rfl (by omega) (fun h545 => ?_) (fun h545 => ?_)
      · skip
        have g546 : s81 (gP G a 13) 0 = s0 (gP G a 13) 0 := (by rw [(zFr_g hF_s81 (zr (k := 13) (t2 := 76) hG ha rfl) (by decide))])
        have g547 : s81 (gP G a 13) 1 = s0 (gP G a 13) 1 := (by rw [(zFr_g hF_s81 (zr (k := 13) (t2 := 76) hG ha rfl) (by decide))])
        have g548 : s81 (gP G a 13) 2 = s0 (gP G a 13) 2 := (by rw [(zFr_g hF_s81 (zr (k := 13) (t2 := 76) hG ha rfl) (by decide))])
        have f549 := zf hS_s81 ha (k := 22) rfl
        exact j_sub [0, 1] [(0, .ref a), (1, .int (zI 2))] rfl (c27_82 (2147483648 * 4) s81 (by omega) hS_s81 zFr_rf (by omega) (by omega) (by omega) (by omega) (by omega) (by omega) (by omega) (by omega) (by omega) (by omega) (by omega) (by omega) (by omega))
      · skip
        refine j_aload_n hx 0 dX12_readCards_18 rfl ?_
        refine j_iconst hx dX12_readCards_19 ?_
        refine j_aload_n hx 0 dX12_readCards_20 rfl ?_
        refine g13_4 hx hG ha kf_RX12_143 rfl dX12_readCards_21 ?_
        have f550 := zf hS_s81 ha (k := 22) rfl
        refine j_callV hx hG (c_X12_wrong hst a 1 ((s81 a 4))) lk_RX12_173 ha (by decide) rfl rfl rfl rfl [.int (zI 1), .int (zI ((s81 a 4)))] ⟨rfl, hG, hS_s81, ha, (by omega), (by omega)⟩ rfl rfl ⟨by decide, by decide⟩ ⟨by decide, by decide⟩ (k2 := 0) (n2 := 0) rfl rfl (Nat.le_of_ble_eq_true rfl) dX12_readCards_24 (kVM (fun s120 hS_s120 hF_s120 q552 => ?_))
        have f553 := zf hS_s120 ha (k := 4) rfl
        have f554 := zf hS_s120 ha (k := 5) rfl
        have f555 := zf hS_s120 ha (k := 0) rfl
        have f556 := zf hS_s120 ha (k := 3) rfl
        have f557 := zf hS_s120 ha (k := 7) rfl
        have f558 := zf hS_s120 ha (k := 21) rfl
        have f559 := zf hS_s120 ha (k := 23) rfl
        have f560 := zf hS_s120 ha (k := 24) rfl
        have f561 := zf hS_s120 ha (k := 38) rfl
        have f562 := zf hS_s120 ha (k := 51) rfl
        have f563 := zf hS_s120 ha (k := 52) rfl
        have g564 : s120 (gP G a 13) 0 = s0 (gP G a 13) 0 := (by rw [(zFr_g hF_s120 (zr (k := 13) (t2 := 76) hG ha rfl) (by decide)), (zFr_g hF_s81 (zr (k := 13) (t2 := 76) hG ha rfl) (by decide))])
        have g565 : s120 (gP G a 13) 1 = s0 (gP G a 13) 1 := (by rw [(zFr_g hF_s120 (zr (k := 13) (t2 := 76) hG ha rfl) (by decide)), (zFr_g hF_s81 (zr (k := 13) (t2 := 76) hG ha rfl) (by decide))])
        have g566 : s120 (gP G a 13) 2 = s0 (gP G a 13) 2 := (by rw [(zFr_g hF_s120 (zr (k := 13) (t2 := 76) hG ha rfl) (by decide)), (zFr_g hF_s81 (zr (k := 13) (t2 := 76) hG ha rfl) (by decide))])
        have f567 := zf hS_s120 ha (k := 22) rfl
        exact j_sub [0, 1] [(0, .ref a), (1, .int (zI 2))] rfl (c27_82 (2147483648 * 4) s120 (by omega) hS_s120 (zFr_t zFr_rf hF_s120 (by decide)) (by omega) (by omega) (by omega) (by omega) (by omega) (by omega) (by omega) (by omega) (by omega) (by omega) (by omega) (by omega) (by omega))
    · skip
      have f568 := zf hS0 ha (k := 4) rfl
      have f569 := zf hS0 ha (k := 5) rfl
      have f570 := zf hS0 ha (k := 22) rfl
      have f571 := zf hS0 ha (k := 3) rfl
      have f572 := zf hS0 ha (k := 0) rfl
      have f573 := zf hS0 ha (k := 7) rfl
      have f574 := zf hS0 ha (k := 21) rfl
      have f575 := zf hS0 ha (k := 23) rfl
      have f576 := zf hS0 ha (k := 24) rfl
      have f577 := zf hS0 ha (k := 38) rfl
      have f578 := zf hS0 ha (k := 51) rfl
      have f579 := zf hS0 ha (k := 52) rfl
      exact j_vret hx hq rfl (by decide) (by decide) dX12_readCards_7 ⟨rfl, rfl, hS0, zFr_rf, ⟨by omega, by omega, by omega, by omega, by omega, by omega, by omega, by omega, by omega, by omega, by omega, by omega, by omega⟩⟩
