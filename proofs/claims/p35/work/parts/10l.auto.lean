theorem lk_RX12_462 : LkS RX12 462 yX12_fraction cX12_fraction 3 (some .int) 3 := ⟨km_RX12_462, kst_yX12_fraction, kn_RX12, kc_yX12_fraction, by decide +kernel, by decide +kernel, by decide +kernel⟩
theorem lk_RX12_459 : LkV RX12 459 RX12 yX12_isOther cX12_isOther 4 (some .boolean) 2 := ⟨km_RX12_459, ki_yX12_isOther, ks_RX12_yX12_isOther, kn_RX12, kc_yX12_isOther, rfl, by decide +kernel, by decide +kernel, by decide +kernel⟩
set_option maxHeartbeats 1200000 in
set_option maxRecDepth 20000 in
theorem c_X12_chance {E : zE} {l : Launch} (hst : l.stackTraces = false) (a : Nat) (x1 : Int) (x2 : Int) (x3 : Int) : Con E l yX12_chance cX12_chance 9 (some .int) { frames := 2, cells := 0, slots := 0, locals := 46 } (fun G s vs => vs = [.ref a, .int (zI x1), .int (zI x2), .int (zI x3)] ∧ zGK G ∧ zSK G s ∧ (gT G a = 13) ∧ ((-2147483648) ≤ x1 ∧ x1 ≤ 2147483647) ∧ ((-2147483648) ≤ x2 ∧ x2 ≤ 2147483647) ∧ ((-2147483648) ≤ x3 ∧ x3 ≤ 2147483647)) (fun G s _ => pI (fun r G2 s2 => G2 = G ∧ zSK G s2 ∧ zFr [13, 71] G s s2 ∧ ((-2147483648) ≤ r ∧ r ≤ 2147483647) ∧ s2 a 3 = s a 3 ∧ s2 a 4 = s a 4 ∧ s2 a 5 = s a 5 ∧ s2 a 7 = s a 7 ∧ s2 a 21 = s a 21 ∧ s2 a 22 = s a 22 ∧ s2 a 23 = s a 23 ∧ s2 a 24 = s a 24 ∧ s2 a 38 = s a 38 ∧ s2 a 51 = s a 51 ∧ s2 a 52 = s a 52)) := by
  refine Con.mk hst (by decide) (fun G s vs h => by rw [h.1]; exact Nat.le_of_ble_eq_true rfl) ?_
  rintro X G s0 vs ⟨rfl, hG, hS0, ha, hx1, hx2, hx3⟩ rfl hx hq
  show JJ X E 9 G s0 0 0 [(0, .ref a), (1, .int (zI x1)), (2, .int (zI x2)), (3, .int (zI x3))] 0 []
  refine j_aload_n hx 0 dX12_chance_0 rfl ?_
  refine j_iconst hx dX12_chance_1 ?_
  refine p13_0 hx hG ha kf_RX12_3 dX12_chance_2 ?_
  obtain ⟨s1, e_s1⟩ : ∃ z, z = zU s0 a 0 0 := ⟨_, rfl⟩
  rw [← e_s1]
  have hS_s1 : zSK G s1 := by rw [e_s1]; exact zSK_F hS0 ha rfl rfl rfl (by omega)
  refine j_aload_n hx 0 dX12_chance_5 rfl ?_
  refine j_iload_n hx 1 dX12_chance_6 rfl ?_
  refine j_iconst hx dX12_chance_7 ?_
  have g1 : s1 a 0 = 0 := (by rw [e_s1, zU_eq])
  have g2 : s1 a 24 = s0 a 24 := (by rw [e_s1, zU_at (Or.inr (by decide))])
  have f3 := zf hS0 ha (k := 24) rfl
  have g4 : s1 a 3 = s0 a 3 := (by rw [e_s1, zU_at (Or.inr (by decide))])
  have f5 := zf hS0 ha (k := 3) rfl
  have g6 : s1 a 4 = s0 a 4 := (by rw [e_s1, zU_at (Or.inr (by decide))])
  have f7 := zf hS0 ha (k := 4) rfl
  have g8 : s1 a 5 = s0 a 5 := (by rw [e_s1, zU_at (Or.inr (by decide))])
  have f9 := zf hS0 ha (k := 5) rfl
  have g10 : s1 a 7 = s0 a 7 := (by rw [e_s1, zU_at (Or.inr (by decide))])
  have f11 := zf hS0 ha (k := 7) rfl
  have g12 : s1 a 21 = s0 a 21 := (by rw [e_s1, zU_at (Or.inr (by decide))])
  have f13 := zf hS0 ha (k := 21) rfl
  have g14 : s1 a 22 = s0 a 22 := (by rw [e_s1, zU_at (Or.inr (by decide))])
  have f15 := zf hS0 ha (k := 22) rfl
  have g16 : s1 a 23 = s0 a 23 := (by rw [e_s1, zU_at (Or.inr (by decide))])
  have f17 := zf hS0 ha (k := 23) rfl
  have g18 : s1 a 38 = s0 a 38 := (by rw [e_s1, zU_at (Or.inr (by decide))])
  have f19 := zf hS0 ha (k := 38) rfl
  have g20 : s1 a 51 = s0 a 51 := (by rw [e_s1, zU_at (Or.inr (by decide))])
  have f21 := zf hS0 ha (k := 51) rfl
  have g22 : s1 a 52 = s0 a 52 := (by rw [e_s1, zU_at (Or.inr (by decide))])
  have f23 := zf hS0 ha (k := 52) rfl
  refine j_callV hx hG (c_X12_isPlayer hst a x1 1) lk_RX12_339 ha (by decide) rfl rfl rfl rfl [.int (zI x1), .int (zI 1)] ⟨rfl, hG, hS_s1, ha, (by omega), (by omega), (((by rw [e_s1, zU_eq]) : s1 a 0 = 0).trans (by omega))⟩ rfl rfl ⟨by decide, by decide⟩ ⟨by decide, by decide⟩ (k2 := 0) (n2 := 0) rfl rfl (Nat.le_of_ble_eq_true rfl) dX12_chance_8 (kIM (fun v24 s2 hS_s2 hF_s2 q25 => ?_))
  refine j_if_eq hx 38 dX12_chance_11 rfl (by omega) (fun h26 => ?_) (fun h26 => ?_)
  · skip
    refine j_iconst hx dX12_chance_38 ?_
    have f27 := zf hS_s2 ha (k := 3) rfl
    have f28 := zf hS_s2 ha (k := 4) rfl
    have f29 := zf hS_s2 ha (k := 5) rfl
    have f30 := zf hS_s2 ha (k := 7) rfl
    have f31 := zf hS_s2 ha (k := 21) rfl
    have f32 := zf hS_s2 ha (k := 22) rfl
    have f33 := zf hS_s2 ha (k := 23) rfl
    have f34 := zf hS_s2 ha (k := 24) rfl
    have f35 := zf hS_s2 ha (k := 38) rfl
    have f36 := zf hS_s2 ha (k := 51) rfl
    have f37 := zf hS_s2 ha (k := 52) rfl
    exact j_iret hx hq rfl (by decide) (by decide) dX12_chance_39 ⟨0, rfl, rfl, hS_s2, (zFr_t (zFr_u zFr_rf e_s1 ha (by decide)) hF_s2 (by decide)), ⟨(by omega), by omega, by omega, by omega, by omega, by omega, by omega, by omega, by omega, by omega, by omega, by omega⟩⟩
  · skip
    refine j_aload_n hx 0 dX12_chance_14 rfl ?_
    refine j_iload_n hx 2 dX12_chance_15 rfl ?_
    refine j_iconst hx dX12_chance_16 ?_
    have f38 := zf hS_s2 ha (k := 0) rfl
    have f39 := zf hS_s2 ha (k := 24) rfl
    have f40 := zf hS_s2 ha (k := 3) rfl
    have f41 := zf hS_s2 ha (k := 4) rfl
    have f42 := zf hS_s2 ha (k := 5) rfl
    have f43 := zf hS_s2 ha (k := 7) rfl
    have f44 := zf hS_s2 ha (k := 21) rfl
    have f45 := zf hS_s2 ha (k := 22) rfl
    have f46 := zf hS_s2 ha (k := 23) rfl
    have f47 := zf hS_s2 ha (k := 38) rfl
    have f48 := zf hS_s2 ha (k := 51) rfl
    have f49 := zf hS_s2 ha (k := 52) rfl
    refine j_callV hx hG (c_X12_isPlayer hst a x2 1) lk_RX12_339 ha (by decide) rfl rfl rfl rfl [.int (zI x2), .int (zI 1)] ⟨rfl, hG, hS_s2, ha, (by omega), (by omega), (by omega)⟩ rfl rfl ⟨by decide, by decide⟩ ⟨by decide, by decide⟩ (k2 := 0) (n2 := 0) rfl rfl (Nat.le_of_ble_eq_true rfl) dX12_chance_17 (kIM (fun v50 s3 hS_s3 hF_s3 q51 => ?_))
    refine j_if_eq hx 38 dX12_chance_20 rfl (by omega) (fun h52 => ?_) (fun h52 => ?_)
    · skip
      refine j_iconst hx dX12_chance_38 ?_
      have f53 := zf hS_s3 ha (k := 3) rfl
      have f54 := zf hS_s3 ha (k := 4) rfl
      have f55 := zf hS_s3 ha (k := 5) rfl
      have f56 := zf hS_s3 ha (k := 7) rfl
      have f57 := zf hS_s3 ha (k := 21) rfl
      have f58 := zf hS_s3 ha (k := 22) rfl
      have f59 := zf hS_s3 ha (k := 23) rfl
      have f60 := zf hS_s3 ha (k := 24) rfl
      have f61 := zf hS_s3 ha (k := 38) rfl
      have f62 := zf hS_s3 ha (k := 51) rfl
      have f63 := zf hS_s3 ha (k := 52) rfl
      exact j_iret hx hq rfl (by decide) (by decide) dX12_chance_39 ⟨0, rfl, rfl, hS_s3, (zFr_t (zFr_t (zFr_u zFr_rf e_s1 ha (by decide)) hF_s2 (by decide)) hF_s3 (by decide)), ⟨(by omega), by omega, by omega, by omega, by omega, by omega, by omega, by omega, by omega, by omega, by omega, by omega⟩⟩
    · skip
      refine j_aload_n hx 0 dX12_chance_23 rfl ?_
      refine j_iload_n hx 3 dX12_chance_24 rfl ?_
      refine j_iconst hx dX12_chance_25 ?_
      refine j_iconst hx dX12_chance_26 ?_
      refine j_callS hx (c_X12_within hst x3 0 1) lk_RX12_314 [.int (zI x3), .int (zI 0), .int (zI 1)] ⟨rfl, hG, hS_s3, (by omega), (by omega), (by omega)⟩ rfl rfl ⟨by decide, by decide⟩ ⟨by decide, by decide⟩ (k2 := 0) (n2 := 0) rfl rfl (Nat.le_of_ble_eq_true rfl) dX12_chance_27 (kIP (fun v64 q65 => ?_))
      refine j_iconst hx dX12_chance_30 ?_
      refine j_iconst hx dX12_chance_31 ?_
      rcases (show v64 = 0 ∨ v64 = 1 by omega) with rfl | rfl
      · skip
        have f67 := zf hS_s3 ha (k := 0) rfl
        have f68 := zf hS_s3 ha (k := 3) rfl
        have f69 := zf hS_s3 ha (k := 4) rfl
        have f70 := zf hS_s3 ha (k := 5) rfl
        have f71 := zf hS_s3 ha (k := 7) rfl
        have f72 := zf hS_s3 ha (k := 21) rfl
        have f73 := zf hS_s3 ha (k := 22) rfl
        have f74 := zf hS_s3 ha (k := 23) rfl
        have f75 := zf hS_s3 ha (k := 24) rfl
        have f76 := zf hS_s3 ha (k := 38) rfl
        have f77 := zf hS_s3 ha (k := 51) rfl
        have f78 := zf hS_s3 ha (k := 52) rfl
        refine j_callV hx hG (c_X12_may_f hst a 0 2 1) lk_RX12_240 ha (by decide) rfl rfl rfl rfl [.int (zI 0), .int (zI 2), .int (zI 1)] ⟨rfl, hG, hS_s3, ha, (by omega), (by omega), (by omega), (by omega)⟩ rfl rfl ⟨by decide, by decide⟩ ⟨by decide, by decide⟩ (k2 := 0) (n2 := 0) rfl rfl (Nat.le_of_ble_eq_true rfl) dX12_chance_32 (kIM (fun v79 s4 hS_s4 hF_s4 q80 => ?_))
        refine j_if_ne hx 40 dX12_chance_35 rfl (by omega) (fun h81 => absurd h81 (by omega)) (fun h81 => ?_)
        refine j_iconst hx dX12_chance_38 ?_
        have f82 := zf hS_s4 ha (k := 3) rfl
        have f83 := zf hS_s4 ha (k := 4) rfl
        have f84 := zf hS_s4 ha (k := 5) rfl
        have f85 := zf hS_s4 ha (k := 7) rfl
        have f86 := zf hS_s4 ha (k := 21) rfl
        have f87 := zf hS_s4 ha (k := 22) rfl
        have f88 := zf hS_s4 ha (k := 23) rfl
        have f89 := zf hS_s4 ha (k := 24) rfl
        have f90 := zf hS_s4 ha (k := 38) rfl
        have f91 := zf hS_s4 ha (k := 51) rfl
        have f92 := zf hS_s4 ha (k := 52) rfl
        exact j_iret hx hq rfl (by decide) (by decide) dX12_chance_39 ⟨0, rfl, rfl, hS_s4, (zFr_t (zFr_t (zFr_t (zFr_u zFr_rf e_s1 ha (by decide)) hF_s2 (by decide)) hF_s3 (by decide)) hF_s4 (by decide)), ⟨(by omega), by omega, by omega, by omega, by omega, by omega, by omega, by omega, by omega, by omega, by omega, by omega⟩⟩
      · skip
        have f93 := zf hS_s3 ha (k := 0) rfl
        refine j_callV hx hG (c_X12_may_t hst a 1 2 1) lk_RX12_240 ha (by decide) rfl rfl rfl rfl [.int (zI 1), .int (zI 2), .int (zI 1)] ⟨rfl, hG, hS_s3, ha, (by omega), (by omega), (by omega), (by omega)⟩ rfl rfl ⟨by decide, by decide⟩ ⟨by decide, by decide⟩ (k2 := 0) (n2 := 0) rfl rfl (Nat.le_of_ble_eq_true rfl) dX12_chance_32 (kIP (fun v94 q95 => ?_))
        refine j_if_ne hx 40 dX12_chance_35 rfl (by omega) (fun h96 => ?_) (fun h96 => absurd h96 (by omega))
        refine j_aload_n hx 0 dX12_chance_40 rfl ?_
        refine j_iload_n hx 1 dX12_chance_41 rfl ?_
        refine j_callV hx hG (c_X12_isOut hst a x1) lk_RX12_325 ha (by decide) rfl rfl rfl rfl [.int (zI x1)] ⟨rfl, hG, hS_s3, ha, (by omega)⟩ rfl rfl ⟨by decide, by decide⟩ ⟨by decide, by decide⟩ (k2 := 0) (n2 := 0) rfl rfl (Nat.le_of_ble_eq_true rfl) dX12_chance_42 (kIP (fun v97 q98 => ?_))
        refine j_if_eq hx 50 dX12_chance_45 rfl (by omega) (fun h99 => ?_) (fun h99 => ?_)
        · skip
          have g100 : s3 (gP G a 27) (x1 + 480).toNat = s0 (gP G a 27) (x1 + 480).toNat := (by rw [(zFr_g hF_s3 (zr (k := 27) (t2 := 84) hG ha rfl) (by decide)), (zFr_g hF_s2 (zr (k := 27) (t2 := 84) hG ha rfl) (by decide)), e_s1, zU_at (Or.inl (zne ha (zr (k := 27) (t2 := 84) hG ha rfl) (by decide)))])
          have g101 : s3 (gP G a 27) (x1 + 483).toNat = s0 (gP G a 27) (x1 + 483).toNat := (by rw [(zFr_g hF_s3 (zr (k := 27) (t2 := 84) hG ha rfl) (by decide)), (zFr_g hF_s2 (zr (k := 27) (t2 := 84) hG ha rfl) (by decide)), e_s1, zU_at (Or.inl (zne ha (zr (k := 27) (t2 := 84) hG ha rfl) (by decide)))])
          refine j_aload_n hx 0 dX12_chance_50 rfl ?_
          refine j_iload_n hx 2 dX12_chance_51 rfl ?_
          refine j_iload_n hx 1 dX12_chance_52 rfl ?_
          refine j_callV hx hG (c_X12_remembers hst a x2 x1) lk_RX12_349 ha (by decide) rfl rfl rfl rfl [.int (zI x2), .int (zI x1)] ⟨rfl, hG, hS_s3, ha, (by omega), (by omega)⟩ rfl rfl ⟨by decide, by decide⟩ ⟨by decide, by decide⟩ (k2 := 0) (n2 := 0) rfl rfl (Nat.le_of_ble_eq_true rfl) dX12_chance_53 (kIP (fun v102 q103 => ?_))
          refine j_if_eq hx 94 dX12_chance_56 rfl (by omega) (fun h104 => ?_) (fun h104 => ?_)
          · skip
            refine j_aload_n hx 0 dX12_chance_94 rfl ?_
            refine g13_27 hx hG ha kf_RX12_56 dX12_chance_95 ?_
            refine j_sipush hx dX12_chance_98 rfl ?_
            refine j_iload_n hx 1 dX12_chance_101 rfl ?_
            refine j_iadd hx (r := x1 + 480) dX12_chance_102 (by omega) ?_
            have f105 := zaQ (j := (x1 + 480).toNat) hS0 (zr (k := 27) (t2 := 84) hG ha rfl) (congrArg some (axS_2 (x1 + 480).toNat (by omega))) (zlen hG (zr (k := 27) (t2 := 84) hG ha rfl) (n := 515) rfl rfl) (show 0 ≤ x1 + 480 by omega) (by omega) rfl
            have c106 := zc_1 (j := (x1 + 480).toNat) hS0 (zr (k := 27) (t2 := 84) hG ha rfl) (zn hG (zr (k := 27) (t2 := 84) hG ha rfl) rfl) (by omega) (by omega)
            refine j_iald hx hG (zr (k := 27) (t2 := 84) hG ha rfl) (by decide) rfl (zlen hG (zr (k := 27) (t2 := 84) hG ha rfl) (n := 515) rfl rfl) (by omega) (by omega) (j := (x1 + 480).toNat) rfl (v := (s0 (gP G a 27) (x1 + 480).toNat)) (by rw [(zFr_g hF_s3 (zr (k := 27) (t2 := 84) hG ha rfl) (by decide)), (zFr_g hF_s2 (zr (k := 27) (t2 := 84) hG ha rfl) (by decide)), e_s1, zU_at (Or.inl (zne ha (zr (k := 27) (t2 := 84) hG ha rfl) (by decide)))]) dX12_chance_103 ?_
            refine j_if_le hx 111 dX12_chance_104 rfl (by omega) (fun h107 => ?_) (fun h107 => ?_)
            · skip
              refine j_iconst hx dX12_chance_111 ?_
              refine j_istore hx [(4, .int (zI 0)), (0, .ref a), (1, .int (zI x1)), (2, .int (zI x2)), (3, .int (zI x3))] dX12_chance_112 (by decide) rfl ?_
              refine j_iload hx 0 dX12_chance_114 rfl ?_
              refine j_if_eq hx 123 dX12_chance_116 rfl ⟨by decide, by decide⟩ (fun h108 => ?_) (fun h108 => absurd h108 (by omega))
              refine j_sipush hx dX12_chance_123 rfl ?_
              refine j_bipush hx dX12_chance_126 rfl ?_
              refine j_iload_n hx 2 dX12_chance_128 rfl ?_
              refine j_imul hx (r := 60 * x1) dX12_chance_129 rfl ?_
              refine j_iadd hx (r := 60 * x1 + 180) dX12_chance_130 (by omega) ?_
              refine j_istore hx [(5, .int (zI (60 * x1 + 180))), (4, .int (zI 0)), (0, .ref a), (1, .int (zI x1)), (2, .int (zI x2)), (3, .int (zI x3))] dX12_chance_131 (by decide) rfl ?_
              refine j_iload hx 1 dX12_chance_133 rfl ?_
              refine j_if_eq hx 151 dX12_chance_135 rfl ⟨by decide, by decide⟩ (fun h109 => ?_) (fun h109 => absurd h109 (by omega))
              refine j_aload_n hx 2 dX12_chance_151 rfl ?_
              refine g13_27 hx hG ha kf_RX12_56 dX12_chance_152 ?_
              refine j_sipush hx dX12_chance_155 rfl ?_
              refine j_iload_n hx 3 dX12_chance_158 rfl ?_
              refine j_iadd hx (r := x1 + 483) dX12_chance_159 (by omega) ?_
              have f110 := zaQ (j := (x1 + 483).toNat) hS0 (zr (k := 27) (t2 := 84) hG ha rfl) (congrArg some (axS_2 (x1 + 483).toNat (by omega))) (zlen hG (zr (k := 27) (t2 := 84) hG ha rfl) (n := 515) rfl rfl) (show 0 ≤ x1 + 483 by omega) (by omega) rfl
              have c111 := zc_1 (j := (x1 + 483).toNat) hS0 (zr (k := 27) (t2 := 84) hG ha rfl) (zn hG (zr (k := 27) (t2 := 84) hG ha rfl) rfl) (by omega) (by omega)
              have c112 : (x1 + 480).toNat ≠ (x1 + 483).toNat → s0 (gP G a 27) (x1 + 480).toNat + s0 (gP G a 27) (x1 + 483).toNat ≤ zc (s0 (gP G a 27)) := fun e => zc_2 hS0 (zr (k := 27) (t2 := 84) hG ha rfl) (zn hG (zr (k := 27) (t2 := 84) hG ha rfl) rfl) (by omega) (by omega) (by omega) (by omega) e
              refine j_iald hx hG (zr (k := 27) (t2 := 84) hG ha rfl) (by decide) rfl (zlen hG (zr (k := 27) (t2 := 84) hG ha rfl) (n := 515) rfl rfl) (by omega) (by omega) (j := (x1 + 483).toNat) rfl (v := (s0 (gP G a 27) (x1 + 483).toNat)) (by rw [(zFr_g hF_s3 (zr (k := 27) (t2 := 84) hG ha rfl) (by decide)), (zFr_g hF_s2 (zr (k := 27) (t2 := 84) hG ha rfl) (by decide)), e_s1, zU_at (Or.inl (zne ha (zr (k := 27) (t2 := 84) hG ha rfl) (by decide)))]) dX12_chance_160 ?_
              refine j_istore hx [(6, .int (zI ((s0 (gP G a 27) (x1 + 483).toNat)))), (5, .int (zI (60 * x1 + 180))), (4, .int (zI 0)), (0, .ref a), (1, .int (zI x1)), (2, .int (zI x2)), (3, .int (zI x3))] dX12_chance_161 (by decide) rfl ?_
              refine j_iconst hx dX12_chance_163 ?_
              refine j_istore hx [(7, .int (zI 0)), (6, .int (zI ((s0 (gP G a 27) (x1 + 483).toNat)))), (5, .int (zI (60 * x1 + 180))), (4, .int (zI 0)), (0, .ref a), (1, .int (zI x1)), (2, .int (zI x2)), (3, .int (zI x3))] dX12_chance_164 (by decide) rfl ?_
              refine j_iconst hx dX12_chance_166 ?_
              refine j_istore hx [(8, .int (zI 0)), (7, .int (zI 0)), (6, .int (zI ((s0 (gP G a 27) (x1 + 483).toNat)))), (5, .int (zI (60 * x1 + 180))), (4, .int (zI 0)), (0, .ref a), (1, .int (zI x1)), (2, .int (zI x2)), (3, .int (zI x3))] dX12_chance_167 (by decide) rfl ?_
              have c169_5 : ∀ (m_c169_5 : Nat) (v113 : Int) (v114 : Int), 2147483648 - v114 < m_c169_5 → (0 ≤ v113 ∧ v113 ≤ 60) → (0 ≤ v114 ∧ v114 ≤ 60) → (v113 ≤ v114) → JJ X E 9 G s3 0 0 [(0, .ref a), (1, .int (zI x1)), (3, .int (zI x3)), (5, .int (zI (60 * x1 + 180))), (6, .int (zI ((s0 (gP G a 27) (x1 + 483).toNat)))), (7, .int (zI v113)), (8, .int (zI v114))] 169 [] := by
                intro m_c169_5
                induction m_c169_5 with
                | zero => intro v113 v114 hm_c169_5 fA6 fA7 fA8; exfalso; omega
                | succ m_c169_5 ih_c169_5 => 
                  intro v113 v114 hm_c169_5 fA6 fA7 fA8
                  refine j_iload hx 6 dX12_chance_169 rfl ?_
                  refine j_iload hx 4 dX12_chance_171 rfl ?_
                  refine j_icmp_ge hx 215 dX12_chance_173 rfl (by omega) (by omega) (fun h115 => ?_) (fun h115 => ?_)
                  · skip
                    refine j_iload hx 5 dX12_chance_215 rfl ?_
                    refine j_iload hx 4 dX12_chance_217 rfl ?_
                    refine j_iload_n hx 2 dX12_chance_219 rfl ?_
                    refine j_callS hx (c_X12_fraction hst v113 ((s0 (gP G a 27) (x1 + 483).toNat)) x3) lk_RX12_462 [.int (zI v113), .int (zI ((s0 (gP G a 27) (x1 + 483).toNat))), .int (zI x3)] ⟨rfl, hG, hS_s3, (by omega), (by omega), (by omega)⟩ rfl rfl ⟨by decide, by decide⟩ ⟨by decide, by decide⟩ (k2 := 0) (n2 := 0) rfl rfl (Nat.le_of_ble_eq_true rfl) dX12_chance_220 (kIP (fun v116 q117 => ?_))
                    have f118 := zf hS_s3 ha (k := 3) rfl
                    have f119 := zf hS_s3 ha (k := 4) rfl
                    have f120 := zf hS_s3 ha (k := 5) rfl
                    have f121 := zf hS_s3 ha (k := 7) rfl
                    have f122 := zf hS_s3 ha (k := 21) rfl
                    have f123 := zf hS_s3 ha (k := 22) rfl
                    have f124 := zf hS_s3 ha (k := 23) rfl
                    have f125 := zf hS_s3 ha (k := 24) rfl
                    have f126 := zf hS_s3 ha (k := 38) rfl
                    have f127 := zf hS_s3 ha (k := 51) rfl
                    have f128 := zf hS_s3 ha (k := 52) rfl
                    exact j_iret hx hq rfl (by decide) (by decide) dX12_chance_223 ⟨v116, rfl, rfl, hS_s3, (zFr_t (zFr_t (zFr_u zFr_rf e_s1 ha (by decide)) hF_s2 (by decide)) hF_s3 (by decide)), ⟨(by omega), by omega, by omega, by omega, by omega, by omega, by omega, by omega, by omega, by omega, by omega, by omega⟩⟩
                  · skip
                    refine j_iload hx 5 dX12_chance_176 rfl ?_
                    refine j_aload_n hx 0 dX12_chance_178 rfl ?_
                    refine j_iload_n hx 1 dX12_chance_179 rfl ?_
                    refine j_aload_n hx 0 dX12_chance_180 rfl ?_
                    refine g13_19 hx hG ha kf_RX12_50 dX12_chance_181 ?_
                    refine j_aload_n hx 0 dX12_chance_184 rfl ?_
                    refine g13_27 hx hG ha kf_RX12_56 dX12_chance_185 ?_
                    refine j_iload hx 3 dX12_chance_188 rfl ?_
                    refine j_iload hx 6 dX12_chance_190 rfl ?_
                    refine j_iadd hx (r := 60 * x1 + v114 + 180) dX12_chance_192 (by omega) ?_
                    have f129 := zaQ (j := (60 * x1 + v114 + 180).toNat) hS0 (zr (k := 27) (t2 := 84) hG ha rfl) (congrArg some (axS_0 (60 * x1 + v114 + 180).toNat (by omega))) (zlen hG (zr (k := 27) (t2 := 84) hG ha rfl) (n := 515) rfl rfl) (show 0 ≤ 60 * x1 + v114 + 180 by omega) (by omega) rfl
                    refine j_iald hx hG (zr (k := 27) (t2 := 84) hG ha rfl) (by decide) rfl (zlen hG (zr (k := 27) (t2 := 84) hG ha rfl) (n := 515) rfl rfl) (by omega) (by omega) (j := (60 * x1 + v114 + 180).toNat) rfl (v := (s0 (gP G a 27) (60 * x1 + v114 + 180).toNat)) (by rw [(zFr_g hF_s3 (zr (k := 27) (t2 := 84) hG ha rfl) (by decide)), (zFr_g hF_s2 (zr (k := 27) (t2 := 84) hG ha rfl) (by decide)), e_s1, zU_at (Or.inl (zne ha (zr (k := 27) (t2 := 84) hG ha rfl) (by decide)))]) dX12_chance_193 ?_
                    have f130 := zaI (j := ((s0 (gP G a 27) (60 * x1 + v114 + 180).toNat)).toNat) hS0 (zr (k := 19) (t2 := 82) hG ha rfl) rfl (zlen hG (zr (k := 19) (t2 := 82) hG ha rfl) (n := 60) rfl rfl) (show 0 ≤ (s0 (gP G a 27) (60 * x1 + v114 + 180).toNat) by omega) (by omega) rfl
                    refine j_iald hx hG (zr (k := 19) (t2 := 82) hG ha rfl) (by decide) rfl (zlen hG (zr (k := 19) (t2 := 82) hG ha rfl) (n := 60) rfl rfl) (by omega) (by omega) (j := ((s0 (gP G a 27) (60 * x1 + v114 + 180).toNat)).toNat) rfl (v := (s0 (gP G a 19) ((s0 (gP G a 27) (60 * x1 + v114 + 180).toNat)).toNat)) (by rw [(zFr_g hF_s3 (zr (k := 19) (t2 := 82) hG ha rfl) (by decide)), (zFr_g hF_s2 (zr (k := 19) (t2 := 82) hG ha rfl) (by decide)), e_s1, zU_at (Or.inl (zne ha (zr (k := 19) (t2 := 82) hG ha rfl) (by decide)))]) dX12_chance_194 ?_
                    refine j_callV hx hG (c_X12_isOther hst a x1 ((s0 (gP G a 19) ((s0 (gP G a 27) (60 * x1 + v114 + 180).toNat)).toNat))) lk_RX12_459 ha (by decide) rfl rfl rfl rfl [.int (zI x1), .int (zI ((s0 (gP G a 19) ((s0 (gP G a 27) (60 * x1 + v114 + 180).toNat)).toNat)))] ⟨rfl, hG, hS_s3, ha, (by omega), (by omega)⟩ rfl rfl ⟨by decide, by decide⟩ ⟨by decide, by decide⟩ (k2 := 0) (n2 := 0) rfl rfl (Nat.le_of_ble_eq_true rfl) dX12_chance_195 (kIP (fun v131 q132 => ?_))
                    refine j_if_eq hx 205 dX12_chance_198 rfl (by omega) (fun h133 => ?_) (fun h133 => ?_)
                    · skip
                      refine j_iconst hx dX12_chance_205 ?_
                      refine j_iadd hx (r := v113) dX12_chance_206 (by omega) ?_
                      refine j_istore hx [(7, .int (zI v113)), (0, .ref a), (1, .int (zI x1)), (3, .int (zI x3)), (5, .int (zI (60 * x1 + 180))), (6, .int (zI ((s0 (gP G a 27) (x1 + 483).toNat)))), (8, .int (zI v114))] dX12_chance_207 (by decide) rfl ?_
                      refine j_iinc hx 6 [(8, .int (zI (v114 + 1))), (7, .int (zI v113)), (0, .ref a), (1, .int (zI x1)), (3, .int (zI x3)), (5, .int (zI (60 * x1 + 180))), (6, .int (zI ((s0 (gP G a 27) (x1 + 483).toNat))))] dX12_chance_209 rfl (by omega) (by decide) rfl ?_
                      refine j_goto hx 169 dX12_chance_212 rfl ?_
                      exact j_sub [2, 3, 4, 5, 6, 1, 0] [(0, .ref a), (1, .int (zI x1)), (3, .int (zI x3)), (5, .int (zI (60 * x1 + 180))), (6, .int (zI ((s0 (gP G a 27) (x1 + 483).toNat)))), (7, .int (zI v113)), (8, .int (zI (v114 + 1)))] rfl (ih_c169_5 v113 (v114 + 1) (by omega) (by omega) (by omega) (by omega))
                    · skip
                      refine j_iconst hx dX12_chance_201 ?_
                      refine j_goto hx 206 dX12_chance_202 rfl ?_
                      refine j_iadd hx (r := v113 + 1) dX12_chance_206 rfl ?_
                      refine j_istore hx [(7, .int (zI (v113 + 1))), (0, .ref a), (1, .int (zI x1)), (3, .int (zI x3)), (5, .int (zI (60 * x1 + 180))), (6, .int (zI ((s0 (gP G a 27) (x1 + 483).toNat)))), (8, .int (zI v114))] dX12_chance_207 (by decide) rfl ?_
                      refine j_iinc hx 6 [(8, .int (zI (v114 + 1))), (7, .int (zI (v113 + 1))), (0, .ref a), (1, .int (zI x1)), (3, .int (zI x3)), (5, .int (zI (60 * x1 + 180))), (6, .int (zI ((s0 (gP G a 27) (x1 + 483).toNat))))] dX12_chance_209 rfl (by omega) (by decide) rfl ?_
                      refine j_goto hx 169 dX12_chance_212 rfl ?_
                      exact j_sub [2, 3, 4, 5, 6, 1, 0] [(0, .ref a), (1, .int (zI x1)), (3, .int (zI x3)), (5, .int (zI (60 * x1 + 180))), (6, .int (zI ((s0 (gP G a 27) (x1 + 483).toNat)))), (7, .int (zI (v113 + 1))), (8, .int (zI (v114 + 1)))] rfl (ih_c169_5 (v113 + 1) (v114 + 1) (by omega) (by omega) (by omega) (by omega))
              exact j_sub [5, 6, 8, 3, 2, 1, 0] [(0, .ref a), (1, .int (zI x1)), (3, .int (zI x3)), (5, .int (zI (60 * x1 + 180))), (6, .int (zI ((s0 (gP G a 27) (x1 + 483).toNat)))), (7, .int (zI 0)), (8, .int (zI 0))] rfl (c169_5 (2147483648 * 4) 0 0 (by omega) (by omega) (by omega) (by omega))
            · skip
              refine j_iconst hx dX12_chance_107 ?_
              refine j_goto hx 112 dX12_chance_108 rfl ?_
              refine j_istore hx [(4, .int (zI 1)), (0, .ref a), (1, .int (zI x1)), (2, .int (zI x2)), (3, .int (zI x3))] dX12_chance_112 (by decide) rfl ?_
              refine j_iload hx 0 dX12_chance_114 rfl ?_
              refine j_if_eq hx 123 dX12_chance_116 rfl ⟨by decide, by decide⟩ (fun h134 => absurd h134 (by omega)) (fun h134 => ?_)
              refine j_iconst hx dX12_chance_119 ?_
              refine j_goto hx 126 dX12_chance_120 rfl ?_
              refine j_bipush hx dX12_chance_126 rfl ?_
              refine j_iload_n hx 2 dX12_chance_128 rfl ?_
              refine j_imul hx (r := 60 * x1) dX12_chance_129 rfl ?_
              refine j_iadd hx (r := 60 * x1) dX12_chance_130 (by omega) ?_
              refine j_istore hx [(5, .int (zI (60 * x1))), (4, .int (zI 1)), (0, .ref a), (1, .int (zI x1)), (2, .int (zI x2)), (3, .int (zI x3))] dX12_chance_131 (by decide) rfl ?_
              refine j_iload hx 1 dX12_chance_133 rfl ?_
              refine j_if_eq hx 151 dX12_chance_135 rfl ⟨by decide, by decide⟩ (fun h135 => absurd h135 (by omega)) (fun h135 => ?_)
              refine j_aload_n hx 2 dX12_chance_138 rfl ?_
              refine g13_27 hx hG ha kf_RX12_56 dX12_chance_139 ?_
              refine j_sipush hx dX12_chance_142 rfl ?_
              refine j_iload_n hx 3 dX12_chance_145 rfl ?_
              refine j_iadd hx (r := x1 + 480) dX12_chance_146 (by omega) ?_
              refine j_iald hx hG (zr (k := 27) (t2 := 84) hG ha rfl) (by decide) rfl (zlen hG (zr (k := 27) (t2 := 84) hG ha rfl) (n := 515) rfl rfl) (by omega) (by omega) (j := (x1 + 480).toNat) rfl (v := (s0 (gP G a 27) (x1 + 480).toNat)) (by rw [(zFr_g hF_s3 (zr (k := 27) (t2 := 84) hG ha rfl) (by decide)), (zFr_g hF_s2 (zr (k := 27) (t2 := 84) hG ha rfl) (by decide)), e_s1, zU_at (Or.inl (zne ha (zr (k := 27) (t2 := 84) hG ha rfl) (by decide)))]) dX12_chance_147 ?_
              refine j_goto hx 161 dX12_chance_148 rfl ?_
              refine j_istore hx [(6, .int (zI ((s0 (gP G a 27) (x1 + 480).toNat)))), (5, .int (zI (60 * x1))), (4, .int (zI 1)), (0, .ref a), (1, .int (zI x1)), (2, .int (zI x2)), (3, .int (zI x3))] dX12_chance_161 (by decide) rfl ?_
              refine j_iconst hx dX12_chance_163 ?_
              refine j_istore hx [(7, .int (zI 0)), (6, .int (zI ((s0 (gP G a 27) (x1 + 480).toNat)))), (5, .int (zI (60 * x1))), (4, .int (zI 1)), (0, .ref a), (1, .int (zI x1)), (2, .int (zI x2)), (3, .int (zI x3))] dX12_chance_164 (by decide) rfl ?_
              refine j_iconst hx dX12_chance_166 ?_
              refine j_istore hx [(8, .int (zI 0)), (7, .int (zI 0)), (6, .int (zI ((s0 (gP G a 27) (x1 + 480).toNat)))), (5, .int (zI (60 * x1))), (4, .int (zI 1)), (0, .ref a), (1, .int (zI x1)), (2, .int (zI x2)), (3, .int (zI x3))] dX12_chance_167 (by decide) rfl ?_
              have c169_9 : ∀ (m_c169_9 : Nat) (v136 : Int) (v137 : Int), 2147483648 - v137 < m_c169_9 → (0 ≤ v136 ∧ v136 ≤ 60) → (0 ≤ v137 ∧ v137 ≤ 60) → (v136 ≤ v137) → JJ X E 9 G s3 0 0 [(0, .ref a), (1, .int (zI x1)), (3, .int (zI x3)), (5, .int (zI (60 * x1))), (6, .int (zI ((s0 (gP G a 27) (x1 + 480).toNat)))), (7, .int (zI v136)), (8, .int (zI v137))] 169 [] := by
                intro m_c169_9
                induction m_c169_9 with
                | zero => intro v136 v137 hm_c169_9 fA10 fA11 fA12; exfalso; omega
                | succ m_c169_9 ih_c169_9 => 
                  intro v136 v137 hm_c169_9 fA10 fA11 fA12
                  refine j_iload hx 6 dX12_chance_169 rfl ?_
                  refine j_iload hx 4 dX12_chance_171 rfl ?_
                  refine j_icmp_ge hx 215 dX12_chance_173 rfl (by omega) (by omega) (fun h138 => ?_) (fun h138 => ?_)
                  · skip
                    refine j_iload hx 5 dX12_chance_215 rfl ?_
                    refine j_iload hx 4 dX12_chance_217 rfl ?_
                    refine j_iload_n hx 2 dX12_chance_219 rfl ?_
                    refine j_callS hx (c_X12_fraction hst v136 ((s0 (gP G a 27) (x1 + 480).toNat)) x3) lk_RX12_462 [.int (zI v136), .int (zI ((s0 (gP G a 27) (x1 + 480).toNat))), .int (zI x3)] ⟨rfl, hG, hS_s3, (by omega), (by omega), (by omega)⟩ rfl rfl ⟨by decide, by decide⟩ ⟨by decide, by decide⟩ (k2 := 0) (n2 := 0) rfl rfl (Nat.le_of_ble_eq_true rfl) dX12_chance_220 (kIP (fun v139 q140 => ?_))
                    have f141 := zf hS_s3 ha (k := 3) rfl
                    have f142 := zf hS_s3 ha (k := 4) rfl
                    have f143 := zf hS_s3 ha (k := 5) rfl
                    have f144 := zf hS_s3 ha (k := 7) rfl
                    have f145 := zf hS_s3 ha (k := 21) rfl
                    have f146 := zf hS_s3 ha (k := 22) rfl
                    have f147 := zf hS_s3 ha (k := 23) rfl
                    have f148 := zf hS_s3 ha (k := 24) rfl
                    have f149 := zf hS_s3 ha (k := 38) rfl
                    have f150 := zf hS_s3 ha (k := 51) rfl
                    have f151 := zf hS_s3 ha (k := 52) rfl
                    exact j_iret hx hq rfl (by decide) (by decide) dX12_chance_223 ⟨v139, rfl, rfl, hS_s3, (zFr_t (zFr_t (zFr_u zFr_rf e_s1 ha (by decide)) hF_s2 (by decide)) hF_s3 (by decide)), ⟨(by omega), by omega, by omega, by omega, by omega, by omega, by omega, by omega, by omega, by omega, by omega, by omega⟩⟩
                  · skip
                    refine j_iload hx 5 dX12_chance_176 rfl ?_
                    refine j_aload_n hx 0 dX12_chance_178 rfl ?_
                    refine j_iload_n hx 1 dX12_chance_179 rfl ?_
                    refine j_aload_n hx 0 dX12_chance_180 rfl ?_
                    refine g13_19 hx hG ha kf_RX12_50 dX12_chance_181 ?_
                    refine j_aload_n hx 0 dX12_chance_184 rfl ?_
                    refine g13_27 hx hG ha kf_RX12_56 dX12_chance_185 ?_
                    refine j_iload hx 3 dX12_chance_188 rfl ?_
                    refine j_iload hx 6 dX12_chance_190 rfl ?_
                    refine j_iadd hx (r := 60 * x1 + v137) dX12_chance_192 (by omega) ?_
                    have f152 := zaQ (j := (60 * x1 + v137).toNat) hS0 (zr (k := 27) (t2 := 84) hG ha rfl) (congrArg some (axS_0 (60 * x1 + v137).toNat (by omega))) (zlen hG (zr (k := 27) (t2 := 84) hG ha rfl) (n := 515) rfl rfl) (show 0 ≤ 60 * x1 + v137 by omega) (by omega) rfl
                    refine j_iald hx hG (zr (k := 27) (t2 := 84) hG ha rfl) (by decide) rfl (zlen hG (zr (k := 27) (t2 := 84) hG ha rfl) (n := 515) rfl rfl) (by omega) (by omega) (j := (60 * x1 + v137).toNat) rfl (v := (s0 (gP G a 27) (60 * x1 + v137).toNat)) (by rw [(zFr_g hF_s3 (zr (k := 27) (t2 := 84) hG ha rfl) (by decide)), (zFr_g hF_s2 (zr (k := 27) (t2 := 84) hG ha rfl) (by decide)), e_s1, zU_at (Or.inl (zne ha (zr (k := 27) (t2 := 84) hG ha rfl) (by decide)))]) dX12_chance_193 ?_
                    have f153 := zaI (j := ((s0 (gP G a 27) (60 * x1 + v137).toNat)).toNat) hS0 (zr (k := 19) (t2 := 82) hG ha rfl) rfl (zlen hG (zr (k := 19) (t2 := 82) hG ha rfl) (n := 60) rfl rfl) (show 0 ≤ (s0 (gP G a 27) (60 * x1 + v137).toNat) by omega) (by omega) rfl
                    refine j_iald hx hG (zr (k := 19) (t2 := 82) hG ha rfl) (by decide) rfl (zlen hG (zr (k := 19) (t2 := 82) hG ha rfl) (n := 60) rfl rfl) (by omega) (by omega) (j := ((s0 (gP G a 27) (60 * x1 + v137).toNat)).toNat) rfl (v := (s0 (gP G a 19) ((s0 (gP G a 27) (60 * x1 + v137).toNat)).toNat)) (by rw [(zFr_g hF_s3 (zr (k := 19) (t2 := 82) hG ha rfl) (by decide)), (zFr_g hF_s2 (zr (k := 19) (t2 := 82) hG ha rfl) (by decide)), e_s1, zU_at (Or.inl (zne ha (zr (k := 19) (t2 := 82) hG ha rfl) (by decide)))]) dX12_chance_194 ?_
                    refine j_callV hx hG (c_X12_isOther hst a x1 ((s0 (gP G a 19) ((s0 (gP G a 27) (60 * x1 + v137).toNat)).toNat))) lk_RX12_459 ha (by decide) rfl rfl rfl rfl [.int (zI x1), .int (zI ((s0 (gP G a 19) ((s0 (gP G a 27) (60 * x1 + v137).toNat)).toNat)))] ⟨rfl, hG, hS_s3, ha, (by omega), (by omega)⟩ rfl rfl ⟨by decide, by decide⟩ ⟨by decide, by decide⟩ (k2 := 0) (n2 := 0) rfl rfl (Nat.le_of_ble_eq_true rfl) dX12_chance_195 (kIP (fun v154 q155 => ?_))
                    refine j_if_eq hx 205 dX12_chance_198 rfl (by omega) (fun h156 => ?_) (fun h156 => ?_)
                    · skip
                      refine j_iconst hx dX12_chance_205 ?_
                      refine j_iadd hx (r := v136) dX12_chance_206 (by omega) ?_
                      refine j_istore hx [(7, .int (zI v136)), (0, .ref a), (1, .int (zI x1)), (3, .int (zI x3)), (5, .int (zI (60 * x1))), (6, .int (zI ((s0 (gP G a 27) (x1 + 480).toNat)))), (8, .int (zI v137))] dX12_chance_207 (by decide) rfl ?_
                      refine j_iinc hx 6 [(8, .int (zI (v137 + 1))), (7, .int (zI v136)), (0, .ref a), (1, .int (zI x1)), (3, .int (zI x3)), (5, .int (zI (60 * x1))), (6, .int (zI ((s0 (gP G a 27) (x1 + 480).toNat))))] dX12_chance_209 rfl (by omega) (by decide) rfl ?_
                      refine j_goto hx 169 dX12_chance_212 rfl ?_
                      exact j_sub [2, 3, 4, 5, 6, 1, 0] [(0, .ref a), (1, .int (zI x1)), (3, .int (zI x3)), (5, .int (zI (60 * x1))), (6, .int (zI ((s0 (gP G a 27) (x1 + 480).toNat)))), (7, .int (zI v136)), (8, .int (zI (v137 + 1)))] rfl (ih_c169_9 v136 (v137 + 1) (by omega) (by omega) (by omega) (by omega))
                    · skip
                      refine j_iconst hx dX12_chance_201 ?_
                      refine j_goto hx 206 dX12_chance_202 rfl ?_
                      refine j_iadd hx (r := v136 + 1) dX12_chance_206 rfl ?_
                      refine j_istore hx [(7, .int (zI (v136 + 1))), (0, .ref a), (1, .int (zI x1)), (3, .int (zI x3)), (5, .int (zI (60 * x1))), (6, .int (zI ((s0 (gP G a 27) (x1 + 480).toNat)))), (8, .int (zI v137))] dX12_chance_207 (by decide) rfl ?_
                      refine j_iinc hx 6 [(8, .int (zI (v137 + 1))), (7, .int (zI (v136 + 1))), (0, .ref a), (1, .int (zI x1)), (3, .int (zI x3)), (5, .int (zI (60 * x1))), (6, .int (zI ((s0 (gP G a 27) (x1 + 480).toNat))))] dX12_chance_209 rfl (by omega) (by decide) rfl ?_
                      refine j_goto hx 169 dX12_chance_212 rfl ?_
                      exact j_sub [2, 3, 4, 5, 6, 1, 0] [(0, .ref a), (1, .int (zI x1)), (3, .int (zI x3)), (5, .int (zI (60 * x1))), (6, .int (zI ((s0 (gP G a 27) (x1 + 480).toNat)))), (7, .int (zI (v136 + 1))), (8, .int (zI (v137 + 1)))] rfl (ih_c169_9 (v136 + 1) (v137 + 1) (by omega) (by omega) (by omega) (by omega))
              exact j_sub [5, 6, 8, 3, 2, 1, 0] [(0, .ref a), (1, .int (zI x1)), (3, .int (zI x3)), (5, .int (zI (60 * x1))), (6, .int (zI ((s0 (gP G a 27) (x1 + 480).toNat)))), (7, .int (zI 0)), (8, .int (zI 0))] rfl (c169_9 (2147483648 * 4) 0 0 (by omega) (by omega) (by omega) (by omega))
          · skip
            refine j_iload_n hx 3 dX12_chance_59 rfl ?_
            refine j_iconst hx dX12_chance_60 ?_
            refine j_icmp_eq hx 88 dX12_chance_61 rfl (by omega) ⟨by decide, by decide⟩ (fun h157 => ?_) (fun h157 => ?_)
            · skip
              refine j_iconst hx dX12_chance_88 ?_
              refine j_goto hx 93 dX12_chance_89 rfl ?_
              have f158 := zf hS_s3 ha (k := 3) rfl
              have f159 := zf hS_s3 ha (k := 4) rfl
              have f160 := zf hS_s3 ha (k := 5) rfl
              have f161 := zf hS_s3 ha (k := 7) rfl
              have f162 := zf hS_s3 ha (k := 21) rfl
              have f163 := zf hS_s3 ha (k := 22) rfl
              have f164 := zf hS_s3 ha (k := 23) rfl
              have f165 := zf hS_s3 ha (k := 24) rfl
              have f166 := zf hS_s3 ha (k := 38) rfl
              have f167 := zf hS_s3 ha (k := 51) rfl
              have f168 := zf hS_s3 ha (k := 52) rfl
              exact j_iret hx hq rfl (by decide) (by decide) dX12_chance_93 ⟨1, rfl, rfl, hS_s3, (zFr_t (zFr_t (zFr_u zFr_rf e_s1 ha (by decide)) hF_s2 (by decide)) hF_s3 (by decide)), ⟨(by omega), by omega, by omega, by omega, by omega, by omega, by omega, by omega, by omega, by omega, by omega, by omega⟩⟩
            · skip
              refine j_aload_n hx 0 dX12_chance_64 rfl ?_
              refine j_iload_n hx 1 dX12_chance_65 rfl ?_
              refine j_aload_n hx 0 dX12_chance_66 rfl ?_
              refine g13_19 hx hG ha kf_RX12_50 dX12_chance_67 ?_
              refine j_aload_n hx 0 dX12_chance_70 rfl ?_
              refine g13_27 hx hG ha kf_RX12_56 dX12_chance_71 ?_
              refine j_iconst hx dX12_chance_74 ?_
              refine j_bipush hx dX12_chance_75 rfl ?_
              refine j_iload_n hx 1 dX12_chance_77 rfl ?_
              refine j_imul hx (r := 60 * x1) dX12_chance_78 rfl ?_
              refine j_iadd hx (r := 60 * x1) dX12_chance_79 (by omega) ?_
              have f169 := zaQ (j := (60 * x1).toNat) hS0 (zr (k := 27) (t2 := 84) hG ha rfl) (congrArg some (axS_0 (60 * x1).toNat (by omega))) (zlen hG (zr (k := 27) (t2 := 84) hG ha rfl) (n := 515) rfl rfl) (show 0 ≤ 60 * x1 by omega) (by omega) rfl
              refine j_iald hx hG (zr (k := 27) (t2 := 84) hG ha rfl) (by decide) rfl (zlen hG (zr (k := 27) (t2 := 84) hG ha rfl) (n := 515) rfl rfl) (by omega) (by omega) (j := (60 * x1).toNat) rfl (v := (s0 (gP G a 27) (60 * x1).toNat)) (by rw [(zFr_g hF_s3 (zr (k := 27) (t2 := 84) hG ha rfl) (by decide)), (zFr_g hF_s2 (zr (k := 27) (t2 := 84) hG ha rfl) (by decide)), e_s1, zU_at (Or.inl (zne ha (zr (k := 27) (t2 := 84) hG ha rfl) (by decide)))]) dX12_chance_80 ?_
              have f170 := zaI (j := ((s0 (gP G a 27) (60 * x1).toNat)).toNat) hS0 (zr (k := 19) (t2 := 82) hG ha rfl) rfl (zlen hG (zr (k := 19) (t2 := 82) hG ha rfl) (n := 60) rfl rfl) (show 0 ≤ (s0 (gP G a 27) (60 * x1).toNat) by omega) (by omega) rfl
              refine j_iald hx hG (zr (k := 19) (t2 := 82) hG ha rfl) (by decide) rfl (zlen hG (zr (k := 19) (t2 := 82) hG ha rfl) (n := 60) rfl rfl) (by omega) (by omega) (j := ((s0 (gP G a 27) (60 * x1).toNat)).toNat) rfl (v := (s0 (gP G a 19) ((s0 (gP G a 27) (60 * x1).toNat)).toNat)) (by rw [(zFr_g hF_s3 (zr (k := 19) (t2 := 82) hG ha rfl) (by decide)), (zFr_g hF_s2 (zr (k := 19) (t2 := 82) hG ha rfl) (by decide)), e_s1, zU_at (Or.inl (zne ha (zr (k := 19) (t2 := 82) hG ha rfl) (by decide)))]) dX12_chance_81 ?_
              refine j_callV hx hG (c_X12_isOther hst a x1 ((s0 (gP G a 19) ((s0 (gP G a 27) (60 * x1).toNat)).toNat))) lk_RX12_459 ha (by decide) rfl rfl rfl rfl [.int (zI x1), .int (zI ((s0 (gP G a 19) ((s0 (gP G a 27) (60 * x1).toNat)).toNat)))] ⟨rfl, hG, hS_s3, ha, (by omega), (by omega)⟩ rfl rfl ⟨by decide, by decide⟩ ⟨by decide, by decide⟩ (k2 := 0) (n2 := 0) rfl rfl (Nat.le_of_ble_eq_true rfl) dX12_chance_82 (kIP (fun v171 q172 => ?_))
              refine j_if_eq hx 92 dX12_chance_85 rfl (by omega) (fun h173 => ?_) (fun h173 => ?_)
              · skip
                refine j_iconst hx dX12_chance_92 ?_
                have f174 := zf hS_s3 ha (k := 3) rfl
                have f175 := zf hS_s3 ha (k := 4) rfl
                have f176 := zf hS_s3 ha (k := 5) rfl
                have f177 := zf hS_s3 ha (k := 7) rfl
                have f178 := zf hS_s3 ha (k := 21) rfl
                have f179 := zf hS_s3 ha (k := 22) rfl
                have f180 := zf hS_s3 ha (k := 23) rfl
                have f181 := zf hS_s3 ha (k := 24) rfl
                have f182 := zf hS_s3 ha (k := 38) rfl
                have f183 := zf hS_s3 ha (k := 51) rfl
                have f184 := zf hS_s3 ha (k := 52) rfl
                exact j_iret hx hq rfl (by decide) (by decide) dX12_chance_93 ⟨0, rfl, rfl, hS_s3, (zFr_t (zFr_t (zFr_u zFr_rf e_s1 ha (by decide)) hF_s2 (by decide)) hF_s3 (by decide)), ⟨(by omega), by omega, by omega, by omega, by omega, by omega, by omega, by omega, by omega, by omega, by omega, by omega⟩⟩
              · skip
                refine j_iconst hx dX12_chance_88 ?_
                refine j_goto hx 93 dX12_chance_89 rfl ?_
                have f185 := zf hS_s3 ha (k := 3) rfl
                have f186 := zf hS_s3 ha (k := 4) rfl
                have f187 := zf hS_s3 ha (k := 5) rfl
                have f188 := zf hS_s3 ha (k := 7) rfl
                have f189 := zf hS_s3 ha (k := 21) rfl
                have f190 := zf hS_s3 ha (k := 22) rfl
                have f191 := zf hS_s3 ha (k := 23) rfl
                have f192 := zf hS_s3 ha (k := 24) rfl
                have f193 := zf hS_s3 ha (k := 38) rfl
                have f194 := zf hS_s3 ha (k := 51) rfl
                have f195 := zf hS_s3 ha (k := 52) rfl
                exact j_iret hx hq rfl (by decide) (by decide) dX12_chance_93 ⟨1, rfl, rfl, hS_s3, (zFr_t (zFr_t (zFr_u zFr_rf e_s1 ha (by decide)) hF_s2 (by decide)) hF_s3 (by decide)), ⟨(by omega), by omega, by omega, by omega, by omega, by omega, by omega, by omega, by omega, by omega, by omega, by omega⟩⟩
        · skip
          refine j_iload_n hx 3 dX12_chance_48 rfl ?_
          have f196 := zf hS_s3 ha (k := 3) rfl
          have f197 := zf hS_s3 ha (k := 4) rfl
          have f198 := zf hS_s3 ha (k := 5) rfl
          have f199 := zf hS_s3 ha (k := 7) rfl
          have f200 := zf hS_s3 ha (k := 21) rfl
          have f201 := zf hS_s3 ha (k := 22) rfl
          have f202 := zf hS_s3 ha (k := 23) rfl
          have f203 := zf hS_s3 ha (k := 24) rfl
          have f204 := zf hS_s3 ha (k := 38) rfl
          have f205 := zf hS_s3 ha (k := 51) rfl
          have f206 := zf hS_s3 ha (k := 52) rfl
          exact j_iret hx hq rfl (by decide) (by decide) dX12_chance_49 ⟨x3, rfl, rfl, hS_s3, (zFr_t (zFr_t (zFr_u zFr_rf e_s1 ha (by decide)) hF_s2 (by decide)) hF_s3 (by decide)), ⟨(by omega), by omega, by omega, by omega, by omega, by omega, by omega, by omega, by omega, by omega, by omega, by omega⟩⟩

set_option maxHeartbeats 1200000 in
set_option maxRecDepth 20000 in
theorem c_X12_isWorth {E : zE} {l : Launch} (hst : l.stackTraces = false) (a : Nat) (x1 : Int) (x2 : Int) (x3 : Int) (x4 : Int) : Con E l yX12_isWorth cX12_isWorth 5 (some .boolean) { frames := 1, cells := 0, slots := 0, locals := 23 } (fun G s vs => vs = [.ref a, .int (zI x1), .int (zI x2), .int (zI x3), .int (zI x4)] ∧ zGK G ∧ zSK G s ∧ (gT G a = 13) ∧ ((-2147483648) ≤ x1 ∧ x1 ≤ 2147483647) ∧ ((-2147483648) ≤ x2 ∧ x2 ≤ 2147483647) ∧ ((-2147483648) ≤ x3 ∧ x3 ≤ 2147483647) ∧ ((-2147483648) ≤ x4 ∧ x4 ≤ 2147483647) ∧ (s a 0 = 0)) (fun G s _ => pI (fun r G2 s2 => G2 = G ∧ zSK G s2 ∧ zFr [13, 71] G s s2 ∧ (0 ≤ r ∧ r ≤ 1) ∧ ((r = 1 → (1 ≤ x2 ∧ x2 ≤ 99 ∧ 0 ≤ x1 ∧ x1 ≤ x2 ∧ 0 ≤ x3 ∧ x3 ≤ 99 ∧ 0 ≤ x4 ∧ x4 ≤ 99) ∧ s2 a 0 = 0) ∧ (r = 0 → ¬ (1 ≤ x2 ∧ x2 ≤ 99 ∧ 0 ≤ x1 ∧ x1 ≤ x2 ∧ 0 ≤ x3 ∧ x3 ≤ 99 ∧ 0 ≤ x4 ∧ x4 ≤ 99) ∧ s2 a 0 = 1)) ∧ s2 a 3 = s a 3 ∧ s2 a 4 = s a 4 ∧ s2 a 5 = s a 5 ∧ s2 a 7 = s a 7 ∧ s2 a 21 = s a 21 ∧ s2 a 22 = s a 22 ∧ s2 a 23 = s a 23 ∧ s2 a 24 = s a 24 ∧ s2 a 38 = s a 38 ∧ s2 a 51 = s a 51 ∧ s2 a 52 = s a 52)) := by
  refine Con.mk hst (by decide) (fun G s vs h => by rw [h.1]; exact Nat.le_of_ble_eq_true rfl) ?_
  rintro X G s0 vs ⟨rfl, hG, hS0, ha, hx1, hx2, hx3, hx4, e0⟩ rfl hx hq
  show JJ X E 5 G s0 0 0 [(0, .ref a), (1, .int (zI x1)), (2, .int (zI x2)), (3, .int (zI x3)), (4, .int (zI x4))] 0 []
  refine j_aload_n hx 0 dX12_isWorth_0 rfl ?_
  refine j_iload_n hx 2 dX12_isWorth_1 rfl ?_
  refine j_iconst hx dX12_isWorth_2 ?_
  refine j_bipush hx dX12_isWorth_3 rfl ?_
  refine j_callS hx (c_X12_within hst x2 1 99) lk_RX12_314 [.int (zI x2), .int (zI 1), .int (zI 99)] ⟨rfl, hG, hS0, (by omega), (by omega), (by omega)⟩ rfl rfl ⟨by decide, by decide⟩ ⟨by decide, by decide⟩ (k2 := 0) (n2 := 0) rfl rfl (Nat.le_of_ble_eq_true rfl) dX12_isWorth_5 (kIP (fun v1 q2 => ?_))
  refine j_if_eq hx 45 dX12_isWorth_8 rfl (by omega) (fun h3 => ?_) (fun h3 => ?_)
  · skip
    refine j_iconst hx dX12_isWorth_45 ?_
    refine j_iconst hx dX12_isWorth_46 ?_
    refine j_iconst hx dX12_isWorth_47 ?_
    have f4 := zf hS0 ha (k := 3) rfl
    have f5 := zf hS0 ha (k := 4) rfl
    have f6 := zf hS0 ha (k := 5) rfl
    have f7 := zf hS0 ha (k := 7) rfl
    have f8 := zf hS0 ha (k := 21) rfl
    have f9 := zf hS0 ha (k := 22) rfl
    have f10 := zf hS0 ha (k := 23) rfl
    have f11 := zf hS0 ha (k := 24) rfl
    have f12 := zf hS0 ha (k := 38) rfl
    have f13 := zf hS0 ha (k := 51) rfl
    have f14 := zf hS0 ha (k := 52) rfl
    refine j_callV hx hG (c_X12_may_f hst a 0 1 1) lk_RX12_240 ha (by decide) rfl rfl rfl rfl [.int (zI 0), .int (zI 1), .int (zI 1)] ⟨rfl, hG, hS0, ha, (by omega), (by omega), (by omega), (by omega)⟩ rfl rfl ⟨by decide, by decide⟩ ⟨by decide, by decide⟩ (k2 := 0) (n2 := 0) rfl rfl (Nat.le_of_ble_eq_true rfl) dX12_isWorth_48 (kIM (fun v15 s1 hS_s1 hF_s1 q16 => ?_))
    have f17 := zf hS_s1 ha (k := 3) rfl
    have f18 := zf hS_s1 ha (k := 4) rfl
    have f19 := zf hS_s1 ha (k := 5) rfl
    have f20 := zf hS_s1 ha (k := 7) rfl
    have f21 := zf hS_s1 ha (k := 21) rfl
    have f22 := zf hS_s1 ha (k := 22) rfl
    have f23 := zf hS_s1 ha (k := 23) rfl
    have f24 := zf hS_s1 ha (k := 24) rfl
    have f25 := zf hS_s1 ha (k := 38) rfl
    have f26 := zf hS_s1 ha (k := 51) rfl
    have f27 := zf hS_s1 ha (k := 52) rfl
    exact j_zret hx hq rfl (by decide) (by decide) dX12_isWorth_51 (by omega) ⟨v15, rfl, rfl, hS_s1, (zFr_t zFr_rf hF_s1 (by decide)), ⟨(by omega), by omega, by omega, by omega, by omega, by omega, by omega, by omega, by omega, by omega, by omega, by omega, by omega⟩⟩
  · skip
    refine j_iload_n hx 1 dX12_isWorth_11 rfl ?_
    refine j_iconst hx dX12_isWorth_12 ?_
    refine j_iload_n hx 2 dX12_isWorth_13 rfl ?_
    refine j_callS hx (c_X12_within hst x1 0 x2) lk_RX12_314 [.int (zI x1), .int (zI 0), .int (zI x2)] ⟨rfl, hG, hS0, (by omega), (by omega), (by omega)⟩ rfl rfl ⟨by decide, by decide⟩ ⟨by decide, by decide⟩ (k2 := 0) (n2 := 0) rfl rfl (Nat.le_of_ble_eq_true rfl) dX12_isWorth_14 (kIP (fun v28 q29 => ?_))
    refine j_if_eq hx 45 dX12_isWorth_17 rfl (by omega) (fun h30 => ?_) (fun h30 => ?_)
    · skip
      refine j_iconst hx dX12_isWorth_45 ?_
      refine j_iconst hx dX12_isWorth_46 ?_
      refine j_iconst hx dX12_isWorth_47 ?_
      have f31 := zf hS0 ha (k := 3) rfl
      have f32 := zf hS0 ha (k := 4) rfl
      have f33 := zf hS0 ha (k := 5) rfl
      have f34 := zf hS0 ha (k := 7) rfl
      have f35 := zf hS0 ha (k := 21) rfl
      have f36 := zf hS0 ha (k := 22) rfl
      have f37 := zf hS0 ha (k := 23) rfl
      have f38 := zf hS0 ha (k := 24) rfl
      have f39 := zf hS0 ha (k := 38) rfl
      have f40 := zf hS0 ha (k := 51) rfl
      have f41 := zf hS0 ha (k := 52) rfl
      refine j_callV hx hG (c_X12_may_f hst a 0 1 1) lk_RX12_240 ha (by decide) rfl rfl rfl rfl [.int (zI 0), .int (zI 1), .int (zI 1)] ⟨rfl, hG, hS0, ha, (by omega), (by omega), (by omega), (by omega)⟩ rfl rfl ⟨by decide, by decide⟩ ⟨by decide, by decide⟩ (k2 := 0) (n2 := 0) rfl rfl (Nat.le_of_ble_eq_true rfl) dX12_isWorth_48 (kIM (fun v42 s2 hS_s2 hF_s2 q43 => ?_))
      have f44 := zf hS_s2 ha (k := 3) rfl
      have f45 := zf hS_s2 ha (k := 4) rfl
      have f46 := zf hS_s2 ha (k := 5) rfl
      have f47 := zf hS_s2 ha (k := 7) rfl
      have f48 := zf hS_s2 ha (k := 21) rfl
      have f49 := zf hS_s2 ha (k := 22) rfl
      have f50 := zf hS_s2 ha (k := 23) rfl
      have f51 := zf hS_s2 ha (k := 24) rfl
      have f52 := zf hS_s2 ha (k := 38) rfl
      have f53 := zf hS_s2 ha (k := 51) rfl
      have f54 := zf hS_s2 ha (k := 52) rfl
      exact j_zret hx hq rfl (by decide) (by decide) dX12_isWorth_51 (by omega) ⟨v42, rfl, rfl, hS_s2, (zFr_t zFr_rf hF_s2 (by decide)), ⟨(by omega), by omega, by omega, by omega, by omega, by omega, by omega, by omega, by omega, by omega, by omega, by omega, by omega⟩⟩
    · skip
      refine j_iload_n hx 3 dX12_isWorth_20 rfl ?_
      refine j_iconst hx dX12_isWorth_21 ?_
      refine j_bipush hx dX12_isWorth_22 rfl ?_
      refine j_callS hx (c_X12_within hst x3 0 99) lk_RX12_314 [.int (zI x3), .int (zI 0), .int (zI 99)] ⟨rfl, hG, hS0, (by omega), (by omega), (by omega)⟩ rfl rfl ⟨by decide, by decide⟩ ⟨by decide, by decide⟩ (k2 := 0) (n2 := 0) rfl rfl (Nat.le_of_ble_eq_true rfl) dX12_isWorth_24 (kIP (fun v55 q56 => ?_))
      refine j_if_eq hx 45 dX12_isWorth_27 rfl (by omega) (fun h57 => ?_) (fun h57 => ?_)
      · skip
        refine j_iconst hx dX12_isWorth_45 ?_
        refine j_iconst hx dX12_isWorth_46 ?_
        refine j_iconst hx dX12_isWorth_47 ?_
        have f58 := zf hS0 ha (k := 3) rfl
        have f59 := zf hS0 ha (k := 4) rfl
        have f60 := zf hS0 ha (k := 5) rfl
        have f61 := zf hS0 ha (k := 7) rfl
        have f62 := zf hS0 ha (k := 21) rfl
        have f63 := zf hS0 ha (k := 22) rfl
        have f64 := zf hS0 ha (k := 23) rfl
        have f65 := zf hS0 ha (k := 24) rfl
        have f66 := zf hS0 ha (k := 38) rfl
        have f67 := zf hS0 ha (k := 51) rfl
        have f68 := zf hS0 ha (k := 52) rfl
        refine j_callV hx hG (c_X12_may_f hst a 0 1 1) lk_RX12_240 ha (by decide) rfl rfl rfl rfl [.int (zI 0), .int (zI 1), .int (zI 1)] ⟨rfl, hG, hS0, ha, (by omega), (by omega), (by omega), (by omega)⟩ rfl rfl ⟨by decide, by decide⟩ ⟨by decide, by decide⟩ (k2 := 0) (n2 := 0) rfl rfl (Nat.le_of_ble_eq_true rfl) dX12_isWorth_48 (kIM (fun v69 s3 hS_s3 hF_s3 q70 => ?_))
        have f71 := zf hS_s3 ha (k := 3) rfl
        have f72 := zf hS_s3 ha (k := 4) rfl
        have f73 := zf hS_s3 ha (k := 5) rfl
        have f74 := zf hS_s3 ha (k := 7) rfl
        have f75 := zf hS_s3 ha (k := 21) rfl
        have f76 := zf hS_s3 ha (k := 22) rfl
        have f77 := zf hS_s3 ha (k := 23) rfl
        have f78 := zf hS_s3 ha (k := 24) rfl
        have f79 := zf hS_s3 ha (k := 38) rfl
        have f80 := zf hS_s3 ha (k := 51) rfl
        have f81 := zf hS_s3 ha (k := 52) rfl
        exact j_zret hx hq rfl (by decide) (by decide) dX12_isWorth_51 (by omega) ⟨v69, rfl, rfl, hS_s3, (zFr_t zFr_rf hF_s3 (by decide)), ⟨(by omega), by omega, by omega, by omega, by omega, by omega, by omega, by omega, by omega, by omega, by omega, by omega, by omega⟩⟩
      · skip
        refine j_iload hx 4 dX12_isWorth_30 rfl ?_
        refine j_iconst hx dX12_isWorth_32 ?_
        refine j_bipush hx dX12_isWorth_33 rfl ?_
        refine j_callS hx (c_X12_within hst x4 0 99) lk_RX12_314 [.int (zI x4), .int (zI 0), .int (zI 99)] ⟨rfl, hG, hS0, (by omega), (by omega), (by omega)⟩ rfl rfl ⟨by decide, by decide⟩ ⟨by decide, by decide⟩ (k2 := 0) (n2 := 0) rfl rfl (Nat.le_of_ble_eq_true rfl) dX12_isWorth_35 (kIP (fun v82 q83 => ?_))
        refine j_if_eq hx 45 dX12_isWorth_38 rfl (by omega) (fun h84 => ?_) (fun h84 => ?_)
        · skip
          refine j_iconst hx dX12_isWorth_45 ?_
          refine j_iconst hx dX12_isWorth_46 ?_
          refine j_iconst hx dX12_isWorth_47 ?_
          have f85 := zf hS0 ha (k := 3) rfl
          have f86 := zf hS0 ha (k := 4) rfl
          have f87 := zf hS0 ha (k := 5) rfl
          have f88 := zf hS0 ha (k := 7) rfl
          have f89 := zf hS0 ha (k := 21) rfl
          have f90 := zf hS0 ha (k := 22) rfl
          have f91 := zf hS0 ha (k := 23) rfl
          have f92 := zf hS0 ha (k := 24) rfl
          have f93 := zf hS0 ha (k := 38) rfl
          have f94 := zf hS0 ha (k := 51) rfl
          have f95 := zf hS0 ha (k := 52) rfl
          refine j_callV hx hG (c_X12_may_f hst a 0 1 1) lk_RX12_240 ha (by decide) rfl rfl rfl rfl [.int (zI 0), .int (zI 1), .int (zI 1)] ⟨rfl, hG, hS0, ha, (by omega), (by omega), (by omega), (by omega)⟩ rfl rfl ⟨by decide, by decide⟩ ⟨by decide, by decide⟩ (k2 := 0) (n2 := 0) rfl rfl (Nat.le_of_ble_eq_true rfl) dX12_isWorth_48 (kIM (fun v96 s4 hS_s4 hF_s4 q97 => ?_))
          have f98 := zf hS_s4 ha (k := 3) rfl
          have f99 := zf hS_s4 ha (k := 4) rfl
          have f100 := zf hS_s4 ha (k := 5) rfl
          have f101 := zf hS_s4 ha (k := 7) rfl
          have f102 := zf hS_s4 ha (k := 21) rfl
          have f103 := zf hS_s4 ha (k := 22) rfl
          have f104 := zf hS_s4 ha (k := 23) rfl
          have f105 := zf hS_s4 ha (k := 24) rfl
          have f106 := zf hS_s4 ha (k := 38) rfl
          have f107 := zf hS_s4 ha (k := 51) rfl
          have f108 := zf hS_s4 ha (k := 52) rfl
          exact j_zret hx hq rfl (by decide) (by decide) dX12_isWorth_51 (by omega) ⟨v96, rfl, rfl, hS_s4, (zFr_t zFr_rf hF_s4 (by decide)), ⟨(by omega), by omega, by omega, by omega, by omega, by omega, by omega, by omega, by omega, by omega, by omega, by omega, by omega⟩⟩
        · skip
          refine j_iconst hx dX12_isWorth_41 ?_
          refine j_goto hx 46 dX12_isWorth_42 rfl ?_
          refine j_iconst hx dX12_isWorth_46 ?_
          refine j_iconst hx dX12_isWorth_47 ?_
          refine j_callV hx hG (c_X12_may_t hst a 1 1 1) lk_RX12_240 ha (by decide) rfl rfl rfl rfl [.int (zI 1), .int (zI 1), .int (zI 1)] ⟨rfl, hG, hS0, ha, (by omega), (by omega), (by omega), (by omega)⟩ rfl rfl ⟨by decide, by decide⟩ ⟨by decide, by decide⟩ (k2 := 0) (n2 := 0) rfl rfl (Nat.le_of_ble_eq_true rfl) dX12_isWorth_48 (kIP (fun v109 q110 => ?_))
          have f111 := zf hS0 ha (k := 3) rfl
          have f112 := zf hS0 ha (k := 4) rfl
          have f113 := zf hS0 ha (k := 5) rfl
          have f114 := zf hS0 ha (k := 7) rfl
          have f115 := zf hS0 ha (k := 21) rfl
          have f116 := zf hS0 ha (k := 22) rfl
          have f117 := zf hS0 ha (k := 23) rfl
          have f118 := zf hS0 ha (k := 24) rfl
          have f119 := zf hS0 ha (k := 38) rfl
          have f120 := zf hS0 ha (k := 51) rfl
          have f121 := zf hS0 ha (k := 52) rfl
          exact j_zret hx hq rfl (by decide) (by decide) dX12_isWorth_51 (by omega) ⟨v109, rfl, rfl, hS0, zFr_rf, ⟨(by omega), by omega, by omega, by omega, by omega, by omega, by omega, by omega, by omega, by omega, by omega, by omega, by omega⟩⟩

theorem lk_RX12_465 : LkV RX12 465 RX12 yX12_isWorth cX12_isWorth 5 (some .boolean) 4 := ⟨km_RX12_465, ki_yX12_isWorth, ks_RX12_yX12_isWorth, kn_RX12, kc_yX12_isWorth, rfl, by decide +kernel, by decide +kernel, by decide +kernel⟩
set_option maxHeartbeats 1200000 in
set_option maxRecDepth 20000 in
theorem c_X12_waits {E : zE} {l : Launch} (hst : l.stackTraces = false) (a : Nat) (x1 : Int) (x2 : Int) (x3 : Int) (x4 : Int) : Con E l yX12_waits cX12_waits 6 (some .int) { frames := 2, cells := 0, slots := 0, locals := 47 } (fun G s vs => vs = [.ref a, .int (zI x1), .int (zI x2), .int (zI x3), .int (zI x4)] ∧ zGK G ∧ zSK G s ∧ (gT G a = 13) ∧ ((-2147483648) ≤ x1 ∧ x1 ≤ 2147483647) ∧ ((-2147483648) ≤ x2 ∧ x2 ≤ 2147483647) ∧ ((-2147483648) ≤ x3 ∧ x3 ≤ 2147483647) ∧ ((-2147483648) ≤ x4 ∧ x4 ≤ 2147483647)) (fun G s _ => pI (fun r G2 s2 => G2 = G ∧ zSK G s2 ∧ zFr [13, 71] G s s2 ∧ ((-2147483648) ≤ r ∧ r ≤ 2147483647) ∧ s2 a 3 = s a 3 ∧ s2 a 4 = s a 4 ∧ s2 a 5 = s a 5 ∧ s2 a 7 = s a 7 ∧ s2 a 21 = s a 21 ∧ s2 a 22 = s a 22 ∧ s2 a 23 = s a 23 ∧ s2 a 24 = s a 24 ∧ s2 a 38 = s a 38 ∧ s2 a 51 = s a 51 ∧ s2 a 52 = s a 52)) := by
  refine Con.mk hst (by decide) (fun G s vs h => by rw [h.1]; exact Nat.le_of_ble_eq_true rfl) ?_
  rintro X G s0 vs ⟨rfl, hG, hS0, ha, hx1, hx2, hx3, hx4⟩ rfl hx hq
  show JJ X E 6 G s0 0 0 [(0, .ref a), (1, .int (zI x1)), (2, .int (zI x2)), (3, .int (zI x3)), (4, .int (zI x4))] 0 []
  refine j_aload_n hx 0 dX12_waits_0 rfl ?_
  refine j_iconst hx dX12_waits_1 ?_
  refine p13_0 hx hG ha kf_RX12_3 dX12_waits_2 ?_
  obtain ⟨s1, e_s1⟩ : ∃ z, z = zU s0 a 0 0 := ⟨_, rfl⟩
  rw [← e_s1]
  have hS_s1 : zSK G s1 := by rw [e_s1]; exact zSK_F hS0 ha rfl rfl rfl (by omega)
  refine j_aload_n hx 0 dX12_waits_5 rfl ?_
  refine j_iload_n hx 1 dX12_waits_6 rfl ?_
  refine j_iload_n hx 2 dX12_waits_7 rfl ?_
  refine j_iload_n hx 3 dX12_waits_8 rfl ?_
  refine j_iload hx 4 dX12_waits_9 rfl ?_
  have g1 : s1 a 0 = 0 := (by rw [e_s1, zU_eq])
  have g2 : s1 a 3 = s0 a 3 := (by rw [e_s1, zU_at (Or.inr (by decide))])
  have f3 := zf hS0 ha (k := 3) rfl
  have g4 : s1 a 4 = s0 a 4 := (by rw [e_s1, zU_at (Or.inr (by decide))])
  have f5 := zf hS0 ha (k := 4) rfl
  have g6 : s1 a 5 = s0 a 5 := (by rw [e_s1, zU_at (Or.inr (by decide))])
  have f7 := zf hS0 ha (k := 5) rfl
  have g8 : s1 a 7 = s0 a 7 := (by rw [e_s1, zU_at (Or.inr (by decide))])
  have f9 := zf hS0 ha (k := 7) rfl
  have g10 : s1 a 21 = s0 a 21 := (by rw [e_s1, zU_at (Or.inr (by decide))])
  have f11 := zf hS0 ha (k := 21) rfl
  have g12 : s1 a 22 = s0 a 22 := (by rw [e_s1, zU_at (Or.inr (by decide))])
  have f13 := zf hS0 ha (k := 22) rfl
  have g14 : s1 a 23 = s0 a 23 := (by rw [e_s1, zU_at (Or.inr (by decide))])
  have f15 := zf hS0 ha (k := 23) rfl
  have g16 : s1 a 24 = s0 a 24 := (by rw [e_s1, zU_at (Or.inr (by decide))])
  have f17 := zf hS0 ha (k := 24) rfl
  have g18 : s1 a 38 = s0 a 38 := (by rw [e_s1, zU_at (Or.inr (by decide))])
  have f19 := zf hS0 ha (k := 38) rfl
  have g20 : s1 a 51 = s0 a 51 := (by rw [e_s1, zU_at (Or.inr (by decide))])
  have f21 := zf hS0 ha (k := 51) rfl
  have g22 : s1 a 52 = s0 a 52 := (by rw [e_s1, zU_at (Or.inr (by decide))])
  have f23 := zf hS0 ha (k := 52) rfl
  refine j_callV hx hG (c_X12_isWorth hst a x1 x2 x3 x4) lk_RX12_465 ha (by decide) rfl rfl rfl rfl [.int (zI x1), .int (zI x2), .int (zI x3), .int (zI x4)] ⟨rfl, hG, hS_s1, ha, (by omega), (by omega), (by omega), (by omega), (((by rw [e_s1, zU_eq]) : s1 a 0 = 0).trans (by omega))⟩ rfl rfl ⟨by decide, by decide⟩ ⟨by decide, by decide⟩ (k2 := 0) (n2 := 0) rfl rfl (Nat.le_of_ble_eq_true rfl) dX12_waits_11 (kIM (fun v24 s2 hS_s2 hF_s2 q25 => ?_))
  refine j_if_ne hx 19 dX12_waits_14 rfl (by omega) (fun h26 => ?_) (fun h26 => ?_)
  · skip
    refine j_iconst hx dX12_waits_19 ?_
    refine j_istore hx [(5, .int (zI 0)), (0, .ref a), (1, .int (zI x1)), (2, .int (zI x2)), (3, .int (zI x3)), (4, .int (zI x4))] dX12_waits_20 (by decide) rfl ?_
    have c22_3 : ∀ (m_c22_3 : Nat) (v27 : Int), 2147483648 - v27 < m_c22_3 → (0 ≤ v27 ∧ v27 ≤ 17) → JJ X E 6 G s2 0 0 [(1, .int (zI x1)), (2, .int (zI x2)), (3, .int (zI x3)), (4, .int (zI x4)), (5, .int (zI v27))] 22 [] := by
      intro m_c22_3
      induction m_c22_3 with
      | zero => intro v27 hm_c22_3 fA4; exfalso; omega
      | succ m_c22_3 ih_c22_3 => 
        intro v27 hm_c22_3 fA4
        refine j_iload hx 4 dX12_waits_22 rfl ?_
        refine j_bipush hx dX12_waits_24 rfl ?_
        refine j_icmp_ge hx 57 dX12_waits_26 rfl (by omega) ⟨by decide, by decide⟩ (fun h28 => ?_) (fun h28 => ?_)
        · skip
          refine j_iload hx 4 dX12_waits_57 rfl ?_
          have f29 := zf hS_s2 ha (k := 3) rfl
          have f30 := zf hS_s2 ha (k := 4) rfl
          have f31 := zf hS_s2 ha (k := 5) rfl
          have f32 := zf hS_s2 ha (k := 7) rfl
          have f33 := zf hS_s2 ha (k := 21) rfl
          have f34 := zf hS_s2 ha (k := 22) rfl
          have f35 := zf hS_s2 ha (k := 23) rfl
          have f36 := zf hS_s2 ha (k := 24) rfl
          have f37 := zf hS_s2 ha (k := 38) rfl
          have f38 := zf hS_s2 ha (k := 51) rfl
          have f39 := zf hS_s2 ha (k := 52) rfl
          exact j_iret hx hq rfl (by decide) (by decide) dX12_waits_59 ⟨v27, rfl, rfl, hS_s2, (zFr_t (zFr_u zFr_rf e_s1 ha (by decide)) hF_s2 (by decide)), ⟨(by omega), by omega, by omega, by omega, by omega, by omega, by omega, by omega, by omega, by omega, by omega, by omega⟩⟩
        · skip
          refine j_iload hx 4 dX12_waits_29 rfl ?_
          refine j_iload_n hx 0 dX12_waits_31 rfl ?_
          refine j_imul hx (r := (v27 * x1)) dX12_waits_32 rfl ?_
          have f40 : 0 ≤ (v27 * x1) ∧ (v27 * x1) ≤ 16 * 99 := zmulnn (by omega) (by omega)
          refine j_iload_n hx 2 dX12_waits_33 rfl ?_
          refine j_imul hx (r := (((v27 * x1)) * x3)) dX12_waits_34 rfl ?_
          have f41 : 0 ≤ (((v27 * x1)) * x3) ∧ (((v27 * x1)) * x3) ≤ 1584 * 99 := zmulnn (by omega) (by omega)
          refine j_bipush hx dX12_waits_35 rfl ?_
          refine j_iload_n hx 0 dX12_waits_37 rfl ?_
          refine j_iload_n hx 2 dX12_waits_38 rfl ?_
          refine j_imul hx (r := (x1 * x3)) dX12_waits_39 rfl ?_
          have f42 : 0 ≤ (x1 * x3) ∧ (x1 * x3) ≤ 99 * 99 := zmulnn (by omega) (by omega)
          refine j_iload_n hx 1 dX12_waits_40 rfl ?_
          refine j_iload_n hx 0 dX12_waits_41 rfl ?_
          refine j_isub hx (r := x2 - x1) dX12_waits_42 rfl ?_
          refine j_iload hx 3 dX12_waits_43 rfl ?_
          refine j_imul hx (r := ((x2 - x1) * x4)) dX12_waits_45 rfl ?_
          have f43 : 0 ≤ ((x2 - x1) * x4) ∧ ((x2 - x1) * x4) ≤ 99 * 99 := zmulnn (by omega) (by omega)
          refine j_isub hx (r := (x1 * x3) - ((x2 - x1) * x4)) dX12_waits_46 (by omega) ?_
          refine j_imul hx (r := 16 * (x1 * x3) - 16 * ((x2 - x1) * x4)) dX12_waits_47 (by omega) ?_
          refine j_icmp_ge hx 57 dX12_waits_48 rfl (by omega) (by omega) (fun h44 => ?_) (fun h44 => ?_)
          · skip
            refine j_iload hx 4 dX12_waits_57 rfl ?_
            have f45 := zf hS_s2 ha (k := 3) rfl
            have f46 := zf hS_s2 ha (k := 4) rfl
            have f47 := zf hS_s2 ha (k := 5) rfl
            have f48 := zf hS_s2 ha (k := 7) rfl
            have f49 := zf hS_s2 ha (k := 21) rfl
            have f50 := zf hS_s2 ha (k := 22) rfl
            have f51 := zf hS_s2 ha (k := 23) rfl
            have f52 := zf hS_s2 ha (k := 24) rfl
            have f53 := zf hS_s2 ha (k := 38) rfl
            have f54 := zf hS_s2 ha (k := 51) rfl
            have f55 := zf hS_s2 ha (k := 52) rfl
            exact j_iret hx hq rfl (by decide) (by decide) dX12_waits_59 ⟨v27, rfl, rfl, hS_s2, (zFr_t (zFr_u zFr_rf e_s1 ha (by decide)) hF_s2 (by decide)), ⟨(by omega), by omega, by omega, by omega, by omega, by omega, by omega, by omega, by omega, by omega, by omega, by omega⟩⟩
          · skip
            refine j_iinc hx 4 [(5, .int (zI (v27 + 1))), (1, .int (zI x1)), (2, .int (zI x2)), (3, .int (zI x3)), (4, .int (zI x4))] dX12_waits_51 rfl (by omega) (by decide) rfl ?_
            refine j_goto hx 22 dX12_waits_54 rfl ?_
            exact j_sub [1, 2, 3, 4, 0] [(1, .int (zI x1)), (2, .int (zI x2)), (3, .int (zI x3)), (4, .int (zI x4)), (5, .int (zI (v27 + 1)))] rfl (ih_c22_3 (v27 + 1) (by omega) (by omega))
    exact j_sub [2, 3, 4, 5, 0] [(1, .int (zI x1)), (2, .int (zI x2)), (3, .int (zI x3)), (4, .int (zI x4)), (5, .int (zI 0))] rfl (c22_3 (2147483648 * 4) 0 (by omega) (by omega))
  · skip
    refine j_iconst hx dX12_waits_17 ?_
    have f56 := zf hS_s2 ha (k := 3) rfl
    have f57 := zf hS_s2 ha (k := 4) rfl
    have f58 := zf hS_s2 ha (k := 5) rfl
    have f59 := zf hS_s2 ha (k := 7) rfl
    have f60 := zf hS_s2 ha (k := 21) rfl
    have f61 := zf hS_s2 ha (k := 22) rfl
    have f62 := zf hS_s2 ha (k := 23) rfl
    have f63 := zf hS_s2 ha (k := 24) rfl
    have f64 := zf hS_s2 ha (k := 38) rfl
    have f65 := zf hS_s2 ha (k := 51) rfl
    have f66 := zf hS_s2 ha (k := 52) rfl
    exact j_iret hx hq rfl (by decide) (by decide) dX12_waits_18 ⟨0, rfl, rfl, hS_s2, (zFr_t (zFr_u zFr_rf e_s1 ha (by decide)) hF_s2 (by decide)), ⟨(by omega), by omega, by omega, by omega, by omega, by omega, by omega, by omega, by omega, by omega, by omega, by omega⟩⟩

set_option maxHeartbeats 1200000 in
set_option maxRecDepth 20000 in
theorem c_X12_ahead {E : zE} {l : Launch} (hst : l.stackTraces = false) (a : Nat) (x1 : Int) (x2 : Int) (x3 : Int) (x4 : Int) : Con E l yX12_ahead cX12_ahead 5 (some .int) { frames := 2, cells := 0, slots := 0, locals := 47 } (fun G s vs => vs = [.ref a, .int (zI x1), .int (zI x2), .int (zI x3), .int (zI x4)] ∧ zGK G ∧ zSK G s ∧ (gT G a = 13) ∧ ((-2147483648) ≤ x1 ∧ x1 ≤ 2147483647) ∧ ((-2147483648) ≤ x2 ∧ x2 ≤ 2147483647) ∧ ((-2147483648) ≤ x3 ∧ x3 ≤ 2147483647) ∧ ((-2147483648) ≤ x4 ∧ x4 ≤ 2147483647)) (fun G s _ => pI (fun r G2 s2 => G2 = G ∧ zSK G s2 ∧ zFr [13, 71] G s s2 ∧ ((-2147483648) ≤ r ∧ r ≤ 2147483647) ∧ s2 a 3 = s a 3 ∧ s2 a 4 = s a 4 ∧ s2 a 5 = s a 5 ∧ s2 a 7 = s a 7 ∧ s2 a 21 = s a 21 ∧ s2 a 22 = s a 22 ∧ s2 a 23 = s a 23 ∧ s2 a 24 = s a 24 ∧ s2 a 38 = s a 38 ∧ s2 a 51 = s a 51 ∧ s2 a 52 = s a 52)) := by
  refine Con.mk hst (by decide) (fun G s vs h => by rw [h.1]; exact Nat.le_of_ble_eq_true rfl) ?_
  rintro X G s0 vs ⟨rfl, hG, hS0, ha, hx1, hx2, hx3, hx4⟩ rfl hx hq
  show JJ X E 5 G s0 0 0 [(0, .ref a), (1, .int (zI x1)), (2, .int (zI x2)), (3, .int (zI x3)), (4, .int (zI x4))] 0 []
  refine j_aload_n hx 0 dX12_ahead_0 rfl ?_
  refine j_iconst hx dX12_ahead_1 ?_
  refine p13_0 hx hG ha kf_RX12_3 dX12_ahead_2 ?_
  obtain ⟨s1, e_s1⟩ : ∃ z, z = zU s0 a 0 0 := ⟨_, rfl⟩
  rw [← e_s1]
  have hS_s1 : zSK G s1 := by rw [e_s1]; exact zSK_F hS0 ha rfl rfl rfl (by omega)
  refine j_aload_n hx 0 dX12_ahead_5 rfl ?_
  refine j_iload_n hx 1 dX12_ahead_6 rfl ?_
  refine j_iload_n hx 2 dX12_ahead_7 rfl ?_
  refine j_iload_n hx 3 dX12_ahead_8 rfl ?_
  refine j_iload hx 4 dX12_ahead_9 rfl ?_
  have g1 : s1 a 0 = 0 := (by rw [e_s1, zU_eq])
  have g2 : s1 a 3 = s0 a 3 := (by rw [e_s1, zU_at (Or.inr (by decide))])
  have f3 := zf hS0 ha (k := 3) rfl
  have g4 : s1 a 4 = s0 a 4 := (by rw [e_s1, zU_at (Or.inr (by decide))])
  have f5 := zf hS0 ha (k := 4) rfl
  have g6 : s1 a 5 = s0 a 5 := (by rw [e_s1, zU_at (Or.inr (by decide))])
  have f7 := zf hS0 ha (k := 5) rfl
  have g8 : s1 a 7 = s0 a 7 := (by rw [e_s1, zU_at (Or.inr (by decide))])
  have f9 := zf hS0 ha (k := 7) rfl
  have g10 : s1 a 21 = s0 a 21 := (by rw [e_s1, zU_at (Or.inr (by decide))])
  have f11 := zf hS0 ha (k := 21) rfl
  have g12 : s1 a 22 = s0 a 22 := (by rw [e_s1, zU_at (Or.inr (by decide))])
  have f13 := zf hS0 ha (k := 22) rfl
  have g14 : s1 a 23 = s0 a 23 := (by rw [e_s1, zU_at (Or.inr (by decide))])
  have f15 := zf hS0 ha (k := 23) rfl
  have g16 : s1 a 24 = s0 a 24 := (by rw [e_s1, zU_at (Or.inr (by decide))])
  have f17 := zf hS0 ha (k := 24) rfl
  have g18 : s1 a 38 = s0 a 38 := (by rw [e_s1, zU_at (Or.inr (by decide))])
  have f19 := zf hS0 ha (k := 38) rfl
  have g20 : s1 a 51 = s0 a 51 := (by rw [e_s1, zU_at (Or.inr (by decide))])
  have f21 := zf hS0 ha (k := 51) rfl
  have g22 : s1 a 52 = s0 a 52 := (by rw [e_s1, zU_at (Or.inr (by decide))])
  have f23 := zf hS0 ha (k := 52) rfl
  refine j_callV hx hG (c_X12_isWorth hst a x1 x2 x3 x4) lk_RX12_465 ha (by decide) rfl rfl rfl rfl [.int (zI x1), .int (zI x2), .int (zI x3), .int (zI x4)] ⟨rfl, hG, hS_s1, ha, (by omega), (by omega), (by omega), (by omega), (((by rw [e_s1, zU_eq]) : s1 a 0 = 0).trans (by omega))⟩ rfl rfl ⟨by decide, by decide⟩ ⟨by decide, by decide⟩ (k2 := 0) (n2 := 0) rfl rfl (Nat.le_of_ble_eq_true rfl) dX12_ahead_11 (kIM (fun v24 s2 hS_s2 hF_s2 q25 => ?_))
  refine j_if_ne hx 19 dX12_ahead_14 rfl (by omega) (fun h26 => ?_) (fun h26 => ?_)
  · skip
    refine j_iload_n hx 1 dX12_ahead_19 rfl ?_
    refine j_iload_n hx 3 dX12_ahead_20 rfl ?_
    refine j_imul hx (r := (x1 * x3)) dX12_ahead_21 rfl ?_
    have f27 : 0 ≤ (x1 * x3) ∧ (x1 * x3) ≤ 99 * 99 := zmulnn (by omega) (by omega)
    refine j_iload_n hx 2 dX12_ahead_22 rfl ?_
    refine j_iload_n hx 1 dX12_ahead_23 rfl ?_
    refine j_isub hx (r := x2 - x1) dX12_ahead_24 rfl ?_
    refine j_iload hx 4 dX12_ahead_25 rfl ?_
    refine j_imul hx (r := ((x2 - x1) * x4)) dX12_ahead_27 rfl ?_
    have f28 : 0 ≤ ((x2 - x1) * x4) ∧ ((x2 - x1) * x4) ≤ 99 * 99 := zmulnn (by omega) (by omega)
    refine j_isub hx (r := (x1 * x3) - ((x2 - x1) * x4)) dX12_ahead_28 (by omega) ?_
    have f29 := zf hS_s2 ha (k := 3) rfl
    have f30 := zf hS_s2 ha (k := 4) rfl
    have f31 := zf hS_s2 ha (k := 5) rfl
    have f32 := zf hS_s2 ha (k := 7) rfl
    have f33 := zf hS_s2 ha (k := 21) rfl
    have f34 := zf hS_s2 ha (k := 22) rfl
    have f35 := zf hS_s2 ha (k := 23) rfl
    have f36 := zf hS_s2 ha (k := 24) rfl
    have f37 := zf hS_s2 ha (k := 38) rfl
    have f38 := zf hS_s2 ha (k := 51) rfl
    have f39 := zf hS_s2 ha (k := 52) rfl
    exact j_iret hx hq rfl (by decide) (by decide) dX12_ahead_29 ⟨(x1 * x3) - ((x2 - x1) * x4), rfl, rfl, hS_s2, (zFr_t (zFr_u zFr_rf e_s1 ha (by decide)) hF_s2 (by decide)), ⟨(by omega), by omega, by omega, by omega, by omega, by omega, by omega, by omega, by omega, by omega, by omega, by omega⟩⟩
  · skip
    refine j_iconst hx dX12_ahead_17 ?_
    have f40 := zf hS_s2 ha (k := 3) rfl
    have f41 := zf hS_s2 ha (k := 4) rfl
    have f42 := zf hS_s2 ha (k := 5) rfl
    have f43 := zf hS_s2 ha (k := 7) rfl
    have f44 := zf hS_s2 ha (k := 21) rfl
    have f45 := zf hS_s2 ha (k := 22) rfl
    have f46 := zf hS_s2 ha (k := 23) rfl
    have f47 := zf hS_s2 ha (k := 24) rfl
    have f48 := zf hS_s2 ha (k := 38) rfl
    have f49 := zf hS_s2 ha (k := 51) rfl
    have f50 := zf hS_s2 ha (k := 52) rfl
    exact j_iret hx hq rfl (by decide) (by decide) dX12_ahead_18 ⟨0, rfl, rfl, hS_s2, (zFr_t (zFr_u zFr_rf e_s1 ha (by decide)) hF_s2 (by decide)), ⟨(by omega), by omega, by omega, by omega, by omega, by omega, by omega, by omega, by omega, by omega, by omega, by omega⟩⟩

set_option maxHeartbeats 1200000 in
set_option maxRecDepth 20000 in
theorem c_X12_gets {E : zE} {l : Launch} (hst : l.stackTraces = false) (a : Nat) (x1 : Int) (x2 : Int) (x3 : Int) : Con E l yX12_gets cX12_gets 6 (some .int) { frames := 0, cells := 0, slots := 0, locals := 0 } (fun G s vs => vs = [.ref a, .int (zI x1), .int (zI x2), .int (zI x3)] ∧ zGK G ∧ zSK G s ∧ (gT G a = 13) ∧ ((-2147483648) ≤ x1 ∧ x1 ≤ 2147483647) ∧ ((-2147483648) ≤ x2 ∧ x2 ≤ 2147483647) ∧ ((-2147483648) ≤ x3 ∧ x3 ≤ 2147483647)) (fun G s _ => pI (fun r G2 s2 => G2 = G ∧ s2 = s ∧ ((-2147483648) ≤ r ∧ r ≤ 2147483647))) := by
  refine Con.mk hst (by decide) (fun G s vs h => by rw [h.1]; exact Nat.le_of_ble_eq_true rfl) ?_
  rintro X G s0 vs ⟨rfl, hG, hS0, ha, hx1, hx2, hx3⟩ rfl hx hq
  show JJ X E 6 G s0 0 0 [(0, .ref a), (1, .int (zI x1)), (2, .int (zI x2)), (3, .int (zI x3))] 0 []
  refine j_iconst hx dX12_gets_0 ?_
  refine j_istore hx [(4, .int (zI 0)), (0, .ref a), (1, .int (zI x1)), (2, .int (zI x2)), (3, .int (zI x3))] dX12_gets_1 (by decide) rfl ?_
  refine j_iconst hx dX12_gets_3 ?_
  refine j_istore hx [(5, .int (zI 0)), (4, .int (zI 0)), (0, .ref a), (1, .int (zI x1)), (2, .int (zI x2)), (3, .int (zI x3))] dX12_gets_4 (by decide) rfl ?_
  have c6_1 : ∀ (m_c6_1 : Nat) (v1 : Int) (v2 : Int), 2147483648 - v2 < m_c6_1 → ((-2147483648) ≤ v1 ∧ v1 ≤ 2147483647) → (0 ≤ v2 ∧ v2 ≤ 12) → JJ X E 6 G s0 0 0 [(0, .ref a), (1, .int (zI x1)), (2, .int (zI x2)), (3, .int (zI x3)), (4, .int (zI v1)), (5, .int (zI v2))] 6 [] := by
    intro m_c6_1
    induction m_c6_1 with
    | zero => intro v1 v2 hm_c6_1 fA2 fA3; exfalso; omega
    | succ m_c6_1 ih_c6_1 => 
      intro v1 v2 hm_c6_1 fA2 fA3
      refine j_iload hx 5 dX12_gets_6 rfl ?_
      refine j_aload_n hx 0 dX12_gets_8 rfl ?_
      have f3 := zf hS0 ha (k := 26) rfl
      refine g13_26 hx hG ha kf_RX12_195 rfl dX12_gets_9 ?_
      refine j_icmp_ge hx 95 dX12_gets_12 rfl (by omega) (by omega) (fun h4 => ?_) (fun h4 => ?_)
      · skip
        refine j_iload hx 4 dX12_gets_95 rfl ?_
        exact j_iret hx hq rfl (by decide) (by decide) dX12_gets_97 ⟨v1, rfl, rfl, rfl, (by omega)⟩
      · skip
        refine j_iload_n hx 1 dX12_gets_15 rfl ?_
        refine j_aload_n hx 0 dX12_gets_16 rfl ?_
        refine g13_26 hx hG ha kf_RX12_195 rfl dX12_gets_17 ?_
        refine j_icmp_ge hx 95 dX12_gets_20 rfl (by omega) (by omega) (fun h5 => ?_) (fun h5 => ?_)
        · skip
          refine j_iload hx 4 dX12_gets_95 rfl ?_
          exact j_iret hx hq rfl (by decide) (by decide) dX12_gets_97 ⟨v1, rfl, rfl, rfl, (by omega)⟩
        · skip
          refine j_iload hx 4 dX12_gets_23 rfl ?_
          refine j_iload_n hx 1 dX12_gets_25 rfl ?_
          refine j_iload hx 5 dX12_gets_26 rfl ?_
          have c86_4 : ∀ (v6 : Int), ((-2147483648) ≤ v6 ∧ v6 ≤ 2147483647) → JJ X E 6 G s0 0 0 [(0, .ref a), (1, .int (zI x1)), (2, .int (zI x2)), (3, .int (zI x3)), (5, .int (zI v2))] 86 [.int (zI v6), .int (zI v1)] := by
            intro v6 fA5
            refine j_iadd hx (r := v1 + v6) dX12_gets_86 rfl ?_
            refine j_norm (fun v7 f8 f9 f10 => ?_)
            refine j_istore hx [(4, .int (zI v7)), (0, .ref a), (1, .int (zI x1)), (2, .int (zI x2)), (3, .int (zI x3)), (5, .int (zI v2))] dX12_gets_87 (by decide) rfl ?_
            refine j_iinc hx 5 [(5, .int (zI (v2 + 1))), (4, .int (zI v7)), (0, .ref a), (1, .int (zI x1)), (2, .int (zI x2)), (3, .int (zI x3))] dX12_gets_89 rfl (by omega) (by decide) rfl ?_
            refine j_goto hx 6 dX12_gets_92 rfl ?_
            exact j_sub [2, 3, 4, 5, 1, 0] [(0, .ref a), (1, .int (zI x1)), (2, .int (zI x2)), (3, .int (zI x3)), (4, .int (zI v7)), (5, .int (zI (v2 + 1)))] rfl (ih_c6_1 v7 (v2 + 1) (by omega) (by omega) (by omega))
          refine j_icmp_ge hx 44 dX12_gets_28 rfl (by omega) (by omega) (fun h11 => ?_) (fun h11 => ?_)
          · skip
            refine j_iload_n hx 2 dX12_gets_44 rfl ?_
            refine j_iload hx 5 dX12_gets_45 rfl ?_
            have c55_6 : JJ X E 6 G s0 0 0 [(0, .ref a), (1, .int (zI x1)), (2, .int (zI x2)), (3, .int (zI x3)), (5, .int (zI v2))] 55 [.int (zI v1)] := by
              refine j_bipush hx dX12_gets_55 rfl ?_
              refine j_aload_n hx 0 dX12_gets_57 rfl ?_
              refine g13_20 hx hG ha kf_RX12_53 dX12_gets_58 ?_
              refine j_iload hx 4 dX12_gets_61 rfl ?_
              have f12 := zaI (j := (v2).toNat) hS0 (zr (k := 20) (t2 := 83) hG ha rfl) rfl (zlen hG (zr (k := 20) (t2 := 83) hG ha rfl) (n := 12) rfl rfl) (show 0 ≤ v2 by omega) (by omega) rfl
              refine j_iald hx hG (zr (k := 20) (t2 := 83) hG ha rfl) (by decide) rfl (zlen hG (zr (k := 20) (t2 := 83) hG ha rfl) (n := 12) rfl rfl) (by omega) (by omega) (j := (v2).toNat) rfl rfl dX12_gets_63 ?_
              refine j_imul hx (r := 10 * (s0 (gP G a 20) (v2).toNat)) dX12_gets_64 (by omega) ?_
              refine j_goto hx 86 dX12_gets_65 rfl ?_
              exact j_sub [0, 1, 2, 3, 4] [(0, .ref a), (1, .int (zI x1)), (2, .int (zI x2)), (3, .int (zI x3)), (5, .int (zI v2))] rfl (c86_4 (10 * (s0 (gP G a 20) (v2).toNat)) (by omega))
            refine j_icmp_lt hx 55 dX12_gets_47 rfl (by omega) (by omega) (fun h13 => ?_) (fun h13 => ?_)
            · skip
              exact j_sub [0, 1, 2, 3, 5] [(0, .ref a), (1, .int (zI x1)), (2, .int (zI x2)), (3, .int (zI x3)), (5, .int (zI v2))] rfl (c55_6  )
            · skip
              refine j_iload_n hx 2 dX12_gets_50 rfl ?_
              refine j_iload_n hx 1 dX12_gets_51 rfl ?_
              refine j_icmp_le hx 68 dX12_gets_52 rfl (by omega) (by omega) (fun h14 => ?_) (fun h14 => ?_)
              · skip
                refine j_iload_n hx 2 dX12_gets_68 rfl ?_
                refine j_iload_n hx 1 dX12_gets_69 rfl ?_
                refine j_icmp_ne hx 85 dX12_gets_70 rfl (by omega) (by omega) (fun h15 => ?_) (fun h15 => ?_)
                · skip
                  refine j_iconst hx dX12_gets_85 ?_
                  exact j_sub [0, 1, 2, 3, 5] [(0, .ref a), (1, .int (zI x1)), (2, .int (zI x2)), (3, .int (zI x3)), (5, .int (zI v2))] rfl (c86_4 0 (by omega))
                · skip
                  refine j_iconst hx dX12_gets_73 ?_
                  refine j_aload_n hx 0 dX12_gets_74 rfl ?_
                  refine g13_20 hx hG ha kf_RX12_53 dX12_gets_75 ?_
                  refine j_iload hx 5 dX12_gets_78 rfl ?_
                  have f16 := zaI (j := (v2).toNat) hS0 (zr (k := 20) (t2 := 83) hG ha rfl) rfl (zlen hG (zr (k := 20) (t2 := 83) hG ha rfl) (n := 12) rfl rfl) (show 0 ≤ v2 by omega) (by omega) rfl
                  refine j_iald hx hG (zr (k := 20) (t2 := 83) hG ha rfl) (by decide) rfl (zlen hG (zr (k := 20) (t2 := 83) hG ha rfl) (n := 12) rfl rfl) (by omega) (by omega) (j := (v2).toNat) rfl rfl dX12_gets_80 ?_
                  refine j_imul hx (r := 5 * (s0 (gP G a 20) (v2).toNat)) dX12_gets_81 (by omega) ?_
                  refine j_goto hx 86 dX12_gets_82 rfl ?_
                  exact j_sub [0, 1, 2, 3, 5] [(0, .ref a), (1, .int (zI x1)), (2, .int (zI x2)), (3, .int (zI x3)), (5, .int (zI v2))] rfl (c86_4 (5 * (s0 (gP G a 20) (v2).toNat)) (by omega))
              · skip
                exact j_sub [0, 1, 2, 3, 5] [(0, .ref a), (1, .int (zI x1)), (2, .int (zI x2)), (3, .int (zI x3)), (5, .int (zI v2))] rfl (c55_6  )
          · skip
            refine j_iload_n hx 3 dX12_gets_31 rfl ?_
            refine j_ineg hx (r := -x3) dX12_gets_32 (by omega) ?_
            refine j_norm (fun v17 f18 f19 f20 => ?_)
            refine j_aload_n hx 0 dX12_gets_33 rfl ?_
            refine g13_20 hx hG ha kf_RX12_53 dX12_gets_34 ?_
            refine j_iload hx 5 dX12_gets_37 rfl ?_
            have f21 := zaI (j := (v2).toNat) hS0 (zr (k := 20) (t2 := 83) hG ha rfl) rfl (zlen hG (zr (k := 20) (t2 := 83) hG ha rfl) (n := 12) rfl rfl) (show 0 ≤ v2 by omega) (by omega) rfl
            refine j_iald hx hG (zr (k := 20) (t2 := 83) hG ha rfl) (by decide) rfl (zlen hG (zr (k := 20) (t2 := 83) hG ha rfl) (n := 12) rfl rfl) (by omega) (by omega) (j := (v2).toNat) rfl rfl dX12_gets_39 ?_
            refine j_imul hx (r := (v17 * ((s0 (gP G a 20) (v2).toNat)))) dX12_gets_40 rfl ?_
            refine j_norm (fun v22 f23 f24 f25 => ?_)
            refine j_goto hx 86 dX12_gets_41 rfl ?_
            exact j_sub [0, 1, 2, 3, 5] [(0, .ref a), (1, .int (zI x1)), (2, .int (zI x2)), (3, .int (zI x3)), (5, .int (zI v2))] rfl (c86_4 v22 (by omega))
  exact j_sub [2, 3, 4, 5, 1, 0] [(0, .ref a), (1, .int (zI x1)), (2, .int (zI x2)), (3, .int (zI x3)), (4, .int (zI 0)), (5, .int (zI 0))] rfl (c6_1 (2147483648 * 4) 0 0 (by omega) (by omega) (by omega))

theorem lk_RX12_469 : LkV RX12 469 RX12 yX12_gets cX12_gets 6 (some .int) 3 := ⟨km_RX12_469, ki_yX12_gets, ks_RX12_yX12_gets, kn_RX12, kc_yX12_gets, rfl, by decide +kernel, by decide +kernel, by decide +kernel⟩
set_option maxHeartbeats 1200000 in
set_option maxRecDepth 20000 in
theorem c_X12_moments {E : zE} {l : Launch} (hst : l.stackTraces = false) (a : Nat) (x1 : Int) (x2 : Int) (x3 : Int) : Con E l yX12_moments cX12_moments 4 (some .int) { frames := 1, cells := 0, slots := 0, locals := 25 } (fun G s vs => vs = [.ref a, .int (zI x1), .int (zI x2), .int (zI x3)] ∧ zGK G ∧ zSK G s ∧ (gT G a = 13) ∧ ((-2147483648) ≤ x1 ∧ x1 ≤ 2147483647) ∧ ((-2147483648) ≤ x2 ∧ x2 ≤ 2147483647) ∧ ((-2147483648) ≤ x3 ∧ x3 ≤ 2147483647)) (fun G s _ => pI (fun r G2 s2 => G2 = G ∧ zSK G s2 ∧ zFr [13, 71] G s s2 ∧ ((-2147483648) ≤ r ∧ r ≤ 2147483647) ∧ s2 a 3 = s a 3 ∧ s2 a 4 = s a 4 ∧ s2 a 5 = s a 5 ∧ s2 a 7 = s a 7 ∧ s2 a 21 = s a 21 ∧ s2 a 22 = s a 22 ∧ s2 a 23 = s a 23 ∧ s2 a 24 = s a 24 ∧ s2 a 38 = s a 38 ∧ s2 a 51 = s a 51 ∧ s2 a 52 = s a 52)) := by
  refine Con.mk hst (by decide) (fun G s vs h => by rw [h.1]; exact Nat.le_of_ble_eq_true rfl) ?_
  rintro X G s0 vs ⟨rfl, hG, hS0, ha, hx1, hx2, hx3⟩ rfl hx hq
  show JJ X E 4 G s0 0 0 [(0, .ref a), (1, .int (zI x1)), (2, .int (zI x2)), (3, .int (zI x3))] 0 []
  refine j_aload_n hx 0 dX12_moments_0 rfl ?_
  refine j_iconst hx dX12_moments_1 ?_
  refine p13_0 hx hG ha kf_RX12_3 dX12_moments_2 ?_
  obtain ⟨s1, e_s1⟩ : ∃ z, z = zU s0 a 0 0 := ⟨_, rfl⟩
  rw [← e_s1]
  have hS_s1 : zSK G s1 := by rw [e_s1]; exact zSK_F hS0 ha rfl rfl rfl (by omega)
  refine j_aload_n hx 0 dX12_moments_5 rfl ?_
  refine j_iload_n hx 1 dX12_moments_6 rfl ?_
  refine j_iconst hx dX12_moments_7 ?_
  refine j_aload_n hx 0 dX12_moments_8 rfl ?_
  have f1 := zf hS0 ha (k := 26) rfl
  refine g13_26 hx hG ha kf_RX12_195 (v := (s0 a 26)) (by rw [e_s1, zU_at (Or.inr (by decide))]) dX12_moments_9 ?_
  refine j_callS hx (c_X12_within hst x1 0 ((s0 a 26))) lk_RX12_314 [.int (zI x1), .int (zI 0), .int (zI ((s0 a 26)))] ⟨rfl, hG, hS_s1, (by omega), (by omega), (by omega)⟩ rfl rfl ⟨by decide, by decide⟩ ⟨by decide, by decide⟩ (k2 := 0) (n2 := 0) rfl rfl (Nat.le_of_ble_eq_true rfl) dX12_moments_12 (kIP (fun v2 q3 => ?_))
  refine j_if_eq hx 44 dX12_moments_15 rfl (by omega) (fun h4 => ?_) (fun h4 => ?_)
  · skip
    refine j_iconst hx dX12_moments_44 ?_
    refine j_iconst hx dX12_moments_45 ?_
    refine j_iconst hx dX12_moments_46 ?_
    have g5 : s1 a 0 = 0 := (by rw [e_s1, zU_eq])
    have g6 : s1 a 3 = s0 a 3 := (by rw [e_s1, zU_at (Or.inr (by decide))])
    have f7 := zf hS0 ha (k := 3) rfl
    have g8 : s1 a 4 = s0 a 4 := (by rw [e_s1, zU_at (Or.inr (by decide))])
    have f9 := zf hS0 ha (k := 4) rfl
    have g10 : s1 a 5 = s0 a 5 := (by rw [e_s1, zU_at (Or.inr (by decide))])
    have f11 := zf hS0 ha (k := 5) rfl
    have g12 : s1 a 7 = s0 a 7 := (by rw [e_s1, zU_at (Or.inr (by decide))])
    have f13 := zf hS0 ha (k := 7) rfl
    have g14 : s1 a 21 = s0 a 21 := (by rw [e_s1, zU_at (Or.inr (by decide))])
    have f15 := zf hS0 ha (k := 21) rfl
    have g16 : s1 a 22 = s0 a 22 := (by rw [e_s1, zU_at (Or.inr (by decide))])
    have f17 := zf hS0 ha (k := 22) rfl
    have g18 : s1 a 23 = s0 a 23 := (by rw [e_s1, zU_at (Or.inr (by decide))])
    have f19 := zf hS0 ha (k := 23) rfl
    have g20 : s1 a 24 = s0 a 24 := (by rw [e_s1, zU_at (Or.inr (by decide))])
    have f21 := zf hS0 ha (k := 24) rfl
    have g22 : s1 a 38 = s0 a 38 := (by rw [e_s1, zU_at (Or.inr (by decide))])
    have f23 := zf hS0 ha (k := 38) rfl
    have g24 : s1 a 51 = s0 a 51 := (by rw [e_s1, zU_at (Or.inr (by decide))])
    have f25 := zf hS0 ha (k := 51) rfl
    have g26 : s1 a 52 = s0 a 52 := (by rw [e_s1, zU_at (Or.inr (by decide))])
    have f27 := zf hS0 ha (k := 52) rfl
    refine j_callV hx hG (c_X12_may_f hst a 0 1 1) lk_RX12_240 ha (by decide) rfl rfl rfl rfl [.int (zI 0), .int (zI 1), .int (zI 1)] ⟨rfl, hG, hS_s1, ha, (by omega), (by omega), (by omega), (((by rw [e_s1, zU_eq]) : s1 a 0 = 0).trans (by omega))⟩ rfl rfl ⟨by decide, by decide⟩ ⟨by decide, by decide⟩ (k2 := 0) (n2 := 0) rfl rfl (Nat.le_of_ble_eq_true rfl) dX12_moments_47 (kIM (fun v28 s2 hS_s2 hF_s2 q29 => ?_))
    refine j_if_ne hx 55 dX12_moments_50 rfl (by omega) (fun h30 => absurd h30 (by omega)) (fun h30 => ?_)
    refine j_iconst hx dX12_moments_53 ?_
    have f31 := zf hS_s2 ha (k := 3) rfl
    have f32 := zf hS_s2 ha (k := 4) rfl
    have f33 := zf hS_s2 ha (k := 5) rfl
    have f34 := zf hS_s2 ha (k := 7) rfl
    have f35 := zf hS_s2 ha (k := 21) rfl
    have f36 := zf hS_s2 ha (k := 22) rfl
    have f37 := zf hS_s2 ha (k := 23) rfl
    have f38 := zf hS_s2 ha (k := 24) rfl
    have f39 := zf hS_s2 ha (k := 38) rfl
    have f40 := zf hS_s2 ha (k := 51) rfl
    have f41 := zf hS_s2 ha (k := 52) rfl
    exact j_iret hx hq rfl (by decide) (by decide) dX12_moments_54 ⟨0, rfl, rfl, hS_s2, (zFr_t (zFr_u zFr_rf e_s1 ha (by decide)) hF_s2 (by decide)), ⟨(by omega), by omega, by omega, by omega, by omega, by omega, by omega, by omega, by omega, by omega, by omega, by omega⟩⟩
  · skip
    refine j_iload_n hx 2 dX12_moments_18 rfl ?_
    refine j_iconst hx dX12_moments_19 ?_
    refine j_aload_n hx 0 dX12_moments_20 rfl ?_
    refine g13_26 hx hG ha kf_RX12_195 (v := (s0 a 26)) (by rw [e_s1, zU_at (Or.inr (by decide))]) dX12_moments_21 ?_
    refine j_callS hx (c_X12_within hst x2 0 ((s0 a 26))) lk_RX12_314 [.int (zI x2), .int (zI 0), .int (zI ((s0 a 26)))] ⟨rfl, hG, hS_s1, (by omega), (by omega), (by omega)⟩ rfl rfl ⟨by decide, by decide⟩ ⟨by decide, by decide⟩ (k2 := 0) (n2 := 0) rfl rfl (Nat.le_of_ble_eq_true rfl) dX12_moments_24 (kIP (fun v42 q43 => ?_))
    refine j_if_eq hx 44 dX12_moments_27 rfl (by omega) (fun h44 => ?_) (fun h44 => ?_)
    · skip
      refine j_iconst hx dX12_moments_44 ?_
      refine j_iconst hx dX12_moments_45 ?_
      refine j_iconst hx dX12_moments_46 ?_
      have g45 : s1 a 0 = 0 := (by rw [e_s1, zU_eq])
      have g46 : s1 a 3 = s0 a 3 := (by rw [e_s1, zU_at (Or.inr (by decide))])
      have f47 := zf hS0 ha (k := 3) rfl
      have g48 : s1 a 4 = s0 a 4 := (by rw [e_s1, zU_at (Or.inr (by decide))])
      have f49 := zf hS0 ha (k := 4) rfl
      have g50 : s1 a 5 = s0 a 5 := (by rw [e_s1, zU_at (Or.inr (by decide))])
      have f51 := zf hS0 ha (k := 5) rfl
      have g52 : s1 a 7 = s0 a 7 := (by rw [e_s1, zU_at (Or.inr (by decide))])
      have f53 := zf hS0 ha (k := 7) rfl
      have g54 : s1 a 21 = s0 a 21 := (by rw [e_s1, zU_at (Or.inr (by decide))])
      have f55 := zf hS0 ha (k := 21) rfl
      have g56 : s1 a 22 = s0 a 22 := (by rw [e_s1, zU_at (Or.inr (by decide))])
      have f57 := zf hS0 ha (k := 22) rfl
      have g58 : s1 a 23 = s0 a 23 := (by rw [e_s1, zU_at (Or.inr (by decide))])
      have f59 := zf hS0 ha (k := 23) rfl
      have g60 : s1 a 24 = s0 a 24 := (by rw [e_s1, zU_at (Or.inr (by decide))])
      have f61 := zf hS0 ha (k := 24) rfl
      have g62 : s1 a 38 = s0 a 38 := (by rw [e_s1, zU_at (Or.inr (by decide))])
      have f63 := zf hS0 ha (k := 38) rfl
      have g64 : s1 a 51 = s0 a 51 := (by rw [e_s1, zU_at (Or.inr (by decide))])
      have f65 := zf hS0 ha (k := 51) rfl
      have g66 : s1 a 52 = s0 a 52 := (by rw [e_s1, zU_at (Or.inr (by decide))])
      have f67 := zf hS0 ha (k := 52) rfl
      refine j_callV hx hG (c_X12_may_f hst a 0 1 1) lk_RX12_240 ha (by decide) rfl rfl rfl rfl [.int (zI 0), .int (zI 1), .int (zI 1)] ⟨rfl, hG, hS_s1, ha, (by omega), (by omega), (by omega), (((by rw [e_s1, zU_eq]) : s1 a 0 = 0).trans (by omega))⟩ rfl rfl ⟨by decide, by decide⟩ ⟨by decide, by decide⟩ (k2 := 0) (n2 := 0) rfl rfl (Nat.le_of_ble_eq_true rfl) dX12_moments_47 (kIM (fun v68 s3 hS_s3 hF_s3 q69 => ?_))
      refine j_if_ne hx 55 dX12_moments_50 rfl (by omega) (fun h70 => absurd h70 (by omega)) (fun h70 => ?_)
      refine j_iconst hx dX12_moments_53 ?_
      have f71 := zf hS_s3 ha (k := 3) rfl
      have f72 := zf hS_s3 ha (k := 4) rfl
      have f73 := zf hS_s3 ha (k := 5) rfl
      have f74 := zf hS_s3 ha (k := 7) rfl
      have f75 := zf hS_s3 ha (k := 21) rfl
      have f76 := zf hS_s3 ha (k := 22) rfl
      have f77 := zf hS_s3 ha (k := 23) rfl
      have f78 := zf hS_s3 ha (k := 24) rfl
      have f79 := zf hS_s3 ha (k := 38) rfl
      have f80 := zf hS_s3 ha (k := 51) rfl
      have f81 := zf hS_s3 ha (k := 52) rfl
      exact j_iret hx hq rfl (by decide) (by decide) dX12_moments_54 ⟨0, rfl, rfl, hS_s3, (zFr_t (zFr_u zFr_rf e_s1 ha (by decide)) hF_s3 (by decide)), ⟨(by omega), by omega, by omega, by omega, by omega, by omega, by omega, by omega, by omega, by omega, by omega, by omega⟩⟩
    · skip
      refine j_iload_n hx 3 dX12_moments_30 rfl ?_
      refine j_iconst hx dX12_moments_31 ?_
      refine j_bipush hx dX12_moments_32 rfl ?_
      refine j_callS hx (c_X12_within hst x3 0 99) lk_RX12_314 [.int (zI x3), .int (zI 0), .int (zI 99)] ⟨rfl, hG, hS_s1, (by omega), (by omega), (by omega)⟩ rfl rfl ⟨by decide, by decide⟩ ⟨by decide, by decide⟩ (k2 := 0) (n2 := 0) rfl rfl (Nat.le_of_ble_eq_true rfl) dX12_moments_34 (kIP (fun v82 q83 => ?_))
      refine j_if_eq hx 44 dX12_moments_37 rfl (by omega) (fun h84 => ?_) (fun h84 => ?_)
      · skip
        refine j_iconst hx dX12_moments_44 ?_
        refine j_iconst hx dX12_moments_45 ?_
        refine j_iconst hx dX12_moments_46 ?_
        have g85 : s1 a 0 = 0 := (by rw [e_s1, zU_eq])
        have g86 : s1 a 3 = s0 a 3 := (by rw [e_s1, zU_at (Or.inr (by decide))])
        have f87 := zf hS0 ha (k := 3) rfl
        have g88 : s1 a 4 = s0 a 4 := (by rw [e_s1, zU_at (Or.inr (by decide))])
        have f89 := zf hS0 ha (k := 4) rfl
        have g90 : s1 a 5 = s0 a 5 := (by rw [e_s1, zU_at (Or.inr (by decide))])
        have f91 := zf hS0 ha (k := 5) rfl
        have g92 : s1 a 7 = s0 a 7 := (by rw [e_s1, zU_at (Or.inr (by decide))])
        have f93 := zf hS0 ha (k := 7) rfl
        have g94 : s1 a 21 = s0 a 21 := (by rw [e_s1, zU_at (Or.inr (by decide))])
        have f95 := zf hS0 ha (k := 21) rfl
        have g96 : s1 a 22 = s0 a 22 := (by rw [e_s1, zU_at (Or.inr (by decide))])
        have f97 := zf hS0 ha (k := 22) rfl
        have g98 : s1 a 23 = s0 a 23 := (by rw [e_s1, zU_at (Or.inr (by decide))])
        have f99 := zf hS0 ha (k := 23) rfl
        have g100 : s1 a 24 = s0 a 24 := (by rw [e_s1, zU_at (Or.inr (by decide))])
        have f101 := zf hS0 ha (k := 24) rfl
        have g102 : s1 a 38 = s0 a 38 := (by rw [e_s1, zU_at (Or.inr (by decide))])
        have f103 := zf hS0 ha (k := 38) rfl
        have g104 : s1 a 51 = s0 a 51 := (by rw [e_s1, zU_at (Or.inr (by decide))])
        have f105 := zf hS0 ha (k := 51) rfl
        have g106 : s1 a 52 = s0 a 52 := (by rw [e_s1, zU_at (Or.inr (by decide))])
        have f107 := zf hS0 ha (k := 52) rfl
        refine j_callV hx hG (c_X12_may_f hst a 0 1 1) lk_RX12_240 ha (by decide) rfl rfl rfl rfl [.int (zI 0), .int (zI 1), .int (zI 1)] ⟨rfl, hG, hS_s1, ha, (by omega), (by omega), (by omega), (((by rw [e_s1, zU_eq]) : s1 a 0 = 0).trans (by omega))⟩ rfl rfl ⟨by decide, by decide⟩ ⟨by decide, by decide⟩ (k2 := 0) (n2 := 0) rfl rfl (Nat.le_of_ble_eq_true rfl) dX12_moments_47 (kIM (fun v108 s4 hS_s4 hF_s4 q109 => ?_))
        refine j_if_ne hx 55 dX12_moments_50 rfl (by omega) (fun h110 => absurd h110 (by omega)) (fun h110 => ?_)
        refine j_iconst hx dX12_moments_53 ?_
        have f111 := zf hS_s4 ha (k := 3) rfl
        have f112 := zf hS_s4 ha (k := 4) rfl
        have f113 := zf hS_s4 ha (k := 5) rfl
        have f114 := zf hS_s4 ha (k := 7) rfl
        have f115 := zf hS_s4 ha (k := 21) rfl
        have f116 := zf hS_s4 ha (k := 22) rfl
        have f117 := zf hS_s4 ha (k := 23) rfl
        have f118 := zf hS_s4 ha (k := 24) rfl
        have f119 := zf hS_s4 ha (k := 38) rfl
        have f120 := zf hS_s4 ha (k := 51) rfl
        have f121 := zf hS_s4 ha (k := 52) rfl
        exact j_iret hx hq rfl (by decide) (by decide) dX12_moments_54 ⟨0, rfl, rfl, hS_s4, (zFr_t (zFr_u zFr_rf e_s1 ha (by decide)) hF_s4 (by decide)), ⟨(by omega), by omega, by omega, by omega, by omega, by omega, by omega, by omega, by omega, by omega, by omega, by omega⟩⟩
      · skip
        refine j_iconst hx dX12_moments_40 ?_
        refine j_goto hx 45 dX12_moments_41 rfl ?_
        refine j_iconst hx dX12_moments_45 ?_
        refine j_iconst hx dX12_moments_46 ?_
        have g122 : s1 a 0 = 0 := (by rw [e_s1, zU_eq])
        refine j_callV hx hG (c_X12_may_t hst a 1 1 1) lk_RX12_240 ha (by decide) rfl rfl rfl rfl [.int (zI 1), .int (zI 1), .int (zI 1)] ⟨rfl, hG, hS_s1, ha, (by omega), (by omega), (by omega), (((by rw [e_s1, zU_eq]) : s1 a 0 = 0).trans (by omega))⟩ rfl rfl ⟨by decide, by decide⟩ ⟨by decide, by decide⟩ (k2 := 0) (n2 := 0) rfl rfl (Nat.le_of_ble_eq_true rfl) dX12_moments_47 (kIP (fun v123 q124 => ?_))
        refine j_if_ne hx 55 dX12_moments_50 rfl (by omega) (fun h125 => ?_) (fun h125 => absurd h125 (by omega))
        refine j_aload_n hx 0 dX12_moments_55 rfl ?_
        refine j_iload_n hx 1 dX12_moments_56 rfl ?_
        refine j_iload_n hx 2 dX12_moments_57 rfl ?_
        refine j_iload_n hx 3 dX12_moments_58 rfl ?_
        refine j_callV hx hG (c_X12_gets hst a x1 x2 x3) lk_RX12_469 ha (by decide) rfl rfl rfl rfl [.int (zI x1), .int (zI x2), .int (zI x3)] ⟨rfl, hG, hS_s1, ha, (by omega), (by omega), (by omega)⟩ rfl rfl ⟨by decide, by decide⟩ ⟨by decide, by decide⟩ (k2 := 0) (n2 := 0) rfl rfl (Nat.le_of_ble_eq_true rfl) dX12_moments_59 (kIP (fun v126 q127 => ?_))
        have g128 : s1 a 3 = s0 a 3 := (by rw [e_s1, zU_at (Or.inr (by decide))])
        have f129 := zf hS0 ha (k := 3) rfl
        have g130 : s1 a 4 = s0 a 4 := (by rw [e_s1, zU_at (Or.inr (by decide))])
        have f131 := zf hS0 ha (k := 4) rfl
        have g132 : s1 a 5 = s0 a 5 := (by rw [e_s1, zU_at (Or.inr (by decide))])
        have f133 := zf hS0 ha (k := 5) rfl
        have g134 : s1 a 7 = s0 a 7 := (by rw [e_s1, zU_at (Or.inr (by decide))])
        have f135 := zf hS0 ha (k := 7) rfl
        have g136 : s1 a 21 = s0 a 21 := (by rw [e_s1, zU_at (Or.inr (by decide))])
        have f137 := zf hS0 ha (k := 21) rfl
        have g138 : s1 a 22 = s0 a 22 := (by rw [e_s1, zU_at (Or.inr (by decide))])
        have f139 := zf hS0 ha (k := 22) rfl
        have g140 : s1 a 23 = s0 a 23 := (by rw [e_s1, zU_at (Or.inr (by decide))])
        have f141 := zf hS0 ha (k := 23) rfl
        have g142 : s1 a 24 = s0 a 24 := (by rw [e_s1, zU_at (Or.inr (by decide))])
        have f143 := zf hS0 ha (k := 24) rfl
        have g144 : s1 a 38 = s0 a 38 := (by rw [e_s1, zU_at (Or.inr (by decide))])
        have f145 := zf hS0 ha (k := 38) rfl
        have g146 : s1 a 51 = s0 a 51 := (by rw [e_s1, zU_at (Or.inr (by decide))])
        have f147 := zf hS0 ha (k := 51) rfl
        have g148 : s1 a 52 = s0 a 52 := (by rw [e_s1, zU_at (Or.inr (by decide))])
        have f149 := zf hS0 ha (k := 52) rfl
        exact j_iret hx hq rfl (by decide) (by decide) dX12_moments_62 ⟨v126, rfl, rfl, hS_s1, (zFr_u zFr_rf e_s1 ha (by decide)), ⟨(by omega), by omega, by omega, by omega, by omega, by omega, by omega, by omega, by omega, by omega, by omega, by omega⟩⟩

set_option maxHeartbeats 1200000 in
set_option maxRecDepth 20000 in
theorem c_X12_isBest {E : zE} {l : Launch} (hst : l.stackTraces = false) (a : Nat) (x1 : Int) (x2 : Int) (x3 : Int) : Con E l yX12_isBest cX12_isBest 5 (some .boolean) { frames := 1, cells := 0, slots := 0, locals := 25 } (fun G s vs => vs = [.ref a, .int (zI x1), .int (zI x2), .int (zI x3)] ∧ zGK G ∧ zSK G s ∧ (gT G a = 13) ∧ ((-2147483648) ≤ x1 ∧ x1 ≤ 2147483647) ∧ ((-2147483648) ≤ x2 ∧ x2 ≤ 2147483647) ∧ ((-2147483648) ≤ x3 ∧ x3 ≤ 2147483647)) (fun G s _ => pI (fun r G2 s2 => G2 = G ∧ s2 = s ∧ (0 ≤ r ∧ r ≤ 1))) := by
  refine Con.mk hst (by decide) (fun G s vs h => by rw [h.1]; exact Nat.le_of_ble_eq_true rfl) ?_
  rintro X G s0 vs ⟨rfl, hG, hS0, ha, hx1, hx2, hx3⟩ rfl hx hq
  show JJ X E 5 G s0 0 0 [(0, .ref a), (1, .int (zI x1)), (2, .int (zI x2)), (3, .int (zI x3))] 0 []
  refine j_iconst hx dX12_isBest_0 ?_
  refine j_istore hx [(4, .int (zI 0)), (0, .ref a), (1, .int (zI x1)), (2, .int (zI x2)), (3, .int (zI x3))] dX12_isBest_1 (by decide) rfl ?_
  have c3_1 : ∀ (m_c3_1 : Nat) (v1 : Int), 2147483648 - v1 < m_c3_1 → (0 ≤ v1 ∧ v1 ≤ 13) → JJ X E 5 G s0 0 0 [(0, .ref a), (1, .int (zI x1)), (2, .int (zI x2)), (3, .int (zI x3)), (4, .int (zI v1))] 3 [] := by
    intro m_c3_1
    induction m_c3_1 with
    | zero => intro v1 hm_c3_1 fA2; exfalso; omega
    | succ m_c3_1 ih_c3_1 => 
      intro v1 hm_c3_1 fA2
      refine j_iload hx 4 dX12_isBest_3 rfl ?_
      refine j_aload_n hx 0 dX12_isBest_5 rfl ?_
      have f2 := zf hS0 ha (k := 26) rfl
      refine g13_26 hx hG ha kf_RX12_195 rfl dX12_isBest_6 ?_
      refine j_icmp_gt hx 38 dX12_isBest_9 rfl (by omega) (by omega) (fun h3 => ?_) (fun h3 => ?_)
      · skip
        refine j_iconst hx dX12_isBest_38 ?_
        exact j_zret hx hq rfl (by decide) (by decide) dX12_isBest_39 (by omega) ⟨1, rfl, rfl, rfl, (by omega)⟩
      · skip
        refine j_aload_n hx 0 dX12_isBest_12 rfl ?_
        refine j_iload hx 4 dX12_isBest_13 rfl ?_
        refine j_iload_n hx 2 dX12_isBest_15 rfl ?_
        refine j_iload_n hx 3 dX12_isBest_16 rfl ?_
        refine j_callV hx hG (c_X12_gets hst a v1 x2 x3) lk_RX12_469 ha (by decide) rfl rfl rfl rfl [.int (zI v1), .int (zI x2), .int (zI x3)] ⟨rfl, hG, hS0, ha, (by omega), (by omega), (by omega)⟩ rfl rfl ⟨by decide, by decide⟩ ⟨by decide, by decide⟩ (k2 := 0) (n2 := 0) rfl rfl (Nat.le_of_ble_eq_true rfl) dX12_isBest_17 (kIP (fun v4 q5 => ?_))
        refine j_aload_n hx 0 dX12_isBest_20 rfl ?_
        refine j_iload_n hx 1 dX12_isBest_21 rfl ?_
        refine j_iload_n hx 2 dX12_isBest_22 rfl ?_
        refine j_iload_n hx 3 dX12_isBest_23 rfl ?_
        refine j_callV hx hG (c_X12_gets hst a x1 x2 x3) lk_RX12_469 ha (by decide) rfl rfl rfl rfl [.int (zI x1), .int (zI x2), .int (zI x3)] ⟨rfl, hG, hS0, ha, (by omega), (by omega), (by omega)⟩ rfl rfl ⟨by decide, by decide⟩ ⟨by decide, by decide⟩ (k2 := 0) (n2 := 0) rfl rfl (Nat.le_of_ble_eq_true rfl) dX12_isBest_24 (kIP (fun v6 q7 => ?_))
        refine j_icmp_le hx 32 dX12_isBest_27 rfl (by omega) (by omega) (fun h8 => ?_) (fun h8 => ?_)
        · skip
          refine j_iinc hx 4 [(4, .int (zI (v1 + 1))), (0, .ref a), (1, .int (zI x1)), (2, .int (zI x2)), (3, .int (zI x3))] dX12_isBest_32 rfl (by omega) (by decide) rfl ?_
          refine j_goto hx 3 dX12_isBest_35 rfl ?_
          exact j_sub [1, 2, 3, 4, 0] [(0, .ref a), (1, .int (zI x1)), (2, .int (zI x2)), (3, .int (zI x3)), (4, .int (zI (v1 + 1)))] rfl (ih_c3_1 (v1 + 1) (by omega) (by omega))
        · skip
          refine j_iconst hx dX12_isBest_30 ?_
          exact j_zret hx hq rfl (by decide) (by decide) dX12_isBest_31 (by omega) ⟨0, rfl, rfl, rfl, (by omega)⟩
  exact j_sub [1, 2, 3, 4, 0] [(0, .ref a), (1, .int (zI x1)), (2, .int (zI x2)), (3, .int (zI x3)), (4, .int (zI 0))] rfl (c3_1 (2147483648 * 4) 0 (by omega) (by omega))

theorem lk_RX12_472 : LkV RX12 472 RX12 yX12_isBest cX12_isBest 5 (some .boolean) 3 := ⟨km_RX12_472, ki_yX12_isBest, ks_RX12_yX12_isBest, kn_RX12, kc_yX12_isBest, rfl, by decide +kernel, by decide +kernel, by decide +kernel⟩
set_option maxHeartbeats 1200000 in
set_option maxRecDepth 20000 in
theorem c_X12_rests {E : zE} {l : Launch} (hst : l.stackTraces = false) (a : Nat) (x1 : Int) (x2 : Int) : Con E l yX12_rests cX12_rests 7 (some .int) { frames := 2, cells := 0, slots := 0, locals := 49 } (fun G s vs => vs = [.ref a, .int (zI x1), .int (zI x2)] ∧ zGK G ∧ zSK G s ∧ (gT G a = 13) ∧ ((-2147483648) ≤ x1 ∧ x1 ≤ 2147483647) ∧ ((-2147483648) ≤ x2 ∧ x2 ≤ 2147483647)) (fun G s _ => pI (fun r G2 s2 => G2 = G ∧ zSK G s2 ∧ zFr [13, 71] G s s2 ∧ ((-2147483648) ≤ r ∧ r ≤ 2147483647) ∧ s2 a 3 = s a 3 ∧ s2 a 4 = s a 4 ∧ s2 a 5 = s a 5 ∧ s2 a 7 = s a 7 ∧ s2 a 21 = s a 21 ∧ s2 a 22 = s a 22 ∧ s2 a 23 = s a 23 ∧ s2 a 24 = s a 24 ∧ s2 a 38 = s a 38 ∧ s2 a 51 = s a 51 ∧ s2 a 52 = s a 52)) := by
  refine Con.mk hst (by decide) (fun G s vs h => by rw [h.1]; exact Nat.le_of_ble_eq_true rfl) ?_
  rintro X G s0 vs ⟨rfl, hG, hS0, ha, hx1, hx2⟩ rfl hx hq
  show JJ X E 7 G s0 0 0 [(0, .ref a), (1, .int (zI x1)), (2, .int (zI x2))] 0 []
  refine j_aload_n hx 0 dX12_rests_0 rfl ?_
  refine j_iconst hx dX12_rests_1 ?_
  refine p13_0 hx hG ha kf_RX12_3 dX12_rests_2 ?_
  obtain ⟨s1, e_s1⟩ : ∃ z, z = zU s0 a 0 0 := ⟨_, rfl⟩
  rw [← e_s1]
  have hS_s1 : zSK G s1 := by rw [e_s1]; exact zSK_F hS0 ha rfl rfl rfl (by omega)
  refine j_aload_n hx 0 dX12_rests_5 rfl ?_
  refine j_iload_n hx 1 dX12_rests_6 rfl ?_
  refine j_iconst hx dX12_rests_7 ?_
  refine j_bipush hx dX12_rests_8 rfl ?_
  refine j_callS hx (c_X12_within hst x1 0 99) lk_RX12_314 [.int (zI x1), .int (zI 0), .int (zI 99)] ⟨rfl, hG, hS_s1, (by omega), (by omega), (by omega)⟩ rfl rfl ⟨by decide, by decide⟩ ⟨by decide, by decide⟩ (k2 := 0) (n2 := 0) rfl rfl (Nat.le_of_ble_eq_true rfl) dX12_rests_10 (kIP (fun v1 q2 => ?_))
  refine j_if_eq hx 29 dX12_rests_13 rfl (by omega) (fun h3 => ?_) (fun h3 => ?_)
  · skip
    refine j_iconst hx dX12_rests_29 ?_
    refine j_iconst hx dX12_rests_30 ?_
    refine j_iconst hx dX12_rests_31 ?_
    have g4 : s1 a 0 = 0 := (by rw [e_s1, zU_eq])
    have g5 : s1 a 3 = s0 a 3 := (by rw [e_s1, zU_at (Or.inr (by decide))])
    have f6 := zf hS0 ha (k := 3) rfl
    have g7 : s1 a 4 = s0 a 4 := (by rw [e_s1, zU_at (Or.inr (by decide))])
    have f8 := zf hS0 ha (k := 4) rfl
    have g9 : s1 a 5 = s0 a 5 := (by rw [e_s1, zU_at (Or.inr (by decide))])
    have f10 := zf hS0 ha (k := 5) rfl
    have g11 : s1 a 7 = s0 a 7 := (by rw [e_s1, zU_at (Or.inr (by decide))])
    have f12 := zf hS0 ha (k := 7) rfl
    have g13 : s1 a 21 = s0 a 21 := (by rw [e_s1, zU_at (Or.inr (by decide))])
    have f14 := zf hS0 ha (k := 21) rfl
    have g15 : s1 a 22 = s0 a 22 := (by rw [e_s1, zU_at (Or.inr (by decide))])
    have f16 := zf hS0 ha (k := 22) rfl
    have g17 : s1 a 23 = s0 a 23 := (by rw [e_s1, zU_at (Or.inr (by decide))])
    have f18 := zf hS0 ha (k := 23) rfl
    have g19 : s1 a 24 = s0 a 24 := (by rw [e_s1, zU_at (Or.inr (by decide))])
    have f20 := zf hS0 ha (k := 24) rfl
    have g21 : s1 a 38 = s0 a 38 := (by rw [e_s1, zU_at (Or.inr (by decide))])
    have f22 := zf hS0 ha (k := 38) rfl
    have g23 : s1 a 51 = s0 a 51 := (by rw [e_s1, zU_at (Or.inr (by decide))])
    have f24 := zf hS0 ha (k := 51) rfl
    have g25 : s1 a 52 = s0 a 52 := (by rw [e_s1, zU_at (Or.inr (by decide))])
    have f26 := zf hS0 ha (k := 52) rfl
    refine j_callV hx hG (c_X12_may_f hst a 0 1 1) lk_RX12_240 ha (by decide) rfl rfl rfl rfl [.int (zI 0), .int (zI 1), .int (zI 1)] ⟨rfl, hG, hS_s1, ha, (by omega), (by omega), (by omega), (((by rw [e_s1, zU_eq]) : s1 a 0 = 0).trans (by omega))⟩ rfl rfl ⟨by decide, by decide⟩ ⟨by decide, by decide⟩ (k2 := 0) (n2 := 0) rfl rfl (Nat.le_of_ble_eq_true rfl) dX12_rests_32 (kIM (fun v27 s2 hS_s2 hF_s2 q28 => ?_))
    refine j_if_ne hx 40 dX12_rests_35 rfl (by omega) (fun h29 => absurd h29 (by omega)) (fun h29 => ?_)
    refine j_iconst hx dX12_rests_38 ?_
    have f30 := zf hS_s2 ha (k := 3) rfl
    have f31 := zf hS_s2 ha (k := 4) rfl
    have f32 := zf hS_s2 ha (k := 5) rfl
    have f33 := zf hS_s2 ha (k := 7) rfl
    have f34 := zf hS_s2 ha (k := 21) rfl
    have f35 := zf hS_s2 ha (k := 22) rfl
    have f36 := zf hS_s2 ha (k := 23) rfl
    have f37 := zf hS_s2 ha (k := 24) rfl
    have f38 := zf hS_s2 ha (k := 38) rfl
    have f39 := zf hS_s2 ha (k := 51) rfl
    have f40 := zf hS_s2 ha (k := 52) rfl
    exact j_iret hx hq rfl (by decide) (by decide) dX12_rests_39 ⟨0, rfl, rfl, hS_s2, (zFr_t (zFr_u zFr_rf e_s1 ha (by decide)) hF_s2 (by decide)), ⟨(by omega), by omega, by omega, by omega, by omega, by omega, by omega, by omega, by omega, by omega, by omega, by omega⟩⟩
  · skip
    refine j_iload_n hx 2 dX12_rests_16 rfl ?_
    refine j_iconst hx dX12_rests_17 ?_
    refine j_iconst hx dX12_rests_18 ?_
    refine j_callS hx (c_X12_within hst x2 0 1) lk_RX12_314 [.int (zI x2), .int (zI 0), .int (zI 1)] ⟨rfl, hG, hS_s1, (by omega), (by omega), (by omega)⟩ rfl rfl ⟨by decide, by decide⟩ ⟨by decide, by decide⟩ (k2 := 0) (n2 := 0) rfl rfl (Nat.le_of_ble_eq_true rfl) dX12_rests_19 (kIP (fun v41 q42 => ?_))
    refine j_if_eq hx 29 dX12_rests_22 rfl (by omega) (fun h43 => ?_) (fun h43 => ?_)
    · skip
      refine j_iconst hx dX12_rests_29 ?_
      refine j_iconst hx dX12_rests_30 ?_
      refine j_iconst hx dX12_rests_31 ?_
      have g44 : s1 a 0 = 0 := (by rw [e_s1, zU_eq])
      have g45 : s1 a 3 = s0 a 3 := (by rw [e_s1, zU_at (Or.inr (by decide))])
      have f46 := zf hS0 ha (k := 3) rfl
      have g47 : s1 a 4 = s0 a 4 := (by rw [e_s1, zU_at (Or.inr (by decide))])
      have f48 := zf hS0 ha (k := 4) rfl
      have g49 : s1 a 5 = s0 a 5 := (by rw [e_s1, zU_at (Or.inr (by decide))])
      have f50 := zf hS0 ha (k := 5) rfl
      have g51 : s1 a 7 = s0 a 7 := (by rw [e_s1, zU_at (Or.inr (by decide))])
      have f52 := zf hS0 ha (k := 7) rfl
      have g53 : s1 a 21 = s0 a 21 := (by rw [e_s1, zU_at (Or.inr (by decide))])
      have f54 := zf hS0 ha (k := 21) rfl
      have g55 : s1 a 22 = s0 a 22 := (by rw [e_s1, zU_at (Or.inr (by decide))])
      have f56 := zf hS0 ha (k := 22) rfl
      have g57 : s1 a 23 = s0 a 23 := (by rw [e_s1, zU_at (Or.inr (by decide))])
      have f58 := zf hS0 ha (k := 23) rfl
      have g59 : s1 a 24 = s0 a 24 := (by rw [e_s1, zU_at (Or.inr (by decide))])
      have f60 := zf hS0 ha (k := 24) rfl
      have g61 : s1 a 38 = s0 a 38 := (by rw [e_s1, zU_at (Or.inr (by decide))])
      have f62 := zf hS0 ha (k := 38) rfl
      have g63 : s1 a 51 = s0 a 51 := (by rw [e_s1, zU_at (Or.inr (by decide))])
      have f64 := zf hS0 ha (k := 51) rfl
      have g65 : s1 a 52 = s0 a 52 := (by rw [e_s1, zU_at (Or.inr (by decide))])
      have f66 := zf hS0 ha (k := 52) rfl
      refine j_callV hx hG (c_X12_may_f hst a 0 1 1) lk_RX12_240 ha (by decide) rfl rfl rfl rfl [.int (zI 0), .int (zI 1), .int (zI 1)] ⟨rfl, hG, hS_s1, ha, (by omega), (by omega), (by omega), (((by rw [e_s1, zU_eq]) : s1 a 0 = 0).trans (by omega))⟩ rfl rfl ⟨by decide, by decide⟩ ⟨by decide, by decide⟩ (k2 := 0) (n2 := 0) rfl rfl (Nat.le_of_ble_eq_true rfl) dX12_rests_32 (kIM (fun v67 s3 hS_s3 hF_s3 q68 => ?_))
      refine j_if_ne hx 40 dX12_rests_35 rfl (by omega) (fun h69 => absurd h69 (by omega)) (fun h69 => ?_)
      refine j_iconst hx dX12_rests_38 ?_
      have f70 := zf hS_s3 ha (k := 3) rfl
      have f71 := zf hS_s3 ha (k := 4) rfl
      have f72 := zf hS_s3 ha (k := 5) rfl
      have f73 := zf hS_s3 ha (k := 7) rfl
      have f74 := zf hS_s3 ha (k := 21) rfl
      have f75 := zf hS_s3 ha (k := 22) rfl
      have f76 := zf hS_s3 ha (k := 23) rfl
      have f77 := zf hS_s3 ha (k := 24) rfl
      have f78 := zf hS_s3 ha (k := 38) rfl
      have f79 := zf hS_s3 ha (k := 51) rfl
      have f80 := zf hS_s3 ha (k := 52) rfl
      exact j_iret hx hq rfl (by decide) (by decide) dX12_rests_39 ⟨0, rfl, rfl, hS_s3, (zFr_t (zFr_u zFr_rf e_s1 ha (by decide)) hF_s3 (by decide)), ⟨(by omega), by omega, by omega, by omega, by omega, by omega, by omega, by omega, by omega, by omega, by omega, by omega⟩⟩
    · skip
      refine j_iconst hx dX12_rests_25 ?_
      refine j_goto hx 30 dX12_rests_26 rfl ?_
      refine j_iconst hx dX12_rests_30 ?_
      refine j_iconst hx dX12_rests_31 ?_
      have g81 : s1 a 0 = 0 := (by rw [e_s1, zU_eq])
      refine j_callV hx hG (c_X12_may_t hst a 1 1 1) lk_RX12_240 ha (by decide) rfl rfl rfl rfl [.int (zI 1), .int (zI 1), .int (zI 1)] ⟨rfl, hG, hS_s1, ha, (by omega), (by omega), (by omega), (((by rw [e_s1, zU_eq]) : s1 a 0 = 0).trans (by omega))⟩ rfl rfl ⟨by decide, by decide⟩ ⟨by decide, by decide⟩ (k2 := 0) (n2 := 0) rfl rfl (Nat.le_of_ble_eq_true rfl) dX12_rests_32 (kIP (fun v82 q83 => ?_))
      refine j_if_ne hx 40 dX12_rests_35 rfl (by omega) (fun h84 => ?_) (fun h84 => absurd h84 (by omega))
      refine j_iconst hx dX12_rests_40 ?_
      refine j_istore_n hx [(3, .int (zI 0)), (0, .ref a), (1, .int (zI x1)), (2, .int (zI x2))] dX12_rests_41 (by decide) rfl ?_
      refine j_iconst hx dX12_rests_42 ?_
      refine j_istore hx [(4, .int (zI (-1))), (3, .int (zI 0)), (0, .ref a), (1, .int (zI x1)), (2, .int (zI x2))] dX12_rests_43 (by decide) rfl ?_
      refine j_iconst hx dX12_rests_45 ?_
      refine j_istore hx [(5, .int (zI 0)), (4, .int (zI (-1))), (3, .int (zI 0)), (0, .ref a), (1, .int (zI x1)), (2, .int (zI x2))] dX12_rests_46 (by decide) rfl ?_
      have c48_4 : ∀ (m_c48_4 : Nat) (v85 : Int) (v86 : Int) (v87 : Int), 2147483648 - v87 < m_c48_4 → ((-2147483648) ≤ v85 ∧ v85 ≤ 2147483647) → ((-1) ≤ v86 ∧ v86 ≤ 3000) → (0 ≤ v87 ∧ v87 ≤ 13) → JJ X E 7 G s1 0 0 [(0, .ref a), (1, .int (zI x1)), (2, .int (zI x2)), (3, .int (zI v85)), (4, .int (zI v86)), (5, .int (zI v87))] 48 [] := by
        intro m_c48_4
        induction m_c48_4 with
        | zero => intro v85 v86 v87 hm_c48_4 fA5 fA6 fA7; exfalso; omega
        | succ m_c48_4 ih_c48_4 => 
          intro v85 v86 v87 hm_c48_4 fA5 fA6 fA7
          refine j_iload hx 5 dX12_rests_48 rfl ?_
          refine j_aload_n hx 0 dX12_rests_50 rfl ?_
          have f88 := zf hS0 ha (k := 26) rfl
          refine g13_26 hx hG ha kf_RX12_195 (v := (s0 a 26)) (by rw [e_s1, zU_at (Or.inr (by decide))]) dX12_rests_51 ?_
          refine j_icmp_gt hx 127 dX12_rests_54 rfl (by omega) (by omega) (fun h89 => ?_) (fun h89 => ?_)
          · skip
            refine j_iload_n hx 2 dX12_rests_127 rfl ?_
            refine j_if_ne hx 135 dX12_rests_128 rfl (by omega) (fun h90 => ?_) (fun h90 => ?_)
            · skip
              refine j_iload hx 4 dX12_rests_135 rfl ?_
              have g91 : s1 a 3 = s0 a 3 := (by rw [e_s1, zU_at (Or.inr (by decide))])
              have f92 := zf hS0 ha (k := 3) rfl
              have g93 : s1 a 4 = s0 a 4 := (by rw [e_s1, zU_at (Or.inr (by decide))])
              have f94 := zf hS0 ha (k := 4) rfl
              have g95 : s1 a 5 = s0 a 5 := (by rw [e_s1, zU_at (Or.inr (by decide))])
              have f96 := zf hS0 ha (k := 5) rfl
              have g97 : s1 a 7 = s0 a 7 := (by rw [e_s1, zU_at (Or.inr (by decide))])
              have f98 := zf hS0 ha (k := 7) rfl
              have g99 : s1 a 21 = s0 a 21 := (by rw [e_s1, zU_at (Or.inr (by decide))])
              have f100 := zf hS0 ha (k := 21) rfl
              have g101 : s1 a 22 = s0 a 22 := (by rw [e_s1, zU_at (Or.inr (by decide))])
              have f102 := zf hS0 ha (k := 22) rfl
              have g103 : s1 a 23 = s0 a 23 := (by rw [e_s1, zU_at (Or.inr (by decide))])
              have f104 := zf hS0 ha (k := 23) rfl
              have g105 : s1 a 24 = s0 a 24 := (by rw [e_s1, zU_at (Or.inr (by decide))])
              have f106 := zf hS0 ha (k := 24) rfl
              have g107 : s1 a 38 = s0 a 38 := (by rw [e_s1, zU_at (Or.inr (by decide))])
              have f108 := zf hS0 ha (k := 38) rfl
              have g109 : s1 a 51 = s0 a 51 := (by rw [e_s1, zU_at (Or.inr (by decide))])
              have f110 := zf hS0 ha (k := 51) rfl
              have g111 : s1 a 52 = s0 a 52 := (by rw [e_s1, zU_at (Or.inr (by decide))])
              have f112 := zf hS0 ha (k := 52) rfl
              exact j_iret hx hq rfl (by decide) (by decide) dX12_rests_137 ⟨v86, rfl, rfl, hS_s1, (zFr_u zFr_rf e_s1 ha (by decide)), ⟨(by omega), by omega, by omega, by omega, by omega, by omega, by omega, by omega, by omega, by omega, by omega, by omega⟩⟩
            · skip
              refine j_iload_n hx 3 dX12_rests_131 rfl ?_
              refine j_goto hx 137 dX12_rests_132 rfl ?_
              have g113 : s1 a 3 = s0 a 3 := (by rw [e_s1, zU_at (Or.inr (by decide))])
              have f114 := zf hS0 ha (k := 3) rfl
              have g115 : s1 a 4 = s0 a 4 := (by rw [e_s1, zU_at (Or.inr (by decide))])
              have f116 := zf hS0 ha (k := 4) rfl
              have g117 : s1 a 5 = s0 a 5 := (by rw [e_s1, zU_at (Or.inr (by decide))])
              have f118 := zf hS0 ha (k := 5) rfl
              have g119 : s1 a 7 = s0 a 7 := (by rw [e_s1, zU_at (Or.inr (by decide))])
              have f120 := zf hS0 ha (k := 7) rfl
              have g121 : s1 a 21 = s0 a 21 := (by rw [e_s1, zU_at (Or.inr (by decide))])
              have f122 := zf hS0 ha (k := 21) rfl
              have g123 : s1 a 22 = s0 a 22 := (by rw [e_s1, zU_at (Or.inr (by decide))])
              have f124 := zf hS0 ha (k := 22) rfl
              have g125 : s1 a 23 = s0 a 23 := (by rw [e_s1, zU_at (Or.inr (by decide))])
              have f126 := zf hS0 ha (k := 23) rfl
              have g127 : s1 a 24 = s0 a 24 := (by rw [e_s1, zU_at (Or.inr (by decide))])
              have f128 := zf hS0 ha (k := 24) rfl
              have g129 : s1 a 38 = s0 a 38 := (by rw [e_s1, zU_at (Or.inr (by decide))])
              have f130 := zf hS0 ha (k := 38) rfl
              have g131 : s1 a 51 = s0 a 51 := (by rw [e_s1, zU_at (Or.inr (by decide))])
              have f132 := zf hS0 ha (k := 51) rfl
              have g133 : s1 a 52 = s0 a 52 := (by rw [e_s1, zU_at (Or.inr (by decide))])
              have f134 := zf hS0 ha (k := 52) rfl
              exact j_iret hx hq rfl (by decide) (by decide) dX12_rests_137 ⟨v85, rfl, rfl, hS_s1, (zFr_u zFr_rf e_s1 ha (by decide)), ⟨(by omega), by omega, by omega, by omega, by omega, by omega, by omega, by omega, by omega, by omega, by omega, by omega⟩⟩
          · skip
            refine j_iconst hx dX12_rests_57 ?_
            refine j_istore hx [(6, .int (zI 0)), (0, .ref a), (1, .int (zI x1)), (2, .int (zI x2)), (3, .int (zI v85)), (4, .int (zI v86)), (5, .int (zI v87))] dX12_rests_58 (by decide) rfl ?_
            have c60_8 : ∀ (m_c60_8 : Nat) (v135 : Int) (v136 : Int) (v137 : Int), 2147483648 - v137 < m_c60_8 → ((-2147483648) ≤ v135 ∧ v135 ≤ 2147483647) → ((-1) ≤ v136 ∧ v136 ≤ 3000) → (0 ≤ v137 ∧ v137 ≤ 13) → JJ X E 7 G s1 0 0 [(0, .ref a), (1, .int (zI x1)), (2, .int (zI x2)), (3, .int (zI v135)), (4, .int (zI v136)), (5, .int (zI v87)), (6, .int (zI v137))] 60 [] := by
              intro m_c60_8
              induction m_c60_8 with
              | zero => intro v135 v136 v137 hm_c60_8 fA9 fA10 fA11; exfalso; omega
              | succ m_c60_8 ih_c60_8 => 
                intro v135 v136 v137 hm_c60_8 fA9 fA10 fA11
                refine j_iload hx 6 dX12_rests_60 rfl ?_
                refine j_aload_n hx 0 dX12_rests_62 rfl ?_
                refine g13_26 hx hG ha kf_RX12_195 (v := (s0 a 26)) (by rw [e_s1, zU_at (Or.inr (by decide))]) dX12_rests_63 ?_
                refine j_icmp_gt hx 121 dX12_rests_66 rfl (by omega) (by omega) (fun h138 => ?_) (fun h138 => ?_)
                · skip
                  refine j_iinc hx 5 [(5, .int (zI (v87 + 1))), (0, .ref a), (1, .int (zI x1)), (2, .int (zI x2)), (3, .int (zI v135)), (4, .int (zI v136)), (6, .int (zI v137))] dX12_rests_121 rfl (by omega) (by decide) rfl ?_
                  refine j_goto hx 48 dX12_rests_124 rfl ?_
                  exact j_sub [1, 2, 3, 4, 5, 0] [(0, .ref a), (1, .int (zI x1)), (2, .int (zI x2)), (3, .int (zI v135)), (4, .int (zI v136)), (5, .int (zI (v87 + 1)))] rfl (ih_c48_4 v135 v136 (v87 + 1) (by omega) (by omega) (by omega) (by omega))
                · skip
                  refine j_aload_n hx 0 dX12_rests_69 rfl ?_
                  refine j_iload hx 5 dX12_rests_70 rfl ?_
                  refine j_iload hx 6 dX12_rests_72 rfl ?_
                  refine j_iload_n hx 1 dX12_rests_74 rfl ?_
                  refine j_callV hx hG (c_X12_isBest hst a v87 v137 x1) lk_RX12_472 ha (by decide) rfl rfl rfl rfl [.int (zI v87), .int (zI v137), .int (zI x1)] ⟨rfl, hG, hS_s1, ha, (by omega), (by omega), (by omega)⟩ rfl rfl ⟨by decide, by decide⟩ ⟨by decide, by decide⟩ (k2 := 0) (n2 := 0) rfl rfl (Nat.le_of_ble_eq_true rfl) dX12_rests_75 (kIP (fun v139 q140 => ?_))
                  refine j_if_eq hx 115 dX12_rests_78 rfl (by omega) (fun h141 => ?_) (fun h141 => ?_)
                  · skip
                    refine j_iinc hx 6 [(6, .int (zI (v137 + 1))), (0, .ref a), (1, .int (zI x1)), (2, .int (zI x2)), (3, .int (zI v135)), (4, .int (zI v136)), (5, .int (zI v87))] dX12_rests_115 rfl (by omega) (by decide) rfl ?_
                    refine j_goto hx 60 dX12_rests_118 rfl ?_
                    exact j_sub [1, 2, 3, 4, 5, 6, 0] [(0, .ref a), (1, .int (zI x1)), (2, .int (zI x2)), (3, .int (zI v135)), (4, .int (zI v136)), (5, .int (zI v87)), (6, .int (zI (v137 + 1)))] rfl (ih_c60_8 v135 v136 (v137 + 1) (by omega) (by omega) (by omega) (by omega))
                  · skip
                    refine j_aload_n hx 0 dX12_rests_81 rfl ?_
                    refine j_iload hx 6 dX12_rests_82 rfl ?_
                    refine j_iload hx 5 dX12_rests_84 rfl ?_
                    refine j_iload_n hx 1 dX12_rests_86 rfl ?_
                    refine j_callV hx hG (c_X12_isBest hst a v137 v87 x1) lk_RX12_472 ha (by decide) rfl rfl rfl rfl [.int (zI v137), .int (zI v87), .int (zI x1)] ⟨rfl, hG, hS_s1, ha, (by omega), (by omega), (by omega)⟩ rfl rfl ⟨by decide, by decide⟩ ⟨by decide, by decide⟩ (k2 := 0) (n2 := 0) rfl rfl (Nat.le_of_ble_eq_true rfl) dX12_rests_87 (kIP (fun v142 q143 => ?_))
                    refine j_if_ne hx 96 dX12_rests_90 rfl (by omega) (fun h144 => ?_) (fun h144 => ?_)
                    · skip
                      refine j_iincN hx 3 (fun v145 => [(3, .int (zI v145)), (0, .ref a), (1, .int (zI x1)), (2, .int (zI x2)), (4, .int (zI v136)), (5, .int (zI v87)), (6, .int (zI v137))]) dX12_rests_96 rfl (by decide) (fun _ => rfl) (fun v145 f146 f147 f148 => ?_)
                      refine j_iload hx 4 dX12_rests_99 rfl ?_
                      refine j_iconst hx dX12_rests_101 ?_
                      refine j_icmp_ne hx 115 dX12_rests_102 rfl (by omega) ⟨by decide, by decide⟩ (fun h149 => ?_) (fun h149 => ?_)
                      · skip
                        refine j_iinc hx 6 [(6, .int (zI (v137 + 1))), (3, .int (zI v145)), (0, .ref a), (1, .int (zI x1)), (2, .int (zI x2)), (4, .int (zI v136)), (5, .int (zI v87))] dX12_rests_115 rfl (by omega) (by decide) rfl ?_
                        refine j_goto hx 60 dX12_rests_118 rfl ?_
                        exact j_sub [2, 3, 4, 1, 5, 6, 0] [(0, .ref a), (1, .int (zI x1)), (2, .int (zI x2)), (3, .int (zI v145)), (4, .int (zI v136)), (5, .int (zI v87)), (6, .int (zI (v137 + 1)))] rfl (ih_c60_8 v145 v136 (v137 + 1) (by omega) (by omega) (by omega) (by omega))
                      · skip
                        refine j_bipush hx dX12_rests_105 rfl ?_
                        refine j_iload hx 5 dX12_rests_107 rfl ?_
                        refine j_imul hx (r := 100 * v87) dX12_rests_109 rfl ?_
                        refine j_iload hx 6 dX12_rests_110 rfl ?_
                        refine j_iadd hx (r := 100 * v87 + v137) dX12_rests_112 (by omega) ?_
                        refine j_istore hx [(4, .int (zI (100 * v87 + v137))), (3, .int (zI v145)), (0, .ref a), (1, .int (zI x1)), (2, .int (zI x2)), (5, .int (zI v87)), (6, .int (zI v137))] dX12_rests_113 (by decide) rfl ?_
                        refine j_iinc hx 6 [(6, .int (zI (v137 + 1))), (4, .int (zI (100 * v87 + v137))), (3, .int (zI v145)), (0, .ref a), (1, .int (zI x1)), (2, .int (zI x2)), (5, .int (zI v87))] dX12_rests_115 rfl (by omega) (by decide) rfl ?_
                        refine j_goto hx 60 dX12_rests_118 rfl ?_
                        exact j_sub [3, 4, 5, 2, 1, 6, 0] [(0, .ref a), (1, .int (zI x1)), (2, .int (zI x2)), (3, .int (zI v145)), (4, .int (zI (100 * v87 + v137))), (5, .int (zI v87)), (6, .int (zI (v137 + 1)))] rfl (ih_c60_8 v145 (100 * v87 + v137) (v137 + 1) (by omega) (by omega) (by omega) (by omega))
                    · skip
                      refine j_goto hx 115 dX12_rests_93 rfl ?_
                      refine j_iinc hx 6 [(6, .int (zI (v137 + 1))), (0, .ref a), (1, .int (zI x1)), (2, .int (zI x2)), (3, .int (zI v135)), (4, .int (zI v136)), (5, .int (zI v87))] dX12_rests_115 rfl (by omega) (by decide) rfl ?_
                      refine j_goto hx 60 dX12_rests_118 rfl ?_
                      exact j_sub [1, 2, 3, 4, 5, 6, 0] [(0, .ref a), (1, .int (zI x1)), (2, .int (zI x2)), (3, .int (zI v135)), (4, .int (zI v136)), (5, .int (zI v87)), (6, .int (zI (v137 + 1)))] rfl (ih_c60_8 v135 v136 (v137 + 1) (by omega) (by omega) (by omega) (by omega))
            exact j_sub [1, 2, 3, 4, 5, 6, 0] [(0, .ref a), (1, .int (zI x1)), (2, .int (zI x2)), (3, .int (zI v85)), (4, .int (zI v86)), (5, .int (zI v87)), (6, .int (zI 0))] rfl (c60_8 (2147483648 * 4) v85 v86 0 (by omega) (by omega) (by omega) (by omega))
      exact j_sub [3, 4, 5, 2, 1, 0] [(0, .ref a), (1, .int (zI x1)), (2, .int (zI x2)), (3, .int (zI 0)), (4, .int (zI (-1))), (5, .int (zI 0))] rfl (c48_4 (2147483648 * 4) 0 (-1) 0 (by omega) (by omega) (by omega) (by omega))

set_option maxHeartbeats 1200000 in
set_option maxRecDepth 20000 in
theorem c_X12_ones {E : zE} {l : Launch} (hst : l.stackTraces = false) (x0 : Int) : Con E l yX12_ones cX12_ones 3 (some .int) { frames := 0, cells := 0, slots := 0, locals := 0 } (fun G s vs => vs = [.int (zI x0)] ∧ zGK G ∧ zSK G s ∧ (0 ≤ x0 ∧ x0 ≤ 4095)) (fun G s _ => pI (fun r G2 s2 => G2 = G ∧ s2 = s ∧ (0 ≤ r ∧ r ≤ 4095))) := by
  refine Con.mk hst (by decide) (fun G s vs h => by rw [h.1]; exact Nat.le_of_ble_eq_true rfl) ?_
  rintro X G s0 vs ⟨rfl, hG, hS0, hx0⟩ rfl hx hq
  show JJ X E 3 G s0 0 0 [(0, .int (zI x0))] 0 []
  refine j_iconst hx dX12_ones_0 ?_
  refine j_istore_n hx [(1, .int (zI 0)), (0, .int (zI x0))] dX12_ones_1 (by decide) rfl ?_
  refine j_iload_n hx 1 dX12_ones_2 rfl ?_
  refine j_istore_n hx [(2, .int (zI x0)), (1, .int (zI 0)), (0, .int (zI x0))] dX12_ones_3 (by decide) rfl ?_
  have c4_1 : ∀ (m_c4_1 : Nat) (v1 : Int) (v2 : Int), v2 < m_c4_1 → (0 ≤ v1 ∧ v1 ≤ 4095) → (0 ≤ v2 ∧ v2 ≤ 4095) → (v1 + v2 ≤ 4095) → JJ X E 3 G s0 0 0 [(1, .int (zI v1)), (2, .int (zI v2))] 4 [] := by
    intro m_c4_1
    induction m_c4_1 with
    | zero => intro v1 v2 hm_c4_1 fA2 fA3 fA4; exfalso; omega
    | succ m_c4_1 ih_c4_1 => 
      intro v1 v2 hm_c4_1 fA2 fA3 fA4
      refine j_iload_n hx 1 dX12_ones_4 rfl ?_
      refine j_if_eq hx 20 dX12_ones_5 rfl (by omega) (fun h3 => ?_) (fun h3 => ?_)
      · skip
        refine j_iload_n hx 0 dX12_ones_20 rfl ?_
        exact j_iret hx hq rfl (by decide) (by decide) dX12_ones_21 ⟨v1, rfl, rfl, rfl, (by omega)⟩
      · skip
        refine j_iinc hx 0 [(1, .int (zI (v1 + 1))), (2, .int (zI v2))] dX12_ones_8 rfl (by omega) (by decide) rfl ?_
        refine j_iload_n hx 1 dX12_ones_11 rfl ?_
        refine j_iload_n hx 1 dX12_ones_12 rfl ?_
        refine j_iconst hx dX12_ones_13 ?_
        refine j_isub hx (r := v2 - 1) dX12_ones_14 rfl ?_
        refine j_iand hx dX12_ones_15 (by omega) (by omega) (fun v4 f5 f6 f7 f8 _ => ?_)
        refine j_istore_n hx [(2, .int (zI v4)), (1, .int (zI (v1 + 1)))] dX12_ones_16 (by decide) rfl ?_
        refine j_goto hx 4 dX12_ones_17 rfl ?_
        exact j_sub [1, 0] [(1, .int (zI (v1 + 1))), (2, .int (zI v4))] rfl (ih_c4_1 (v1 + 1) v4 (by omega) (by omega) (by omega) (by omega))
  exact j_sub [1, 0] [(1, .int (zI 0)), (2, .int (zI x0))] rfl (c4_1 (2147483648 * 4) 0 x0 (by omega) (by omega) (by omega) (by omega))

set_option maxHeartbeats 1200000 in
set_option maxRecDepth 20000 in
theorem c_X12_rememberedBy {E : zE} {l : Launch} (hst : l.stackTraces = false) (a : Nat) (x1 : Int) (x2 : Int) : Con E l yX12_rememberedBy cX12_rememberedBy 6 (some .int) { frames := 5, cells := 0, slots := 0, locals := 118 } (fun G s vs => vs = [.ref a, .int (zI x1), .int (zI x2)] ∧ zGK G ∧ zSK G s ∧ (gT G a = 13) ∧ (0 ≤ x1 ∧ x1 ≤ 2) ∧ (0 ≤ x2 ∧ x2 ≤ 4095) ∧ (zc (s (gP G a 27)) ≤ 60) ∧ (s (gP G a 27) 488 ≤ 598000)) (fun G s _ => pI (fun r G2 s2 => G2 = G ∧ zSK G s2 ∧ zFr [13, 84, 87] G s s2 ∧ (0 ≤ r ∧ r ≤ 120) ∧ zc (s2 (gP G a 27)) = zc (s (gP G a 46)) ∧ s2 (gP G a 27) 488 = s (gP G a 46) 488 ∧ s2 a 0 = s a 0 ∧ s2 a 3 = s a 3 ∧ s2 a 4 = s a 4 ∧ s2 a 5 = s a 5 ∧ s2 a 7 = s a 7 ∧ s2 a 21 = s a 21 ∧ s2 a 22 = s a 22 ∧ s2 a 23 = s a 23 ∧ s2 a 24 = s a 24 ∧ s2 a 38 = s a 38 ∧ s2 a 51 = s a 51 ∧ s2 a 52 = s a 52)) := by
  refine Con.mk hst (by decide) (fun G s vs h => by rw [h.1]; exact Nat.le_of_ble_eq_true rfl) ?_
  rintro X G s0 vs ⟨rfl, hG, hS0, ha, hx1, hx2, e0, e1⟩ rfl hx hq
  show JJ X E 6 G s0 0 0 [(0, .ref a), (1, .int (zI x1)), (2, .int (zI x2))] 0 []
  refine j_iconst hx dX12_rememberedBy_0 ?_
  refine j_istore_n hx [(3, .int (zI 1)), (0, .ref a), (1, .int (zI x1)), (2, .int (zI x2))] dX12_rememberedBy_1 (by decide) rfl ?_
  refine j_iconst hx dX12_rememberedBy_2 ?_
  refine j_istore hx [(4, .int (zI 0)), (3, .int (zI 1)), (0, .ref a), (1, .int (zI x1)), (2, .int (zI x2))] dX12_rememberedBy_3 (by decide) rfl ?_
  have f3 := zf hS0 ha (k := 0) rfl
  have f4 := zf hS0 ha (k := 3) rfl
  have f5 := zf hS0 ha (k := 4) rfl
  have f6 := zf hS0 ha (k := 5) rfl
  have f7 := zf hS0 ha (k := 7) rfl
  have f8 := zf hS0 ha (k := 21) rfl
  have f9 := zf hS0 ha (k := 22) rfl
  have f10 := zf hS0 ha (k := 23) rfl
  have f11 := zf hS0 ha (k := 24) rfl
  have f12 := zf hS0 ha (k := 38) rfl
  have f13 := zf hS0 ha (k := 51) rfl
  have f14 := zf hS0 ha (k := 52) rfl
  have c5_1 : ∀ (m_c5_1 : Nat) (v1 : Int) (v2 : Int) (s2 : zS), 2147483648 - v2 < m_c5_1 → (0 ≤ v1 ∧ v1 ≤ 1) → (0 ≤ v2 ∧ v2 ≤ 12) → (zSK G s2) → (zFr [13, 84] G s0 s2) → (s2 a 0 = s0 a 0) → (s2 a 3 = s0 a 3) → (s2 a 4 = s0 a 4) → (s2 a 5 = s0 a 5) → (s2 a 7 = s0 a 7) → (s2 a 21 = s0 a 21) → (s2 a 22 = s0 a 22) → (s2 a 23 = s0 a 23) → (s2 a 24 = s0 a 24) → (s2 a 38 = s0 a 38) → (s2 a 51 = s0 a 51) → (s2 a 52 = s0 a 52) → (zc (s2 (gP G a 27)) = zc (s0 (gP G a 27))) → (s2 (gP G a 27) 488 ≤ s0 (gP G a 27) 488 + v2) → JJ X E 6 G s2 0 0 [(0, .ref a), (1, .int (zI x1)), (2, .int (zI x2)), (3, .int (zI v1)), (4, .int (zI v2))] 5 [] := by
    intro m_c5_1
    induction m_c5_1 with
    | zero => intro v1 v2 s2 hm_c5_1 fA3 fA4 hS_s2 hF_s2 fA7 fA8 fA9 fA10 fA11 fA12 fA13 fA14 fA15 fA16 fA17 fA18 fA19 fA20; exfalso; omega
    | succ m_c5_1 ih_c5_1 => 
      intro v1 v2 s2 hm_c5_1 fA3 fA4 hS_s2 hF_s2 fA7 fA8 fA9 fA10 fA11 fA12 fA13 fA14 fA15 fA16 fA17 fA18 fA19 fA20
      refine j_iload hx 4 dX12_rememberedBy_5 rfl ?_
      refine j_bipush hx dX12_rememberedBy_7 rfl ?_
      have c60_21 : JJ X E 6 G s2 0 0 [(0, .ref a), (1, .int (zI x1))] 60 [] := by
        refine j_aload_n hx 0 dX12_rememberedBy_60 rfl ?_
        refine j_iload_n hx 1 dX12_rememberedBy_61 rfl ?_
        refine j_callV hx hG (c_X12_held hst a x1) lk_RX12_322 ha (by decide) rfl rfl rfl rfl [.int (zI x1)] ⟨rfl, hG, hS_s2, ha, (by omega)⟩ rfl rfl ⟨by decide, by decide⟩ ⟨by decide, by decide⟩ (k2 := 0) (n2 := 0) rfl rfl (Nat.le_of_ble_eq_true rfl) dX12_rememberedBy_62 (kIP (fun v15 q16 => ?_))
        refine j_istore hx [(4, .int (zI v15)), (0, .ref a), (1, .int (zI x1))] dX12_rememberedBy_65 (by decide) rfl ?_
        refine j_aload_n hx 1 dX12_rememberedBy_67 rfl ?_
        have g17 : zc (s2 (gP G a 46)) = zc (s0 (gP G a 46)) := by rw [hF_s2 (gP G a 46) (by rw [(zr (k := 46) (t2 := 99) hG ha rfl)]; decide)]
        have g18 : s2 (gP G a 46) 488 = s0 (gP G a 46) 488 := (by rw [(zFr_g hF_s2 (zr (k := 46) (t2 := 99) hG ha rfl) (by decide))])
        refine j_callV hx hG (c_X12_back hst a) lk_RX12_450 ha (by decide) rfl rfl rfl rfl [] ⟨rfl, hG, hS_s2, ha⟩ rfl rfl ⟨by decide, by decide⟩ ⟨by decide, by decide⟩ (k2 := 0) (n2 := 0) rfl rfl (Nat.le_of_ble_eq_true rfl) dX12_rememberedBy_68 (kVM (fun s22 hS_s22 hF_s22 q20 => ?_))
        refine j_iload hx 0 dX12_rememberedBy_71 rfl ?_
        have g21 : s22 a 0 = s2 a 0 := (by rw [(zFr_g hF_s22 ha (by decide))])
        have f22 := zf hS_s2 ha (k := 0) rfl
        have g23 : s22 a 3 = s2 a 3 := (by rw [(zFr_g hF_s22 ha (by decide))])
        have f24 := zf hS_s2 ha (k := 3) rfl
        have g25 : s22 a 4 = s2 a 4 := (by rw [(zFr_g hF_s22 ha (by decide))])
        have f26 := zf hS_s2 ha (k := 4) rfl
        have g27 : s22 a 5 = s2 a 5 := (by rw [(zFr_g hF_s22 ha (by decide))])
        have f28 := zf hS_s2 ha (k := 5) rfl
        have g29 : s22 a 7 = s2 a 7 := (by rw [(zFr_g hF_s22 ha (by decide))])
        have f30 := zf hS_s2 ha (k := 7) rfl
        have g31 : s22 a 21 = s2 a 21 := (by rw [(zFr_g hF_s22 ha (by decide))])
        have f32 := zf hS_s2 ha (k := 21) rfl
        have g33 : s22 a 22 = s2 a 22 := (by rw [(zFr_g hF_s22 ha (by decide))])
        have f34 := zf hS_s2 ha (k := 22) rfl
        have g35 : s22 a 23 = s2 a 23 := (by rw [(zFr_g hF_s22 ha (by decide))])
        have f36 := zf hS_s2 ha (k := 23) rfl
        have g37 : s22 a 24 = s2 a 24 := (by rw [(zFr_g hF_s22 ha (by decide))])
        have f38 := zf hS_s2 ha (k := 24) rfl
        have g39 : s22 a 38 = s2 a 38 := (by rw [(zFr_g hF_s22 ha (by decide))])
        have f40 := zf hS_s2 ha (k := 38) rfl
        have g41 : s22 a 51 = s2 a 51 := (by rw [(zFr_g hF_s22 ha (by decide))])
        have f42 := zf hS_s2 ha (k := 51) rfl
        have g43 : s22 a 52 = s2 a 52 := (by rw [(zFr_g hF_s22 ha (by decide))])
        have f44 := zf hS_s2 ha (k := 52) rfl
        exact j_iret hx hq rfl (by decide) (by decide) dX12_rememberedBy_73 ⟨v15, rfl, rfl, hS_s22, (zFr_t (zFr_t zFr_rf hF_s2 (by decide)) hF_s22 (by decide)), ⟨(by omega), by omega, by omega, by omega, by omega, by omega, by omega, by omega, by omega, by omega, by omega, by omega, by omega, by omega, by omega⟩⟩
      refine j_icmp_ge hx 60 dX12_rememberedBy_9 rfl (by omega) ⟨by decide, by decide⟩ (fun h45 => ?_) (fun h45 => ?_)
      · skip
        exact j_sub [0, 1] [(0, .ref a), (1, .int (zI x1))] rfl (c60_21  )
      · skip
        refine j_iload_n hx 3 dX12_rememberedBy_12 rfl ?_
        refine j_if_eq hx 60 dX12_rememberedBy_13 rfl (by omega) (fun h46 => ?_) (fun h46 => ?_)
        · skip
          exact j_sub [0, 1] [(0, .ref a), (1, .int (zI x1))] rfl (c60_21  )
        · skip
          refine j_aload_n hx 0 dX12_rememberedBy_16 rfl ?_
          refine j_iload_n hx 1 dX12_rememberedBy_17 rfl ?_
          refine j_callV hx hG (c_X12_next hst a x1) lk_RX12_331 ha (by decide) rfl rfl rfl rfl [.int (zI x1)] ⟨rfl, hG, hS_s2, ha, (by omega)⟩ rfl rfl ⟨by decide, by decide⟩ ⟨by decide, by decide⟩ (k2 := 0) (n2 := 0) rfl rfl (Nat.le_of_ble_eq_true rfl) dX12_rememberedBy_18 (kIP (fun v47 q48 => ?_))
          refine j_istore hx [(5, .int (zI v47)), (0, .ref a), (1, .int (zI x1)), (2, .int (zI x2)), (3, .int (zI v1)), (4, .int (zI v2))] dX12_rememberedBy_21 (by decide) rfl ?_
          refine j_aload_n hx 1 dX12_rememberedBy_23 rfl ?_
          refine j_iload_n hx 3 dX12_rememberedBy_24 rfl ?_
          refine j_iload hx 5 dX12_rememberedBy_25 rfl ?_
          refine j_ishrV hx dX12_rememberedBy_27 (fun v49 f50 f51 => ?_)
          refine j_iconst hx dX12_rememberedBy_28 ?_
          refine j_iand hx dX12_rememberedBy_29 (by omega) ⟨by decide, by decide⟩ (fun v52 f53 f54 f55 f56 _ => ?_)
          refine j_iconst hx dX12_rememberedBy_30 ?_
          have c50_23 : ∀ (v58 : Int), ((-1) ≤ v58 ∧ v58 ≤ 2) → JJ X E 6 G s2 0 0 [(0, .ref a), (1, .int (zI x1)), (2, .int (zI x2)), (4, .int (zI v2))] 50 [.int (zI v58), .ref a] := by
            intro v58 fA24
            have f59 := zf hS_s2 ha (k := 0) rfl
            have f60 := zf hS_s2 ha (k := 3) rfl
            have f61 := zf hS_s2 ha (k := 4) rfl
            have f62 := zf hS_s2 ha (k := 5) rfl
            have f63 := zf hS_s2 ha (k := 7) rfl
            have f64 := zf hS_s2 ha (k := 21) rfl
            have f65 := zf hS_s2 ha (k := 22) rfl
            have f66 := zf hS_s2 ha (k := 23) rfl
            have f67 := zf hS_s2 ha (k := 24) rfl
            have f68 := zf hS_s2 ha (k := 38) rfl
            have f69 := zf hS_s2 ha (k := 51) rfl
            have f70 := zf hS_s2 ha (k := 52) rfl
            refine j_callV hx hG (c_X12_turnFor hst a v58) lk_RX12_453 ha (by decide) rfl rfl rfl rfl [.int (zI v58)] ⟨rfl, hG, hS_s2, ha, (by omega), (by omega), (by omega)⟩ rfl rfl ⟨by decide, by decide⟩ ⟨by decide, by decide⟩ (k2 := 0) (n2 := 0) rfl rfl (Nat.le_of_ble_eq_true rfl) dX12_rememberedBy_50 (kIM (fun v71 s25 hS_s25 hF_s25 q72 => ?_))
            refine j_istore_n hx [(3, .int (zI v71)), (0, .ref a), (1, .int (zI x1)), (2, .int (zI x2)), (4, .int (zI v2))] dX12_rememberedBy_53 (by decide) rfl ?_
            refine j_iinc hx 4 [(4, .int (zI (v2 + 1))), (3, .int (zI v71)), (0, .ref a), (1, .int (zI x1)), (2, .int (zI x2))] dX12_rememberedBy_54 rfl (by omega) (by decide) rfl ?_
            refine j_goto hx 5 dX12_rememberedBy_57 rfl ?_
            have f73 := zf hS_s25 ha (k := 0) rfl
            have f74 := zf hS_s25 ha (k := 3) rfl
            have f75 := zf hS_s25 ha (k := 4) rfl
            have f76 := zf hS_s25 ha (k := 5) rfl
            have f77 := zf hS_s25 ha (k := 7) rfl
            have f78 := zf hS_s25 ha (k := 21) rfl
            have f79 := zf hS_s25 ha (k := 22) rfl
            have f80 := zf hS_s25 ha (k := 23) rfl
            have f81 := zf hS_s25 ha (k := 24) rfl
            have f82 := zf hS_s25 ha (k := 38) rfl
            have f83 := zf hS_s25 ha (k := 51) rfl
            have f84 := zf hS_s25 ha (k := 52) rfl
            exact j_sub [2, 3, 4, 1, 0] [(0, .ref a), (1, .int (zI x1)), (2, .int (zI x2)), (3, .int (zI v71)), (4, .int (zI (v2 + 1)))] rfl (ih_c5_1 v71 (v2 + 1) s25 (by omega) (by omega) (by omega) hS_s25 (zFr_t (zFr_t zFr_rf hF_s2 (by decide)) hF_s25 (by decide)) (by omega) (by omega) (by omega) (by omega) (by omega) (by omega) (by omega) (by omega) (by omega) (by omega) (by omega) (by omega) (by omega) (by omega))
          refine j_icmp_ne hx 38 dX12_rememberedBy_31 rfl (by omega) ⟨by decide, by decide⟩ (fun h85 => ?_) (fun h85 => ?_)
          · skip
            refine j_iload hx 0 dX12_rememberedBy_38 rfl ?_
            refine j_iload_n hx 2 dX12_rememberedBy_40 rfl ?_
            refine j_icmp_ne hx 48 dX12_rememberedBy_41 rfl (by omega) (by omega) (fun h86 => ?_) (fun h86 => ?_)
            · skip
              refine j_iload hx 0 dX12_rememberedBy_48 rfl ?_
              exact j_sub [1, 2, 3, 5] [(0, .ref a), (1, .int (zI x1)), (2, .int (zI x2)), (4, .int (zI v2))] rfl (c50_23 v47 (by omega))
            · skip
              refine j_iconst hx dX12_rememberedBy_44 ?_
              refine j_goto hx 50 dX12_rememberedBy_45 rfl ?_
              exact j_sub [1, 2, 3, 5] [(0, .ref a), (1, .int (zI x1)), (2, .int (zI x2)), (4, .int (zI v2))] rfl (c50_23 (-1) (by omega))
          · skip
            refine j_iload_n hx 2 dX12_rememberedBy_34 rfl ?_
            refine j_goto hx 50 dX12_rememberedBy_35 rfl ?_
            exact j_sub [1, 2, 3, 5] [(0, .ref a), (1, .int (zI x1)), (2, .int (zI x2)), (4, .int (zI v2))] rfl (c50_23 x1 (by omega))
  exact j_sub [2, 3, 4, 1, 0] [(0, .ref a), (1, .int (zI x1)), (2, .int (zI x2)), (3, .int (zI 1)), (4, .int (zI 0))] rfl (c5_1 (2147483648 * 4) 1 0 s0 (by omega) (by omega) (by omega) hS0 zFr_rf (by omega) (by omega) (by omega) (by omega) (by omega) (by omega) (by omega) (by omega) (by omega) (by omega) (by omega) (by omega) (by omega) (by omega))

theorem lk_RX12_475 : LkS RX12 475 yX12_ones cX12_ones 3 (some .int) 1 := ⟨km_RX12_475, kst_yX12_ones, kn_RX12, kc_yX12_ones, by decide +kernel, by decide +kernel, by decide +kernel⟩
theorem lk_RX12_478 : LkV RX12 478 RX12 yX12_rememberedBy cX12_rememberedBy 6 (some .int) 2 := ⟨km_RX12_478, ki_yX12_rememberedBy, ks_RX12_yX12_rememberedBy, kn_RX12, kc_yX12_rememberedBy, rfl, by decide +kernel, by decide +kernel, by decide +kernel⟩
set_option maxHeartbeats 1200000 in
set_option maxRecDepth 20000 in
theorem c_X12_remember {E : zE} {l : Launch} (hst : l.stackTraces = false) (a : Nat) (x1 : Int) (x2 : Int) (x3 : Int) : Con E l yX12_remember cX12_remember 8 (some .int) { frames := 6, cells := 0, slots := 0, locals := 143 } (fun G s vs => vs = [.ref a, .int (zI x1), .int (zI x2), .int (zI x3)] ∧ zGK G ∧ zSK G s ∧ (gT G a = 13) ∧ ((-2147483648) ≤ x1 ∧ x1 ≤ 2147483647) ∧ ((-2147483648) ≤ x2 ∧ x2 ≤ 2147483647) ∧ ((-2147483648) ≤ x3 ∧ x3 ≤ 2147483647) ∧ (zc (s (gP G a 27)) ≤ 60) ∧ (s (gP G a 27) 488 ≤ 520000)) (fun G s _ => pI (fun r G2 s2 => G2 = G ∧ zSK G s2 ∧ zFr [13, 71, 84, 87, 99, 100] G s s2 ∧ ((-2147483648) ≤ r ∧ r ≤ 2147483647) ∧ zc (s2 (gP G a 27)) = zc (s (gP G a 27)) ∧ s2 (gP G a 27) 488 = s (gP G a 27) 488 ∧ s2 a 3 = s a 3 ∧ s2 a 4 = s a 4 ∧ s2 a 5 = s a 5 ∧ s2 a 7 = s a 7 ∧ s2 a 21 = s a 21 ∧ s2 a 22 = s a 22 ∧ s2 a 23 = s a 23 ∧ s2 a 24 = s a 24 ∧ s2 a 38 = s a 38 ∧ s2 a 51 = s a 51 ∧ s2 a 52 = s a 52)) := by
  refine Con.mk hst (by decide) (fun G s vs h => by rw [h.1]; exact Nat.le_of_ble_eq_true rfl) ?_
  rintro X G s0 vs ⟨rfl, hG, hS0, ha, hx1, hx2, hx3, e0, e1⟩ rfl hx hq
  show JJ X E 8 G s0 0 0 [(0, .ref a), (1, .int (zI x1)), (2, .int (zI x2)), (3, .int (zI x3))] 0 []
  refine j_aload_n hx 0 dX12_remember_0 rfl ?_
  refine j_iconst hx dX12_remember_1 ?_
  refine p13_0 hx hG ha kf_RX12_3 dX12_remember_2 ?_
  obtain ⟨s1, e_s1⟩ : ∃ z, z = zU s0 a 0 0 := ⟨_, rfl⟩
  rw [← e_s1]
  have hS_s1 : zSK G s1 := by rw [e_s1]; exact zSK_F hS0 ha rfl rfl rfl (by omega)
  refine j_aload_n hx 0 dX12_remember_5 rfl ?_
  refine j_iload_n hx 1 dX12_remember_6 rfl ?_
  refine j_iconst hx dX12_remember_7 ?_
  have g1 : s1 a 0 = 0 := (by rw [e_s1, zU_eq])
  have g2 : s1 a 24 = s0 a 24 := (by rw [e_s1, zU_at (Or.inr (by decide))])
  have f3 := zf hS0 ha (k := 24) rfl
  have g4 : s1 a 3 = s0 a 3 := (by rw [e_s1, zU_at (Or.inr (by decide))])
  have f5 := zf hS0 ha (k := 3) rfl
  have g6 : s1 a 4 = s0 a 4 := (by rw [e_s1, zU_at (Or.inr (by decide))])
  have f7 := zf hS0 ha (k := 4) rfl
  have g8 : s1 a 5 = s0 a 5 := (by rw [e_s1, zU_at (Or.inr (by decide))])
  have f9 := zf hS0 ha (k := 5) rfl
  have g10 : s1 a 7 = s0 a 7 := (by rw [e_s1, zU_at (Or.inr (by decide))])
  have f11 := zf hS0 ha (k := 7) rfl
  have g12 : s1 a 21 = s0 a 21 := (by rw [e_s1, zU_at (Or.inr (by decide))])
  have f13 := zf hS0 ha (k := 21) rfl
  have g14 : s1 a 22 = s0 a 22 := (by rw [e_s1, zU_at (Or.inr (by decide))])
  have f15 := zf hS0 ha (k := 22) rfl
  have g16 : s1 a 23 = s0 a 23 := (by rw [e_s1, zU_at (Or.inr (by decide))])
  have f17 := zf hS0 ha (k := 23) rfl
  have g18 : s1 a 38 = s0 a 38 := (by rw [e_s1, zU_at (Or.inr (by decide))])
  have f19 := zf hS0 ha (k := 38) rfl
  have g20 : s1 a 51 = s0 a 51 := (by rw [e_s1, zU_at (Or.inr (by decide))])
  have f21 := zf hS0 ha (k := 51) rfl
  have g22 : s1 a 52 = s0 a 52 := (by rw [e_s1, zU_at (Or.inr (by decide))])
  have f23 := zf hS0 ha (k := 52) rfl
  refine j_callV hx hG (c_X12_isPlayer hst a x1 1) lk_RX12_339 ha (by decide) rfl rfl rfl rfl [.int (zI x1), .int (zI 1)] ⟨rfl, hG, hS_s1, ha, (by omega), (by omega), (((by rw [e_s1, zU_eq]) : s1 a 0 = 0).trans (by omega))⟩ rfl rfl ⟨by decide, by decide⟩ ⟨by decide, by decide⟩ (k2 := 0) (n2 := 0) rfl rfl (Nat.le_of_ble_eq_true rfl) dX12_remember_8 (kIM (fun v24 s2 hS_s2 hF_s2 q25 => ?_))
  refine j_if_eq hx 46 dX12_remember_11 rfl (by omega) (fun h26 => ?_) (fun h26 => ?_)
  · skip
    refine j_iconst hx dX12_remember_46 ?_
    have g27 : zc (s2 (gP G a 27)) = zc (s0 (gP G a 27)) := by rw [hF_s2 (gP G a 27) (by rw [(zr (k := 27) (t2 := 84) hG ha rfl)]; decide), e_s1, zU_ne (zne ha (zr (k := 27) (t2 := 84) hG ha rfl) (by decide))]
    have g28 : s2 (gP G a 27) 488 = s0 (gP G a 27) 488 := (by rw [(zFr_g hF_s2 (zr (k := 27) (t2 := 84) hG ha rfl) (by decide)), e_s1, zU_at (Or.inl (zne ha (zr (k := 27) (t2 := 84) hG ha rfl) (by decide)))])
    have f29 := zf hS_s2 ha (k := 3) rfl
    have f30 := zf hS_s2 ha (k := 4) rfl
    have f31 := zf hS_s2 ha (k := 5) rfl
    have f32 := zf hS_s2 ha (k := 7) rfl
    have f33 := zf hS_s2 ha (k := 21) rfl
    have f34 := zf hS_s2 ha (k := 22) rfl
    have f35 := zf hS_s2 ha (k := 23) rfl
    have f36 := zf hS_s2 ha (k := 24) rfl
    have f37 := zf hS_s2 ha (k := 38) rfl
    have f38 := zf hS_s2 ha (k := 51) rfl
    have f39 := zf hS_s2 ha (k := 52) rfl
    exact j_iret hx hq rfl (by decide) (by decide) dX12_remember_47 ⟨0, rfl, rfl, hS_s2, (zFr_t (zFr_u zFr_rf e_s1 ha (by decide)) hF_s2 (by decide)), ⟨(by omega), by omega, by omega, by omega, by omega, by omega, by omega, by omega, by omega, by omega, by omega, by omega, by omega, by omega⟩⟩
  · skip
    refine j_aload_n hx 0 dX12_remember_14 rfl ?_
    refine j_iload_n hx 2 dX12_remember_15 rfl ?_
    refine j_iconst hx dX12_remember_16 ?_
    refine j_iconst hx dX12_remember_17 ?_
    refine j_callS hx (c_X12_within hst x2 0 4) lk_RX12_314 [.int (zI x2), .int (zI 0), .int (zI 4)] ⟨rfl, hG, hS_s2, (by omega), (by omega), (by omega)⟩ rfl rfl ⟨by decide, by decide⟩ ⟨by decide, by decide⟩ (k2 := 0) (n2 := 0) rfl rfl (Nat.le_of_ble_eq_true rfl) dX12_remember_18 (kIP (fun v40 q41 => ?_))
    refine j_if_eq hx 37 dX12_remember_21 rfl (by omega) (fun h42 => ?_) (fun h42 => ?_)
    · skip
      refine j_iconst hx dX12_remember_37 ?_
      refine j_iconst hx dX12_remember_38 ?_
      refine j_iconst hx dX12_remember_39 ?_
      have f43 := zf hS_s2 ha (k := 0) rfl
      have f44 := zf hS_s2 ha (k := 3) rfl
      have f45 := zf hS_s2 ha (k := 4) rfl
      have f46 := zf hS_s2 ha (k := 5) rfl
      have f47 := zf hS_s2 ha (k := 7) rfl
      have f48 := zf hS_s2 ha (k := 21) rfl
      have f49 := zf hS_s2 ha (k := 22) rfl
      have f50 := zf hS_s2 ha (k := 23) rfl
      have f51 := zf hS_s2 ha (k := 24) rfl
      have f52 := zf hS_s2 ha (k := 38) rfl
      have f53 := zf hS_s2 ha (k := 51) rfl
      have f54 := zf hS_s2 ha (k := 52) rfl
      refine j_callV hx hG (c_X12_may_f hst a 0 2 1) lk_RX12_240 ha (by decide) rfl rfl rfl rfl [.int (zI 0), .int (zI 2), .int (zI 1)] ⟨rfl, hG, hS_s2, ha, (by omega), (by omega), (by omega), (by omega)⟩ rfl rfl ⟨by decide, by decide⟩ ⟨by decide, by decide⟩ (k2 := 0) (n2 := 0) rfl rfl (Nat.le_of_ble_eq_true rfl) dX12_remember_40 (kIM (fun v55 s3 hS_s3 hF_s3 q56 => ?_))
      refine j_if_ne hx 48 dX12_remember_43 rfl (by omega) (fun h57 => absurd h57 (by omega)) (fun h57 => ?_)
      refine j_iconst hx dX12_remember_46 ?_
      have g58 : zc (s3 (gP G a 27)) = zc (s0 (gP G a 27)) := by rw [hF_s3 (gP G a 27) (by rw [(zr (k := 27) (t2 := 84) hG ha rfl)]; decide), hF_s2 (gP G a 27) (by rw [(zr (k := 27) (t2 := 84) hG ha rfl)]; decide), e_s1, zU_ne (zne ha (zr (k := 27) (t2 := 84) hG ha rfl) (by decide))]
      have g59 : s3 (gP G a 27) 488 = s0 (gP G a 27) 488 := (by rw [(zFr_g hF_s3 (zr (k := 27) (t2 := 84) hG ha rfl) (by decide)), (zFr_g hF_s2 (zr (k := 27) (t2 := 84) hG ha rfl) (by decide)), e_s1, zU_at (Or.inl (zne ha (zr (k := 27) (t2 := 84) hG ha rfl) (by decide)))])
      have f60 := zf hS_s3 ha (k := 3) rfl
      have f61 := zf hS_s3 ha (k := 4) rfl
      have f62 := zf hS_s3 ha (k := 5) rfl
      have f63 := zf hS_s3 ha (k := 7) rfl
      have f64 := zf hS_s3 ha (k := 21) rfl
      have f65 := zf hS_s3 ha (k := 22) rfl
      have f66 := zf hS_s3 ha (k := 23) rfl
      have f67 := zf hS_s3 ha (k := 24) rfl
      have f68 := zf hS_s3 ha (k := 38) rfl
      have f69 := zf hS_s3 ha (k := 51) rfl
      have f70 := zf hS_s3 ha (k := 52) rfl
      exact j_iret hx hq rfl (by decide) (by decide) dX12_remember_47 ⟨0, rfl, rfl, hS_s3, (zFr_t (zFr_t (zFr_u zFr_rf e_s1 ha (by decide)) hF_s2 (by decide)) hF_s3 (by decide)), ⟨(by omega), by omega, by omega, by omega, by omega, by omega, by omega, by omega, by omega, by omega, by omega, by omega, by omega, by omega⟩⟩
    · skip
      refine j_iload_n hx 3 dX12_remember_24 rfl ?_
      refine j_iconst hx dX12_remember_25 ?_
      refine j_iconst hx dX12_remember_26 ?_
      refine j_callS hx (c_X12_within hst x3 0 1) lk_RX12_314 [.int (zI x3), .int (zI 0), .int (zI 1)] ⟨rfl, hG, hS_s2, (by omega), (by omega), (by omega)⟩ rfl rfl ⟨by decide, by decide⟩ ⟨by decide, by decide⟩ (k2 := 0) (n2 := 0) rfl rfl (Nat.le_of_ble_eq_true rfl) dX12_remember_27 (kIP (fun v71 q72 => ?_))
      refine j_if_eq hx 37 dX12_remember_30 rfl (by omega) (fun h73 => ?_) (fun h73 => ?_)
      · skip
        refine j_iconst hx dX12_remember_37 ?_
        refine j_iconst hx dX12_remember_38 ?_
        refine j_iconst hx dX12_remember_39 ?_
        have f74 := zf hS_s2 ha (k := 0) rfl
        have f75 := zf hS_s2 ha (k := 3) rfl
        have f76 := zf hS_s2 ha (k := 4) rfl
        have f77 := zf hS_s2 ha (k := 5) rfl
        have f78 := zf hS_s2 ha (k := 7) rfl
        have f79 := zf hS_s2 ha (k := 21) rfl
        have f80 := zf hS_s2 ha (k := 22) rfl
        have f81 := zf hS_s2 ha (k := 23) rfl
        have f82 := zf hS_s2 ha (k := 24) rfl
        have f83 := zf hS_s2 ha (k := 38) rfl
        have f84 := zf hS_s2 ha (k := 51) rfl
        have f85 := zf hS_s2 ha (k := 52) rfl
        refine j_callV hx hG (c_X12_may_f hst a 0 2 1) lk_RX12_240 ha (by decide) rfl rfl rfl rfl [.int (zI 0), .int (zI 2), .int (zI 1)] ⟨rfl, hG, hS_s2, ha, (by omega), (by omega), (by omega), (by omega)⟩ rfl rfl ⟨by decide, by decide⟩ ⟨by decide, by decide⟩ (k2 := 0) (n2 := 0) rfl rfl (Nat.le_of_ble_eq_true rfl) dX12_remember_40 (kIM (fun v86 s4 hS_s4 hF_s4 q87 => ?_))
        refine j_if_ne hx 48 dX12_remember_43 rfl (by omega) (fun h88 => absurd h88 (by omega)) (fun h88 => ?_)
        refine j_iconst hx dX12_remember_46 ?_
        have g89 : zc (s4 (gP G a 27)) = zc (s0 (gP G a 27)) := by rw [hF_s4 (gP G a 27) (by rw [(zr (k := 27) (t2 := 84) hG ha rfl)]; decide), hF_s2 (gP G a 27) (by rw [(zr (k := 27) (t2 := 84) hG ha rfl)]; decide), e_s1, zU_ne (zne ha (zr (k := 27) (t2 := 84) hG ha rfl) (by decide))]
        have g90 : s4 (gP G a 27) 488 = s0 (gP G a 27) 488 := (by rw [(zFr_g hF_s4 (zr (k := 27) (t2 := 84) hG ha rfl) (by decide)), (zFr_g hF_s2 (zr (k := 27) (t2 := 84) hG ha rfl) (by decide)), e_s1, zU_at (Or.inl (zne ha (zr (k := 27) (t2 := 84) hG ha rfl) (by decide)))])
        have f91 := zf hS_s4 ha (k := 3) rfl
        have f92 := zf hS_s4 ha (k := 4) rfl
        have f93 := zf hS_s4 ha (k := 5) rfl
        have f94 := zf hS_s4 ha (k := 7) rfl
        have f95 := zf hS_s4 ha (k := 21) rfl
        have f96 := zf hS_s4 ha (k := 22) rfl
        have f97 := zf hS_s4 ha (k := 23) rfl
        have f98 := zf hS_s4 ha (k := 24) rfl
        have f99 := zf hS_s4 ha (k := 38) rfl
        have f100 := zf hS_s4 ha (k := 51) rfl
        have f101 := zf hS_s4 ha (k := 52) rfl
        exact j_iret hx hq rfl (by decide) (by decide) dX12_remember_47 ⟨0, rfl, rfl, hS_s4, (zFr_t (zFr_t (zFr_u zFr_rf e_s1 ha (by decide)) hF_s2 (by decide)) hF_s4 (by decide)), ⟨(by omega), by omega, by omega, by omega, by omega, by omega, by omega, by omega, by omega, by omega, by omega, by omega, by omega, by omega⟩⟩
      · skip
        refine j_iconst hx dX12_remember_33 ?_
        refine j_goto hx 38 dX12_remember_34 rfl ?_
        refine j_iconst hx dX12_remember_38 ?_
        refine j_iconst hx dX12_remember_39 ?_
        have f102 := zf hS_s2 ha (k := 0) rfl
        refine j_callV hx hG (c_X12_may_t hst a 1 2 1) lk_RX12_240 ha (by decide) rfl rfl rfl rfl [.int (zI 1), .int (zI 2), .int (zI 1)] ⟨rfl, hG, hS_s2, ha, (by omega), (by omega), (by omega), (by omega)⟩ rfl rfl ⟨by decide, by decide⟩ ⟨by decide, by decide⟩ (k2 := 0) (n2 := 0) rfl rfl (Nat.le_of_ble_eq_true rfl) dX12_remember_40 (kIP (fun v103 q104 => ?_))
        refine j_if_ne hx 48 dX12_remember_43 rfl (by omega) (fun h105 => ?_) (fun h105 => absurd h105 (by omega))
        refine j_aload_n hx 0 dX12_remember_48 rfl ?_
        have g106 : zc (s2 (gP G a 27)) = zc (s0 (gP G a 27)) := by rw [hF_s2 (gP G a 27) (by rw [(zr (k := 27) (t2 := 84) hG ha rfl)]; decide), e_s1, zU_ne (zne ha (zr (k := 27) (t2 := 84) hG ha rfl) (by decide))]
        have g107 : s2 (gP G a 27) 488 = s0 (gP G a 27) 488 := (by rw [(zFr_g hF_s2 (zr (k := 27) (t2 := 84) hG ha rfl) (by decide)), e_s1, zU_at (Or.inl (zne ha (zr (k := 27) (t2 := 84) hG ha rfl) (by decide)))])
        refine j_callV hx hG (c_X12_keeps hst a) lk_RX12_444 ha (by decide) rfl rfl rfl rfl [] ⟨rfl, hG, hS_s2, ha⟩ rfl rfl ⟨by decide, by decide⟩ ⟨by decide, by decide⟩ (k2 := 0) (n2 := 0) rfl rfl (Nat.le_of_ble_eq_true rfl) dX12_remember_49 (kVM (fun s5 hS_s5 hF_s5 q109 => ?_))
        refine j_iconst hx dX12_remember_52 ?_
        refine j_istore hx [(4, .int (zI (-1))), (0, .ref a), (1, .int (zI x1)), (2, .int (zI x2)), (3, .int (zI x3))] dX12_remember_53 (by decide) rfl ?_
        refine j_iconst hx dX12_remember_55 ?_
        refine j_istore hx [(5, .int (zI 0)), (4, .int (zI (-1))), (0, .ref a), (1, .int (zI x1)), (2, .int (zI x2)), (3, .int (zI x3))] dX12_remember_56 (by decide) rfl ?_
        refine j_iconst hx dX12_remember_58 ?_
        refine j_istore hx [(6, .int (zI 0)), (5, .int (zI 0)), (4, .int (zI (-1))), (0, .ref a), (1, .int (zI x1)), (2, .int (zI x2)), (3, .int (zI x3))] dX12_remember_59 (by decide) rfl ?_
        have g113 : s5 a 0 = s2 a 0 := (by rw [(zFr_g hF_s5 ha (by decide))])
        have g114 : s5 a 3 = s2 a 3 := (by rw [(zFr_g hF_s5 ha (by decide))])
        have f115 := zf hS_s2 ha (k := 3) rfl
        have g116 : s5 a 4 = s2 a 4 := (by rw [(zFr_g hF_s5 ha (by decide))])
        have f117 := zf hS_s2 ha (k := 4) rfl
        have g118 : s5 a 5 = s2 a 5 := (by rw [(zFr_g hF_s5 ha (by decide))])
        have f119 := zf hS_s2 ha (k := 5) rfl
        have g120 : s5 a 7 = s2 a 7 := (by rw [(zFr_g hF_s5 ha (by decide))])
        have f121 := zf hS_s2 ha (k := 7) rfl
        have g122 : s5 a 21 = s2 a 21 := (by rw [(zFr_g hF_s5 ha (by decide))])
        have f123 := zf hS_s2 ha (k := 21) rfl
        have g124 : s5 a 22 = s2 a 22 := (by rw [(zFr_g hF_s5 ha (by decide))])
        have f125 := zf hS_s2 ha (k := 22) rfl
        have g126 : s5 a 23 = s2 a 23 := (by rw [(zFr_g hF_s5 ha (by decide))])
        have f127 := zf hS_s2 ha (k := 23) rfl
        have g128 : s5 a 24 = s2 a 24 := (by rw [(zFr_g hF_s5 ha (by decide))])
        have f129 := zf hS_s2 ha (k := 24) rfl
        have g130 : s5 a 38 = s2 a 38 := (by rw [(zFr_g hF_s5 ha (by decide))])
        have f131 := zf hS_s2 ha (k := 38) rfl
        have g132 : s5 a 51 = s2 a 51 := (by rw [(zFr_g hF_s5 ha (by decide))])
        have f133 := zf hS_s2 ha (k := 51) rfl
        have g134 : s5 a 52 = s2 a 52 := (by rw [(zFr_g hF_s5 ha (by decide))])
        have f135 := zf hS_s2 ha (k := 52) rfl
        have g136 : s5 (gP G a 27) 488 = s0 (gP G a 27) 488 := (by rw [(zFr_g hF_s5 (zr (k := 27) (t2 := 84) hG ha rfl) (by decide)), (zFr_g hF_s2 (zr (k := 27) (t2 := 84) hG ha rfl) (by decide)), e_s1, zU_at (Or.inl (zne ha (zr (k := 27) (t2 := 84) hG ha rfl) (by decide)))])
        have g137 : zc (s5 (gP G a 27)) = zc (s0 (gP G a 27)) := by rw [hF_s5 (gP G a 27) (by rw [(zr (k := 27) (t2 := 84) hG ha rfl)]; decide), hF_s2 (gP G a 27) (by rw [(zr (k := 27) (t2 := 84) hG ha rfl)]; decide), e_s1, zU_ne (zne ha (zr (k := 27) (t2 := 84) hG ha rfl) (by decide))]
        have c61_6 : ∀ (m_c61_6 : Nat) (v110 : Int) (v111 : Int) (v112 : Int) (s7 : zS), 2147483648 - v112 < m_c61_6 → ((-1) ≤ v110 ∧ v110 ≤ 2147483647) → (0 ≤ v111 ∧ v111 ≤ 120) → (0 ≤ v112 ∧ v112 ≤ 4096) → (zSK G s7) → (zFr [13, 84, 87] G s5 s7) → (s7 a 0 = s5 a 0) → (s7 a 3 = s5 a 3) → (s7 a 4 = s5 a 4) → (s7 a 5 = s5 a 5) → (s7 a 7 = s5 a 7) → (s7 a 21 = s5 a 21) → (s7 a 22 = s5 a 22) → (s7 a 23 = s5 a 23) → (s7 a 24 = s5 a 24) → (s7 a 38 = s5 a 38) → (s7 a 51 = s5 a 51) → (s7 a 52 = s5 a 52) → (zc (s7 (gP G a 27)) = zc (s5 (gP G a 27))) → (s7 (gP G a 27) 488 = s5 (gP G a 27) 488) → JJ X E 8 G s7 0 0 [(0, .ref a), (1, .int (zI x1)), (2, .int (zI x2)), (3, .int (zI x3)), (4, .int (zI v110)), (5, .int (zI v111)), (6, .int (zI v112))] 61 [] := by
          intro m_c61_6
          induction m_c61_6 with
          | zero => intro v110 v111 v112 s7 hm_c61_6 fA8 fA9 fA10 hS_s7 hF_s7 fA13 fA14 fA15 fA16 fA17 fA18 fA19 fA20 fA21 fA22 fA23 fA24 fA25 fA26; exfalso; omega
          | succ m_c61_6 ih_c61_6 => 
            intro v110 v111 v112 s7 hm_c61_6 fA8 fA9 fA10 hS_s7 hF_s7 fA13 fA14 fA15 fA16 fA17 fA18 fA19 fA20 fA21 fA22 fA23 fA24 fA25 fA26
            refine j_iload hx 6 dX12_remember_61 rfl ?_
            refine j_sipush hx dX12_remember_63 rfl ?_
            refine j_icmp_ge hx 120 dX12_remember_66 rfl (by omega) ⟨by decide, by decide⟩ (fun h138 => ?_) (fun h138 => ?_)
            · skip
              refine j_iload_n hx 3 dX12_remember_120 rfl ?_
              refine j_if_ne hx 129 dX12_remember_121 rfl (by omega) (fun h139 => ?_) (fun h139 => ?_)
              · skip
                refine j_iload hx 4 dX12_remember_129 rfl ?_
                have f140 := zf hS_s7 ha (k := 3) rfl
                have f141 := zf hS_s7 ha (k := 4) rfl
                have f142 := zf hS_s7 ha (k := 5) rfl
                have f143 := zf hS_s7 ha (k := 7) rfl
                have f144 := zf hS_s7 ha (k := 21) rfl
                have f145 := zf hS_s7 ha (k := 22) rfl
                have f146 := zf hS_s7 ha (k := 23) rfl
                have f147 := zf hS_s7 ha (k := 24) rfl
                have f148 := zf hS_s7 ha (k := 38) rfl
                have f149 := zf hS_s7 ha (k := 51) rfl
                have f150 := zf hS_s7 ha (k := 52) rfl
                exact j_iret hx hq rfl (by decide) (by decide) dX12_remember_131 ⟨v110, rfl, rfl, hS_s7, (zFr_t (zFr_t (zFr_t (zFr_u zFr_rf e_s1 ha (by decide)) hF_s2 (by decide)) hF_s5 (by decide)) hF_s7 (by decide)), ⟨(by omega), by omega, by omega, by omega, by omega, by omega, by omega, by omega, by omega, by omega, by omega, by omega, by omega, by omega⟩⟩
              · skip
                refine j_iload hx 5 dX12_remember_124 rfl ?_
                refine j_goto hx 131 dX12_remember_126 rfl ?_
                have f151 := zf hS_s7 ha (k := 3) rfl
                have f152 := zf hS_s7 ha (k := 4) rfl
                have f153 := zf hS_s7 ha (k := 5) rfl
                have f154 := zf hS_s7 ha (k := 7) rfl
                have f155 := zf hS_s7 ha (k := 21) rfl
                have f156 := zf hS_s7 ha (k := 22) rfl
                have f157 := zf hS_s7 ha (k := 23) rfl
                have f158 := zf hS_s7 ha (k := 24) rfl
                have f159 := zf hS_s7 ha (k := 38) rfl
                have f160 := zf hS_s7 ha (k := 51) rfl
                have f161 := zf hS_s7 ha (k := 52) rfl
                exact j_iret hx hq rfl (by decide) (by decide) dX12_remember_131 ⟨v111, rfl, rfl, hS_s7, (zFr_t (zFr_t (zFr_t (zFr_u zFr_rf e_s1 ha (by decide)) hF_s2 (by decide)) hF_s5 (by decide)) hF_s7 (by decide)), ⟨(by omega), by omega, by omega, by omega, by omega, by omega, by omega, by omega, by omega, by omega, by omega, by omega, by omega, by omega⟩⟩
            · skip
              refine j_iload hx 6 dX12_remember_69 rfl ?_
              refine j_callS hx (c_X12_ones hst v112) lk_RX12_475 [.int (zI v112)] ⟨rfl, hG, hS_s7, (by omega)⟩ rfl rfl ⟨by decide, by decide⟩ ⟨by decide, by decide⟩ (k2 := 0) (n2 := 0) rfl rfl (Nat.le_of_ble_eq_true rfl) dX12_remember_71 (kIP (fun v162 q163 => ?_))
              refine j_iload_n hx 2 dX12_remember_74 rfl ?_
              refine j_icmp_le hx 81 dX12_remember_75 rfl (by omega) (by omega) (fun h164 => ?_) (fun h164 => ?_)
              · skip
                refine j_aload_n hx 0 dX12_remember_81 rfl ?_
                refine j_iload_n hx 1 dX12_remember_82 rfl ?_
                refine j_iload hx 6 dX12_remember_83 rfl ?_
                have g165 : zc (s7 (gP G a 46)) = zc (s5 (gP G a 46)) := by rw [hF_s7 (gP G a 46) (by rw [(zr (k := 46) (t2 := 99) hG ha rfl)]; decide)]
                have g166 : s7 (gP G a 46) 488 = s5 (gP G a 46) 488 := (by rw [(zFr_g hF_s7 (zr (k := 46) (t2 := 99) hG ha rfl) (by decide))])
                have f167 := zf hS_s7 ha (k := 0) rfl
                have f168 := zf hS_s7 ha (k := 3) rfl
                have f169 := zf hS_s7 ha (k := 4) rfl
                have f170 := zf hS_s7 ha (k := 5) rfl
                have f171 := zf hS_s7 ha (k := 7) rfl
                have f172 := zf hS_s7 ha (k := 21) rfl
                have f173 := zf hS_s7 ha (k := 22) rfl
                have f174 := zf hS_s7 ha (k := 23) rfl
                have f175 := zf hS_s7 ha (k := 24) rfl
                have f176 := zf hS_s7 ha (k := 38) rfl
                have f177 := zf hS_s7 ha (k := 51) rfl
                have f178 := zf hS_s7 ha (k := 52) rfl
                refine j_callV hx hG (c_X12_rememberedBy hst a x1 v112) lk_RX12_478 ha (by decide) rfl rfl rfl rfl [.int (zI x1), .int (zI v112)] ⟨rfl, hG, hS_s7, ha, (by omega), (by omega), (by omega), (by omega)⟩ rfl rfl ⟨by decide, by decide⟩ ⟨by decide, by decide⟩ (k2 := 0) (n2 := 0) rfl rfl (Nat.le_of_ble_eq_true rfl) dX12_remember_85 (kIM (fun v179 s27 hS_s27 hF_s27 q180 => ?_))
                refine j_istore hx [(7, .int (zI v179)), (0, .ref a), (1, .int (zI x1)), (2, .int (zI x2)), (3, .int (zI x3)), (4, .int (zI v110)), (5, .int (zI v111)), (6, .int (zI v112))] dX12_remember_88 (by decide) rfl ?_
                refine j_iload hx 5 dX12_remember_90 rfl ?_
                refine j_iconst hx dX12_remember_92 ?_
                refine j_icmp_eq hx 106 dX12_remember_93 rfl (by omega) ⟨by decide, by decide⟩ (fun h181 => ?_) (fun h181 => ?_)
                · skip
                  refine j_iload hx 7 dX12_remember_106 rfl ?_
                  refine j_istore hx [(4, .int (zI v112)), (7, .int (zI v179)), (0, .ref a), (1, .int (zI x1)), (2, .int (zI x2)), (3, .int (zI x3)), (5, .int (zI v111)), (6, .int (zI v112))] dX12_remember_108 (by decide) rfl ?_
                  refine j_iload hx 1 dX12_remember_110 rfl ?_
                  refine j_istore hx [(5, .int (zI v179)), (4, .int (zI v112)), (7, .int (zI v179)), (0, .ref a), (1, .int (zI x1)), (2, .int (zI x2)), (3, .int (zI x3)), (6, .int (zI v112))] dX12_remember_112 (by decide) rfl ?_
                  refine j_iinc hx 7 [(6, .int (zI (v112 + 1))), (5, .int (zI v179)), (4, .int (zI v112)), (7, .int (zI v179)), (0, .ref a), (1, .int (zI x1)), (2, .int (zI x2)), (3, .int (zI x3))] dX12_remember_114 rfl (by omega) (by decide) rfl ?_
                  refine j_goto hx 61 dX12_remember_117 rfl ?_
                  have f182 := zf hS_s27 ha (k := 0) rfl
                  have f183 := zf hS_s27 ha (k := 3) rfl
                  have f184 := zf hS_s27 ha (k := 4) rfl
                  have f185 := zf hS_s27 ha (k := 5) rfl
                  have f186 := zf hS_s27 ha (k := 7) rfl
                  have f187 := zf hS_s27 ha (k := 21) rfl
                  have f188 := zf hS_s27 ha (k := 22) rfl
                  have f189 := zf hS_s27 ha (k := 23) rfl
                  have f190 := zf hS_s27 ha (k := 24) rfl
                  have f191 := zf hS_s27 ha (k := 38) rfl
                  have f192 := zf hS_s27 ha (k := 51) rfl
                  have f193 := zf hS_s27 ha (k := 52) rfl
                  exact j_sub [4, 5, 6, 7, 2, 1, 0] [(0, .ref a), (1, .int (zI x1)), (2, .int (zI x2)), (3, .int (zI x3)), (4, .int (zI v112)), (5, .int (zI v179)), (6, .int (zI (v112 + 1)))] rfl (ih_c61_6 v112 v179 (v112 + 1) s27 (by omega) (by omega) (by omega) (by omega) hS_s27 (zFr_t (zFr_t zFr_rf hF_s7 (by decide)) hF_s27 (by decide)) (by omega) (by omega) (by omega) (by omega) (by omega) (by omega) (by omega) (by omega) (by omega) (by omega) (by omega) (by omega) (by omega) (by omega))
                · skip
                  refine j_iload hx 0 dX12_remember_96 rfl ?_
                  refine j_iload hx 6 dX12_remember_98 rfl ?_
                  refine j_icmp_gt hx 106 dX12_remember_100 rfl (by omega) (by omega) (fun h194 => ?_) (fun h194 => ?_)
                  · skip
                    refine j_iload hx 7 dX12_remember_106 rfl ?_
                    refine j_istore hx [(4, .int (zI v112)), (7, .int (zI v179)), (0, .ref a), (1, .int (zI x1)), (2, .int (zI x2)), (3, .int (zI x3)), (5, .int (zI v111)), (6, .int (zI v112))] dX12_remember_108 (by decide) rfl ?_
                    refine j_iload hx 1 dX12_remember_110 rfl ?_
                    refine j_istore hx [(5, .int (zI v179)), (4, .int (zI v112)), (7, .int (zI v179)), (0, .ref a), (1, .int (zI x1)), (2, .int (zI x2)), (3, .int (zI x3)), (6, .int (zI v112))] dX12_remember_112 (by decide) rfl ?_
                    refine j_iinc hx 7 [(6, .int (zI (v112 + 1))), (5, .int (zI v179)), (4, .int (zI v112)), (7, .int (zI v179)), (0, .ref a), (1, .int (zI x1)), (2, .int (zI x2)), (3, .int (zI x3))] dX12_remember_114 rfl (by omega) (by decide) rfl ?_
                    refine j_goto hx 61 dX12_remember_117 rfl ?_
                    have f195 := zf hS_s27 ha (k := 0) rfl
                    have f196 := zf hS_s27 ha (k := 3) rfl
                    have f197 := zf hS_s27 ha (k := 4) rfl
                    have f198 := zf hS_s27 ha (k := 5) rfl
                    have f199 := zf hS_s27 ha (k := 7) rfl
                    have f200 := zf hS_s27 ha (k := 21) rfl
                    have f201 := zf hS_s27 ha (k := 22) rfl
                    have f202 := zf hS_s27 ha (k := 23) rfl
                    have f203 := zf hS_s27 ha (k := 24) rfl
                    have f204 := zf hS_s27 ha (k := 38) rfl
                    have f205 := zf hS_s27 ha (k := 51) rfl
                    have f206 := zf hS_s27 ha (k := 52) rfl
                    exact j_sub [4, 5, 6, 7, 2, 1, 0] [(0, .ref a), (1, .int (zI x1)), (2, .int (zI x2)), (3, .int (zI x3)), (4, .int (zI v112)), (5, .int (zI v179)), (6, .int (zI (v112 + 1)))] rfl (ih_c61_6 v112 v179 (v112 + 1) s27 (by omega) (by omega) (by omega) (by omega) hS_s27 (zFr_t (zFr_t zFr_rf hF_s7 (by decide)) hF_s27 (by decide)) (by omega) (by omega) (by omega) (by omega) (by omega) (by omega) (by omega) (by omega) (by omega) (by omega) (by omega) (by omega) (by omega) (by omega))
                  · skip
                    refine j_goto hx 114 dX12_remember_103 rfl ?_
                    refine j_iinc hx 7 [(6, .int (zI (v112 + 1))), (7, .int (zI v179)), (0, .ref a), (1, .int (zI x1)), (2, .int (zI x2)), (3, .int (zI x3)), (4, .int (zI v110)), (5, .int (zI v111))] dX12_remember_114 rfl (by omega) (by decide) rfl ?_
                    refine j_goto hx 61 dX12_remember_117 rfl ?_
                    have f207 := zf hS_s27 ha (k := 0) rfl
                    have f208 := zf hS_s27 ha (k := 3) rfl
                    have f209 := zf hS_s27 ha (k := 4) rfl
                    have f210 := zf hS_s27 ha (k := 5) rfl
                    have f211 := zf hS_s27 ha (k := 7) rfl
                    have f212 := zf hS_s27 ha (k := 21) rfl
                    have f213 := zf hS_s27 ha (k := 22) rfl
                    have f214 := zf hS_s27 ha (k := 23) rfl
                    have f215 := zf hS_s27 ha (k := 24) rfl
                    have f216 := zf hS_s27 ha (k := 38) rfl
                    have f217 := zf hS_s27 ha (k := 51) rfl
                    have f218 := zf hS_s27 ha (k := 52) rfl
                    exact j_sub [2, 3, 4, 5, 6, 7, 0] [(0, .ref a), (1, .int (zI x1)), (2, .int (zI x2)), (3, .int (zI x3)), (4, .int (zI v110)), (5, .int (zI v111)), (6, .int (zI (v112 + 1)))] rfl (ih_c61_6 v110 v111 (v112 + 1) s27 (by omega) (by omega) (by omega) (by omega) hS_s27 (zFr_t (zFr_t zFr_rf hF_s7 (by decide)) hF_s27 (by decide)) (by omega) (by omega) (by omega) (by omega) (by omega) (by omega) (by omega) (by omega) (by omega) (by omega) (by omega) (by omega) (by omega) (by omega))
              · skip
                refine j_goto hx 114 dX12_remember_78 rfl ?_
                refine j_iinc hx 6 [(6, .int (zI (v112 + 1))), (0, .ref a), (1, .int (zI x1)), (2, .int (zI x2)), (3, .int (zI x3)), (4, .int (zI v110)), (5, .int (zI v111))] dX12_remember_114 rfl (by omega) (by decide) rfl ?_
                refine j_goto hx 61 dX12_remember_117 rfl ?_
                have f219 := zf hS_s7 ha (k := 0) rfl
                have f220 := zf hS_s7 ha (k := 3) rfl
                have f221 := zf hS_s7 ha (k := 4) rfl
                have f222 := zf hS_s7 ha (k := 5) rfl
                have f223 := zf hS_s7 ha (k := 7) rfl
                have f224 := zf hS_s7 ha (k := 21) rfl
                have f225 := zf hS_s7 ha (k := 22) rfl
                have f226 := zf hS_s7 ha (k := 23) rfl
                have f227 := zf hS_s7 ha (k := 24) rfl
                have f228 := zf hS_s7 ha (k := 38) rfl
                have f229 := zf hS_s7 ha (k := 51) rfl
                have f230 := zf hS_s7 ha (k := 52) rfl
                exact j_sub [1, 2, 3, 4, 5, 6, 0] [(0, .ref a), (1, .int (zI x1)), (2, .int (zI x2)), (3, .int (zI x3)), (4, .int (zI v110)), (5, .int (zI v111)), (6, .int (zI (v112 + 1)))] rfl (ih_c61_6 v110 v111 (v112 + 1) s7 (by omega) (by omega) (by omega) (by omega) hS_s7 (zFr_t zFr_rf hF_s7 (by decide)) (by omega) (by omega) (by omega) (by omega) (by omega) (by omega) (by omega) (by omega) (by omega) (by omega) (by omega) (by omega) (by omega) (by omega))
        exact j_sub [3, 4, 5, 6, 2, 1, 0] [(0, .ref a), (1, .int (zI x1)), (2, .int (zI x2)), (3, .int (zI x3)), (4, .int (zI (-1))), (5, .int (zI 0)), (6, .int (zI 0))] rfl (c61_6 (2147483648 * 4) (-1) 0 0 s5 (by omega) (by omega) (by omega) (by omega) hS_s5 zFr_rf (by omega) (by omega) (by omega) (by omega) (by omega) (by omega) (by omega) (by omega) (by omega) (by omega) (by omega) (by omega) (by omega) (by omega))

set_option maxHeartbeats 1200000 in
set_option maxRecDepth 20000 in
theorem c_X12_hasMost {E : zE} {l : Launch} (hst : l.stackTraces = false) (a : Nat) (x1 : Int) : Con E l yX12_hasMost cX12_hasMost 3 (some .boolean) { frames := 1, cells := 0, slots := 0, locals := 21 } (fun G s vs => vs = [.ref a, .int (zI x1)] ∧ zGK G ∧ zSK G s ∧ (gT G a = 13) ∧ (0 ≤ x1 ∧ x1 ≤ 2)) (fun G s _ => pI (fun r G2 s2 => G2 = G ∧ s2 = s ∧ (0 ≤ r ∧ r ≤ 1))) := by
  refine Con.mk hst (by decide) (fun G s vs h => by rw [h.1]; exact Nat.le_of_ble_eq_true rfl) ?_
  rintro X G s0 vs ⟨rfl, hG, hS0, ha, hx1⟩ rfl hx hq
  show JJ X E 3 G s0 0 0 [(0, .ref a), (1, .int (zI x1))] 0 []
  refine j_iconst hx dX12_hasMost_0 ?_
  refine j_istore_n hx [(2, .int (zI 0)), (0, .ref a), (1, .int (zI x1))] dX12_hasMost_1 (by decide) rfl ?_
  have c2_1 : ∀ (m_c2_1 : Nat) (v1 : Int), 2147483648 - v1 < m_c2_1 → (0 ≤ v1 ∧ v1 ≤ 3) → JJ X E 3 G s0 0 0 [(0, .ref a), (1, .int (zI x1)), (2, .int (zI v1))] 2 [] := by
    intro m_c2_1
    induction m_c2_1 with
    | zero => intro v1 hm_c2_1 fA2; exfalso; omega
    | succ m_c2_1 ih_c2_1 => 
      intro v1 hm_c2_1 fA2
      refine j_iload_n hx 2 dX12_hasMost_2 rfl ?_
      refine j_aload_n hx 0 dX12_hasMost_3 rfl ?_
      have f2 := zf hS0 ha (k := 24) rfl
      refine g13_24 hx hG ha kf_RX12_189 rfl dX12_hasMost_4 ?_
      refine j_icmp_ge hx 36 dX12_hasMost_7 rfl (by omega) (by omega) (fun h3 => ?_) (fun h3 => ?_)
      · skip
        refine j_iconst hx dX12_hasMost_36 ?_
        exact j_zret hx hq rfl (by decide) (by decide) dX12_hasMost_37 (by omega) ⟨1, rfl, rfl, rfl, (by omega)⟩
      · skip
        refine j_iload_n hx 2 dX12_hasMost_10 rfl ?_
        refine j_iload_n hx 1 dX12_hasMost_11 rfl ?_
        have c30_3 : JJ X E 3 G s0 0 0 [(0, .ref a), (1, .int (zI x1)), (2, .int (zI v1))] 30 [] := by
          refine j_iinc hx 2 [(2, .int (zI (v1 + 1))), (0, .ref a), (1, .int (zI x1))] dX12_hasMost_30 rfl (by omega) (by decide) rfl ?_
          refine j_goto hx 2 dX12_hasMost_33 rfl ?_
          exact j_sub [1, 2, 0] [(0, .ref a), (1, .int (zI x1)), (2, .int (zI (v1 + 1)))] rfl (ih_c2_1 (v1 + 1) (by omega) (by omega))
        refine j_icmp_eq hx 30 dX12_hasMost_12 rfl (by omega) (by omega) (fun h4 => ?_) (fun h4 => ?_)
        · skip
          exact j_sub [0, 1, 2] [(0, .ref a), (1, .int (zI x1)), (2, .int (zI v1))] rfl (c30_3  )
        · skip
          refine j_aload_n hx 0 dX12_hasMost_15 rfl ?_
          refine j_iload_n hx 2 dX12_hasMost_16 rfl ?_
          refine j_callV hx hG (c_X12_held hst a v1) lk_RX12_322 ha (by decide) rfl rfl rfl rfl [.int (zI v1)] ⟨rfl, hG, hS0, ha, (by omega)⟩ rfl rfl ⟨by decide, by decide⟩ ⟨by decide, by decide⟩ (k2 := 0) (n2 := 0) rfl rfl (Nat.le_of_ble_eq_true rfl) dX12_hasMost_17 (kIP (fun v5 q6 => ?_))
          refine j_aload_n hx 0 dX12_hasMost_20 rfl ?_
          refine j_iload_n hx 1 dX12_hasMost_21 rfl ?_
          refine j_callV hx hG (c_X12_held hst a x1) lk_RX12_322 ha (by decide) rfl rfl rfl rfl [.int (zI x1)] ⟨rfl, hG, hS0, ha, (by omega)⟩ rfl rfl ⟨by decide, by decide⟩ ⟨by decide, by decide⟩ (k2 := 0) (n2 := 0) rfl rfl (Nat.le_of_ble_eq_true rfl) dX12_hasMost_22 (kIP (fun v7 q8 => ?_))
          refine j_icmp_lt hx 30 dX12_hasMost_25 rfl (by omega) (by omega) (fun h9 => ?_) (fun h9 => ?_)
          · skip
            exact j_sub [0, 1, 2] [(0, .ref a), (1, .int (zI x1)), (2, .int (zI v1))] rfl (c30_3  )
          · skip
            refine j_iconst hx dX12_hasMost_28 ?_
            exact j_zret hx hq rfl (by decide) (by decide) dX12_hasMost_29 (by omega) ⟨0, rfl, rfl, rfl, (by omega)⟩
  exact j_sub [1, 2, 0] [(0, .ref a), (1, .int (zI x1)), (2, .int (zI 0))] rfl (c2_1 (2147483648 * 4) 0 (by omega) (by omega))

set_option maxHeartbeats 1200000 in
set_option maxRecDepth 20000 in
theorem c_X12_quickness {E : zE} {l : Launch} (hst : l.stackTraces = false) (a : Nat) : Con E l yX12_quickness cX12_quickness 3 (some .int) { frames := 0, cells := 0, slots := 0, locals := 0 } (fun G s vs => vs = [.ref a] ∧ zGK G ∧ zSK G s ∧ (gT G a = 13)) (fun G s _ => pI (fun r G2 s2 => G2 = G ∧ s2 = s ∧ (0 ≤ r ∧ r ≤ 180))) := by
  refine Con.mk hst (by decide) (fun G s vs h => by rw [h.1]; exact Nat.le_of_ble_eq_true rfl) ?_
  rintro X G s0 vs ⟨rfl, hG, hS0, ha⟩ rfl hx hq
  show JJ X E 3 G s0 0 0 [(0, .ref a)] 0 []
  refine j_iconst hx dX12_quickness_0 ?_
  refine j_istore_n hx [(1, .int (zI 0)), (0, .ref a)] dX12_quickness_1 (by decide) rfl ?_
  refine j_iconst hx dX12_quickness_2 ?_
  refine j_istore_n hx [(2, .int (zI 0)), (1, .int (zI 0)), (0, .ref a)] dX12_quickness_3 (by decide) rfl ?_
  have c4_1 : ∀ (m_c4_1 : Nat) (v1 : Int) (v2 : Int), 2147483648 - v2 < m_c4_1 → (0 ≤ v1 ∧ v1 ≤ 180) → (0 ≤ v2 ∧ v2 ≤ 3) → (v1 ≤ 60 * v2) → JJ X E 3 G s0 0 0 [(0, .ref a), (1, .int (zI v1)), (2, .int (zI v2))] 4 [] := by
    intro m_c4_1
    induction m_c4_1 with
    | zero => intro v1 v2 hm_c4_1 fA2 fA3 fA4; exfalso; omega
    | succ m_c4_1 ih_c4_1 => 
      intro v1 v2 hm_c4_1 fA2 fA3 fA4
      refine j_iload_n hx 2 dX12_quickness_4 rfl ?_
      refine j_aload_n hx 0 dX12_quickness_5 rfl ?_
      have f3 := zf hS0 ha (k := 24) rfl
      refine g13_24 hx hG ha kf_RX12_189 rfl dX12_quickness_6 ?_
      refine j_icmp_ge hx 29 dX12_quickness_9 rfl (by omega) (by omega) (fun h4 => ?_) (fun h4 => ?_)
      · skip
        refine j_iload_n hx 1 dX12_quickness_29 rfl ?_
        exact j_iret hx hq rfl (by decide) (by decide) dX12_quickness_30 ⟨v1, rfl, rfl, rfl, (by omega)⟩
      · skip
        refine j_iload_n hx 1 dX12_quickness_12 rfl ?_
        refine j_aload_n hx 0 dX12_quickness_13 rfl ?_
        refine g13_17 hx hG ha kf_RX12_44 dX12_quickness_14 ?_
        refine j_iconst hx dX12_quickness_17 ?_
        refine j_iload_n hx 2 dX12_quickness_18 rfl ?_
        refine j_imul hx (r := 4 * v2) dX12_quickness_19 rfl ?_
        have f5 := zaI (j := (4 * v2).toNat) hS0 (zr (k := 17) (t2 := 80) hG ha rfl) rfl (zlen hG (zr (k := 17) (t2 := 80) hG ha rfl) (n := 12) rfl rfl) (show 0 ≤ 4 * v2 by omega) (by omega) rfl
        refine j_iald hx hG (zr (k := 17) (t2 := 80) hG ha rfl) (by decide) rfl (zlen hG (zr (k := 17) (t2 := 80) hG ha rfl) (n := 12) rfl rfl) (by omega) (by omega) (j := (4 * v2).toNat) rfl rfl dX12_quickness_20 ?_
        refine j_iadd hx (r := v1 + (s0 (gP G a 17) (4 * v2).toNat)) dX12_quickness_21 (by omega) ?_
        refine j_istore_n hx [(1, .int (zI (v1 + (s0 (gP G a 17) (4 * v2).toNat)))), (0, .ref a), (2, .int (zI v2))] dX12_quickness_22 (by decide) rfl ?_
        refine j_iinc hx 2 [(2, .int (zI (v2 + 1))), (1, .int (zI (v1 + (s0 (gP G a 17) (4 * v2).toNat)))), (0, .ref a)] dX12_quickness_23 rfl (by omega) (by decide) rfl ?_
        refine j_goto hx 4 dX12_quickness_26 rfl ?_
        exact j_sub [2, 1, 0] [(0, .ref a), (1, .int (zI (v1 + (s0 (gP G a 17) (4 * v2).toNat)))), (2, .int (zI (v2 + 1)))] rfl (ih_c4_1 (v1 + (s0 (gP G a 17) (4 * v2).toNat)) (v2 + 1) (by omega) (by omega) (by omega) (by omega))
  exact j_sub [2, 1, 0] [(0, .ref a), (1, .int (zI 0)), (2, .int (zI 0))] rfl (c4_1 (2147483648 * 4) 0 0 (by omega) (by omega) (by omega) (by omega))
