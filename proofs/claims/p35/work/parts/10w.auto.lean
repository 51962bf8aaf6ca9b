set_option maxHeartbeats 1200000 in
set_option maxRecDepth 20000 in
theorem c_X12_readKind {E : zE} {l : Launch} (hst : l.stackTraces = false) (a : Nat) : Con E l yX12_readKind cX12_readKind 3 (some .int) { frames := 1, cells := 0, slots := 0, locals := 22 } (fun G s vs => vs = [.ref a] ∧ zGK G ∧ zSK G s ∧ (gT G a = 13) ∧ (s a 4 ≤ s a 3 + 2)) (fun G s _ => pI (fun r G2 s2 => G2 = G ∧ zSK G s2 ∧ zFr [13] G s s2 ∧ ((-2147483648) ≤ r ∧ r ≤ 2147483647) ∧ s a 4 ≤ s2 a 4 ∧ s a 5 ≤ s2 a 5 ∧ (s2 a 5 = -1 → s2 a 4 ≤ s a 3 ∧ s a 4 + 1 ≤ s2 a 4) ∧ s2 a 4 ≤ s a 3 + 2 ∧ s2 a 0 = s a 0 ∧ s2 a 3 = s a 3 ∧ s2 a 7 = s a 7 ∧ s2 a 21 = s a 21 ∧ s2 a 22 = s a 22 ∧ s2 a 23 = s a 23 ∧ s2 a 24 = s a 24 ∧ s2 a 38 = s a 38 ∧ s2 a 51 = s a 51 ∧ s2 a 52 = s a 52)) := by
  refine Con.mk hst (by decide) (fun G s vs h => by rw [h.1]; exact Nat.le_of_ble_eq_true rfl) ?_
  rintro X G s0 vs ⟨rfl, hG, hS0, ha, e0⟩ rfl hx hq
  show JJ X E 3 G s0 0 0 [(0, .ref a)] 0 []
  refine j_aload_n hx 0 dX12_readKind_0 rfl ?_
  refine j_callV hx hG (c_X12_fine hst a) lk_RX12_166 ha (by decide) rfl rfl rfl rfl [] ⟨rfl, hG, hS0, ha⟩ rfl rfl ⟨by decide, by decide⟩ ⟨by decide, by decide⟩ (k2 := 0) (n2 := 0) rfl rfl (Nat.le_of_ble_eq_true rfl) dX12_readKind_1 (kIP (fun v1 q2 => ?_))
  refine j_if_ne hx 9 dX12_readKind_4 rfl (by omega) (fun h3 => ?_) (fun h3 => ?_)
  · skip
    refine j_aload_n hx 0 dX12_readKind_9 rfl ?_
    have f4 := zf hS0 ha (k := 4) rfl
    have f5 := zf hS0 ha (k := 3) rfl
    have f6 := zf hS0 ha (k := 0) rfl
    have f7 := zf hS0 ha (k := 5) rfl
    have f8 := zf hS0 ha (k := 7) rfl
    have f9 := zf hS0 ha (k := 21) rfl
    have f10 := zf hS0 ha (k := 22) rfl
    have f11 := zf hS0 ha (k := 23) rfl
    have f12 := zf hS0 ha (k := 24) rfl
    have f13 := zf hS0 ha (k := 38) rfl
    have f14 := zf hS0 ha (k := 51) rfl
    have f15 := zf hS0 ha (k := 52) rfl
    refine j_callV hx hG (c_X12_here hst a) lk_RX12_149 ha (by decide) rfl rfl rfl rfl [] ⟨rfl, hG, hS0, ha, (by omega)⟩ rfl rfl ⟨by decide, by decide⟩ ⟨by decide, by decide⟩ (k2 := 0) (n2 := 0) rfl rfl (Nat.le_of_ble_eq_true rfl) dX12_readKind_10 (kIM (fun v16 s1 hS_s1 hF_s1 q17 => ?_))
    refine j_istore_n hx [(1, .int (zI v16)), (0, .ref a)] dX12_readKind_13 (by decide) rfl ?_
    refine j_iload_n hx 0 dX12_readKind_14 rfl ?_
    refine j_callS hx (c_X12_isKind hst v16) lk_RX12_210 [.int (zI v16)] ⟨rfl, hG, hS_s1, (by omega)⟩ rfl rfl ⟨by decide, by decide⟩ ⟨by decide, by decide⟩ (k2 := 0) (n2 := 0) rfl rfl (Nat.le_of_ble_eq_true rfl) dX12_readKind_15 (kIP (fun v18 q19 => ?_))
    refine j_if_eq hx 55 dX12_readKind_18 rfl (by omega) (fun h20 => ?_) (fun h20 => ?_)
    · skip
      refine j_iconst hx dX12_readKind_55 ?_
      refine j_istore_n hx [(2, .int (zI 0)), (1, .int (zI v16)), (0, .ref a)] dX12_readKind_56 (by decide) rfl ?_
      refine j_iload_n hx 0 dX12_readKind_57 rfl ?_
      refine j_if_ne hx 73 dX12_readKind_58 rfl ⟨by decide, by decide⟩ (fun h21 => absurd h21 (by omega)) (fun h21 => ?_)
      refine j_aload_n hx 2 dX12_readKind_61 rfl ?_
      refine j_iconst hx dX12_readKind_62 ?_
      refine j_aload_n hx 2 dX12_readKind_63 rfl ?_
      have f22 := zf hS_s1 ha (k := 4) rfl
      refine g13_4 hx hG ha kf_RX12_143 rfl dX12_readKind_64 ?_
      have f23 := zf hS_s1 ha (k := 5) rfl
      have f24 := zf hS_s1 ha (k := 0) rfl
      have f25 := zf hS_s1 ha (k := 3) rfl
      have f26 := zf hS_s1 ha (k := 7) rfl
      have f27 := zf hS_s1 ha (k := 21) rfl
      have f28 := zf hS_s1 ha (k := 22) rfl
      have f29 := zf hS_s1 ha (k := 23) rfl
      have f30 := zf hS_s1 ha (k := 24) rfl
      have f31 := zf hS_s1 ha (k := 38) rfl
      have f32 := zf hS_s1 ha (k := 51) rfl
      have f33 := zf hS_s1 ha (k := 52) rfl
      refine j_callV hx hG (c_X12_wrong hst a 1 ((s1 a 4))) lk_RX12_173 ha (by decide) rfl rfl rfl rfl [.int (zI 1), .int (zI ((s1 a 4)))] ⟨rfl, hG, hS_s1, ha, (by omega), (by omega)⟩ rfl rfl ⟨by decide, by decide⟩ ⟨by decide, by decide⟩ (k2 := 0) (n2 := 0) rfl rfl (Nat.le_of_ble_eq_true rfl) dX12_readKind_67 (kVM (fun s2 hS_s2 hF_s2 q35 => ?_))
      refine j_goto hx 83 dX12_readKind_70 rfl ?_
      refine j_iload_n hx 1 dX12_readKind_83 rfl ?_
      refine j_bipush hx dX12_readKind_84 rfl ?_
      refine j_isub hx (r := v16 - 97) dX12_readKind_86 rfl ?_
      have f36 := zf hS_s2 ha (k := 4) rfl
      have f37 := zf hS_s2 ha (k := 5) rfl
      have f38 := zf hS_s2 ha (k := 0) rfl
      have f39 := zf hS_s2 ha (k := 3) rfl
      have f40 := zf hS_s2 ha (k := 7) rfl
      have f41 := zf hS_s2 ha (k := 21) rfl
      have f42 := zf hS_s2 ha (k := 22) rfl
      have f43 := zf hS_s2 ha (k := 23) rfl
      have f44 := zf hS_s2 ha (k := 24) rfl
      have f45 := zf hS_s2 ha (k := 38) rfl
      have f46 := zf hS_s2 ha (k := 51) rfl
      have f47 := zf hS_s2 ha (k := 52) rfl
      exact j_iret hx hq rfl (by decide) (by decide) dX12_readKind_87 ⟨v16 - 97, rfl, rfl, hS_s2, (zFr_t (zFr_t zFr_rf hF_s1 (by decide)) hF_s2 (by decide)), ⟨(by omega), by omega, by omega, by omega, by omega, by omega, by omega, by omega, by omega, by omega, by omega, by omega, by omega, by omega, by omega⟩⟩
    · skip
      refine j_aload_n hx 1 dX12_readKind_21 rfl ?_
      have f48 := zf hS_s1 ha (k := 4) rfl
      refine g13_4 hx hG ha kf_RX12_143 rfl dX12_readKind_22 ?_
      refine j_iconst hx dX12_readKind_25 ?_
      refine j_iadd hx (r := (s1 a 4) + 1) dX12_readKind_26 (by omega) ?_
      refine j_aload_n hx 1 dX12_readKind_27 rfl ?_
      have f49 := zf hS_s1 ha (k := 3) rfl
      refine g13_3 hx hG ha kf_RX12_146 rfl dX12_readKind_28 ?_
      refine j_icmp_ge hx 51 dX12_readKind_31 rfl (by omega) (by omega) (fun h50 => ?_) (fun h50 => ?_)
      · skip
        refine j_iconst hx dX12_readKind_51 ?_
        refine j_goto hx 56 dX12_readKind_52 rfl ?_
        refine j_istore_n hx [(2, .int (zI 1)), (1, .int (zI v16)), (0, .ref a)] dX12_readKind_56 (by decide) rfl ?_
        refine j_iload_n hx 0 dX12_readKind_57 rfl ?_
        refine j_if_ne hx 73 dX12_readKind_58 rfl ⟨by decide, by decide⟩ (fun h51 => ?_) (fun h51 => absurd h51 (by omega))
        refine j_aload_n hx 2 dX12_readKind_73 rfl ?_
        refine j_dup hx dX12_readKind_74 rfl ?_
        refine g13_4 hx hG ha kf_RX12_143 rfl dX12_readKind_75 ?_
        refine j_iconst hx dX12_readKind_78 ?_
        refine j_iadd hx (r := (s1 a 4) + 1) dX12_readKind_79 (by omega) ?_
        refine p13_4 hx hG ha kf_RX12_143 dX12_readKind_80 ?_
        obtain ⟨s3, e_s3⟩ : ∃ z, z = zU s1 a 4 ((s1 a 4) + 1) := ⟨_, rfl⟩
        rw [← e_s3]
        have hS_s3 : zSK G s3 := by rw [e_s3]; exact zSK_F hS_s1 ha rfl rfl rfl (by omega)
        refine j_iload_n hx 1 dX12_readKind_83 rfl ?_
        refine j_bipush hx dX12_readKind_84 rfl ?_
        refine j_isub hx (r := v16 - 97) dX12_readKind_86 rfl ?_
        have g52 : s3 a 4 = (s1 a 4) + 1 := (by rw [e_s3, zU_eq])
        have g53 : s3 a 5 = s1 a 5 := (by rw [e_s3, zU_at (Or.inr (by decide))])
        have f54 := zf hS_s1 ha (k := 5) rfl
        have g55 : s3 a 0 = s1 a 0 := (by rw [e_s3, zU_at (Or.inr (by decide))])
        have f56 := zf hS_s1 ha (k := 0) rfl
        have g57 : s3 a 3 = s1 a 3 := (by rw [e_s3, zU_at (Or.inr (by decide))])
        have g58 : s3 a 7 = s1 a 7 := (by rw [e_s3, zU_at (Or.inr (by decide))])
        have f59 := zf hS_s1 ha (k := 7) rfl
        have g60 : s3 a 21 = s1 a 21 := (by rw [e_s3, zU_at (Or.inr (by decide))])
        have f61 := zf hS_s1 ha (k := 21) rfl
        have g62 : s3 a 22 = s1 a 22 := (by rw [e_s3, zU_at (Or.inr (by decide))])
        have f63 := zf hS_s1 ha (k := 22) rfl
        have g64 : s3 a 23 = s1 a 23 := (by rw [e_s3, zU_at (Or.inr (by decide))])
        have f65 := zf hS_s1 ha (k := 23) rfl
        have g66 : s3 a 24 = s1 a 24 := (by rw [e_s3, zU_at (Or.inr (by decide))])
        have f67 := zf hS_s1 ha (k := 24) rfl
        have g68 : s3 a 38 = s1 a 38 := (by rw [e_s3, zU_at (Or.inr (by decide))])
        have f69 := zf hS_s1 ha (k := 38) rfl
        have g70 : s3 a 51 = s1 a 51 := (by rw [e_s3, zU_at (Or.inr (by decide))])
        have f71 := zf hS_s1 ha (k := 51) rfl
        have g72 : s3 a 52 = s1 a 52 := (by rw [e_s3, zU_at (Or.inr (by decide))])
        have f73 := zf hS_s1 ha (k := 52) rfl
        exact j_iret hx hq rfl (by decide) (by decide) dX12_readKind_87 ⟨v16 - 97, rfl, rfl, hS_s3, (zFr_u (zFr_t zFr_rf hF_s1 (by decide)) e_s3 ha (by decide)), ⟨(by omega), by omega, by omega, by omega, by omega, by omega, by omega, by omega, by omega, by omega, by omega, by omega, by omega, by omega, by omega⟩⟩
      · skip
        refine j_aload_n hx 1 dX12_readKind_34 rfl ?_
        refine g13_9 hx hG ha kf_RX12_20 dX12_readKind_35 ?_
        refine j_aload_n hx 1 dX12_readKind_38 rfl ?_
        refine g13_4 hx hG ha kf_RX12_143 rfl dX12_readKind_39 ?_
        refine j_iconst hx dX12_readKind_42 ?_
        refine j_iadd hx (r := (s1 a 4) + 1) dX12_readKind_43 (by omega) ?_
        have f74 := zaI (j := ((s1 a 4) + 1).toNat) hS0 (zr (k := 9) (t2 := 72) hG ha rfl) rfl (zlen hG (zr (k := 9) (t2 := 72) hG ha rfl) (n := 600) rfl rfl) (show 0 ≤ (s1 a 4) + 1 by omega) (by omega) rfl
        refine j_iald hx hG (zr (k := 9) (t2 := 72) hG ha rfl) (by decide) rfl (zlen hG (zr (k := 9) (t2 := 72) hG ha rfl) (n := 600) rfl rfl) (by omega) (by omega) (j := ((s1 a 4) + 1).toNat) rfl (v := (s0 (gP G a 9) ((s1 a 4) + 1).toNat)) (by rw [(zFr_g hF_s1 (zr (k := 9) (t2 := 72) hG ha rfl) (by decide))]) dX12_readKind_44 ?_
        refine j_callS hx (c_X12_isSmall hst ((s0 (gP G a 9) ((s1 a 4) + 1).toNat))) lk_RX12_153 [.int (zI ((s0 (gP G a 9) ((s1 a 4) + 1).toNat)))] ⟨rfl, hG, hS_s1, (by omega)⟩ rfl rfl ⟨by decide, by decide⟩ ⟨by decide, by decide⟩ (k2 := 0) (n2 := 0) rfl rfl (Nat.le_of_ble_eq_true rfl) dX12_readKind_45 (kIP (fun v75 q76 => ?_))
        refine j_if_ne hx 55 dX12_readKind_48 rfl (by omega) (fun h77 => ?_) (fun h77 => ?_)
        · skip
          refine j_iconst hx dX12_readKind_55 ?_
          refine j_istore_n hx [(2, .int (zI 0)), (1, .int (zI v16)), (0, .ref a)] dX12_readKind_56 (by decide) rfl ?_
          refine j_iload_n hx 0 dX12_readKind_57 rfl ?_
          refine j_if_ne hx 73 dX12_readKind_58 rfl ⟨by decide, by decide⟩ (fun h78 => absurd h78 (by omega)) (fun h78 => ?_)
          refine j_aload_n hx 2 dX12_readKind_61 rfl ?_
          refine j_iconst hx dX12_readKind_62 ?_
          refine j_aload_n hx 2 dX12_readKind_63 rfl ?_
          refine g13_4 hx hG ha kf_RX12_143 rfl dX12_readKind_64 ?_
          have f79 := zf hS_s1 ha (k := 5) rfl
          have f80 := zf hS_s1 ha (k := 0) rfl
          have f81 := zf hS_s1 ha (k := 7) rfl
          have f82 := zf hS_s1 ha (k := 21) rfl
          have f83 := zf hS_s1 ha (k := 22) rfl
          have f84 := zf hS_s1 ha (k := 23) rfl
          have f85 := zf hS_s1 ha (k := 24) rfl
          have f86 := zf hS_s1 ha (k := 38) rfl
          have f87 := zf hS_s1 ha (k := 51) rfl
          have f88 := zf hS_s1 ha (k := 52) rfl
          refine j_callV hx hG (c_X12_wrong hst a 1 ((s1 a 4))) lk_RX12_173 ha (by decide) rfl rfl rfl rfl [.int (zI 1), .int (zI ((s1 a 4)))] ⟨rfl, hG, hS_s1, ha, (by omega), (by omega)⟩ rfl rfl ⟨by decide, by decide⟩ ⟨by decide, by decide⟩ (k2 := 0) (n2 := 0) rfl rfl (Nat.le_of_ble_eq_true rfl) dX12_readKind_67 (kVM (fun s4 hS_s4 hF_s4 q90 => ?_))
          refine j_goto hx 83 dX12_readKind_70 rfl ?_
          refine j_iload_n hx 1 dX12_readKind_83 rfl ?_
          refine j_bipush hx dX12_readKind_84 rfl ?_
          refine j_isub hx (r := v16 - 97) dX12_readKind_86 rfl ?_
          have f91 := zf hS_s4 ha (k := 4) rfl
          have f92 := zf hS_s4 ha (k := 5) rfl
          have f93 := zf hS_s4 ha (k := 0) rfl
          have f94 := zf hS_s4 ha (k := 3) rfl
          have f95 := zf hS_s4 ha (k := 7) rfl
          have f96 := zf hS_s4 ha (k := 21) rfl
          have f97 := zf hS_s4 ha (k := 22) rfl
          have f98 := zf hS_s4 ha (k := 23) rfl
          have f99 := zf hS_s4 ha (k := 24) rfl
          have f100 := zf hS_s4 ha (k := 38) rfl
          have f101 := zf hS_s4 ha (k := 51) rfl
          have f102 := zf hS_s4 ha (k := 52) rfl
          exact j_iret hx hq rfl (by decide) (by decide) dX12_readKind_87 ⟨v16 - 97, rfl, rfl, hS_s4, (zFr_t (zFr_t zFr_rf hF_s1 (by decide)) hF_s4 (by decide)), ⟨(by omega), by omega, by omega, by omega, by omega, by omega, by omega, by omega, by omega, by omega, by omega, by omega, by omega, by omega, by omega⟩⟩
        · skip
          refine j_iconst hx dX12_readKind_51 ?_
          refine j_goto hx 56 dX12_readKind_52 rfl ?_
          refine j_istore_n hx [(2, .int (zI 1)), (1, .int (zI v16)), (0, .ref a)] dX12_readKind_56 (by decide) rfl ?_
          refine j_iload_n hx 0 dX12_readKind_57 rfl ?_
          refine j_if_ne hx 73 dX12_readKind_58 rfl ⟨by decide, by decide⟩ (fun h103 => ?_) (fun h103 => absurd h103 (by omega))
          refine j_aload_n hx 2 dX12_readKind_73 rfl ?_
          refine j_dup hx dX12_readKind_74 rfl ?_
          refine g13_4 hx hG ha kf_RX12_143 rfl dX12_readKind_75 ?_
          refine j_iconst hx dX12_readKind_78 ?_
          refine j_iadd hx (r := (s1 a 4) + 1) dX12_readKind_79 (by omega) ?_
          refine p13_4 hx hG ha kf_RX12_143 dX12_readKind_80 ?_
          obtain ⟨s5, e_s5⟩ : ∃ z, z = zU s1 a 4 ((s1 a 4) + 1) := ⟨_, rfl⟩
          rw [← e_s5]
          have hS_s5 : zSK G s5 := by rw [e_s5]; exact zSK_F hS_s1 ha rfl rfl rfl (by omega)
          refine j_iload_n hx 1 dX12_readKind_83 rfl ?_
          refine j_bipush hx dX12_readKind_84 rfl ?_
          refine j_isub hx (r := v16 - 97) dX12_readKind_86 rfl ?_
          have g104 : s5 a 4 = (s1 a 4) + 1 := (by rw [e_s5, zU_eq])
          have g105 : s5 a 5 = s1 a 5 := (by rw [e_s5, zU_at (Or.inr (by decide))])
          have f106 := zf hS_s1 ha (k := 5) rfl
          have g107 : s5 a 0 = s1 a 0 := (by rw [e_s5, zU_at (Or.inr (by decide))])
          have f108 := zf hS_s1 ha (k := 0) rfl
          have g109 : s5 a 3 = s1 a 3 := (by rw [e_s5, zU_at (Or.inr (by decide))])
          have g110 : s5 a 7 = s1 a 7 := (by rw [e_s5, zU_at (Or.inr (by decide))])
          have f111 := zf hS_s1 ha (k := 7) rfl
          have g112 : s5 a 21 = s1 a 21 := (by rw [e_s5, zU_at (Or.inr (by decide))])
          have f113 := zf hS_s1 ha (k := 21) rfl
          have g114 : s5 a 22 = s1 a 22 := (by rw [e_s5, zU_at (Or.inr (by decide))])
          have f115 := zf hS_s1 ha (k := 22) rfl
          have g116 : s5 a 23 = s1 a 23 := (by rw [e_s5, zU_at (Or.inr (by decide))])
          have f117 := zf hS_s1 ha (k := 23) rfl
          have g118 : s5 a 24 = s1 a 24 := (by rw [e_s5, zU_at (Or.inr (by decide))])
          have f119 := zf hS_s1 ha (k := 24) rfl
          have g120 : s5 a 38 = s1 a 38 := (by rw [e_s5, zU_at (Or.inr (by decide))])
          have f121 := zf hS_s1 ha (k := 38) rfl
          have g122 : s5 a 51 = s1 a 51 := (by rw [e_s5, zU_at (Or.inr (by decide))])
          have f123 := zf hS_s1 ha (k := 51) rfl
          have g124 : s5 a 52 = s1 a 52 := (by rw [e_s5, zU_at (Or.inr (by decide))])
          have f125 := zf hS_s1 ha (k := 52) rfl
          exact j_iret hx hq rfl (by decide) (by decide) dX12_readKind_87 ⟨v16 - 97, rfl, rfl, hS_s5, (zFr_u (zFr_t zFr_rf hF_s1 (by decide)) e_s5 ha (by decide)), ⟨(by omega), by omega, by omega, by omega, by omega, by omega, by omega, by omega, by omega, by omega, by omega, by omega, by omega, by omega, by omega⟩⟩
  · skip
    refine j_iconst hx dX12_readKind_7 ?_
    have f126 := zf hS0 ha (k := 4) rfl
    have f127 := zf hS0 ha (k := 5) rfl
    have f128 := zf hS0 ha (k := 3) rfl
    have f129 := zf hS0 ha (k := 0) rfl
    have f130 := zf hS0 ha (k := 7) rfl
    have f131 := zf hS0 ha (k := 21) rfl
    have f132 := zf hS0 ha (k := 22) rfl
    have f133 := zf hS0 ha (k := 23) rfl
    have f134 := zf hS0 ha (k := 24) rfl
    have f135 := zf hS0 ha (k := 38) rfl
    have f136 := zf hS0 ha (k := 51) rfl
    have f137 := zf hS0 ha (k := 52) rfl
    exact j_iret hx hq rfl (by decide) (by decide) dX12_readKind_8 ⟨0, rfl, rfl, hS0, zFr_rf, ⟨(by omega), by omega, by omega, by omega, by omega, by omega, by omega, by omega, by omega, by omega, by omega, by omega, by omega, by omega, by omega⟩⟩
