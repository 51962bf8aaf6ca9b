set_option maxHeartbeats 1200000 in
set_option maxRecDepth 20000 in
theorem c_X12_opensOne {E : zE} {l : Launch} (hst : l.stackTraces = false) (a : Nat) (x1 : Int) : Con E l yX12_opensOne cX12_opensOne 2 none { frames := 1, cells := 0, slots := 0, locals := 22 } (fun G s vs => vs = [.ref a, .int (zI x1)] ∧ zGK G ∧ zSK G s ∧ (gT G a = 13) ∧ (1 ≤ x1 ∧ x1 ≤ 3) ∧ (s a 4 ≤ 600) ∧ (s a 7 ≤ 7)) (fun G s _ => pV (fun G2 s2 => G2 = G ∧ zSK G s2 ∧ zFr [13] G s s2 ∧ s a 4 ≤ s2 a 4 ∧ s a 5 ≤ s2 a 5 ∧ s2 a 7 = s a 7 + 1 ∧ (s2 a 5 = -1 → (s a 7 ≠ 6 ∧ s2 a 4 = s a 4 + x1 ∧ s a 5 = -1)) ∧ s2 a 4 ≤ s a 4 + x1 ∧ s2 a 0 = s a 0 ∧ s2 a 3 = s a 3 ∧ s2 a 21 = s a 21 ∧ s2 a 22 = s a 22 ∧ s2 a 23 = s a 23 ∧ s2 a 24 = s a 24 ∧ s2 a 38 = s a 38 ∧ s2 a 51 = s a 51 ∧ s2 a 52 = s a 52)) := by
  refine Con.mk hst (by decide) (fun G s vs h => by rw [h.1]; exact Nat.le_of_ble_eq_true rfl) ?_
  rintro X G s0 vs ⟨rfl, hG, hS0, ha, hx1, e0, e1⟩ rfl hx hq
  show JJ X E 2 G s0 0 0 [(0, .ref a), (1, .int (zI x1))] 0 []
  refine j_aload_n hx 0 dX12_opensOne_0 rfl ?_
  refine j_callV hx hG (c_X12_fine hst a) lk_RX12_166 ha (by decide) rfl rfl rfl rfl [] ⟨rfl, hG, hS0, ha⟩ rfl rfl ⟨by decide, by decide⟩ ⟨by decide, by decide⟩ (k2 := 0) (n2 := 0) rfl rfl (Nat.le_of_ble_eq_true rfl) dX12_opensOne_1 (kIP (fun v1 q2 => ?_))
  refine j_if_eq hx 25 dX12_opensOne_4 rfl (by omega) (fun h3 => ?_) (fun h3 => ?_)
  · skip
    refine j_aload_n hx 0 dX12_opensOne_25 rfl ?_
    refine j_callV hx hG (c_X12_fine hst a) lk_RX12_166 ha (by decide) rfl rfl rfl rfl [] ⟨rfl, hG, hS0, ha⟩ rfl rfl ⟨by decide, by decide⟩ ⟨by decide, by decide⟩ (k2 := 0) (n2 := 0) rfl rfl (Nat.le_of_ble_eq_true rfl) dX12_opensOne_26 (kIP (fun v4 q5 => ?_))
    refine j_if_eq hx 42 dX12_opensOne_29 rfl (by omega) (fun h6 => ?_) (fun h6 => ?_)
    · skip
      refine j_aload_n hx 0 dX12_opensOne_42 rfl ?_
      refine j_dup hx dX12_opensOne_43 rfl ?_
      have f7 := zf hS0 ha (k := 7) rfl
      refine g13_7 hx hG ha kf_RX12_177 rfl dX12_opensOne_44 ?_
      refine j_iconst hx dX12_opensOne_47 ?_
      refine j_iadd hx (r := (s0 a 7) + 1) dX12_opensOne_48 (by omega) ?_
      refine p13_7 hx hG ha kf_RX12_177 dX12_opensOne_49 ?_
      obtain ⟨s1, e_s1⟩ : ∃ z, z = zU s0 a 7 ((s0 a 7) + 1) := ⟨_, rfl⟩
      rw [← e_s1]
      have hS_s1 : zSK G s1 := by rw [e_s1]; exact zSK_F hS0 ha rfl rfl rfl (by omega)
      have g8 : s1 a 4 = s0 a 4 := (by rw [e_s1, zU_at (Or.inr (by decide))])
      have f9 := zf hS0 ha (k := 4) rfl
      have g10 : s1 a 5 = s0 a 5 := (by rw [e_s1, zU_at (Or.inr (by decide))])
      have f11 := zf hS0 ha (k := 5) rfl
      have g12 : s1 a 7 = (s0 a 7) + 1 := (by rw [e_s1, zU_eq])
      have g13 : s1 a 0 = s0 a 0 := (by rw [e_s1, zU_at (Or.inr (by decide))])
      have f14 := zf hS0 ha (k := 0) rfl
      have g15 : s1 a 3 = s0 a 3 := (by rw [e_s1, zU_at (Or.inr (by decide))])
      have f16 := zf hS0 ha (k := 3) rfl
      have g17 : s1 a 21 = s0 a 21 := (by rw [e_s1, zU_at (Or.inr (by decide))])
      have f18 := zf hS0 ha (k := 21) rfl
      have g19 : s1 a 22 = s0 a 22 := (by rw [e_s1, zU_at (Or.inr (by decide))])
      have f20 := zf hS0 ha (k := 22) rfl
      have g21 : s1 a 23 = s0 a 23 := (by rw [e_s1, zU_at (Or.inr (by decide))])
      have f22 := zf hS0 ha (k := 23) rfl
      have g23 : s1 a 24 = s0 a 24 := (by rw [e_s1, zU_at (Or.inr (by decide))])
      have f24 := zf hS0 ha (k := 24) rfl
      have g25 : s1 a 38 = s0 a 38 := (by rw [e_s1, zU_at (Or.inr (by decide))])
      have f26 := zf hS0 ha (k := 38) rfl
      have g27 : s1 a 51 = s0 a 51 := (by rw [e_s1, zU_at (Or.inr (by decide))])
      have f28 := zf hS0 ha (k := 51) rfl
      have g29 : s1 a 52 = s0 a 52 := (by rw [e_s1, zU_at (Or.inr (by decide))])
      have f30 := zf hS0 ha (k := 52) rfl
      exact j_vret hx hq rfl (by decide) (by decide) dX12_opensOne_52 ⟨rfl, rfl, hS_s1, (zFr_u zFr_rf e_s1 ha (by decide)), ⟨by omega, by omega, by omega, by omega, by omega, by omega, by omega, by omega, by omega, by omega, by omega, by omega, by omega, by omega⟩⟩
    · skip
      refine j_aload_n hx 0 dX12_opensOne_32 rfl ?_
      refine j_dup hx dX12_opensOne_33 rfl ?_
      have f31 := zf hS0 ha (k := 4) rfl
      refine g13_4 hx hG ha kf_RX12_143 rfl dX12_opensOne_34 ?_
      refine j_iload_n hx 1 dX12_opensOne_37 rfl ?_
      refine j_iadd hx (r := (s0 a 4) + x1) dX12_opensOne_38 (by omega) ?_
      refine p13_4 hx hG ha kf_RX12_143 dX12_opensOne_39 ?_
      obtain ⟨s2, e_s2⟩ : ∃ z, z = zU s0 a 4 ((s0 a 4) + x1) := ⟨_, rfl⟩
      rw [← e_s2]
      have hS_s2 : zSK G s2 := by rw [e_s2]; exact zSK_F hS0 ha rfl rfl rfl (by omega)
      refine j_aload_n hx 0 dX12_opensOne_42 rfl ?_
      refine j_dup hx dX12_opensOne_43 rfl ?_
      have f32 := zf hS0 ha (k := 7) rfl
      refine g13_7 hx hG ha kf_RX12_177 (v := (s0 a 7)) (by rw [e_s2, zU_at (Or.inr (by decide))]) dX12_opensOne_44 ?_
      refine j_iconst hx dX12_opensOne_47 ?_
      refine j_iadd hx (r := (s0 a 7) + 1) dX12_opensOne_48 (by omega) ?_
      refine p13_7 hx hG ha kf_RX12_177 dX12_opensOne_49 ?_
      obtain ⟨s3, e_s3⟩ : ∃ z, z = zU s2 a 7 ((s0 a 7) + 1) := ⟨_, rfl⟩
      rw [← e_s3]
      have hS_s3 : zSK G s3 := by rw [e_s3]; exact zSK_F hS_s2 ha rfl rfl rfl (by omega)
      have g33 : s3 a 4 = (s0 a 4) + x1 := (by rw [e_s3, zU_at (Or.inr (by decide)), e_s2, zU_eq])
      have g34 : s3 a 5 = s0 a 5 := (by rw [e_s3, zU_at (Or.inr (by decide)), e_s2, zU_at (Or.inr (by decide))])
      have f35 := zf hS0 ha (k := 5) rfl
      have g36 : s3 a 7 = (s0 a 7) + 1 := (by rw [e_s3, zU_eq])
      have g37 : s3 a 0 = s0 a 0 := (by rw [e_s3, zU_at (Or.inr (by decide)), e_s2, zU_at (Or.inr (by decide))])
      have f38 := zf hS0 ha (k := 0) rfl
      have g39 : s3 a 3 = s0 a 3 := (by rw [e_s3, zU_at (Or.inr (by decide)), e_s2, zU_at (Or.inr (by decide))])
      have f40 := zf hS0 ha (k := 3) rfl
      have g41 : s3 a 21 = s0 a 21 := (by rw [e_s3, zU_at (Or.inr (by decide)), e_s2, zU_at (Or.inr (by decide))])
      have f42 := zf hS0 ha (k := 21) rfl
      have g43 : s3 a 22 = s0 a 22 := (by rw [e_s3, zU_at (Or.inr (by decide)), e_s2, zU_at (Or.inr (by decide))])
      have f44 := zf hS0 ha (k := 22) rfl
      have g45 : s3 a 23 = s0 a 23 := (by rw [e_s3, zU_at (Or.inr (by decide)), e_s2, zU_at (Or.inr (by decide))])
      have f46 := zf hS0 ha (k := 23) rfl
      have g47 : s3 a 24 = s0 a 24 := (by rw [e_s3, zU_at (Or.inr (by decide)), e_s2, zU_at (Or.inr (by decide))])
      have f48 := zf hS0 ha (k := 24) rfl
      have g49 : s3 a 38 = s0 a 38 := (by rw [e_s3, zU_at (Or.inr (by decide)), e_s2, zU_at (Or.inr (by decide))])
      have f50 := zf hS0 ha (k := 38) rfl
      have g51 : s3 a 51 = s0 a 51 := (by rw [e_s3, zU_at (Or.inr (by decide)), e_s2, zU_at (Or.inr (by decide))])
      have f52 := zf hS0 ha (k := 51) rfl
      have g53 : s3 a 52 = s0 a 52 := (by rw [e_s3, zU_at (Or.inr (by decide)), e_s2, zU_at (Or.inr (by decide))])
      have f54 := zf hS0 ha (k := 52) rfl
      exact j_vret hx hq rfl (by decide) (by decide) dX12_opensOne_52 ⟨rfl, rfl, hS_s3, (zFr_u (zFr_u zFr_rf e_s2 ha (by decide)) e_s3 ha (by decide)), ⟨by omega, by omega, by omega, by omega, by omega, by omega, by omega, by omega, by omega, by omega, by omega, by omega, by omega, by omega⟩⟩
  · skip
    refine j_aload_n hx 0 dX12_opensOne_7 rfl ?_
    have f55 := zf hS0 ha (k := 7) rfl
    refine g13_7 hx hG ha kf_RX12_177 rfl dX12_opensOne_8 ?_
    refine j_bipush hx dX12_opensOne_11 rfl ?_
    refine j_icmp_ne hx 25 dX12_opensOne_13 rfl (by omega) ⟨by decide, by decide⟩ (fun h56 => ?_) (fun h56 => ?_)
    · skip
      refine j_aload_n hx 0 dX12_opensOne_25 rfl ?_
      refine j_callV hx hG (c_X12_fine hst a) lk_RX12_166 ha (by decide) rfl rfl rfl rfl [] ⟨rfl, hG, hS0, ha⟩ rfl rfl ⟨by decide, by decide⟩ ⟨by decide, by decide⟩ (k2 := 0) (n2 := 0) rfl rfl (Nat.le_of_ble_eq_true rfl) dX12_opensOne_26 (kIP (fun v57 q58 => ?_))
      refine j_if_eq hx 42 dX12_opensOne_29 rfl (by omega) (fun h59 => ?_) (fun h59 => ?_)
      · skip
        refine j_aload_n hx 0 dX12_opensOne_42 rfl ?_
        refine j_dup hx dX12_opensOne_43 rfl ?_
        refine g13_7 hx hG ha kf_RX12_177 rfl dX12_opensOne_44 ?_
        refine j_iconst hx dX12_opensOne_47 ?_
        refine j_iadd hx (r := (s0 a 7) + 1) dX12_opensOne_48 (by omega) ?_
        refine p13_7 hx hG ha kf_RX12_177 dX12_opensOne_49 ?_
        obtain ⟨s4, e_s4⟩ : ∃ z, z = zU s0 a 7 ((s0 a 7) + 1) := ⟨_, rfl⟩
        rw [← e_s4]
        have hS_s4 : zSK G s4 := by rw [e_s4]; exact zSK_F hS0 ha rfl rfl rfl (by omega)
        have g60 : s4 a 4 = s0 a 4 := (by rw [e_s4, zU_at (Or.inr (by decide))])
        have f61 := zf hS0 ha (k := 4) rfl
        have g62 : s4 a 5 = s0 a 5 := (by rw [e_s4, zU_at (Or.inr (by decide))])
        have f63 := zf hS0 ha (k := 5) rfl
        have g64 : s4 a 7 = (s0 a 7) + 1 := (by rw [e_s4, zU_eq])
        have g65 : s4 a 0 = s0 a 0 := (by rw [e_s4, zU_at (Or.inr (by decide))])
        have f66 := zf hS0 ha (k := 0) rfl
        have g67 : s4 a 3 = s0 a 3 := (by rw [e_s4, zU_at (Or.inr (by decide))])
        have f68 := zf hS0 ha (k := 3) rfl
        have g69 : s4 a 21 = s0 a 21 := (by rw [e_s4, zU_at (Or.inr (by decide))])
        have f70 := zf hS0 ha (k := 21) rfl
        have g71 : s4 a 22 = s0 a 22 := (by rw [e_s4, zU_at (Or.inr (by decide))])
        have f72 := zf hS0 ha (k := 22) rfl
        have g73 : s4 a 23 = s0 a 23 := (by rw [e_s4, zU_at (Or.inr (by decide))])
        have f74 := zf hS0 ha (k := 23) rfl
        have g75 : s4 a 24 = s0 a 24 := (by rw [e_s4, zU_at (Or.inr (by decide))])
        have f76 := zf hS0 ha (k := 24) rfl
        have g77 : s4 a 38 = s0 a 38 := (by rw [e_s4, zU_at (Or.inr (by decide))])
        have f78 := zf hS0 ha (k := 38) rfl
        have g79 : s4 a 51 = s0 a 51 := (by rw [e_s4, zU_at (Or.inr (by decide))])
        have f80 := zf hS0 ha (k := 51) rfl
        have g81 : s4 a 52 = s0 a 52 := (by rw [e_s4, zU_at (Or.inr (by decide))])
        have f82 := zf hS0 ha (k := 52) rfl
        exact j_vret hx hq rfl (by decide) (by decide) dX12_opensOne_52 ⟨rfl, rfl, hS_s4, (zFr_u zFr_rf e_s4 ha (by decide)), ⟨by omega, by omega, by omega, by omega, by omega, by omega, by omega, by omega, by omega, by omega, by omega, by omega, by omega, by omega⟩⟩
      · skip
        refine j_aload_n hx 0 dX12_opensOne_32 rfl ?_
        refine j_dup hx dX12_opensOne_33 rfl ?_
        have f83 := zf hS0 ha (k := 4) rfl
        refine g13_4 hx hG ha kf_RX12_143 rfl dX12_opensOne_34 ?_
        refine j_iload_n hx 1 dX12_opensOne_37 rfl ?_
        refine j_iadd hx (r := (s0 a 4) + x1) dX12_opensOne_38 (by omega) ?_
        refine p13_4 hx hG ha kf_RX12_143 dX12_opensOne_39 ?_
        obtain ⟨s5, e_s5⟩ : ∃ z, z = zU s0 a 4 ((s0 a 4) + x1) := ⟨_, rfl⟩
        rw [← e_s5]
        have hS_s5 : zSK G s5 := by rw [e_s5]; exact zSK_F hS0 ha rfl rfl rfl (by omega)
        refine j_aload_n hx 0 dX12_opensOne_42 rfl ?_
        refine j_dup hx dX12_opensOne_43 rfl ?_
        refine g13_7 hx hG ha kf_RX12_177 (v := (s0 a 7)) (by rw [e_s5, zU_at (Or.inr (by decide))]) dX12_opensOne_44 ?_
        refine j_iconst hx dX12_opensOne_47 ?_
        refine j_iadd hx (r := (s0 a 7) + 1) dX12_opensOne_48 (by omega) ?_
        refine p13_7 hx hG ha kf_RX12_177 dX12_opensOne_49 ?_
        obtain ⟨s6, e_s6⟩ : ∃ z, z = zU s5 a 7 ((s0 a 7) + 1) := ⟨_, rfl⟩
        rw [← e_s6]
        have hS_s6 : zSK G s6 := by rw [e_s6]; exact zSK_F hS_s5 ha rfl rfl rfl (by omega)
        have g84 : s6 a 4 = (s0 a 4) + x1 := (by rw [e_s6, zU_at (Or.inr (by decide)), e_s5, zU_eq])
        have g85 : s6 a 5 = s0 a 5 := (by rw [e_s6, zU_at (Or.inr (by decide)), e_s5, zU_at (Or.inr (by decide))])
        have f86 := zf hS0 ha (k := 5) rfl
        have g87 : s6 a 7 = (s0 a 7) + 1 := (by rw [e_s6, zU_eq])
        have g88 : s6 a 0 = s0 a 0 := (by rw [e_s6, zU_at (Or.inr (by decide)), e_s5, zU_at (Or.inr (by decide))])
        have f89 := zf hS0 ha (k := 0) rfl
        have g90 : s6 a 3 = s0 a 3 := (by rw [e_s6, zU_at (Or.inr (by decide)), e_s5, zU_at (Or.inr (by decide))])
        have f91 := zf hS0 ha (k := 3) rfl
        have g92 : s6 a 21 = s0 a 21 := (by rw [e_s6, zU_at (Or.inr (by decide)), e_s5, zU_at (Or.inr (by decide))])
        have f93 := zf hS0 ha (k := 21) rfl
        have g94 : s6 a 22 = s0 a 22 := (by rw [e_s6, zU_at (Or.inr (by decide)), e_s5, zU_at (Or.inr (by decide))])
        have f95 := zf hS0 ha (k := 22) rfl
        have g96 : s6 a 23 = s0 a 23 := (by rw [e_s6, zU_at (Or.inr (by decide)), e_s5, zU_at (Or.inr (by decide))])
        have f97 := zf hS0 ha (k := 23) rfl
        have g98 : s6 a 24 = s0 a 24 := (by rw [e_s6, zU_at (Or.inr (by decide)), e_s5, zU_at (Or.inr (by decide))])
        have f99 := zf hS0 ha (k := 24) rfl
        have g100 : s6 a 38 = s0 a 38 := (by rw [e_s6, zU_at (Or.inr (by decide)), e_s5, zU_at (Or.inr (by decide))])
        have f101 := zf hS0 ha (k := 38) rfl
        have g102 : s6 a 51 = s0 a 51 := (by rw [e_s6, zU_at (Or.inr (by decide)), e_s5, zU_at (Or.inr (by decide))])
        have f103 := zf hS0 ha (k := 51) rfl
        have g104 : s6 a 52 = s0 a 52 := (by rw [e_s6, zU_at (Or.inr (by decide)), e_s5, zU_at (Or.inr (by decide))])
        have f105 := zf hS0 ha (k := 52) rfl
        exact j_vret hx hq rfl (by decide) (by decide) dX12_opensOne_52 ⟨rfl, rfl, hS_s6, (zFr_u (zFr_u zFr_rf e_s5 ha (by decide)) e_s6 ha (by decide)), ⟨by omega, by omega, by omega, by omega, by omega, by omega, by omega, by omega, by omega, by omega, by omega, by omega, by omega, by omega⟩⟩
    · skip
      refine j_aload_n hx 0 dX12_opensOne_16 rfl ?_
      refine j_iconst hx dX12_opensOne_17 ?_
      refine j_aload_n hx 0 dX12_opensOne_18 rfl ?_
      have f106 := zf hS0 ha (k := 4) rfl
      refine g13_4 hx hG ha kf_RX12_143 rfl dX12_opensOne_19 ?_
      have f107 := zf hS0 ha (k := 5) rfl
      have f108 := zf hS0 ha (k := 0) rfl
      have f109 := zf hS0 ha (k := 3) rfl
      have f110 := zf hS0 ha (k := 21) rfl
      have f111 := zf hS0 ha (k := 22) rfl
      have f112 := zf hS0 ha (k := 23) rfl
      have f113 := zf hS0 ha (k := 24) rfl
      have f114 := zf hS0 ha (k := 38) rfl
      have f115 := zf hS0 ha (k := 51) rfl
      have f116 := zf hS0 ha (k := 52) rfl
      refine j_callV hx hG (c_X12_wrong hst a 3 ((s0 a 4))) lk_RX12_173 ha (by decide) rfl rfl rfl rfl [.int (zI 3), .int (zI ((s0 a 4)))] ⟨rfl, hG, hS0, ha, (by omega), (by omega)⟩ rfl rfl ⟨by decide, by decide⟩ ⟨by decide, by decide⟩ (k2 := 0) (n2 := 0) rfl rfl (Nat.le_of_ble_eq_true rfl) dX12_opensOne_22 (kVM (fun s7 hS_s7 hF_s7 q118 => ?_))
      refine j_aload_n hx 0 dX12_opensOne_25 rfl ?_
      refine j_callV hx hG (c_X12_fine hst a) lk_RX12_166 ha (by decide) rfl rfl rfl rfl [] ⟨rfl, hG, hS_s7, ha⟩ rfl rfl ⟨by decide, by decide⟩ ⟨by decide, by decide⟩ (k2 := 0) (n2 := 0) rfl rfl (Nat.le_of_ble_eq_true rfl) dX12_opensOne_26 (kIP (fun v119 q120 => ?_))
      refine j_if_eq hx 42 dX12_opensOne_29 rfl (by omega) (fun h121 => ?_) (fun h121 => ?_)
      · skip
        refine j_aload_n hx 0 dX12_opensOne_42 rfl ?_
        refine j_dup hx dX12_opensOne_43 rfl ?_
        have f122 := zf hS_s7 ha (k := 7) rfl
        refine g13_7 hx hG ha kf_RX12_177 rfl dX12_opensOne_44 ?_
        refine j_iconst hx dX12_opensOne_47 ?_
        refine j_iadd hx (r := (s7 a 7) + 1) dX12_opensOne_48 (by omega) ?_
        refine p13_7 hx hG ha kf_RX12_177 dX12_opensOne_49 ?_
        obtain ⟨s8, e_s8⟩ : ∃ z, z = zU s7 a 7 ((s7 a 7) + 1) := ⟨_, rfl⟩
        rw [← e_s8]
        have hS_s8 : zSK G s8 := by rw [e_s8]; exact zSK_F hS_s7 ha rfl rfl rfl (by omega)
        have g123 : s8 a 4 = s7 a 4 := (by rw [e_s8, zU_at (Or.inr (by decide))])
        have f124 := zf hS_s7 ha (k := 4) rfl
        have g125 : s8 a 5 = s7 a 5 := (by rw [e_s8, zU_at (Or.inr (by decide))])
        have f126 := zf hS_s7 ha (k := 5) rfl
        have g127 : s8 a 7 = (s7 a 7) + 1 := (by rw [e_s8, zU_eq])
        have g128 : s8 a 0 = s7 a 0 := (by rw [e_s8, zU_at (Or.inr (by decide))])
        have f129 := zf hS_s7 ha (k := 0) rfl
        have g130 : s8 a 3 = s7 a 3 := (by rw [e_s8, zU_at (Or.inr (by decide))])
        have f131 := zf hS_s7 ha (k := 3) rfl
        have g132 : s8 a 21 = s7 a 21 := (by rw [e_s8, zU_at (Or.inr (by decide))])
        have f133 := zf hS_s7 ha (k := 21) rfl
        have g134 : s8 a 22 = s7 a 22 := (by rw [e_s8, zU_at (Or.inr (by decide))])
        have f135 := zf hS_s7 ha (k := 22) rfl
        have g136 : s8 a 23 = s7 a 23 := (by rw [e_s8, zU_at (Or.inr (by decide))])
        have f137 := zf hS_s7 ha (k := 23) rfl
        have g138 : s8 a 24 = s7 a 24 := (by rw [e_s8, zU_at (Or.inr (by decide))])
        have f139 := zf hS_s7 ha (k := 24) rfl
        have g140 : s8 a 38 = s7 a 38 := (by rw [e_s8, zU_at (Or.inr (by decide))])
        have f141 := zf hS_s7 ha (k := 38) rfl
        have g142 : s8 a 51 = s7 a 51 := (by rw [e_s8, zU_at (Or.inr (by decide))])
        have f143 := zf hS_s7 ha (k := 51) rfl
        have g144 : s8 a 52 = s7 a 52 := (by rw [e_s8, zU_at (Or.inr (by decide))])
        have f145 := zf hS_s7 ha (k := 52) rfl
        exact j_vret hx hq rfl (by decide) (by decide) dX12_opensOne_52 ⟨rfl, rfl, hS_s8, (zFr_u (zFr_t zFr_rf hF_s7 (by decide)) e_s8 ha (by decide)), ⟨by omega, by omega, by omega, by omega, by omega, by omega, by omega, by omega, by omega, by omega, by omega, by omega, by omega, by omega⟩⟩
      · skip
        refine j_aload_n hx 0 dX12_opensOne_32 rfl ?_
        refine j_dup hx dX12_opensOne_33 rfl ?_
        have f146 := zf hS_s7 ha (k := 4) rfl
        refine g13_4 hx hG ha kf_RX12_143 rfl dX12_opensOne_34 ?_
        refine j_iload_n hx 1 dX12_opensOne_37 rfl ?_
        refine j_iadd hx (r := (s7 a 4) + x1) dX12_opensOne_38 (by omega) ?_
        refine p13_4 hx hG ha kf_RX12_143 dX12_opensOne_39 ?_
        obtain ⟨s9, e_s9⟩ : ∃ z, z = zU s7 a 4 ((s7 a 4) + x1) := ⟨_, rfl⟩
        rw [← e_s9]
        have hS_s9 : zSK G s9 := by rw [e_s9]; exact zSK_F hS_s7 ha rfl rfl rfl (by omega)
        refine j_aload_n hx 0 dX12_opensOne_42 rfl ?_
        refine j_dup hx dX12_opensOne_43 rfl ?_
        have f147 := zf hS_s7 ha (k := 7) rfl
        refine g13_7 hx hG ha kf_RX12_177 (v := (s7 a 7)) (by rw [e_s9, zU_at (Or.inr (by decide))]) dX12_opensOne_44 ?_
        refine j_iconst hx dX12_opensOne_47 ?_
        refine j_iadd hx (r := (s7 a 7) + 1) dX12_opensOne_48 (by omega) ?_
        refine p13_7 hx hG ha kf_RX12_177 dX12_opensOne_49 ?_
        obtain ⟨s10, e_s10⟩ : ∃ z, z = zU s9 a 7 ((s7 a 7) + 1) := ⟨_, rfl⟩
        rw [← e_s10]
        have hS_s10 : zSK G s10 := by rw [e_s10]; exact zSK_F hS_s9 ha rfl rfl rfl (by omega)
        have g148 : s10 a 4 = (s7 a 4) + x1 := (by rw [e_s10, zU_at (Or.inr (by decide)), e_s9, zU_eq])
        have g149 : s10 a 5 = s7 a 5 := (by rw [e_s10, zU_at (Or.inr (by decide)), e_s9, zU_at (Or.inr (by decide))])
        have f150 := zf hS_s7 ha (k := 5) rfl
        have g151 : s10 a 7 = (s7 a 7) + 1 := (by rw [e_s10, zU_eq])
        have g152 : s10 a 0 = s7 a 0 := (by rw [e_s10, zU_at (Or.inr (by decide)), e_s9, zU_at (Or.inr (by decide))])
        have f153 := zf hS_s7 ha (k := 0) rfl
        have g154 : s10 a 3 = s7 a 3 := (by rw [e_s10, zU_at (Or.inr (by decide)), e_s9, zU_at (Or.inr (by decide))])
        have f155 := zf hS_s7 ha (k := 3) rfl
        have g156 : s10 a 21 = s7 a 21 := (by rw [e_s10, zU_at (Or.inr (by decide)), e_s9, zU_at (Or.inr (by decide))])
        have f157 := zf hS_s7 ha (k := 21) rfl
        have g158 : s10 a 22 = s7 a 22 := (by rw [e_s10, zU_at (Or.inr (by decide)), e_s9, zU_at (Or.inr (by decide))])
        have f159 := zf hS_s7 ha (k := 22) rfl
        have g160 : s10 a 23 = s7 a 23 := (by rw [e_s10, zU_at (Or.inr (by decide)), e_s9, zU_at (Or.inr (by decide))])
        have f161 := zf hS_s7 ha (k := 23) rfl
        have g162 : s10 a 24 = s7 a 24 := (by rw [e_s10, zU_at (Or.inr (by decide)), e_s9, zU_at (Or.inr (by decide))])
        have f163 := zf hS_s7 ha (k := 24) rfl
        have g164 : s10 a 38 = s7 a 38 := (by rw [e_s10, zU_at (Or.inr (by decide)), e_s9, zU_at (Or.inr (by decide))])
        have f165 := zf hS_s7 ha (k := 38) rfl
        have g166 : s10 a 51 = s7 a 51 := (by rw [e_s10, zU_at (Or.inr (by decide)), e_s9, zU_at (Or.inr (by decide))])
        have f167 := zf hS_s7 ha (k := 51) rfl
        have g168 : s10 a 52 = s7 a 52 := (by rw [e_s10, zU_at (Or.inr (by decide)), e_s9, zU_at (Or.inr (by decide))])
        have f169 := zf hS_s7 ha (k := 52) rfl
        exact j_vret hx hq rfl (by decide) (by decide) dX12_opensOne_52 ⟨rfl, rfl, hS_s10, (zFr_u (zFr_u (zFr_t zFr_rf hF_s7 (by decide)) e_s9 ha (by decide)) e_s10 ha (by decide)), ⟨by omega, by omega, by omega, by omega, by omega, by omega, by omega, by omega, by omega, by omega, by omega, by omega, by omega, by omega⟩⟩
