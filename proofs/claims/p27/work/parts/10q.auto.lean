set_option maxHeartbeats 4000000 in
set_option maxRecDepth 20000 in
theorem c_X12_law {E : zE} {l : Launch} (hst : l.stackTraces = false) (a : Nat) (x1 : Int) (x2 : Int) : Con E l yX12_law cX12_law 4 (some .int) { frames := 1, cells := 0, slots := 0, locals := 23 } (fun G s vs => vs = [.ref a, .int (zI x1), .int (zI x2)] ∧ zGK G ∧ zSK G s ∧ (gT G a = 13) ∧ ((-2147483648) ≤ x1 ∧ x1 ≤ 2147483647) ∧ ((-2147483648) ≤ x2 ∧ x2 ≤ 2147483647)) (fun G s _ => pI (fun r G2 s2 => G2 = G ∧ zSK G s2 ∧ zFr [13, 71, 84, 85] G s s2 ∧ ((-2147483648) ≤ r ∧ r ≤ 2147483647) ∧ zc (s2 (gP G a 27)) = zc (s (gP G a 27)) ∧ s2 (gP G a 27) 488 = s (gP G a 27) 488 ∧ zc (s2 (gP G a 28)) = zc (s (gP G a 28)) ∨ zc (s2 (gP G a 28)) = zc (s (gP G a 27)) ∧ s2 (gP G a 28) 488 = s (gP G a 28) 488 ∨ s2 (gP G a 28) 488 = s (gP G a 27) 488 ∧ s2 a 3 = s a 3 ∧ s2 a 4 = s a 4 ∧ s2 a 5 = s a 5 ∧ s2 a 7 = s a 7 ∧ s2 a 21 = s a 21 ∧ s2 a 22 = s a 22 ∧ s2 a 23 = s a 23 ∧ s2 a 24 = s a 24 ∧ s2 a 38 = s a 38 ∧ s2 a 51 = s a 51 ∧ s2 a 52 = s a 52)) := by
  refine Con.mk hst (by decide) (fun G s vs h => by rw [h.1]; exact Nat.le_of_ble_eq_true rfl) ?_
  rintro X G s0 vs ⟨rfl, hG, hS0, ha, hx1, hx2⟩ rfl hx hq
  show JJ X E 4 G s0 0 0 [(0, .ref a), (1, .int (zI x1)), (2, .int (zI x2))] 0 []
  refine j_aload_n hx 0 dX12_law_0 rfl ?_
  refine j_iconst hx dX12_law_1 ?_
  refine p13_0 hx hG ha kf_RX12_3 dX12_law_2 ?_
  obtain ⟨s1, e_s1⟩ : ∃ z, z = zU s0 a 0 0 := ⟨_, rfl⟩
  rw [← e_s1]
  have hS_s1 : zSK G s1 := by rw [e_s1]; exact zSK_F hS0 ha rfl rfl rfl (by omega)
  refine j_aload_n hx 0 dX12_law_5 rfl ?_
  refine j_iload_n hx 1 dX12_law_6 rfl ?_
  refine j_iconst hx dX12_law_7 ?_
  refine j_iconst hx dX12_law_8 ?_
  refine j_callS hx (c_X12_within hst x1 0 2) lk_RX12_314 [.int (zI x1), .int (zI 0), .int (zI 2)] ⟨rfl, hG, hS_s1, (by omega), (by omega), (by omega)⟩ rfl rfl ⟨by decide, by decide⟩ ⟨by decide, by decide⟩ (k2 := 0) (n2 := 0) rfl rfl (Nat.le_of_ble_eq_true rfl) dX12_law_9 (kIP (fun v1 q2 => ?_))
  refine j_if_eq hx 28 dX12_law_12 rfl (by omega) (fun h3 => ?_) (fun h3 => ?_)
  · skip
    refine j_iconst hx dX12_law_28 ?_
    refine j_iconst hx dX12_law_29 ?_
    refine j_iconst hx dX12_law_30 ?_
    have g4 : s1 a 0 = 0 := (by rw [e_s1, zU_eq])
    have g5 : s1 a 3 = s0 a 3 := (by rw [e_s1, zU_at (Or.inr (by decide))])
    have f6 := zf hS0 ha (k := 3) rfl
    have g7 : s1 a 4 = s0 a 4 := (by rw [e_s1, zU_at (Or.inr (by decide))])
    have f8 := zf hS0 ha (k := 4) rfl
    have g9 : s1 a 5 = s0 a 5 := (by rw [e_s1, zU_at (Or.inr (by decide))])
    have f10 := zf hS0 ha (k := 5) rfl
    have g11 : s1 a 7 = s0 a 7 := (by rw [e_s1, zU_at (Or.inr (by decide))])
    have f12 := zf hS0 ha (k := 7) rfl
    have g13 : s1 a 21 = s0 a 21 := (by rw [e_s1, zU_at (Or.inr (by decide))])
    have f14 := zf hS0 ha (k := 21) rfl
    have g15 : s1 a 22 = s0 a 22 := (by rw [e_s1, zU_at (Or.inr (by decide))])
    have f16 := zf hS0 ha (k := 22) rfl
    have g17 : s1 a 23 = s0 a 23 := (by rw [e_s1, zU_at (Or.inr (by decide))])
    have f18 := zf hS0 ha (k := 23) rfl
    have g19 : s1 a 24 = s0 a 24 := (by rw [e_s1, zU_at (Or.inr (by decide))])
    have f20 := zf hS0 ha (k := 24) rfl
    have g21 : s1 a 38 = s0 a 38 := (by rw [e_s1, zU_at (Or.inr (by decide))])
    have f22 := zf hS0 ha (k := 38) rfl
    have g23 : s1 a 51 = s0 a 51 := (by rw [e_s1, zU_at (Or.inr (by decide))])
    have f24 := zf hS0 ha (k := 51) rfl
    have g25 : s1 a 52 = s0 a 52 := (by rw [e_s1, zU_at (Or.inr (by decide))])
    have f26 := zf hS0 ha (k := 52) rfl
    refine j_callV hx hG (c_X12_may_f hst a 0 1 1) lk_RX12_240 ha (by decide) rfl rfl rfl rfl [.int (zI 0), .int (zI 1), .int (zI 1)] ⟨rfl, hG, hS_s1, ha, (by omega), (by omega), (by omega), (((by rw [e_s1, zU_eq]) : s1 a 0 = 0).trans (by omega))⟩ rfl rfl ⟨by decide, by decide⟩ ⟨by decide, by decide⟩ (k2 := 0) (n2 := 0) rfl rfl (Nat.le_of_ble_eq_true rfl) dX12_law_31 (kIM (fun v27 s2 hS_s2 hF_s2 q28 => ?_))
    refine j_if_ne hx 39 dX12_law_34 rfl (by omega) (fun h29 => absurd h29 (by omega)) (fun h29 => ?_)
    refine j_iconst hx dX12_law_37 ?_
    have g30 : zc (s2 (gP G a 27)) = zc (s0 (gP G a 27)) := by rw [(zFr_g hF_s2 (zr (k := 27) (t2 := 84) hG ha rfl) (by decide)), e_s1, zU_ne (zne (zr (k := 27) (t2 := 84) hG ha rfl) ha (by decide))]
    have g31 : s2 (gP G a 27) 488 = s0 (gP G a 27) 488 := (by rw [(zFr_g hF_s2 (zr (k := 27) (t2 := 84) hG ha rfl) (by decide)), e_s1, zU_at (Or.inl (zne ha (zr (k := 27) (t2 := 84) hG ha rfl) (by decide)))])
    have g32 : zc (s2 (gP G a 28)) = zc (s0 (gP G a 28)) := by rw [(zFr_g hF_s2 (zr (k := 28) (t2 := 85) hG ha rfl) (by decide)), e_s1, zU_ne (zne (zr (k := 28) (t2 := 85) hG ha rfl) ha (by decide))]
    have g33 : s2 (gP G a 28) 488 = s0 (gP G a 28) 488 := (by rw [(zFr_g hF_s2 (zr (k := 28) (t2 := 85) hG ha rfl) (by decide)), e_s1, zU_at (Or.inl (zne ha (zr (k := 28) (t2 := 85) hG ha rfl) (by decide)))])
    have f34 := zf hS_s2 ha (k := 3) rfl
    have f35 := zf hS_s2 ha (k := 4) rfl
    have f36 := zf hS_s2 ha (k := 5) rfl
    have f37 := zf hS_s2 ha (k := 7) rfl
    have f38 := zf hS_s2 ha (k := 21) rfl
    have f39 := zf hS_s2 ha (k := 22) rfl
    have f40 := zf hS_s2 ha (k := 23) rfl
    have f41 := zf hS_s2 ha (k := 24) rfl
    have f42 := zf hS_s2 ha (k := 38) rfl
    have f43 := zf hS_s2 ha (k := 51) rfl
    have f44 := zf hS_s2 ha (k := 52) rfl
    exact j_iret hx hq rfl (by decide) (by decide) dX12_law_38 ⟨0, rfl, rfl, hS_s2, (zFr_t (zFr_u zFr_rf e_s1 ha (by decide)) hF_s2 (by decide)), ⟨(by omega), by omega, by omega, by omega, by omega, by omega, by omega, by omega, by omega, by omega, by omega, by omega, by omega, by omega, by omega, by omega⟩⟩
  · skip
    refine j_iload_n hx 2 dX12_law_15 rfl ?_
    refine j_iconst hx dX12_law_16 ?_
    refine j_iconst hx dX12_law_17 ?_
    refine j_callS hx (c_X12_within hst x2 0 2) lk_RX12_314 [.int (zI x2), .int (zI 0), .int (zI 2)] ⟨rfl, hG, hS_s1, (by omega), (by omega), (by omega)⟩ rfl rfl ⟨by decide, by decide⟩ ⟨by decide, by decide⟩ (k2 := 0) (n2 := 0) rfl rfl (Nat.le_of_ble_eq_true rfl) dX12_law_18 (kIP (fun v45 q46 => ?_))
    refine j_if_eq hx 28 dX12_law_21 rfl (by omega) (fun h47 => ?_) (fun h47 => ?_)
    · skip
      refine j_iconst hx dX12_law_28 ?_
      refine j_iconst hx dX12_law_29 ?_
      refine j_iconst hx dX12_law_30 ?_
      have g48 : s1 a 0 = 0 := (by rw [e_s1, zU_eq])
      have g49 : s1 a 3 = s0 a 3 := (by rw [e_s1, zU_at (Or.inr (by decide))])
      have f50 := zf hS0 ha (k := 3) rfl
      have g51 : s1 a 4 = s0 a 4 := (by rw [e_s1, zU_at (Or.inr (by decide))])
      have f52 := zf hS0 ha (k := 4) rfl
      have g53 : s1 a 5 = s0 a 5 := (by rw [e_s1, zU_at (Or.inr (by decide))])
      have f54 := zf hS0 ha (k := 5) rfl
      have g55 : s1 a 7 = s0 a 7 := (by rw [e_s1, zU_at (Or.inr (by decide))])
      have f56 := zf hS0 ha (k := 7) rfl
      have g57 : s1 a 21 = s0 a 21 := (by rw [e_s1, zU_at (Or.inr (by decide))])
      have f58 := zf hS0 ha (k := 21) rfl
      have g59 : s1 a 22 = s0 a 22 := (by rw [e_s1, zU_at (Or.inr (by decide))])
      have f60 := zf hS0 ha (k := 22) rfl
      have g61 : s1 a 23 = s0 a 23 := (by rw [e_s1, zU_at (Or.inr (by decide))])
      have f62 := zf hS0 ha (k := 23) rfl
      have g63 : s1 a 24 = s0 a 24 := (by rw [e_s1, zU_at (Or.inr (by decide))])
      have f64 := zf hS0 ha (k := 24) rfl
      have g65 : s1 a 38 = s0 a 38 := (by rw [e_s1, zU_at (Or.inr (by decide))])
      have f66 := zf hS0 ha (k := 38) rfl
      have g67 : s1 a 51 = s0 a 51 := (by rw [e_s1, zU_at (Or.inr (by decide))])
      have f68 := zf hS0 ha (k := 51) rfl
      have g69 : s1 a 52 = s0 a 52 := (by rw [e_s1, zU_at (Or.inr (by decide))])
      have f70 := zf hS0 ha (k := 52) rfl
      refine j_callV hx hG (c_X12_may_f hst a 0 1 1) lk_RX12_240 ha (by decide) rfl rfl rfl rfl [.int (zI 0), .int (zI 1), .int (zI 1)] ⟨rfl, hG, hS_s1, ha, (by omega), (by omega), (by omega), (((by rw [e_s1, zU_eq]) : s1 a 0 = 0).trans (by omega))⟩ rfl rfl ⟨by decide, by decide⟩ ⟨by decide, by decide⟩ (k2 := 0) (n2 := 0) rfl rfl (Nat.le_of_ble_eq_true rfl) dX12_law_31 (kIM (fun v71 s3 hS_s3 hF_s3 q72 => ?_))
      refine j_if_ne hx 39 dX12_law_34 rfl (by omega) (fun h73 => absurd h73 (by omega)) (fun h73 => ?_)
      refine j_iconst hx dX12_law_37 ?_
      have g74 : zc (s3 (gP G a 27)) = zc (s0 (gP G a 27)) := by rw [(zFr_g hF_s3 (zr (k := 27) (t2 := 84) hG ha rfl) (by decide)), e_s1, zU_ne (zne (zr (k := 27) (t2 := 84) hG ha rfl) ha (by decide))]
      have g75 : s3 (gP G a 27) 488 = s0 (gP G a 27) 488 := (by rw [(zFr_g hF_s3 (zr (k := 27) (t2 := 84) hG ha rfl) (by decide)), e_s1, zU_at (Or.inl (zne ha (zr (k := 27) (t2 := 84) hG ha rfl) (by decide)))])
      have g76 : zc (s3 (gP G a 28)) = zc (s0 (gP G a 28)) := by rw [(zFr_g hF_s3 (zr (k := 28) (t2 := 85) hG ha rfl) (by decide)), e_s1, zU_ne (zne (zr (k := 28) (t2 := 85) hG ha rfl) ha (by decide))]
      have g77 : s3 (gP G a 28) 488 = s0 (gP G a 28) 488 := (by rw [(zFr_g hF_s3 (zr (k := 28) (t2 := 85) hG ha rfl) (by decide)), e_s1, zU_at (Or.inl (zne ha (zr (k := 28) (t2 := 85) hG ha rfl) (by decide)))])
      have f78 := zf hS_s3 ha (k := 3) rfl
      have f79 := zf hS_s3 ha (k := 4) rfl
      have f80 := zf hS_s3 ha (k := 5) rfl
      have f81 := zf hS_s3 ha (k := 7) rfl
      have f82 := zf hS_s3 ha (k := 21) rfl
      have f83 := zf hS_s3 ha (k := 22) rfl
      have f84 := zf hS_s3 ha (k := 23) rfl
      have f85 := zf hS_s3 ha (k := 24) rfl
      have f86 := zf hS_s3 ha (k := 38) rfl
      have f87 := zf hS_s3 ha (k := 51) rfl
      have f88 := zf hS_s3 ha (k := 52) rfl
      exact j_iret hx hq rfl (by decide) (by decide) dX12_law_38 ⟨0, rfl, rfl, hS_s3, (zFr_t (zFr_u zFr_rf e_s1 ha (by decide)) hF_s3 (by decide)), ⟨(by omega), by omega, by omega, by omega, by omega, by omega, by omega, by omega, by omega, by omega, by omega, by omega, by omega, by omega, by omega, by omega⟩⟩
    · skip
      refine j_iconst hx dX12_law_24 ?_
      refine j_goto hx 29 dX12_law_25 rfl ?_
      refine j_iconst hx dX12_law_29 ?_
      refine j_iconst hx dX12_law_30 ?_
      have g89 : s1 a 0 = 0 := (by rw [e_s1, zU_eq])
      refine j_callV hx hG (c_X12_may_t hst a 1 1 1) lk_RX12_240 ha (by decide) rfl rfl rfl rfl [.int (zI 1), .int (zI 1), .int (zI 1)] ⟨rfl, hG, hS_s1, ha, (by omega), (by omega), (by omega), (((by rw [e_s1, zU_eq]) : s1 a 0 = 0).trans (by omega))⟩ rfl rfl ⟨by decide, by decide⟩ ⟨by decide, by decide⟩ (k2 := 0) (n2 := 0) rfl rfl (Nat.le_of_ble_eq_true rfl) dX12_law_31 (kIP (fun v90 q91 => ?_))
      refine j_if_ne hx 39 dX12_law_34 rfl (by omega) (fun h92 => ?_) (fun h92 => absurd h92 (by omega))
      refine j_aload_n hx 0 dX12_law_39 rfl ?_
      refine g13_27 hx hG ha kf_RX12_56 dX12_law_40 ?_
      refine j_sipush hx dX12_law_43 rfl ?_
      refine j_iload_n hx 1 dX12_law_46 rfl ?_
      refine j_iadd hx (r := x1 + 491) dX12_law_47 (by omega) ?_
      have f93 := zaQ (j := (x1 + 491).toNat) hS0 (zr (k := 27) (t2 := 84) hG ha rfl) (congrArg some (axS_7 (x1 + 491).toNat (by omega))) (zlen hG (zr (k := 27) (t2 := 84) hG ha rfl) (n := 515) rfl rfl) (show 0 ≤ x1 + 491 by omega) (by omega) rfl
      refine j_iald hx hG (zr (k := 27) (t2 := 84) hG ha rfl) (by decide) rfl (zlen hG (zr (k := 27) (t2 := 84) hG ha rfl) (n := 515) rfl rfl) (by omega) (by omega) (j := (x1 + 491).toNat) rfl (v := (s0 (gP G a 27) (x1 + 491).toNat)) (by rw [e_s1, zU_at (Or.inl (zne ha (zr (k := 27) (t2 := 84) hG ha rfl) (by decide)))]) dX12_law_48 ?_
      refine j_istore_n hx [(3, .int (zI ((s0 (gP G a 27) (x1 + 491).toNat)))), (0, .ref a), (1, .int (zI x1)), (2, .int (zI x2))] dX12_law_49 (by decide) rfl ?_
      refine j_aload_n hx 1 dX12_law_50 rfl ?_
      refine g13_27 hx hG ha kf_RX12_56 dX12_law_51 ?_
      refine j_sipush hx dX12_law_54 rfl ?_
      refine j_iload_n hx 2 dX12_law_57 rfl ?_
      refine j_iadd hx (r := x1 + 491) dX12_law_58 (by omega) ?_
      refine j_iload_n hx 3 dX12_law_59 rfl ?_
      refine j_iast hx hG (zr (k := 27) (t2 := 84) hG ha rfl) (by decide) rfl (zlen hG (zr (k := 27) (t2 := 84) hG ha rfl) (n := 515) rfl rfl) (by omega) (by omega) (j := (x1 + 491).toNat) rfl dX12_law_60 ?_
      obtain ⟨s4, e_s4⟩ : ∃ z, z = zU s1 (gP G a 27) (x1 + 491).toNat x2 := ⟨_, rfl⟩
      rw [← e_s4]
      have hS_s4 : zSK G s4 := by rw [e_s4]; exact zSK_a hS_s1 (zr (k := 27) (t2 := 84) hG ha rfl) rfl rfl (congrArg some (axS_7 (x1 + 491).toNat (by omega))) (by omega)
      have g95 : zc (s1 (gP G a 27)) = zc (s0 (gP G a 27)) := by rw [e_s1, zU_ne (zne (zr (k := 27) (t2 := 84) hG ha rfl) ha (by decide))]
      have z94 : zc (s4 (gP G a 27)) = zc (s1 (gP G a 27)) := by rw [e_s4]; exact zc_o (by omega)
      refine j_aload_n hx 1 dX12_law_61 rfl ?_
      have g96 : s4 (gP G a 27) 488 = s0 (gP G a 27) 488 := (by rw [e_s4, zU_at (Or.inr (by omega)), e_s1, zU_at (Or.inl (zne ha (zr (k := 27) (t2 := 84) hG ha rfl) (by decide)))])
      refine j_callV hx hG (c_X12_stays hst a) lk_RX12_207 ha (by decide) rfl rfl rfl rfl [] ⟨rfl, hG, hS_s4, ha⟩ rfl rfl ⟨by decide, by decide⟩ ⟨by decide, by decide⟩ (k2 := 0) (n2 := 0) rfl rfl (Nat.le_of_ble_eq_true rfl) dX12_law_62 (kVM (fun s5 hS_s5 hF_s5 q98 => ?_))
      refine j_iload_n hx 0 dX12_law_65 rfl ?_
      have g99 : zc (s5 (gP G a 27)) = zc (s4 (gP G a 27)) := by rw [(zFr_g hF_s5 (zr (k := 27) (t2 := 84) hG ha rfl) (by decide))]
      have g100 : s5 (gP G a 27) 488 = s0 (gP G a 27) 488 := (by rw [(zFr_g hF_s5 (zr (k := 27) (t2 := 84) hG ha rfl) (by decide)), e_s4, zU_at (Or.inr (by omega)), e_s1, zU_at (Or.inl (zne ha (zr (k := 27) (t2 := 84) hG ha rfl) (by decide)))])
      have g101 : s5 a 3 = s0 a 3 := (by rw [(zFr_g hF_s5 ha (by decide)), e_s4, zU_at (Or.inl (zne (zr (k := 27) (t2 := 84) hG ha rfl) ha (by decide))), e_s1, zU_at (Or.inr (by decide))])
      have f102 := zf hS0 ha (k := 3) rfl
      have g103 : s5 a 4 = s0 a 4 := (by rw [(zFr_g hF_s5 ha (by decide)), e_s4, zU_at (Or.inl (zne (zr (k := 27) (t2 := 84) hG ha rfl) ha (by decide))), e_s1, zU_at (Or.inr (by decide))])
      have f104 := zf hS0 ha (k := 4) rfl
      have g105 : s5 a 5 = s0 a 5 := (by rw [(zFr_g hF_s5 ha (by decide)), e_s4, zU_at (Or.inl (zne (zr (k := 27) (t2 := 84) hG ha rfl) ha (by decide))), e_s1, zU_at (Or.inr (by decide))])
      have f106 := zf hS0 ha (k := 5) rfl
      have g107 : s5 a 7 = s0 a 7 := (by rw [(zFr_g hF_s5 ha (by decide)), e_s4, zU_at (Or.inl (zne (zr (k := 27) (t2 := 84) hG ha rfl) ha (by decide))), e_s1, zU_at (Or.inr (by decide))])
      have f108 := zf hS0 ha (k := 7) rfl
      have g109 : s5 a 21 = s0 a 21 := (by rw [(zFr_g hF_s5 ha (by decide)), e_s4, zU_at (Or.inl (zne (zr (k := 27) (t2 := 84) hG ha rfl) ha (by decide))), e_s1, zU_at (Or.inr (by decide))])
      have f110 := zf hS0 ha (k := 21) rfl
      have g111 : s5 a 22 = s0 a 22 := (by rw [(zFr_g hF_s5 ha (by decide)), e_s4, zU_at (Or.inl (zne (zr (k := 27) (t2 := 84) hG ha rfl) ha (by decide))), e_s1, zU_at (Or.inr (by decide))])
      have f112 := zf hS0 ha (k := 22) rfl
      have g113 : s5 a 23 = s0 a 23 := (by rw [(zFr_g hF_s5 ha (by decide)), e_s4, zU_at (Or.inl (zne (zr (k := 27) (t2 := 84) hG ha rfl) ha (by decide))), e_s1, zU_at (Or.inr (by decide))])
      have f114 := zf hS0 ha (k := 23) rfl
      have g115 : s5 a 24 = s0 a 24 := (by rw [(zFr_g hF_s5 ha (by decide)), e_s4, zU_at (Or.inl (zne (zr (k := 27) (t2 := 84) hG ha rfl) ha (by decide))), e_s1, zU_at (Or.inr (by decide))])
      have f116 := zf hS0 ha (k := 24) rfl
      have g117 : s5 a 38 = s0 a 38 := (by rw [(zFr_g hF_s5 ha (by decide)), e_s4, zU_at (Or.inl (zne (zr (k := 27) (t2 := 84) hG ha rfl) ha (by decide))), e_s1, zU_at (Or.inr (by decide))])
      have f118 := zf hS0 ha (k := 38) rfl
      have g119 : s5 a 51 = s0 a 51 := (by rw [(zFr_g hF_s5 ha (by decide)), e_s4, zU_at (Or.inl (zne (zr (k := 27) (t2 := 84) hG ha rfl) ha (by decide))), e_s1, zU_at (Or.inr (by decide))])
      have f120 := zf hS0 ha (k := 51) rfl
      have g121 : s5 a 52 = s0 a 52 := (by rw [(zFr_g hF_s5 ha (by decide)), e_s4, zU_at (Or.inl (zne (zr (k := 27) (t2 := 84) hG ha rfl) ha (by decide))), e_s1, zU_at (Or.inr (by decide))])
      have f122 := zf hS0 ha (k := 52) rfl
      exact j_iret hx hq rfl (by decide) (by decide) dX12_law_66 ⟨(s0 (gP G a 27) (x1 + 491).toNat), rfl, rfl, hS_s5, (zFr_t (zFr_u (zFr_u zFr_rf e_s1 ha (by decide)) e_s4 (zr (k := 27) (t2 := 84) hG ha rfl) (by decide)) hF_s5 (by decide)), ⟨(by omega), by omega, by omega, by omega, by omega, by omega, by omega, by omega, by omega, by omega, by omega, by omega, by omega, by omega, by omega, by omega⟩⟩

set_option maxHeartbeats 4000000 in
set_option maxRecDepth 20000 in
theorem c_X12_draws {E : zE} {l : Launch} (hst : l.stackTraces = false) (a : Nat) (x1 : Int) : Con E l yX12_draws cX12_draws 2 none { frames := 1, cells := 0, slots := 0, locals := 21 } (fun G s vs => vs = [.ref a, .int (zI x1)] ∧ zGK G ∧ zSK G s ∧ (gT G a = 13) ∧ ((-2147483648) ≤ x1 ∧ x1 ≤ 2147483647)) (fun G s _ => pV (fun G2 s2 => G2 = G ∧ zSK G s2 ∧ zFr [13, 84, 85] G s s2 ∧ zc (s2 (gP G a 27)) = zc (s (gP G a 27)) ∧ s2 (gP G a 27) 488 = s (gP G a 27) 488 ∧ zc (s2 (gP G a 28)) = zc (s (gP G a 28)) ∨ zc (s2 (gP G a 28)) = zc (s (gP G a 27)) ∧ s2 (gP G a 28) 488 = s (gP G a 28) 488 ∨ s2 (gP G a 28) 488 = s (gP G a 27) 488 ∧ s2 a 3 = s a 3 ∧ s2 a 4 = s a 4 ∧ s2 a 5 = s a 5 ∧ s2 a 7 = s a 7 ∧ s2 a 21 = s a 21 ∧ s2 a 22 = s a 22 ∧ s2 a 23 = s a 23 ∧ s2 a 24 = s a 24 ∧ s2 a 38 = s a 38 ∧ s2 a 51 = s a 51 ∧ s2 a 52 = s a 52)) := by
  refine Con.mk hst (by decide) (fun G s vs h => by rw [h.1]; exact Nat.le_of_ble_eq_true rfl) ?_
  rintro X G s0 vs ⟨rfl, hG, hS0, ha, hx1⟩ rfl hx hq
  show JJ X E 2 G s0 0 0 [(0, .ref a), (1, .int (zI x1))] 0 []
  refine j_aload_n hx 0 dX12_draws_0 rfl ?_
  refine j_iconst hx dX12_draws_1 ?_
  refine p13_0 hx hG ha kf_RX12_3 dX12_draws_2 ?_
  obtain ⟨s1, e_s1⟩ : ∃ z, z = zU s0 a 0 0 := ⟨_, rfl⟩
  rw [← e_s1]
  have hS_s1 : zSK G s1 := by rw [e_s1]; exact zSK_F hS0 ha rfl rfl rfl (by omega)
  refine j_aload_n hx 0 dX12_draws_5 rfl ?_
  refine g13_27 hx hG ha kf_RX12_56 dX12_draws_6 ?_
  refine j_sipush hx dX12_draws_9 rfl ?_
  refine j_iload_n hx 1 dX12_draws_12 rfl ?_
  refine j_iast hx hG (zr (k := 27) (t2 := 84) hG ha rfl) (by decide) rfl (zlen hG (zr (k := 27) (t2 := 84) hG ha rfl) (n := 515) rfl rfl) (by omega) (by omega) (j := 489) rfl dX12_draws_13 ?_
  obtain ⟨s2, e_s2⟩ : ∃ z, z = zU s1 (gP G a 27) 489 x1 := ⟨_, rfl⟩
  rw [← e_s2]
  have hS_s2 : zSK G s2 := by rw [e_s2]; exact zSK_a hS_s1 (zr (k := 27) (t2 := 84) hG ha rfl) rfl rfl (congrArg some (axS_5 489 (by omega))) (by omega)
  have g2 : zc (s1 (gP G a 27)) = zc (s0 (gP G a 27)) := by rw [e_s1, zU_ne (zne (zr (k := 27) (t2 := 84) hG ha rfl) ha (by decide))]
  have z1 : zc (s2 (gP G a 27)) = zc (s1 (gP G a 27)) := by rw [e_s2]; exact zc_o (by omega)
  refine j_aload_n hx 0 dX12_draws_14 rfl ?_
  refine g13_27 hx hG ha kf_RX12_56 dX12_draws_15 ?_
  refine j_sipush hx dX12_draws_18 rfl ?_
  refine j_iconst hx dX12_draws_21 ?_
  refine j_iast hx hG (zr (k := 27) (t2 := 84) hG ha rfl) (by decide) rfl (zlen hG (zr (k := 27) (t2 := 84) hG ha rfl) (n := 515) rfl rfl) (by omega) (by omega) (j := 490) rfl dX12_draws_22 ?_
  obtain ⟨s3, e_s3⟩ : ∃ z, z = zU s2 (gP G a 27) 490 1 := ⟨_, rfl⟩
  rw [← e_s3]
  have hS_s3 : zSK G s3 := by rw [e_s3]; exact zSK_a hS_s2 (zr (k := 27) (t2 := 84) hG ha rfl) rfl rfl (congrArg some (axS_6 490 (by omega))) (by omega)
  have z3 : zc (s3 (gP G a 27)) = zc (s2 (gP G a 27)) := by rw [e_s3]; exact zc_o (by omega)
  refine j_aload_n hx 0 dX12_draws_23 rfl ?_
  have g4 : s3 (gP G a 27) 488 = s0 (gP G a 27) 488 := (by rw [e_s3, zU_at (Or.inr (by decide)), e_s2, zU_at (Or.inr (by decide)), e_s1, zU_at (Or.inl (zne ha (zr (k := 27) (t2 := 84) hG ha rfl) (by decide)))])
  refine j_callV hx hG (c_X12_stays hst a) lk_RX12_207 ha (by decide) rfl rfl rfl rfl [] ⟨rfl, hG, hS_s3, ha⟩ rfl rfl ⟨by decide, by decide⟩ ⟨by decide, by decide⟩ (k2 := 0) (n2 := 0) rfl rfl (Nat.le_of_ble_eq_true rfl) dX12_draws_24 (kVM (fun s4 hS_s4 hF_s4 q6 => ?_))
  have g7 : zc (s4 (gP G a 27)) = zc (s3 (gP G a 27)) := by rw [(zFr_g hF_s4 (zr (k := 27) (t2 := 84) hG ha rfl) (by decide))]
  have g8 : s4 (gP G a 27) 488 = s0 (gP G a 27) 488 := (by rw [(zFr_g hF_s4 (zr (k := 27) (t2 := 84) hG ha rfl) (by decide)), e_s3, zU_at (Or.inr (by decide)), e_s2, zU_at (Or.inr (by decide)), e_s1, zU_at (Or.inl (zne ha (zr (k := 27) (t2 := 84) hG ha rfl) (by decide)))])
  have g9 : s4 a 3 = s0 a 3 := (by rw [(zFr_g hF_s4 ha (by decide)), e_s3, zU_at (Or.inl (zne (zr (k := 27) (t2 := 84) hG ha rfl) ha (by decide))), e_s2, zU_at (Or.inl (zne (zr (k := 27) (t2 := 84) hG ha rfl) ha (by decide))), e_s1, zU_at (Or.inr (by decide))])
  have f10 := zf hS0 ha (k := 3) rfl
  have g11 : s4 a 4 = s0 a 4 := (by rw [(zFr_g hF_s4 ha (by decide)), e_s3, zU_at (Or.inl (zne (zr (k := 27) (t2 := 84) hG ha rfl) ha (by decide))), e_s2, zU_at (Or.inl (zne (zr (k := 27) (t2 := 84) hG ha rfl) ha (by decide))), e_s1, zU_at (Or.inr (by decide))])
  have f12 := zf hS0 ha (k := 4) rfl
  have g13 : s4 a 5 = s0 a 5 := (by rw [(zFr_g hF_s4 ha (by decide)), e_s3, zU_at (Or.inl (zne (zr (k := 27) (t2 := 84) hG ha rfl) ha (by decide))), e_s2, zU_at (Or.inl (zne (zr (k := 27) (t2 := 84) hG ha rfl) ha (by decide))), e_s1, zU_at (Or.inr (by decide))])
  have f14 := zf hS0 ha (k := 5) rfl
  have g15 : s4 a 7 = s0 a 7 := (by rw [(zFr_g hF_s4 ha (by decide)), e_s3, zU_at (Or.inl (zne (zr (k := 27) (t2 := 84) hG ha rfl) ha (by decide))), e_s2, zU_at (Or.inl (zne (zr (k := 27) (t2 := 84) hG ha rfl) ha (by decide))), e_s1, zU_at (Or.inr (by decide))])
  have f16 := zf hS0 ha (k := 7) rfl
  have g17 : s4 a 21 = s0 a 21 := (by rw [(zFr_g hF_s4 ha (by decide)), e_s3, zU_at (Or.inl (zne (zr (k := 27) (t2 := 84) hG ha rfl) ha (by decide))), e_s2, zU_at (Or.inl (zne (zr (k := 27) (t2 := 84) hG ha rfl) ha (by decide))), e_s1, zU_at (Or.inr (by decide))])
  have f18 := zf hS0 ha (k := 21) rfl
  have g19 : s4 a 22 = s0 a 22 := (by rw [(zFr_g hF_s4 ha (by decide)), e_s3, zU_at (Or.inl (zne (zr (k := 27) (t2 := 84) hG ha rfl) ha (by decide))), e_s2, zU_at (Or.inl (zne (zr (k := 27) (t2 := 84) hG ha rfl) ha (by decide))), e_s1, zU_at (Or.inr (by decide))])
  have f20 := zf hS0 ha (k := 22) rfl
  have g21 : s4 a 23 = s0 a 23 := (by rw [(zFr_g hF_s4 ha (by decide)), e_s3, zU_at (Or.inl (zne (zr (k := 27) (t2 := 84) hG ha rfl) ha (by decide))), e_s2, zU_at (Or.inl (zne (zr (k := 27) (t2 := 84) hG ha rfl) ha (by decide))), e_s1, zU_at (Or.inr (by decide))])
  have f22 := zf hS0 ha (k := 23) rfl
  have g23 : s4 a 24 = s0 a 24 := (by rw [(zFr_g hF_s4 ha (by decide)), e_s3, zU_at (Or.inl (zne (zr (k := 27) (t2 := 84) hG ha rfl) ha (by decide))), e_s2, zU_at (Or.inl (zne (zr (k := 27) (t2 := 84) hG ha rfl) ha (by decide))), e_s1, zU_at (Or.inr (by decide))])
  have f24 := zf hS0 ha (k := 24) rfl
  have g25 : s4 a 38 = s0 a 38 := (by rw [(zFr_g hF_s4 ha (by decide)), e_s3, zU_at (Or.inl (zne (zr (k := 27) (t2 := 84) hG ha rfl) ha (by decide))), e_s2, zU_at (Or.inl (zne (zr (k := 27) (t2 := 84) hG ha rfl) ha (by decide))), e_s1, zU_at (Or.inr (by decide))])
  have f26 := zf hS0 ha (k := 38) rfl
  have g27 : s4 a 51 = s0 a 51 := (by rw [(zFr_g hF_s4 ha (by decide)), e_s3, zU_at (Or.inl (zne (zr (k := 27) (t2 := 84) hG ha rfl) ha (by decide))), e_s2, zU_at (Or.inl (zne (zr (k := 27) (t2 := 84) hG ha rfl) ha (by decide))), e_s1, zU_at (Or.inr (by decide))])
  have f28 := zf hS0 ha (k := 51) rfl
  have g29 : s4 a 52 = s0 a 52 := (by rw [(zFr_g hF_s4 ha (by decide)), e_s3, zU_at (Or.inl (zne (zr (k := 27) (t2 := 84) hG ha rfl) ha (by decide))), e_s2, zU_at (Or.inl (zne (zr (k := 27) (t2 := 84) hG ha rfl) ha (by decide))), e_s1, zU_at (Or.inr (by decide))])
  have f30 := zf hS0 ha (k := 52) rfl
  exact j_vret hx hq rfl (by decide) (by decide) dX12_draws_27 ⟨rfl, rfl, hS_s4, (zFr_t (zFr_u (zFr_u (zFr_u zFr_rf e_s1 ha (by decide)) e_s2 (zr (k := 27) (t2 := 84) hG ha rfl) (by decide)) e_s3 (zr (k := 27) (t2 := 84) hG ha rfl) (by decide)) hF_s4 (by decide)), ⟨by omega, by omega, by omega, by omega, by omega, by omega, by omega, by omega, by omega, by omega, by omega, by omega, by omega, by omega, by omega⟩⟩

set_option maxHeartbeats 4000000 in
set_option maxRecDepth 20000 in
theorem c_X12_still {E : zE} {l : Launch} (hst : l.stackTraces = false) (a : Nat) : Con E l yX12_still cX12_still 2 (some .int) { frames := 1, cells := 0, slots := 0, locals := 21 } (fun G s vs => vs = [.ref a] ∧ zGK G ∧ zSK G s ∧ (gT G a = 13)) (fun G s _ => pI (fun r G2 s2 => G2 = G ∧ zSK G s2 ∧ zFr [13, 84, 85] G s s2 ∧ ((-2147483648) ≤ r ∧ r ≤ 2147483647) ∧ zc (s2 (gP G a 27)) = zc (s (gP G a 27)) ∧ s2 (gP G a 27) 488 = s (gP G a 27) 488 ∧ zc (s2 (gP G a 28)) = zc (s (gP G a 28)) ∨ zc (s2 (gP G a 28)) = zc (s (gP G a 27)) ∧ s2 (gP G a 28) 488 = s (gP G a 28) 488 ∨ s2 (gP G a 28) 488 = s (gP G a 27) 488 ∧ s2 a 3 = s a 3 ∧ s2 a 4 = s a 4 ∧ s2 a 5 = s a 5 ∧ s2 a 7 = s a 7 ∧ s2 a 21 = s a 21 ∧ s2 a 22 = s a 22 ∧ s2 a 23 = s a 23 ∧ s2 a 24 = s a 24 ∧ s2 a 38 = s a 38 ∧ s2 a 51 = s a 51 ∧ s2 a 52 = s a 52)) := by
  refine Con.mk hst (by decide) (fun G s vs h => by rw [h.1]; exact Nat.le_of_ble_eq_true rfl) ?_
  rintro X G s0 vs ⟨rfl, hG, hS0, ha⟩ rfl hx hq
  show JJ X E 2 G s0 0 0 [(0, .ref a)] 0 []
  refine j_aload_n hx 0 dX12_still_0 rfl ?_
  refine j_iconst hx dX12_still_1 ?_
  refine p13_0 hx hG ha kf_RX12_3 dX12_still_2 ?_
  obtain ⟨s1, e_s1⟩ : ∃ z, z = zU s0 a 0 0 := ⟨_, rfl⟩
  rw [← e_s1]
  have hS_s1 : zSK G s1 := by rw [e_s1]; exact zSK_F hS0 ha rfl rfl rfl (by omega)
  refine j_aload_n hx 0 dX12_still_5 rfl ?_
  refine g13_27 hx hG ha kf_RX12_56 dX12_still_6 ?_
  refine j_sipush hx dX12_still_9 rfl ?_
  have f1 := zaQ (j := 490) hS0 (zr (k := 27) (t2 := 84) hG ha rfl) (congrArg some (axS_6 490 (by omega))) (zlen hG (zr (k := 27) (t2 := 84) hG ha rfl) (n := 515) rfl rfl) (show 0 ≤ 490 by omega) (by omega) rfl
  refine j_iald hx hG (zr (k := 27) (t2 := 84) hG ha rfl) (by decide) rfl (zlen hG (zr (k := 27) (t2 := 84) hG ha rfl) (n := 515) rfl rfl) (by omega) (by omega) (j := 490) rfl (v := (s0 (gP G a 27) 490)) (by rw [e_s1, zU_at (Or.inl (zne ha (zr (k := 27) (t2 := 84) hG ha rfl) (by decide)))]) dX12_still_12 ?_
  refine j_istore_n hx [(1, .int (zI ((s0 (gP G a 27) 490)))), (0, .ref a)] dX12_still_13 (by decide) rfl ?_
  refine j_aload_n hx 1 dX12_still_14 rfl ?_
  refine g13_27 hx hG ha kf_RX12_56 dX12_still_15 ?_
  refine j_sipush hx dX12_still_18 rfl ?_
  refine j_iconst hx dX12_still_21 ?_
  refine j_iast hx hG (zr (k := 27) (t2 := 84) hG ha rfl) (by decide) rfl (zlen hG (zr (k := 27) (t2 := 84) hG ha rfl) (n := 515) rfl rfl) (by omega) (by omega) (j := 490) rfl dX12_still_22 ?_
  obtain ⟨s2, e_s2⟩ : ∃ z, z = zU s1 (gP G a 27) 490 0 := ⟨_, rfl⟩
  rw [← e_s2]
  have hS_s2 : zSK G s2 := by rw [e_s2]; exact zSK_a hS_s1 (zr (k := 27) (t2 := 84) hG ha rfl) rfl rfl (congrArg some (axS_6 490 (by omega))) (by omega)
  have g3 : zc (s1 (gP G a 27)) = zc (s0 (gP G a 27)) := by rw [e_s1, zU_ne (zne (zr (k := 27) (t2 := 84) hG ha rfl) ha (by decide))]
  have z2 : zc (s2 (gP G a 27)) = zc (s1 (gP G a 27)) := by rw [e_s2]; exact zc_o (by omega)
  refine j_aload_n hx 1 dX12_still_23 rfl ?_
  have g4 : s2 (gP G a 27) 488 = s0 (gP G a 27) 488 := (by rw [e_s2, zU_at (Or.inr (by decide)), e_s1, zU_at (Or.inl (zne ha (zr (k := 27) (t2 := 84) hG ha rfl) (by decide)))])
  refine j_callV hx hG (c_X12_stays hst a) lk_RX12_207 ha (by decide) rfl rfl rfl rfl [] ⟨rfl, hG, hS_s2, ha⟩ rfl rfl ⟨by decide, by decide⟩ ⟨by decide, by decide⟩ (k2 := 0) (n2 := 0) rfl rfl (Nat.le_of_ble_eq_true rfl) dX12_still_24 (kVM (fun s3 hS_s3 hF_s3 q6 => ?_))
  refine j_iload_n hx 0 dX12_still_27 rfl ?_
  have g7 : zc (s3 (gP G a 27)) = zc (s2 (gP G a 27)) := by rw [(zFr_g hF_s3 (zr (k := 27) (t2 := 84) hG ha rfl) (by decide))]
  have g8 : s3 (gP G a 27) 488 = s0 (gP G a 27) 488 := (by rw [(zFr_g hF_s3 (zr (k := 27) (t2 := 84) hG ha rfl) (by decide)), e_s2, zU_at (Or.inr (by decide)), e_s1, zU_at (Or.inl (zne ha (zr (k := 27) (t2 := 84) hG ha rfl) (by decide)))])
  have g9 : s3 a 3 = s0 a 3 := (by rw [(zFr_g hF_s3 ha (by decide)), e_s2, zU_at (Or.inl (zne (zr (k := 27) (t2 := 84) hG ha rfl) ha (by decide))), e_s1, zU_at (Or.inr (by decide))])
  have f10 := zf hS0 ha (k := 3) rfl
  have g11 : s3 a 4 = s0 a 4 := (by rw [(zFr_g hF_s3 ha (by decide)), e_s2, zU_at (Or.inl (zne (zr (k := 27) (t2 := 84) hG ha rfl) ha (by decide))), e_s1, zU_at (Or.inr (by decide))])
  have f12 := zf hS0 ha (k := 4) rfl
  have g13 : s3 a 5 = s0 a 5 := (by rw [(zFr_g hF_s3 ha (by decide)), e_s2, zU_at (Or.inl (zne (zr (k := 27) (t2 := 84) hG ha rfl) ha (by decide))), e_s1, zU_at (Or.inr (by decide))])
  have f14 := zf hS0 ha (k := 5) rfl
  have g15 : s3 a 7 = s0 a 7 := (by rw [(zFr_g hF_s3 ha (by decide)), e_s2, zU_at (Or.inl (zne (zr (k := 27) (t2 := 84) hG ha rfl) ha (by decide))), e_s1, zU_at (Or.inr (by decide))])
  have f16 := zf hS0 ha (k := 7) rfl
  have g17 : s3 a 21 = s0 a 21 := (by rw [(zFr_g hF_s3 ha (by decide)), e_s2, zU_at (Or.inl (zne (zr (k := 27) (t2 := 84) hG ha rfl) ha (by decide))), e_s1, zU_at (Or.inr (by decide))])
  have f18 := zf hS0 ha (k := 21) rfl
  have g19 : s3 a 22 = s0 a 22 := (by rw [(zFr_g hF_s3 ha (by decide)), e_s2, zU_at (Or.inl (zne (zr (k := 27) (t2 := 84) hG ha rfl) ha (by decide))), e_s1, zU_at (Or.inr (by decide))])
  have f20 := zf hS0 ha (k := 22) rfl
  have g21 : s3 a 23 = s0 a 23 := (by rw [(zFr_g hF_s3 ha (by decide)), e_s2, zU_at (Or.inl (zne (zr (k := 27) (t2 := 84) hG ha rfl) ha (by decide))), e_s1, zU_at (Or.inr (by decide))])
  have f22 := zf hS0 ha (k := 23) rfl
  have g23 : s3 a 24 = s0 a 24 := (by rw [(zFr_g hF_s3 ha (by decide)), e_s2, zU_at (Or.inl (zne (zr (k := 27) (t2 := 84) hG ha rfl) ha (by decide))), e_s1, zU_at (Or.inr (by decide))])
  have f24 := zf hS0 ha (k := 24) rfl
  have g25 : s3 a 38 = s0 a 38 := (by rw [(zFr_g hF_s3 ha (by decide)), e_s2, zU_at (Or.inl (zne (zr (k := 27) (t2 := 84) hG ha rfl) ha (by decide))), e_s1, zU_at (Or.inr (by decide))])
  have f26 := zf hS0 ha (k := 38) rfl
  have g27 : s3 a 51 = s0 a 51 := (by rw [(zFr_g hF_s3 ha (by decide)), e_s2, zU_at (Or.inl (zne (zr (k := 27) (t2 := 84) hG ha rfl) ha (by decide))), e_s1, zU_at (Or.inr (by decide))])
  have f28 := zf hS0 ha (k := 51) rfl
  have g29 : s3 a 52 = s0 a 52 := (by rw [(zFr_g hF_s3 ha (by decide)), e_s2, zU_at (Or.inl (zne (zr (k := 27) (t2 := 84) hG ha rfl) ha (by decide))), e_s1, zU_at (Or.inr (by decide))])
  have f30 := zf hS0 ha (k := 52) rfl
  exact j_iret hx hq rfl (by decide) (by decide) dX12_still_28 ⟨(s0 (gP G a 27) 490), rfl, rfl, hS_s3, (zFr_t (zFr_u (zFr_u zFr_rf e_s1 ha (by decide)) e_s2 (zr (k := 27) (t2 := 84) hG ha rfl) (by decide)) hF_s3 (by decide)), ⟨(by omega), by omega, by omega, by omega, by omega, by omega, by omega, by omega, by omega, by omega, by omega, by omega, by omega, by omega, by omega, by omega⟩⟩

set_option maxHeartbeats 4000000 in
set_option maxRecDepth 20000 in
theorem c_X12_take {E : zE} {l : Launch} (hst : l.stackTraces = false) (a : Nat) (x1 : Int) (x2 : Int) (x3 : Int) (x4 : Int) : Con E l yX12_take cX12_take 6 none { frames := 0, cells := 0, slots := 0, locals := 0 } (fun G s vs => vs = [.ref a, .int (zI x1), .int (zI x2), .int (zI x3), .int (zI x4)] ∧ zGK G ∧ zSK G s ∧ (gT G a = 13) ∧ (180 ≤ x1 ∧ x1 ≤ 360) ∧ (483 ≤ x2 ∧ x2 ≤ 486) ∧ (0 ≤ x3 ∧ x3 ≤ 360) ∧ (480 ≤ x4 ∧ x4 ≤ 486) ∧ (x2 ≠ x4) ∧ (zc (s (gP G a 27)) ≤ 60)) (fun G s _ => pV (fun G2 s2 => G2 = G ∧ zSK G s2 ∧ zFr [84] G s s2 ∧ zc (s2 (gP G a 27)) = zc (s (gP G a 27)) ∧ s2 (gP G a 27) (x2).toNat = s (gP G a 27) (x2).toNat ∧ s2 (gP G a 27) (x4).toNat = s (gP G a 27) (x4).toNat ∧ s2 (gP G a 27) 488 = s (gP G a 27) 488)) := by
  refine Con.mk hst (by decide) (fun G s vs h => by rw [h.1]; exact Nat.le_of_ble_eq_true rfl) ?_
  rintro X G s0 vs ⟨rfl, hG, hS0, ha, hx1, hx2, hx3, hx4, e0, e1⟩ rfl hx hq
  show JJ X E 6 G s0 0 0 [(0, .ref a), (1, .int (zI x1)), (2, .int (zI x2)), (3, .int (zI x3)), (4, .int (zI x4))] 0 []
  refine j_iconst hx dX12_take_0 ?_
  refine j_istore hx [(5, .int (zI 0)), (0, .ref a), (1, .int (zI x1)), (2, .int (zI x2)), (3, .int (zI x3)), (4, .int (zI x4))] dX12_take_1 (by decide) rfl ?_
  have c3_1 : ∀ (m_c3_1 : Nat) (v1 : Int) (s2 : zS), 2147483648 - v1 < m_c3_1 → (0 ≤ v1 ∧ v1 ≤ 60) → (zSK G s2) → (zFr [84] G s0 s2) → (zc (s2 (gP G a 27)) = zc (s0 (gP G a 27))) → (s2 (gP G a 27) (x2).toNat = s0 (gP G a 27) (x2).toNat) → (s2 (gP G a 27) (x4).toNat = s0 (gP G a 27) (x4).toNat) → (s2 (gP G a 27) 488 = s0 (gP G a 27) 488) → JJ X E 6 G s2 0 0 [(0, .ref a), (1, .int (zI x1)), (2, .int (zI x2)), (3, .int (zI x3)), (4, .int (zI x4)), (5, .int (zI v1))] 3 [] := by
    intro m_c3_1
    induction m_c3_1 with
    | zero => intro v1 s2 hm_c3_1 fA3 hS_s2 hF_s2 fA6 fA7 fA8 fA9; exfalso; omega
    | succ m_c3_1 ih_c3_1 => 
      intro v1 s2 hm_c3_1 fA3 hS_s2 hF_s2 fA6 fA7 fA8 fA9
      refine j_iload hx 5 dX12_take_3 rfl ?_
      refine j_aload_n hx 0 dX12_take_5 rfl ?_
      refine g13_27 hx hG ha kf_RX12_56 dX12_take_6 ?_
      refine j_iload_n hx 2 dX12_take_9 rfl ?_
      have f2 := zaQ (j := (x2).toNat) hS_s2 (zr (k := 27) (t2 := 84) hG ha rfl) (congrArg some (axS_2 (x2).toNat (by omega))) (zlen hG (zr (k := 27) (t2 := 84) hG ha rfl) (n := 515) rfl rfl) (show 0 ≤ x2 by omega) (by omega) rfl
      have c3 := zc_1 (j := (x2).toNat) hS_s2 (zr (k := 27) (t2 := 84) hG ha rfl) (zn hG (zr (k := 27) (t2 := 84) hG ha rfl) rfl) (by omega) (by omega)
      refine j_iald hx hG (zr (k := 27) (t2 := 84) hG ha rfl) (by decide) rfl (zlen hG (zr (k := 27) (t2 := 84) hG ha rfl) (n := 515) rfl rfl) (by omega) (by omega) (j := (x2).toNat) rfl rfl dX12_take_10 ?_
      refine j_icmp_ge hx 46 dX12_take_11 rfl (by omega) (by omega) (fun h4 => ?_) (fun h4 => ?_)
      · skip
        exact j_vret hx hq rfl (by decide) (by decide) dX12_take_46 ⟨rfl, rfl, hS_s2, (zFr_t zFr_rf hF_s2 (by decide)), ⟨by omega, by omega, by omega, by omega⟩⟩
      · skip
        refine j_aload_n hx 0 dX12_take_14 rfl ?_
        refine g13_27 hx hG ha kf_RX12_56 dX12_take_15 ?_
        refine j_iload_n hx 3 dX12_take_18 rfl ?_
        refine j_aload_n hx 0 dX12_take_19 rfl ?_
        refine g13_27 hx hG ha kf_RX12_56 dX12_take_20 ?_
        refine j_iload hx 4 dX12_take_23 rfl ?_
        have f5 := zaQ (j := (x4).toNat) hS_s2 (zr (k := 27) (t2 := 84) hG ha rfl) (congrArg some (axS_2 (x4).toNat (by omega))) (zlen hG (zr (k := 27) (t2 := 84) hG ha rfl) (n := 515) rfl rfl) (show 0 ≤ x4 by omega) (by omega) rfl
        have c6 := zc_1 (j := (x4).toNat) hS_s2 (zr (k := 27) (t2 := 84) hG ha rfl) (zn hG (zr (k := 27) (t2 := 84) hG ha rfl) rfl) (by omega) (by omega)
        have c7 : (x2).toNat ≠ (x4).toNat → s2 (gP G a 27) (x2).toNat + s2 (gP G a 27) (x4).toNat ≤ zc (s2 (gP G a 27)) := fun e => zc_2 hS_s2 (zr (k := 27) (t2 := 84) hG ha rfl) (zn hG (zr (k := 27) (t2 := 84) hG ha rfl) rfl) (by omega) (by omega) (by omega) (by omega) e
        refine j_iald hx hG (zr (k := 27) (t2 := 84) hG ha rfl) (by decide) rfl (zlen hG (zr (k := 27) (t2 := 84) hG ha rfl) (n := 515) rfl rfl) (by omega) (by omega) (j := (x4).toNat) rfl rfl dX12_take_25 ?_
        refine j_iadd hx (r := x3 + (s2 (gP G a 27) (x4).toNat)) dX12_take_26 (by omega) ?_
        refine j_iload hx 5 dX12_take_27 rfl ?_
        refine j_iadd hx (r := x3 + (s2 (gP G a 27) (x4).toNat) + v1) dX12_take_29 (by omega) ?_
        refine j_aload_n hx 0 dX12_take_30 rfl ?_
        refine g13_27 hx hG ha kf_RX12_56 dX12_take_31 ?_
        refine j_iload_n hx 1 dX12_take_34 rfl ?_
        refine j_iload hx 5 dX12_take_35 rfl ?_
        refine j_iadd hx (r := x1 + v1) dX12_take_37 rfl ?_
        have f8 := zaQ (j := (x1 + v1).toNat) hS_s2 (zr (k := 27) (t2 := 84) hG ha rfl) (congrArg some (axS_0 (x1 + v1).toNat (by omega))) (zlen hG (zr (k := 27) (t2 := 84) hG ha rfl) (n := 515) rfl rfl) (show 0 ≤ x1 + v1 by omega) (by omega) rfl
        refine j_iald hx hG (zr (k := 27) (t2 := 84) hG ha rfl) (by decide) rfl (zlen hG (zr (k := 27) (t2 := 84) hG ha rfl) (n := 515) rfl rfl) (by omega) (by omega) (j := (x1 + v1).toNat) rfl rfl dX12_take_38 ?_
        refine j_iast hx hG (zr (k := 27) (t2 := 84) hG ha rfl) (by decide) rfl (zlen hG (zr (k := 27) (t2 := 84) hG ha rfl) (n := 515) rfl rfl) (by omega) (by omega) (j := (x3 + (s2 (gP G a 27) (x4).toNat) + v1).toNat) rfl dX12_take_39 ?_
        obtain ⟨s10, e_s10⟩ : ∃ z, z = zU s2 (gP G a 27) (x3 + (s2 (gP G a 27) (x4).toNat) + v1).toNat ((s2 (gP G a 27) (x1 + v1).toNat)) := ⟨_, rfl⟩
        rw [← e_s10]
        have hS_s10 : zSK G s10 := by rw [e_s10]; exact zSK_a hS_s2 (zr (k := 27) (t2 := 84) hG ha rfl) rfl rfl (congrArg some (axS_0 (x3 + (s2 (gP G a 27) (x4).toNat) + v1).toNat (by omega))) (by omega)
        have z9 : zc (s10 (gP G a 27)) = zc (s2 (gP G a 27)) := by rw [e_s10]; exact zc_o (by omega)
        refine j_iinc hx 5 [(5, .int (zI (v1 + 1))), (0, .ref a), (1, .int (zI x1)), (2, .int (zI x2)), (3, .int (zI x3)), (4, .int (zI x4))] dX12_take_40 rfl (by omega) (by decide) rfl ?_
        refine j_goto hx 3 dX12_take_43 rfl ?_
        have g10 : s10 (gP G a 27) (x2).toNat = s2 (gP G a 27) (x2).toNat := (by rw [e_s10, zU_at (Or.inr (by omega))])
        have g11 : s10 (gP G a 27) (x4).toNat = s2 (gP G a 27) (x4).toNat := (by rw [e_s10, zU_at (Or.inr (by omega))])
        have g12 : s10 (gP G a 27) 488 = s2 (gP G a 27) 488 := (by rw [e_s10, zU_at (Or.inr (by omega))])
        exact j_sub [1, 2, 3, 4, 5, 0] [(0, .ref a), (1, .int (zI x1)), (2, .int (zI x2)), (3, .int (zI x3)), (4, .int (zI x4)), (5, .int (zI (v1 + 1)))] rfl (ih_c3_1 (v1 + 1) s10 (by omega) (by omega) hS_s10 (zFr_u (zFr_t zFr_rf hF_s2 (by decide)) e_s10 (zr (k := 27) (t2 := 84) hG ha rfl) (by decide)) (by omega) (by omega) (by omega) (by omega))
  exact j_sub [1, 2, 3, 4, 5, 0] [(0, .ref a), (1, .int (zI x1)), (2, .int (zI x2)), (3, .int (zI x3)), (4, .int (zI x4)), (5, .int (zI 0))] rfl (c3_1 (2147483648 * 4) 0 s0 (by omega) (by omega) hS0 zFr_rf (by omega) (by omega) (by omega) (by omega))

theorem lk_RX12_361 : LkV RX12 361 RX12 yX12_take cX12_take 6 none 4 := ⟨km_RX12_361, ki_yX12_take, ks_RX12_yX12_take, kn_RX12, kc_yX12_take, rfl, by decide +kernel, by decide +kernel, by decide +kernel⟩
set_option maxHeartbeats 4000000 in
set_option maxRecDepth 20000 in
theorem c_X12_comes {E : zE} {l : Launch} (hst : l.stackTraces = false) (a : Nat) (x1 : Int) (x2 : Int) (x3 : Int) : Con E l yX12_comes cX12_comes 4 none { frames := 1, cells := 0, slots := 0, locals := 25 } (fun G s vs => vs = [.ref a, .int (zI x1), .int (zI x2), .int (zI x3)] ∧ zGK G ∧ zSK G s ∧ (gT G a = 13) ∧ (0 ≤ x1 ∧ x1 ≤ 2) ∧ (0 ≤ x2 ∧ x2 ≤ 360) ∧ (480 ≤ x3 ∧ x3 ≤ 486) ∧ (x3 ≠ x1 + 483) ∧ (zc (s (gP G a 27)) ≤ 60)) (fun G s _ => pV (fun G2 s2 => G2 = G ∧ zSK G s2 ∧ zFr [84] G s s2 ∧ zc (s2 (gP G a 27)) = zc (s (gP G a 27)) ∧ s2 (gP G a 27) (x1 + 483).toNat = 0 ∧ s2 (gP G a 27) (x3).toNat = s (gP G a 27) (x3).toNat + s (gP G a 27) (x1 + 483).toNat ∧ s2 (gP G a 27) 488 = s (gP G a 27) 488)) := by
  refine Con.mk hst (by decide) (fun G s vs h => by rw [h.1]; exact Nat.le_of_ble_eq_true rfl) ?_
  rintro X G s0 vs ⟨rfl, hG, hS0, ha, hx1, hx2, hx3, e0, e1⟩ rfl hx hq
  show JJ X E 4 G s0 0 0 [(0, .ref a), (1, .int (zI x1)), (2, .int (zI x2)), (3, .int (zI x3))] 0 []
  refine j_aload_n hx 0 dX12_comes_0 rfl ?_
  refine j_sipush hx dX12_comes_1 rfl ?_
  refine j_bipush hx dX12_comes_4 rfl ?_
  refine j_iload_n hx 1 dX12_comes_6 rfl ?_
  refine j_imul hx (r := 60 * x1) dX12_comes_7 rfl ?_
  refine j_iadd hx (r := 60 * x1 + 180) dX12_comes_8 (by omega) ?_
  refine j_sipush hx dX12_comes_9 rfl ?_
  refine j_iload_n hx 1 dX12_comes_12 rfl ?_
  refine j_iadd hx (r := x1 + 483) dX12_comes_13 (by omega) ?_
  refine j_iload_n hx 2 dX12_comes_14 rfl ?_
  refine j_iload_n hx 3 dX12_comes_15 rfl ?_
  refine j_callV hx hG (c_X12_take hst a (60 * x1 + 180) (x1 + 483) x2 x3) lk_RX12_361 ha (by decide) rfl rfl rfl rfl [.int (zI (60 * x1 + 180)), .int (zI (x1 + 483)), .int (zI x2), .int (zI x3)] ⟨rfl, hG, hS0, ha, (by omega), (by omega), (by omega), (by omega), (by omega), (by omega)⟩ rfl rfl ⟨by decide, by decide⟩ ⟨by decide, by decide⟩ (k2 := 0) (n2 := 0) rfl rfl (Nat.le_of_ble_eq_true rfl) dX12_comes_16 (kVM (fun s1 hS_s1 hF_s1 q2 => ?_))
  refine j_aload_n hx 0 dX12_comes_19 rfl ?_
  refine g13_27 hx hG ha kf_RX12_56 dX12_comes_20 ?_
  refine j_iload_n hx 3 dX12_comes_23 rfl ?_
  refine j_dup2 hx dX12_comes_24 rfl rfl ?_
  have f3 := zaQ (j := (x3).toNat) hS_s1 (zr (k := 27) (t2 := 84) hG ha rfl) (congrArg some (axS_2 (x3).toNat (by omega))) (zlen hG (zr (k := 27) (t2 := 84) hG ha rfl) (n := 515) rfl rfl) (show 0 ≤ x3 by omega) (by omega) rfl
  have c4 := zc_1 (j := (x3).toNat) hS_s1 (zr (k := 27) (t2 := 84) hG ha rfl) (zn hG (zr (k := 27) (t2 := 84) hG ha rfl) rfl) (by omega) (by omega)
  refine j_iald hx hG (zr (k := 27) (t2 := 84) hG ha rfl) (by decide) rfl (zlen hG (zr (k := 27) (t2 := 84) hG ha rfl) (n := 515) rfl rfl) (by omega) (by omega) (j := (x3).toNat) rfl rfl dX12_comes_25 ?_
  refine j_aload_n hx 0 dX12_comes_26 rfl ?_
  refine g13_27 hx hG ha kf_RX12_56 dX12_comes_27 ?_
  refine j_sipush hx dX12_comes_30 rfl ?_
  refine j_iload_n hx 1 dX12_comes_33 rfl ?_
  refine j_iadd hx (r := x1 + 483) dX12_comes_34 (by omega) ?_
  have f5 := zaQ (j := (x1 + 483).toNat) hS_s1 (zr (k := 27) (t2 := 84) hG ha rfl) (congrArg some (axS_2 (x1 + 483).toNat (by omega))) (zlen hG (zr (k := 27) (t2 := 84) hG ha rfl) (n := 515) rfl rfl) (show 0 ≤ x1 + 483 by omega) (by omega) rfl
  have c6 := zc_1 (j := (x1 + 483).toNat) hS_s1 (zr (k := 27) (t2 := 84) hG ha rfl) (zn hG (zr (k := 27) (t2 := 84) hG ha rfl) rfl) (by omega) (by omega)
  have c7 : (x3).toNat ≠ (x1 + 483).toNat → s1 (gP G a 27) (x3).toNat + s1 (gP G a 27) (x1 + 483).toNat ≤ zc (s1 (gP G a 27)) := fun e => zc_2 hS_s1 (zr (k := 27) (t2 := 84) hG ha rfl) (zn hG (zr (k := 27) (t2 := 84) hG ha rfl) rfl) (by omega) (by omega) (by omega) (by omega) e
  refine j_iald hx hG (zr (k := 27) (t2 := 84) hG ha rfl) (by decide) rfl (zlen hG (zr (k := 27) (t2 := 84) hG ha rfl) (n := 515) rfl rfl) (by omega) (by omega) (j := (x1 + 483).toNat) rfl rfl dX12_comes_35 ?_
  refine j_iadd hx (r := (s1 (gP G a 27) (x3).toNat) + (s1 (gP G a 27) (x1 + 483).toNat)) dX12_comes_36 (by omega) ?_
  refine j_iast hx hG (zr (k := 27) (t2 := 84) hG ha rfl) (by decide) rfl (zlen hG (zr (k := 27) (t2 := 84) hG ha rfl) (n := 515) rfl rfl) (by omega) (by omega) (j := (x3).toNat) rfl dX12_comes_37 ?_
  obtain ⟨s2, e_s2⟩ : ∃ z, z = zU s1 (gP G a 27) (x3).toNat ((s1 (gP G a 27) (x3).toNat) + (s1 (gP G a 27) (x1 + 483).toNat)) := ⟨_, rfl⟩
  rw [← e_s2]
  have hS_s2 : zSK G s2 := by rw [e_s2]; exact zSK_a hS_s1 (zr (k := 27) (t2 := 84) hG ha rfl) rfl rfl (congrArg some (axS_2 (x3).toNat (by omega))) (by omega)
  have g9 : s2 (gP G a 27) (x3).toNat = (s1 (gP G a 27) (x3).toNat) + (s1 (gP G a 27) (x1 + 483).toNat) := (by rw [e_s2, zU_eq])
  have z8 : zc (s2 (gP G a 27)) = zc (s1 (gP G a 27)) - s1 (gP G a 27) (x3).toNat + s2 (gP G a 27) (x3).toNat := by rw [e_s2, zU_eq]; exact zc_w (by omega) (by omega)
  refine j_aload_n hx 0 dX12_comes_38 rfl ?_
  refine g13_27 hx hG ha kf_RX12_56 dX12_comes_39 ?_
  refine j_sipush hx dX12_comes_42 rfl ?_
  refine j_iload_n hx 1 dX12_comes_45 rfl ?_
  refine j_iadd hx (r := x1 + 483) dX12_comes_46 (by omega) ?_
  refine j_iconst hx dX12_comes_47 ?_
  refine j_iast hx hG (zr (k := 27) (t2 := 84) hG ha rfl) (by decide) rfl (zlen hG (zr (k := 27) (t2 := 84) hG ha rfl) (n := 515) rfl rfl) (by omega) (by omega) (j := (x1 + 483).toNat) rfl dX12_comes_48 ?_
  obtain ⟨s3, e_s3⟩ : ∃ z, z = zU s2 (gP G a 27) (x1 + 483).toNat 0 := ⟨_, rfl⟩
  rw [← e_s3]
  have hS_s3 : zSK G s3 := by rw [e_s3]; exact zSK_a hS_s2 (zr (k := 27) (t2 := 84) hG ha rfl) rfl rfl (congrArg some (axS_2 (x1 + 483).toNat (by omega))) (by omega)
  have g11 : s2 (gP G a 27) (x1 + 483).toNat = s1 (gP G a 27) (x1 + 483).toNat := (by rw [e_s2, zU_at (Or.inr (by omega))])
  have g12 : s3 (gP G a 27) (x1 + 483).toNat = 0 := (by rw [e_s3, zU_eq])
  have z10 : zc (s3 (gP G a 27)) = zc (s2 (gP G a 27)) - s2 (gP G a 27) (x1 + 483).toNat + s3 (gP G a 27) (x1 + 483).toNat := by rw [e_s3, zU_eq]; exact zc_w (by omega) (by omega)
  have g13 : s3 (gP G a 27) (x3).toNat = (s1 (gP G a 27) (x3).toNat) + (s1 (gP G a 27) (x1 + 483).toNat) := (by rw [e_s3, zU_at (Or.inr (by omega)), e_s2, zU_eq])
  have g14 : s3 (gP G a 27) 488 = s1 (gP G a 27) 488 := (by rw [e_s3, zU_at (Or.inr (by omega)), e_s2, zU_at (Or.inr (by omega))])
  exact j_vret hx hq rfl (by decide) (by decide) dX12_comes_49 ⟨rfl, rfl, hS_s3, (zFr_u (zFr_u (zFr_t zFr_rf hF_s1 (by decide)) e_s2 (zr (k := 27) (t2 := 84) hG ha rfl) (by decide)) e_s3 (zr (k := 27) (t2 := 84) hG ha rfl) (by decide)), ⟨by omega, by omega, by omega, by omega⟩⟩

theorem lk_RX12_365 : LkV RX12 365 RX12 yX12_comes cX12_comes 4 none 3 := ⟨km_RX12_365, ki_yX12_comes, ks_RX12_yX12_comes, kn_RX12, kc_yX12_comes, rfl, by decide +kernel, by decide +kernel, by decide +kernel⟩
set_option maxHeartbeats 4000000 in
set_option maxRecDepth 20000 in
theorem c_X12_comesToRow {E : zE} {l : Launch} (hst : l.stackTraces = false) (a : Nat) (x1 : Int) (x2 : Int) : Con E l yX12_comesToRow cX12_comesToRow 3 none { frames := 2, cells := 0, slots := 0, locals := 48 } (fun G s vs => vs = [.ref a, .int (zI x1), .int (zI x2)] ∧ zGK G ∧ zSK G s ∧ (gT G a = 13) ∧ (0 ≤ x1 ∧ x1 ≤ 2) ∧ (0 ≤ x2 ∧ x2 ≤ 2) ∧ (zc (s (gP G a 27)) ≤ 60)) (fun G s _ => pV (fun G2 s2 => G2 = G ∧ zSK G s2 ∧ zFr [84] G s s2 ∧ zc (s2 (gP G a 27)) = zc (s (gP G a 27)) ∧ s2 (gP G a 27) (x1 + 483).toNat = 0 ∧ s2 (gP G a 27) (x2 + 480).toNat = s (gP G a 27) (x2 + 480).toNat + s (gP G a 27) (x1 + 483).toNat ∧ s2 (gP G a 27) 488 = s (gP G a 27) 488)) := by
  refine Con.mk hst (by decide) (fun G s vs h => by rw [h.1]; exact Nat.le_of_ble_eq_true rfl) ?_
  rintro X G s0 vs ⟨rfl, hG, hS0, ha, hx1, hx2, e0⟩ rfl hx hq
  show JJ X E 3 G s0 0 0 [(0, .ref a), (1, .int (zI x1)), (2, .int (zI x2))] 0 []
  refine j_aload_n hx 0 dX12_comesToRow_0 rfl ?_
  refine j_iload_n hx 1 dX12_comesToRow_1 rfl ?_
  refine j_iconst hx dX12_comesToRow_2 ?_
  refine j_bipush hx dX12_comesToRow_3 rfl ?_
  refine j_iload_n hx 2 dX12_comesToRow_5 rfl ?_
  refine j_imul hx (r := 60 * x2) dX12_comesToRow_6 rfl ?_
  refine j_iadd hx (r := 60 * x2) dX12_comesToRow_7 (by omega) ?_
  refine j_sipush hx dX12_comesToRow_8 rfl ?_
  refine j_iload_n hx 2 dX12_comesToRow_11 rfl ?_
  refine j_iadd hx (r := x2 + 480) dX12_comesToRow_12 (by omega) ?_
  refine j_callV hx hG (c_X12_comes hst a x1 (60 * x2) (x2 + 480)) lk_RX12_365 ha (by decide) rfl rfl rfl rfl [.int (zI x1), .int (zI (60 * x2)), .int (zI (x2 + 480))] ⟨rfl, hG, hS0, ha, (by omega), (by omega), (by omega), (by omega), (by omega)⟩ rfl rfl ⟨by decide, by decide⟩ ⟨by decide, by decide⟩ (k2 := 0) (n2 := 0) rfl rfl (Nat.le_of_ble_eq_true rfl) dX12_comesToRow_13 (kVM (fun s1 hS_s1 hF_s1 q2 => ?_))
  exact j_vret hx hq rfl (by decide) (by decide) dX12_comesToRow_16 ⟨rfl, rfl, hS_s1, (zFr_t zFr_rf hF_s1 (by decide)), ⟨by omega, by omega, by omega, by omega⟩⟩

theorem lk_RX12_368 : LkV RX12 368 RX12 yX12_comesToRow cX12_comesToRow 3 none 2 := ⟨km_RX12_368, ki_yX12_comesToRow, ks_RX12_yX12_comesToRow, kn_RX12, kc_yX12_comesToRow, rfl, by decide +kernel, by decide +kernel, by decide +kernel⟩
set_option maxHeartbeats 4000000 in
set_option maxRecDepth 20000 in
theorem c_X12_turnsOver {E : zE} {l : Launch} (hst : l.stackTraces = false) (a : Nat) (x1 : Int) : Con E l yX12_turnsOver cX12_turnsOver 2 none { frames := 3, cells := 0, slots := 0, locals := 70 } (fun G s vs => vs = [.ref a, .int (zI x1)] ∧ zGK G ∧ zSK G s ∧ (gT G a = 13) ∧ (0 ≤ x1 ∧ x1 ≤ 2) ∧ (zc (s (gP G a 27)) ≤ 60)) (fun G s _ => pV (fun G2 s2 => G2 = G ∧ zSK G s2 ∧ zFr [84] G s s2 ∧ zc (s2 (gP G a 27)) = zc (s (gP G a 27)) ∧ 1 ≤ s (gP G a 27) (x1 + 480).toNat + s (gP G a 27) (x1 + 483).toNat → 1 ≤ s2 (gP G a 27) (x1 + 480).toNat ∧ s2 (gP G a 27) 488 = s (gP G a 27) 488)) := by
  refine Con.mk hst (by decide) (fun G s vs h => by rw [h.1]; exact Nat.le_of_ble_eq_true rfl) ?_
  rintro X G s0 vs ⟨rfl, hG, hS0, ha, hx1, e0⟩ rfl hx hq
  show JJ X E 2 G s0 0 0 [(0, .ref a), (1, .int (zI x1))] 0 []
  refine j_aload_n hx 0 dX12_turnsOver_0 rfl ?_
  refine g13_27 hx hG ha kf_RX12_56 dX12_turnsOver_1 ?_
  refine j_sipush hx dX12_turnsOver_4 rfl ?_
  refine j_iload_n hx 1 dX12_turnsOver_7 rfl ?_
  refine j_iadd hx (r := x1 + 480) dX12_turnsOver_8 (by omega) ?_
  have f1 := zaQ (j := (x1 + 480).toNat) hS0 (zr (k := 27) (t2 := 84) hG ha rfl) (congrArg some (axS_2 (x1 + 480).toNat (by omega))) (zlen hG (zr (k := 27) (t2 := 84) hG ha rfl) (n := 515) rfl rfl) (show 0 ≤ x1 + 480 by omega) (by omega) rfl
  have c2 := zc_1 (j := (x1 + 480).toNat) hS0 (zr (k := 27) (t2 := 84) hG ha rfl) (zn hG (zr (k := 27) (t2 := 84) hG ha rfl) rfl) (by omega) (by omega)
  refine j_iald hx hG (zr (k := 27) (t2 := 84) hG ha rfl) (by decide) rfl (zlen hG (zr (k := 27) (t2 := 84) hG ha rfl) (n := 515) rfl rfl) (by omega) (by omega) (j := (x1 + 480).toNat) rfl rfl dX12_turnsOver_9 ?_
  refine j_if_ne hx 19 dX12_turnsOver_10 rfl (by omega) (fun h3 => ?_) (fun h3 => ?_)
  · skip
    exact j_vret hx hq rfl (by decide) (by decide) dX12_turnsOver_19 ⟨rfl, rfl, hS0, zFr_rf, ⟨by omega, by omega, by omega⟩⟩
  · skip
    refine j_aload_n hx 0 dX12_turnsOver_13 rfl ?_
    refine j_iload_n hx 1 dX12_turnsOver_14 rfl ?_
    refine j_iload_n hx 1 dX12_turnsOver_15 rfl ?_
    refine j_callV hx hG (c_X12_comesToRow hst a x1 x1) lk_RX12_368 ha (by decide) rfl rfl rfl rfl [.int (zI x1), .int (zI x1)] ⟨rfl, hG, hS0, ha, (by omega), (by omega), (by omega)⟩ rfl rfl ⟨by decide, by decide⟩ ⟨by decide, by decide⟩ (k2 := 0) (n2 := 0) rfl rfl (Nat.le_of_ble_eq_true rfl) dX12_turnsOver_16 (kVM (fun s1 hS_s1 hF_s1 q5 => ?_))
    exact j_vret hx hq rfl (by decide) (by decide) dX12_turnsOver_19 ⟨rfl, rfl, hS_s1, (zFr_t zFr_rf hF_s1 (by decide)), ⟨by omega, by omega, by omega⟩⟩

set_option maxHeartbeats 4000000 in
set_option maxRecDepth 20000 in
theorem c_X12_guesses {E : zE} {l : Launch} (hst : l.stackTraces = false) (a : Nat) (x1 : Int) : Con E l yX12_guesses cX12_guesses 3 none { frames := 4, cells := 0, slots := 0, locals := 96 } (fun G s vs => vs = [.ref a, .int (zI x1)] ∧ zGK G ∧ zSK G s ∧ (gT G a = 13) ∧ (0 ≤ x1 ∧ x1 ≤ 2) ∧ (zRva (s (gP G a 34)) (s (gP G a 35)) (s (gP G a 37)))) (fun G s _ => pV (fun G2 s2 => G2 = G ∧ zSK G s2 ∧ zFr [95, 98] G s s2 ∧ True)) := by
  refine Con.mk hst (by decide) (fun G s vs h => by rw [h.1]; exact Nat.le_of_ble_eq_true rfl) ?_
  rintro X G s0 vs ⟨rfl, hG, hS0, ha, hx1, e0⟩ rfl hx hq
  show JJ X E 3 G s0 0 0 [(0, .ref a), (1, .int (zI x1))] 0 []
  refine j_iconst hx dX12_guesses_0 ?_
  refine j_istore_n hx [(2, .int (zI 0)), (0, .ref a), (1, .int (zI x1))] dX12_guesses_1 (by decide) rfl ?_
  have c2_1 : ∀ (m_c2_1 : Nat) (v1 : Int) (s2 : zS), 2147483648 - v1 < m_c2_1 → (0 ≤ v1 ∧ v1 ≤ 3) → (zSK G s2) → (zFr [95, 98] G s0 s2) → JJ X E 3 G s2 0 0 [(0, .ref a), (1, .int (zI x1)), (2, .int (zI v1))] 2 [] := by
    intro m_c2_1
    induction m_c2_1 with
    | zero => intro v1 s2 hm_c2_1 fA3 hS_s2 hF_s2; exfalso; omega
    | succ m_c2_1 ih_c2_1 => 
      intro v1 s2 hm_c2_1 fA3 hS_s2 hF_s2
      refine j_iload_n hx 2 dX12_guesses_2 rfl ?_
      refine j_aload_n hx 0 dX12_guesses_3 rfl ?_
      have f2 := zf hS0 ha (k := 24) rfl
      refine g13_24 hx hG ha kf_RX12_189 (v := (s0 a 24)) (by rw [(zFr_g hF_s2 ha (by decide))]) dX12_guesses_4 ?_
      refine j_icmp_ge hx 48 dX12_guesses_7 rfl (by omega) (by omega) (fun h3 => ?_) (fun h3 => ?_)
      · skip
        exact j_vret hx hq rfl (by decide) (by decide) dX12_guesses_48 ⟨rfl, rfl, hS_s2, (zFr_t zFr_rf hF_s2 (by decide)), trivial⟩
      · skip
        refine j_aload_n hx 0 dX12_guesses_10 rfl ?_
        refine g13_45 hx hG ha kf_RX12_99 dX12_guesses_11 ?_
        refine j_iload_n hx 2 dX12_guesses_14 rfl ?_
        refine j_aload_n hx 0 dX12_guesses_15 rfl ?_
        refine j_iload_n hx 2 dX12_guesses_16 rfl ?_
        refine j_callV hx hG (c_X12_isOut hst a v1) lk_RX12_325 ha (by decide) rfl rfl rfl rfl [.int (zI v1)] ⟨rfl, hG, hS_s2, ha, (by omega)⟩ rfl rfl ⟨by decide, by decide⟩ ⟨by decide, by decide⟩ (k2 := 0) (n2 := 0) rfl rfl (Nat.le_of_ble_eq_true rfl) dX12_guesses_17 (kIP (fun v4 q5 => ?_))
        have c41_6 : ∀ (v6 : Int) (s7 : zS), ((-2) ≤ v6 ∧ v6 ≤ (-1)) → (zSK G s7) → (zFr [95] G s2 s7) → JJ X E 3 G s7 0 0 [(0, .ref a), (1, .int (zI x1)), (2, .int (zI v1))] 41 [.int (zI v6), .int (zI v1), .ref (gP G a 45)] := by
          intro v6 s7 fA8 hS_s7 hF_s7
          refine j_iast hx hG (zr (k := 45) (t2 := 98) hG ha rfl) (by decide) rfl (zlen hG (zr (k := 45) (t2 := 98) hG ha rfl) (n := 3) rfl rfl) (by omega) (by omega) (j := (v1).toNat) rfl dX12_guesses_41 ?_
          obtain ⟨s11, e_s11⟩ : ∃ z, z = zU s7 (gP G a 45) (v1).toNat v6 := ⟨_, rfl⟩
          rw [← e_s11]
          have hS_s11 : zSK G s11 := by rw [e_s11]; exact zSK_A hS_s7 (zr (k := 45) (t2 := 98) hG ha rfl) rfl rfl rfl (by omega)
          refine j_iinc hx 2 [(2, .int (zI (v1 + 1))), (0, .ref a), (1, .int (zI x1))] dX12_guesses_42 rfl (by omega) (by decide) rfl ?_
          refine j_goto hx 2 dX12_guesses_45 rfl ?_
          exact j_sub [1, 2, 0] [(0, .ref a), (1, .int (zI x1)), (2, .int (zI (v1 + 1)))] rfl (ih_c2_1 (v1 + 1) s11 (by omega) (by omega) hS_s11 (zFr_u (zFr_t (zFr_t zFr_rf hF_s2 (by decide)) hF_s7 (by decide)) e_s11 (zr (k := 45) (t2 := 98) hG ha rfl) (by decide)))
        have c39_12 : ∀ (s13 : zS), (zSK G s13) → (zFr [95] G s2 s13) → JJ X E 3 G s13 0 0 [(0, .ref a), (1, .int (zI x1)), (2, .int (zI v1))] 39 [.int (zI v1), .ref (gP G a 45)] := by
          intro s13 hS_s13 hF_s13
          refine j_bipush hx dX12_guesses_39 rfl ?_
          exact j_sub [0, 1, 2] [(0, .ref a), (1, .int (zI x1)), (2, .int (zI v1))] rfl (c41_6 (-2) s13 (by omega) hS_s13 (zFr_t zFr_rf hF_s13 (by decide)))
        refine j_if_ne hx 39 dX12_guesses_20 rfl (by omega) (fun h7 => ?_) (fun h7 => ?_)
        · skip
          exact j_sub [0, 1, 2] [(0, .ref a), (1, .int (zI x1)), (2, .int (zI v1))] rfl (c39_12 s2 hS_s2 zFr_rf)
        · skip
          refine j_aload_n hx 0 dX12_guesses_23 rfl ?_
          refine j_iconst hx dX12_guesses_24 ?_
          refine j_iload_n hx 2 dX12_guesses_25 rfl ?_
          refine j_iadd hx (r := v1 + 3) dX12_guesses_26 (by omega) ?_
          refine j_iload_n hx 2 dX12_guesses_27 rfl ?_
          refine j_iload_n hx 1 dX12_guesses_28 rfl ?_
          refine j_callV hx hG (c_X12_holds hst a (v1 + 3) v1 x1) lk_RX12_358 ha (by decide) rfl rfl rfl rfl [.int (zI (v1 + 3)), .int (zI v1), .int (zI x1)] ⟨rfl, hG, hS_s2, ha, (by omega), (by omega), (by omega), ((by rw [(zFr_g hF_s2 (zr (k := 34) (t2 := 91) hG ha rfl) (by decide)), (zFr_g hF_s2 (zr (k := 35) (t2 := 92) hG ha rfl) (by decide)), (zFr_g hF_s2 (zr (k := 37) (t2 := 94) hG ha rfl) (by decide))]; exact e0))⟩ rfl rfl ⟨by decide, by decide⟩ ⟨by decide, by decide⟩ (k2 := 0) (n2 := 0) rfl rfl (Nat.le_of_ble_eq_true rfl) dX12_guesses_29 (kIM (fun v8 s16 hS_s16 hF_s16 q9 => ?_))
          refine j_if_eq hx 39 dX12_guesses_32 rfl (by omega) (fun h10 => ?_) (fun h10 => ?_)
          · skip
            exact j_sub [0, 1, 2] [(0, .ref a), (1, .int (zI x1)), (2, .int (zI v1))] rfl (c39_12 s16 hS_s16 (zFr_t zFr_rf hF_s16 (by decide)))
          · skip
            refine j_iconst hx dX12_guesses_35 ?_
            refine j_goto hx 41 dX12_guesses_36 rfl ?_
            exact j_sub [0, 1, 2] [(0, .ref a), (1, .int (zI x1)), (2, .int (zI v1))] rfl (c41_6 (-1) s16 (by omega) hS_s16 (zFr_t zFr_rf hF_s16 (by decide)))
  exact j_sub [1, 2, 0] [(0, .ref a), (1, .int (zI x1)), (2, .int (zI 0))] rfl (c2_1 (2147483648 * 4) 0 s0 (by omega) (by omega) hS0 zFr_rf)

set_option maxHeartbeats 4000000 in
set_option maxRecDepth 20000 in
theorem c_X12_takesFirst {E : zE} {l : Launch} (hst : l.stackTraces = false) (a : Nat) (x1 : Int) : Con E l yX12_takesFirst cX12_takesFirst 4 (some .int) { frames := 0, cells := 0, slots := 0, locals := 0 } (fun G s vs => vs = [.ref a, .int (zI x1)] ∧ zGK G ∧ zSK G s ∧ (gT G a = 13) ∧ (0 ≤ x1 ∧ x1 ≤ 2) ∧ (1 ≤ s (gP G a 27) (x1 + 480).toNat) ∧ (zc (s (gP G a 27)) ≤ 60)) (fun G s _ => pI (fun r G2 s2 => G2 = G ∧ zSK G s2 ∧ zFr [84] G s s2 ∧ (0 ≤ r ∧ r ≤ 59) ∧ zc (s2 (gP G a 27)) = zc (s (gP G a 27)) - 1 ∧ s2 (gP G a 27) (x1 + 480).toNat = s (gP G a 27) (x1 + 480).toNat - 1 ∧ s2 (gP G a 27) (x1 + 483).toNat = s (gP G a 27) (x1 + 483).toNat ∧ s2 (gP G a 27) 488 = s (gP G a 27) 488)) := by
  refine Con.mk hst (by decide) (fun G s vs h => by rw [h.1]; exact Nat.le_of_ble_eq_true rfl) ?_
  rintro X G s0 vs ⟨rfl, hG, hS0, ha, hx1, e0, e1⟩ rfl hx hq
  show JJ X E 4 G s0 0 0 [(0, .ref a), (1, .int (zI x1))] 0 []
  refine j_aload_n hx 0 dX12_takesFirst_0 rfl ?_
  refine g13_27 hx hG ha kf_RX12_56 dX12_takesFirst_1 ?_
  refine j_iconst hx dX12_takesFirst_4 ?_
  refine j_bipush hx dX12_takesFirst_5 rfl ?_
  refine j_iload_n hx 1 dX12_takesFirst_7 rfl ?_
  refine j_imul hx (r := 60 * x1) dX12_takesFirst_8 rfl ?_
  refine j_iadd hx (r := 60 * x1) dX12_takesFirst_9 (by omega) ?_
  have f1 := zaQ (j := (60 * x1).toNat) hS0 (zr (k := 27) (t2 := 84) hG ha rfl) (congrArg some (axS_0 (60 * x1).toNat (by omega))) (zlen hG (zr (k := 27) (t2 := 84) hG ha rfl) (n := 515) rfl rfl) (show 0 ≤ 60 * x1 by omega) (by omega) rfl
  refine j_iald hx hG (zr (k := 27) (t2 := 84) hG ha rfl) (by decide) rfl (zlen hG (zr (k := 27) (t2 := 84) hG ha rfl) (n := 515) rfl rfl) (by omega) (by omega) (j := (60 * x1).toNat) rfl rfl dX12_takesFirst_10 ?_
  refine j_istore_n hx [(2, .int (zI ((s0 (gP G a 27) (60 * x1).toNat)))), (0, .ref a), (1, .int (zI x1))] dX12_takesFirst_11 (by decide) rfl ?_
  refine j_aload_n hx 1 dX12_takesFirst_12 rfl ?_
  refine g13_27 hx hG ha kf_RX12_56 dX12_takesFirst_13 ?_
  refine j_sipush hx dX12_takesFirst_16 rfl ?_
  refine j_iload_n hx 2 dX12_takesFirst_19 rfl ?_
  refine j_iadd hx (r := x1 + 480) dX12_takesFirst_20 (by omega) ?_
  refine j_dup2 hx dX12_takesFirst_21 rfl rfl ?_
  have f2 := zaQ (j := (x1 + 480).toNat) hS0 (zr (k := 27) (t2 := 84) hG ha rfl) (congrArg some (axS_2 (x1 + 480).toNat (by omega))) (zlen hG (zr (k := 27) (t2 := 84) hG ha rfl) (n := 515) rfl rfl) (show 0 ≤ x1 + 480 by omega) (by omega) rfl
  have c3 := zc_1 (j := (x1 + 480).toNat) hS0 (zr (k := 27) (t2 := 84) hG ha rfl) (zn hG (zr (k := 27) (t2 := 84) hG ha rfl) rfl) (by omega) (by omega)
  refine j_iald hx hG (zr (k := 27) (t2 := 84) hG ha rfl) (by decide) rfl (zlen hG (zr (k := 27) (t2 := 84) hG ha rfl) (n := 515) rfl rfl) (by omega) (by omega) (j := (x1 + 480).toNat) rfl rfl dX12_takesFirst_22 ?_
  refine j_iconst hx dX12_takesFirst_23 ?_
  refine j_isub hx (r := (s0 (gP G a 27) (x1 + 480).toNat) - 1) dX12_takesFirst_24 (by omega) ?_
  refine j_iast hx hG (zr (k := 27) (t2 := 84) hG ha rfl) (by decide) rfl (zlen hG (zr (k := 27) (t2 := 84) hG ha rfl) (n := 515) rfl rfl) (by omega) (by omega) (j := (x1 + 480).toNat) rfl dX12_takesFirst_25 ?_
  obtain ⟨s1, e_s1⟩ : ∃ z, z = zU s0 (gP G a 27) (x1 + 480).toNat ((s0 (gP G a 27) (x1 + 480).toNat) - 1) := ⟨_, rfl⟩
  rw [← e_s1]
  have hS_s1 : zSK G s1 := by rw [e_s1]; exact zSK_a hS0 (zr (k := 27) (t2 := 84) hG ha rfl) rfl rfl (congrArg some (axS_2 (x1 + 480).toNat (by omega))) (by omega)
  have g5 : s1 (gP G a 27) (x1 + 480).toNat = (s0 (gP G a 27) (x1 + 480).toNat) - 1 := (by rw [e_s1, zU_eq])
  have z4 : zc (s1 (gP G a 27)) = zc (s0 (gP G a 27)) - s0 (gP G a 27) (x1 + 480).toNat + s1 (gP G a 27) (x1 + 480).toNat := by rw [e_s1, zU_eq]; exact zc_w (by omega) (by omega)
  refine j_iconst hx dX12_takesFirst_26 ?_
  refine j_istore_n hx [(3, .int (zI 0)), (2, .int (zI ((s0 (gP G a 27) (60 * x1).toNat)))), (0, .ref a), (1, .int (zI x1))] dX12_takesFirst_27 (by decide) rfl ?_
  have g7 : s1 (gP G a 27) (x1 + 483).toNat = s0 (gP G a 27) (x1 + 483).toNat := (by rw [e_s1, zU_at (Or.inr (by omega))])
  have g8 : s1 (gP G a 27) 488 = s0 (gP G a 27) 488 := (by rw [e_s1, zU_at (Or.inr (by omega))])
  have c28_2 : ∀ (m_c28_2 : Nat) (v6 : Int) (s3 : zS), 2147483648 - v6 < m_c28_2 → (0 ≤ v6 ∧ v6 ≤ 60) → (zSK G s3) → (zFr [84] G s1 s3) → (zc (s3 (gP G a 27)) = zc (s1 (gP G a 27))) → (s3 (gP G a 27) (x1 + 480).toNat = s1 (gP G a 27) (x1 + 480).toNat) → (s3 (gP G a 27) (x1 + 483).toNat = s1 (gP G a 27) (x1 + 483).toNat) → (s3 (gP G a 27) 488 = s1 (gP G a 27) 488) → JJ X E 4 G s3 0 0 [(0, .ref a), (1, .int (zI x1)), (2, .int (zI ((s0 (gP G a 27) (60 * x1).toNat)))), (3, .int (zI v6))] 28 [] := by
    intro m_c28_2
    induction m_c28_2 with
    | zero => intro v6 s3 hm_c28_2 fA4 hS_s3 hF_s3 fA7 fA8 fA9 fA10; exfalso; omega
    | succ m_c28_2 ih_c28_2 => 
      intro v6 s3 hm_c28_2 fA4 hS_s3 hF_s3 fA7 fA8 fA9 fA10
      refine j_iload_n hx 3 dX12_takesFirst_28 rfl ?_
      refine j_aload_n hx 0 dX12_takesFirst_29 rfl ?_
      refine g13_27 hx hG ha kf_RX12_56 dX12_takesFirst_30 ?_
      refine j_sipush hx dX12_takesFirst_33 rfl ?_
      refine j_iload_n hx 1 dX12_takesFirst_36 rfl ?_
      refine j_iadd hx (r := x1 + 480) dX12_takesFirst_37 (by omega) ?_
      have f9 := zaQ (j := (x1 + 480).toNat) hS_s3 (zr (k := 27) (t2 := 84) hG ha rfl) (congrArg some (axS_2 (x1 + 480).toNat (by omega))) (zlen hG (zr (k := 27) (t2 := 84) hG ha rfl) (n := 515) rfl rfl) (show 0 ≤ x1 + 480 by omega) (by omega) rfl
      have c10 := zc_1 (j := (x1 + 480).toNat) hS_s3 (zr (k := 27) (t2 := 84) hG ha rfl) (zn hG (zr (k := 27) (t2 := 84) hG ha rfl) rfl) (by omega) (by omega)
      refine j_iald hx hG (zr (k := 27) (t2 := 84) hG ha rfl) (by decide) rfl (zlen hG (zr (k := 27) (t2 := 84) hG ha rfl) (n := 515) rfl rfl) (by omega) (by omega) (j := (x1 + 480).toNat) rfl rfl dX12_takesFirst_38 ?_
      refine j_icmp_ge hx 76 dX12_takesFirst_39 rfl (by omega) (by omega) (fun h11 => ?_) (fun h11 => ?_)
      · skip
        refine j_iload_n hx 2 dX12_takesFirst_76 rfl ?_
        exact j_iret hx hq rfl (by decide) (by decide) dX12_takesFirst_77 ⟨(s0 (gP G a 27) (60 * x1).toNat), rfl, rfl, hS_s3, (zFr_t (zFr_u zFr_rf e_s1 (zr (k := 27) (t2 := 84) hG ha rfl) (by decide)) hF_s3 (by decide)), ⟨(by omega), by omega, by omega, by omega, by omega⟩⟩
      · skip
        refine j_aload_n hx 0 dX12_takesFirst_42 rfl ?_
        refine g13_27 hx hG ha kf_RX12_56 dX12_takesFirst_43 ?_
        refine j_iconst hx dX12_takesFirst_46 ?_
        refine j_bipush hx dX12_takesFirst_47 rfl ?_
        refine j_iload_n hx 1 dX12_takesFirst_49 rfl ?_
        refine j_imul hx (r := 60 * x1) dX12_takesFirst_50 rfl ?_
        refine j_iadd hx (r := 60 * x1) dX12_takesFirst_51 (by omega) ?_
        refine j_iload_n hx 3 dX12_takesFirst_52 rfl ?_
        refine j_iadd hx (r := 60 * x1 + v6) dX12_takesFirst_53 (by omega) ?_
        refine j_aload_n hx 0 dX12_takesFirst_54 rfl ?_
        refine g13_27 hx hG ha kf_RX12_56 dX12_takesFirst_55 ?_
        refine j_iconst hx dX12_takesFirst_58 ?_
        refine j_bipush hx dX12_takesFirst_59 rfl ?_
        refine j_iload_n hx 1 dX12_takesFirst_61 rfl ?_
        refine j_imul hx (r := 60 * x1) dX12_takesFirst_62 rfl ?_
        refine j_iadd hx (r := 60 * x1) dX12_takesFirst_63 (by omega) ?_
        refine j_iload_n hx 3 dX12_takesFirst_64 rfl ?_
        refine j_iadd hx (r := 60 * x1 + v6) dX12_takesFirst_65 (by omega) ?_
        refine j_iconst hx dX12_takesFirst_66 ?_
        refine j_iadd hx (r := 60 * x1 + v6 + 1) dX12_takesFirst_67 (by omega) ?_
        have f12 := zaQ (j := (60 * x1 + v6 + 1).toNat) hS_s3 (zr (k := 27) (t2 := 84) hG ha rfl) (congrArg some (axS_0 (60 * x1 + v6 + 1).toNat (by omega))) (zlen hG (zr (k := 27) (t2 := 84) hG ha rfl) (n := 515) rfl rfl) (show 0 ≤ 60 * x1 + v6 + 1 by omega) (by omega) rfl
        refine j_iald hx hG (zr (k := 27) (t2 := 84) hG ha rfl) (by decide) rfl (zlen hG (zr (k := 27) (t2 := 84) hG ha rfl) (n := 515) rfl rfl) (by omega) (by omega) (j := (60 * x1 + v6 + 1).toNat) rfl rfl dX12_takesFirst_68 ?_
        refine j_iast hx hG (zr (k := 27) (t2 := 84) hG ha rfl) (by decide) rfl (zlen hG (zr (k := 27) (t2 := 84) hG ha rfl) (n := 515) rfl rfl) (by omega) (by omega) (j := (60 * x1 + v6).toNat) rfl dX12_takesFirst_69 ?_
        obtain ⟨s11, e_s11⟩ : ∃ z, z = zU s3 (gP G a 27) (60 * x1 + v6).toNat ((s3 (gP G a 27) (60 * x1 + v6 + 1).toNat)) := ⟨_, rfl⟩
        rw [← e_s11]
        have hS_s11 : zSK G s11 := by rw [e_s11]; exact zSK_a hS_s3 (zr (k := 27) (t2 := 84) hG ha rfl) rfl rfl (congrArg some (axS_0 (60 * x1 + v6).toNat (by omega))) (by omega)
        have z13 : zc (s11 (gP G a 27)) = zc (s3 (gP G a 27)) := by rw [e_s11]; exact zc_o (by omega)
        refine j_iinc hx 3 [(3, .int (zI (v6 + 1))), (0, .ref a), (1, .int (zI x1)), (2, .int (zI ((s0 (gP G a 27) (60 * x1).toNat))))] dX12_takesFirst_70 rfl (by omega) (by decide) rfl ?_
        refine j_goto hx 28 dX12_takesFirst_73 rfl ?_
        have g14 : s11 (gP G a 27) (x1 + 480).toNat = s3 (gP G a 27) (x1 + 480).toNat := (by rw [e_s11, zU_at (Or.inr (by omega))])
        have g15 : s11 (gP G a 27) (x1 + 483).toNat = s3 (gP G a 27) (x1 + 483).toNat := (by rw [e_s11, zU_at (Or.inr (by omega))])
        have g16 : s11 (gP G a 27) 488 = s3 (gP G a 27) 488 := (by rw [e_s11, zU_at (Or.inr (by omega))])
        exact j_sub [1, 2, 3, 0] [(0, .ref a), (1, .int (zI x1)), (2, .int (zI ((s0 (gP G a 27) (60 * x1).toNat)))), (3, .int (zI (v6 + 1)))] rfl (ih_c28_2 (v6 + 1) s11 (by omega) (by omega) hS_s11 (zFr_u (zFr_t zFr_rf hF_s3 (by decide)) e_s11 (zr (k := 27) (t2 := 84) hG ha rfl) (by decide)) (by omega) (by omega) (by omega) (by omega))
  exact j_sub [2, 3, 1, 0] [(0, .ref a), (1, .int (zI x1)), (2, .int (zI ((s0 (gP G a 27) (60 * x1).toNat)))), (3, .int (zI 0))] rfl (c28_2 (2147483648 * 4) 0 s1 (by omega) (by omega) hS_s1 zFr_rf (by omega) (by omega) (by omega) (by omega))

theorem lk_RX12_371 : LkV RX12 371 RX12 yX12_takesFirst cX12_takesFirst 4 (some .int) 1 := ⟨km_RX12_371, ki_yX12_takesFirst, ks_RX12_yX12_takesFirst, kn_RX12, kc_yX12_takesFirst, rfl, by decide +kernel, by decide +kernel, by decide +kernel⟩
set_option maxHeartbeats 4000000 in
set_option maxRecDepth 20000 in
theorem c_X12_lays {E : zE} {l : Launch} (hst : l.stackTraces = false) (a : Nat) (x1 : Int) : Con E l yX12_lays cX12_lays 2 none { frames := 1, cells := 0, slots := 0, locals := 23 } (fun G s vs => vs = [.ref a, .int (zI x1)] ∧ zGK G ∧ zSK G s ∧ (gT G a = 13) ∧ (0 ≤ x1 ∧ x1 ≤ 2) ∧ (1 ≤ s (gP G a 27) (x1 + 480).toNat) ∧ (zc (s (gP G a 27)) ≤ 60)) (fun G s _ => pV (fun G2 s2 => G2 = G ∧ zSK G s2 ∧ zFr [13, 84] G s s2 ∧ zc (s2 (gP G a 27)) = zc (s (gP G a 27)) ∧ s2 (gP G a 27) 488 = s (gP G a 27) 488 ∧ s2 a 0 = s a 0 ∧ s2 a 3 = s a 3 ∧ s2 a 4 = s a 4 ∧ s2 a 5 = s a 5 ∧ s2 a 7 = s a 7 ∧ s2 a 21 = s a 21 ∧ s2 a 22 = s a 22 ∧ s2 a 23 = s a 23 ∧ s2 a 24 = s a 24 ∧ s2 a 38 = s a 38 ∧ s2 a 51 = s a 51 ∧ s2 a 52 = s a 52)) := by
  refine Con.mk hst (by decide) (fun G s vs h => by rw [h.1]; exact Nat.le_of_ble_eq_true rfl) ?_
  rintro X G s0 vs ⟨rfl, hG, hS0, ha, hx1, e0, e1⟩ rfl hx hq
  show JJ X E 2 G s0 0 0 [(0, .ref a), (1, .int (zI x1))] 0 []
  refine j_aload_n hx 0 dX12_lays_0 rfl ?_
  refine j_aload_n hx 0 dX12_lays_1 rfl ?_
  refine j_iload_n hx 1 dX12_lays_2 rfl ?_
  refine j_callV hx hG (c_X12_takesFirst hst a x1) lk_RX12_371 ha (by decide) rfl rfl rfl rfl [.int (zI x1)] ⟨rfl, hG, hS0, ha, (by omega), (by omega), (by omega)⟩ rfl rfl ⟨by decide, by decide⟩ ⟨by decide, by decide⟩ (k2 := 0) (n2 := 0) rfl rfl (Nat.le_of_ble_eq_true rfl) dX12_lays_3 (kIM (fun v1 s1 hS_s1 hF_s1 q2 => ?_))
  refine p13_43 hx hG ha kf_RX12_374 dX12_lays_6 ?_
  obtain ⟨s2, e_s2⟩ : ∃ z, z = zU s1 a 43 v1 := ⟨_, rfl⟩
  rw [← e_s2]
  have hS_s2 : zSK G s2 := by rw [e_s2]; exact zSK_F hS_s1 ha rfl rfl rfl (by omega)
  refine j_aload_n hx 0 dX12_lays_9 rfl ?_
  refine j_aload_n hx 0 dX12_lays_10 rfl ?_
  refine g13_27 hx hG ha kf_RX12_56 dX12_lays_11 ?_
  refine j_sipush hx dX12_lays_14 rfl ?_
  refine j_aload_n hx 0 dX12_lays_17 rfl ?_
  refine g13_43 hx hG ha kf_RX12_374 (v := v1) (by rw [e_s2, zU_eq]) dX12_lays_18 ?_
  refine j_iadd hx (r := v1 + 420) dX12_lays_21 (by omega) ?_
  have f3 := zaQ (j := (v1 + 420).toNat) hS_s1 (zr (k := 27) (t2 := 84) hG ha rfl) (congrArg some (axS_1 (v1 + 420).toNat (by omega))) (zlen hG (zr (k := 27) (t2 := 84) hG ha rfl) (n := 515) rfl rfl) (show 0 ≤ v1 + 420 by omega) (by omega) rfl
  refine j_iald hx hG (zr (k := 27) (t2 := 84) hG ha rfl) (by decide) rfl (zlen hG (zr (k := 27) (t2 := 84) hG ha rfl) (n := 515) rfl rfl) (by omega) (by omega) (j := (v1 + 420).toNat) rfl (v := (s1 (gP G a 27) (v1 + 420).toNat)) (by rw [e_s2, zU_at (Or.inl (zne ha (zr (k := 27) (t2 := 84) hG ha rfl) (by decide)))]) dX12_lays_22 ?_
  refine j_iconst hx dX12_lays_23 ?_
  have c32_3 : ∀ (v4 : Int), (0 ≤ v4 ∧ v4 ≤ 1) → JJ X E 2 G s2 0 0 [(0, .ref a), (1, .int (zI x1))] 32 [.int (zI v4), .ref a] := by
    intro v4 fA4
    refine p13_44 hx hG ha kf_RX12_377 (by omega) dX12_lays_32 ?_
    obtain ⟨s5, e_s5⟩ : ∃ z, z = zU s2 a 44 v4 := ⟨_, rfl⟩
    rw [← e_s5]
    have hS_s5 : zSK G s5 := by rw [e_s5]; exact zSK_F hS_s2 ha rfl rfl rfl (by omega)
    refine j_aload_n hx 0 dX12_lays_35 rfl ?_
    refine g13_27 hx hG ha kf_RX12_56 dX12_lays_36 ?_
    refine j_sipush hx dX12_lays_39 rfl ?_
    refine j_aload_n hx 0 dX12_lays_42 rfl ?_
    refine g13_43 hx hG ha kf_RX12_374 (v := v1) (by rw [e_s5, zU_at (Or.inr (by decide)), e_s2, zU_eq]) dX12_lays_43 ?_
    refine j_iadd hx (r := v1 + 420) dX12_lays_46 (by omega) ?_
    refine j_iconst hx dX12_lays_47 ?_
    refine j_iast hx hG (zr (k := 27) (t2 := 84) hG ha rfl) (by decide) rfl (zlen hG (zr (k := 27) (t2 := 84) hG ha rfl) (n := 515) rfl rfl) (by omega) (by omega) (j := (v1 + 420).toNat) rfl dX12_lays_48 ?_
    obtain ⟨s6, e_s6⟩ : ∃ z, z = zU s5 (gP G a 27) (v1 + 420).toNat 1 := ⟨_, rfl⟩
    rw [← e_s6]
    have hS_s6 : zSK G s6 := by rw [e_s6]; exact zSK_a hS_s5 (zr (k := 27) (t2 := 84) hG ha rfl) rfl rfl (congrArg some (axS_1 (v1 + 420).toNat (by omega))) (by omega)
    have g6 : zc (s5 (gP G a 27)) = zc (s1 (gP G a 27)) := by rw [e_s5, zU_ne (zne (zr (k := 27) (t2 := 84) hG ha rfl) ha (by decide)), e_s2, zU_ne (zne (zr (k := 27) (t2 := 84) hG ha rfl) ha (by decide))]
    have z5 : zc (s6 (gP G a 27)) = zc (s5 (gP G a 27)) := by rw [e_s6]; exact zc_o (by omega)
    refine j_aload_n hx 0 dX12_lays_49 rfl ?_
    refine g13_27 hx hG ha kf_RX12_56 dX12_lays_50 ?_
    refine j_sipush hx dX12_lays_53 rfl ?_
    refine j_bipush hx dX12_lays_56 rfl ?_
    refine j_iload_n hx 1 dX12_lays_58 rfl ?_
    refine j_imul hx (r := 60 * x1) dX12_lays_59 rfl ?_
    refine j_iadd hx (r := 60 * x1 + 180) dX12_lays_60 (by omega) ?_
    refine j_aload_n hx 0 dX12_lays_61 rfl ?_
    refine g13_27 hx hG ha kf_RX12_56 dX12_lays_62 ?_
    refine j_sipush hx dX12_lays_65 rfl ?_
    refine j_iload_n hx 1 dX12_lays_68 rfl ?_
    refine j_iadd hx (r := x1 + 483) dX12_lays_69 (by omega) ?_
    have f7 := zaQ (j := (x1 + 483).toNat) hS_s1 (zr (k := 27) (t2 := 84) hG ha rfl) (congrArg some (axS_2 (x1 + 483).toNat (by omega))) (zlen hG (zr (k := 27) (t2 := 84) hG ha rfl) (n := 515) rfl rfl) (show 0 ≤ x1 + 483 by omega) (by omega) rfl
    have c8 := zc_1 (j := (x1 + 483).toNat) hS_s1 (zr (k := 27) (t2 := 84) hG ha rfl) (zn hG (zr (k := 27) (t2 := 84) hG ha rfl) rfl) (by omega) (by omega)
    refine j_iald hx hG (zr (k := 27) (t2 := 84) hG ha rfl) (by decide) rfl (zlen hG (zr (k := 27) (t2 := 84) hG ha rfl) (n := 515) rfl rfl) (by omega) (by omega) (j := (x1 + 483).toNat) rfl (v := (s1 (gP G a 27) (x1 + 483).toNat)) (by rw [e_s6, zU_at (Or.inr (by omega)), e_s5, zU_at (Or.inl (zne ha (zr (k := 27) (t2 := 84) hG ha rfl) (by decide))), e_s2, zU_at (Or.inl (zne ha (zr (k := 27) (t2 := 84) hG ha rfl) (by decide)))]) dX12_lays_70 ?_
    refine j_iadd hx (r := 60 * x1 + (s1 (gP G a 27) (x1 + 483).toNat) + 180) dX12_lays_71 (by omega) ?_
    refine j_aload_n hx 0 dX12_lays_72 rfl ?_
    refine g13_43 hx hG ha kf_RX12_374 (v := v1) (by rw [e_s6, zU_at (Or.inl (zne (zr (k := 27) (t2 := 84) hG ha rfl) ha (by decide))), e_s5, zU_at (Or.inr (by decide)), e_s2, zU_eq]) dX12_lays_73 ?_
    refine j_iast hx hG (zr (k := 27) (t2 := 84) hG ha rfl) (by decide) rfl (zlen hG (zr (k := 27) (t2 := 84) hG ha rfl) (n := 515) rfl rfl) (by omega) (by omega) (j := (60 * x1 + (s1 (gP G a 27) (x1 + 483).toNat) + 180).toNat) rfl dX12_lays_76 ?_
    obtain ⟨s7, e_s7⟩ : ∃ z, z = zU s6 (gP G a 27) (60 * x1 + (s1 (gP G a 27) (x1 + 483).toNat) + 180).toNat v1 := ⟨_, rfl⟩
    rw [← e_s7]
    have hS_s7 : zSK G s7 := by rw [e_s7]; exact zSK_a hS_s6 (zr (k := 27) (t2 := 84) hG ha rfl) rfl rfl (congrArg some (axS_0 (60 * x1 + (s1 (gP G a 27) (x1 + 483).toNat) + 180).toNat (by omega))) (by omega)
    have z9 : zc (s7 (gP G a 27)) = zc (s6 (gP G a 27)) := by rw [e_s7]; exact zc_o (by omega)
    refine j_aload_n hx 0 dX12_lays_77 rfl ?_
    refine g13_27 hx hG ha kf_RX12_56 dX12_lays_78 ?_
    refine j_sipush hx dX12_lays_81 rfl ?_
    refine j_iload_n hx 1 dX12_lays_84 rfl ?_
    refine j_iadd hx (r := x1 + 483) dX12_lays_85 (by omega) ?_
    refine j_dup2 hx dX12_lays_86 rfl rfl ?_
    refine j_iald hx hG (zr (k := 27) (t2 := 84) hG ha rfl) (by decide) rfl (zlen hG (zr (k := 27) (t2 := 84) hG ha rfl) (n := 515) rfl rfl) (by omega) (by omega) (j := (x1 + 483).toNat) rfl (v := (s1 (gP G a 27) (x1 + 483).toNat)) (by rw [e_s7, zU_at (Or.inr (by omega)), e_s6, zU_at (Or.inr (by omega)), e_s5, zU_at (Or.inl (zne ha (zr (k := 27) (t2 := 84) hG ha rfl) (by decide))), e_s2, zU_at (Or.inl (zne ha (zr (k := 27) (t2 := 84) hG ha rfl) (by decide)))]) dX12_lays_87 ?_
    refine j_iconst hx dX12_lays_88 ?_
    refine j_iadd hx (r := (s1 (gP G a 27) (x1 + 483).toNat) + 1) dX12_lays_89 (by omega) ?_
    refine j_iast hx hG (zr (k := 27) (t2 := 84) hG ha rfl) (by decide) rfl (zlen hG (zr (k := 27) (t2 := 84) hG ha rfl) (n := 515) rfl rfl) (by omega) (by omega) (j := (x1 + 483).toNat) rfl dX12_lays_90 ?_
    obtain ⟨s8, e_s8⟩ : ∃ z, z = zU s7 (gP G a 27) (x1 + 483).toNat ((s1 (gP G a 27) (x1 + 483).toNat) + 1) := ⟨_, rfl⟩
    rw [← e_s8]
    have hS_s8 : zSK G s8 := by rw [e_s8]; exact zSK_a hS_s7 (zr (k := 27) (t2 := 84) hG ha rfl) rfl rfl (congrArg some (axS_2 (x1 + 483).toNat (by omega))) (by omega)
    have g11 : s7 (gP G a 27) (x1 + 483).toNat = s1 (gP G a 27) (x1 + 483).toNat := (by rw [e_s7, zU_at (Or.inr (by omega)), e_s6, zU_at (Or.inr (by omega)), e_s5, zU_at (Or.inl (zne ha (zr (k := 27) (t2 := 84) hG ha rfl) (by decide))), e_s2, zU_at (Or.inl (zne ha (zr (k := 27) (t2 := 84) hG ha rfl) (by decide)))])
    have g12 : s8 (gP G a 27) (x1 + 483).toNat = (s1 (gP G a 27) (x1 + 483).toNat) + 1 := (by rw [e_s8, zU_eq])
    have z10 : zc (s8 (gP G a 27)) = zc (s7 (gP G a 27)) - s7 (gP G a 27) (x1 + 483).toNat + s8 (gP G a 27) (x1 + 483).toNat := by rw [e_s8, zU_eq]; exact zc_w (by omega) (by omega)
    have g13 : s8 (gP G a 27) 488 = s1 (gP G a 27) 488 := (by rw [e_s8, zU_at (Or.inr (by omega)), e_s7, zU_at (Or.inr (by omega)), e_s6, zU_at (Or.inr (by omega)), e_s5, zU_at (Or.inl (zne ha (zr (k := 27) (t2 := 84) hG ha rfl) (by decide))), e_s2, zU_at (Or.inl (zne ha (zr (k := 27) (t2 := 84) hG ha rfl) (by decide)))])
    have g14 : s8 a 0 = s0 a 0 := (by rw [e_s8, zU_at (Or.inl (zne (zr (k := 27) (t2 := 84) hG ha rfl) ha (by decide))), e_s7, zU_at (Or.inl (zne (zr (k := 27) (t2 := 84) hG ha rfl) ha (by decide))), e_s6, zU_at (Or.inl (zne (zr (k := 27) (t2 := 84) hG ha rfl) ha (by decide))), e_s5, zU_at (Or.inr (by decide)), e_s2, zU_at (Or.inr (by decide)), (zFr_g hF_s1 ha (by decide))])
    have f15 := zf hS0 ha (k := 0) rfl
    have g16 : s8 a 3 = s0 a 3 := (by rw [e_s8, zU_at (Or.inl (zne (zr (k := 27) (t2 := 84) hG ha rfl) ha (by decide))), e_s7, zU_at (Or.inl (zne (zr (k := 27) (t2 := 84) hG ha rfl) ha (by decide))), e_s6, zU_at (Or.inl (zne (zr (k := 27) (t2 := 84) hG ha rfl) ha (by decide))), e_s5, zU_at (Or.inr (by decide)), e_s2, zU_at (Or.inr (by decide)), (zFr_g hF_s1 ha (by decide))])
    have f17 := zf hS0 ha (k := 3) rfl
    have g18 : s8 a 4 = s0 a 4 := (by rw [e_s8, zU_at (Or.inl (zne (zr (k := 27) (t2 := 84) hG ha rfl) ha (by decide))), e_s7, zU_at (Or.inl (zne (zr (k := 27) (t2 := 84) hG ha rfl) ha (by decide))), e_s6, zU_at (Or.inl (zne (zr (k := 27) (t2 := 84) hG ha rfl) ha (by decide))), e_s5, zU_at (Or.inr (by decide)), e_s2, zU_at (Or.inr (by decide)), (zFr_g hF_s1 ha (by decide))])
    have f19 := zf hS0 ha (k := 4) rfl
    have g20 : s8 a 5 = s0 a 5 := (by rw [e_s8, zU_at (Or.inl (zne (zr (k := 27) (t2 := 84) hG ha rfl) ha (by decide))), e_s7, zU_at (Or.inl (zne (zr (k := 27) (t2 := 84) hG ha rfl) ha (by decide))), e_s6, zU_at (Or.inl (zne (zr (k := 27) (t2 := 84) hG ha rfl) ha (by decide))), e_s5, zU_at (Or.inr (by decide)), e_s2, zU_at (Or.inr (by decide)), (zFr_g hF_s1 ha (by decide))])
    have f21 := zf hS0 ha (k := 5) rfl
    have g22 : s8 a 7 = s0 a 7 := (by rw [e_s8, zU_at (Or.inl (zne (zr (k := 27) (t2 := 84) hG ha rfl) ha (by decide))), e_s7, zU_at (Or.inl (zne (zr (k := 27) (t2 := 84) hG ha rfl) ha (by decide))), e_s6, zU_at (Or.inl (zne (zr (k := 27) (t2 := 84) hG ha rfl) ha (by decide))), e_s5, zU_at (Or.inr (by decide)), e_s2, zU_at (Or.inr (by decide)), (zFr_g hF_s1 ha (by decide))])
    have f23 := zf hS0 ha (k := 7) rfl
    have g24 : s8 a 21 = s0 a 21 := (by rw [e_s8, zU_at (Or.inl (zne (zr (k := 27) (t2 := 84) hG ha rfl) ha (by decide))), e_s7, zU_at (Or.inl (zne (zr (k := 27) (t2 := 84) hG ha rfl) ha (by decide))), e_s6, zU_at (Or.inl (zne (zr (k := 27) (t2 := 84) hG ha rfl) ha (by decide))), e_s5, zU_at (Or.inr (by decide)), e_s2, zU_at (Or.inr (by decide)), (zFr_g hF_s1 ha (by decide))])
    have f25 := zf hS0 ha (k := 21) rfl
    have g26 : s8 a 22 = s0 a 22 := (by rw [e_s8, zU_at (Or.inl (zne (zr (k := 27) (t2 := 84) hG ha rfl) ha (by decide))), e_s7, zU_at (Or.inl (zne (zr (k := 27) (t2 := 84) hG ha rfl) ha (by decide))), e_s6, zU_at (Or.inl (zne (zr (k := 27) (t2 := 84) hG ha rfl) ha (by decide))), e_s5, zU_at (Or.inr (by decide)), e_s2, zU_at (Or.inr (by decide)), (zFr_g hF_s1 ha (by decide))])
    have f27 := zf hS0 ha (k := 22) rfl
    have g28 : s8 a 23 = s0 a 23 := (by rw [e_s8, zU_at (Or.inl (zne (zr (k := 27) (t2 := 84) hG ha rfl) ha (by decide))), e_s7, zU_at (Or.inl (zne (zr (k := 27) (t2 := 84) hG ha rfl) ha (by decide))), e_s6, zU_at (Or.inl (zne (zr (k := 27) (t2 := 84) hG ha rfl) ha (by decide))), e_s5, zU_at (Or.inr (by decide)), e_s2, zU_at (Or.inr (by decide)), (zFr_g hF_s1 ha (by decide))])
    have f29 := zf hS0 ha (k := 23) rfl
    have g30 : s8 a 24 = s0 a 24 := (by rw [e_s8, zU_at (Or.inl (zne (zr (k := 27) (t2 := 84) hG ha rfl) ha (by decide))), e_s7, zU_at (Or.inl (zne (zr (k := 27) (t2 := 84) hG ha rfl) ha (by decide))), e_s6, zU_at (Or.inl (zne (zr (k := 27) (t2 := 84) hG ha rfl) ha (by decide))), e_s5, zU_at (Or.inr (by decide)), e_s2, zU_at (Or.inr (by decide)), (zFr_g hF_s1 ha (by decide))])
    have f31 := zf hS0 ha (k := 24) rfl
    have g32 : s8 a 38 = s0 a 38 := (by rw [e_s8, zU_at (Or.inl (zne (zr (k := 27) (t2 := 84) hG ha rfl) ha (by decide))), e_s7, zU_at (Or.inl (zne (zr (k := 27) (t2 := 84) hG ha rfl) ha (by decide))), e_s6, zU_at (Or.inl (zne (zr (k := 27) (t2 := 84) hG ha rfl) ha (by decide))), e_s5, zU_at (Or.inr (by decide)), e_s2, zU_at (Or.inr (by decide)), (zFr_g hF_s1 ha (by decide))])
    have f33 := zf hS0 ha (k := 38) rfl
    have g34 : s8 a 51 = s0 a 51 := (by rw [e_s8, zU_at (Or.inl (zne (zr (k := 27) (t2 := 84) hG ha rfl) ha (by decide))), e_s7, zU_at (Or.inl (zne (zr (k := 27) (t2 := 84) hG ha rfl) ha (by decide))), e_s6, zU_at (Or.inl (zne (zr (k := 27) (t2 := 84) hG ha rfl) ha (by decide))), e_s5, zU_at (Or.inr (by decide)), e_s2, zU_at (Or.inr (by decide)), (zFr_g hF_s1 ha (by decide))])
    have f35 := zf hS0 ha (k := 51) rfl
    have g36 : s8 a 52 = s0 a 52 := (by rw [e_s8, zU_at (Or.inl (zne (zr (k := 27) (t2 := 84) hG ha rfl) ha (by decide))), e_s7, zU_at (Or.inl (zne (zr (k := 27) (t2 := 84) hG ha rfl) ha (by decide))), e_s6, zU_at (Or.inl (zne (zr (k := 27) (t2 := 84) hG ha rfl) ha (by decide))), e_s5, zU_at (Or.inr (by decide)), e_s2, zU_at (Or.inr (by decide)), (zFr_g hF_s1 ha (by decide))])
    have f37 := zf hS0 ha (k := 52) rfl
    exact j_vret hx hq rfl (by decide) (by decide) dX12_lays_91 ⟨rfl, rfl, hS_s8, (zFr_u (zFr_u (zFr_u (zFr_u (zFr_u (zFr_t zFr_rf hF_s1 (by decide)) e_s2 ha (by decide)) e_s5 ha (by decide)) e_s6 (zr (k := 27) (t2 := 84) hG ha rfl) (by decide)) e_s7 (zr (k := 27) (t2 := 84) hG ha rfl) (by decide)) e_s8 (zr (k := 27) (t2 := 84) hG ha rfl) (by decide)), ⟨by omega, by omega, by omega, by omega, by omega, by omega, by omega, by omega, by omega, by omega, by omega, by omega, by omega, by omega⟩⟩
  refine j_icmp_ne hx 31 dX12_lays_24 rfl (by omega) ⟨by decide, by decide⟩ (fun h38 => ?_) (fun h38 => ?_)
  · skip
    refine j_iconst hx dX12_lays_31 ?_
    exact j_sub [0, 1] [(0, .ref a), (1, .int (zI x1))] rfl (c32_3 0 (by omega))
  · skip
    refine j_iconst hx dX12_lays_27 ?_
    refine j_goto hx 32 dX12_lays_28 rfl ?_
    exact j_sub [0, 1] [(0, .ref a), (1, .int (zI x1))] rfl (c32_3 1 (by omega))

set_option maxHeartbeats 4000000 in
set_option maxRecDepth 20000 in
theorem c_X12_drawn {E : zE} {l : Launch} (hst : l.stackTraces = false) (a : Nat) : Con E l yX12_drawn cX12_drawn 1 (some .int) { frames := 0, cells := 0, slots := 0, locals := 0 } (fun G s vs => vs = [.ref a] ∧ zGK G ∧ zSK G s ∧ (gT G a = 13)) (fun G s _ => pI (fun r G2 s2 => G2 = G ∧ zSK G s2 ∧ zFr [84] G s s2 ∧ (0 ≤ r ∧ r ≤ 3) ∧ zc (s2 (gP G a 27)) = zc (s (gP G a 27)) ∧ s2 (gP G a 27) 488 = s (gP G a 27) 488)) := by
  refine Con.mk hst (by decide) (fun G s vs h => by rw [h.1]; exact Nat.le_of_ble_eq_true rfl) ?_
  rintro X G s0 vs ⟨rfl, hG, hS0, ha⟩ rfl hx hq
  show JJ X E 1 G s0 0 0 [(0, .ref a)] 0 []
  refine j_aload_n hx 0 dX12_drawn_0 rfl ?_
  refine g13_27 hx hG ha kf_RX12_56 dX12_drawn_1 ?_
  refine j_sipush hx dX12_drawn_4 rfl ?_
  refine j_aload_n hx 0 dX12_drawn_7 rfl ?_
  refine g13_27 hx hG ha kf_RX12_56 dX12_drawn_8 ?_
  refine j_sipush hx dX12_drawn_11 rfl ?_
  have f1 := zaQ (j := 489) hS0 (zr (k := 27) (t2 := 84) hG ha rfl) (congrArg some (axS_5 489 (by omega))) (zlen hG (zr (k := 27) (t2 := 84) hG ha rfl) (n := 515) rfl rfl) (show 0 ≤ 489 by omega) (by omega) rfl
  refine j_iald hx hG (zr (k := 27) (t2 := 84) hG ha rfl) (by decide) rfl (zlen hG (zr (k := 27) (t2 := 84) hG ha rfl) (n := 515) rfl rfl) (by omega) (by omega) (j := 489) rfl rfl dX12_drawn_14 ?_
  refine j_ldcw hx (c := 1103515245) dX12_drawn_15 kk_RX12_384 (by decide) ?_
  refine j_imul hx (r := 1103515245 * (s0 (gP G a 27) 489)) dX12_drawn_18 (by omega) ?_
  refine j_norm (fun v2 f3 f4 f5 => ?_)
  refine j_sipush hx dX12_drawn_19 rfl ?_
  refine j_iadd hx (r := v2 + 12345) dX12_drawn_22 rfl ?_
  refine j_norm (fun v6 f7 f8 f9 => ?_)
  refine j_iast hx hG (zr (k := 27) (t2 := 84) hG ha rfl) (by decide) rfl (zlen hG (zr (k := 27) (t2 := 84) hG ha rfl) (n := 515) rfl rfl) (by omega) (by omega) (j := 489) rfl dX12_drawn_23 ?_
  obtain ⟨s1, e_s1⟩ : ∃ z, z = zU s0 (gP G a 27) 489 v6 := ⟨_, rfl⟩
  rw [← e_s1]
  have hS_s1 : zSK G s1 := by rw [e_s1]; exact zSK_a hS0 (zr (k := 27) (t2 := 84) hG ha rfl) rfl rfl (congrArg some (axS_5 489 (by omega))) (by omega)
  have z10 : zc (s1 (gP G a 27)) = zc (s0 (gP G a 27)) := by rw [e_s1]; exact zc_o (by omega)
  refine j_aload_n hx 0 dX12_drawn_24 rfl ?_
  refine g13_27 hx hG ha kf_RX12_56 dX12_drawn_25 ?_
  refine j_sipush hx dX12_drawn_28 rfl ?_
  refine j_iald hx hG (zr (k := 27) (t2 := 84) hG ha rfl) (by decide) rfl (zlen hG (zr (k := 27) (t2 := 84) hG ha rfl) (n := 515) rfl rfl) (by omega) (by omega) (j := 489) rfl (v := v6) (by rw [e_s1, zU_eq]) dX12_drawn_31 ?_
  refine j_bipush hx dX12_drawn_32 rfl ?_
  refine j_ishr hx 16 65536 dX12_drawn_34 (by omega) rfl (by decide) (by decide) (fun v11 f12 f13 f14 f15 => ?_)
  refine j_iconst hx dX12_drawn_35 ?_
  refine j_iand hx dX12_drawn_36 (by omega) ⟨by decide, by decide⟩ (fun v16 f17 f18 f19 f20 _ => ?_)
  have g22 : s1 (gP G a 27) 488 = s0 (gP G a 27) 488 := (by rw [e_s1, zU_at (Or.inr (by decide))])
  exact j_iret hx hq rfl (by decide) (by decide) dX12_drawn_37 ⟨v16, rfl, rfl, hS_s1, (zFr_u zFr_rf e_s1 (zr (k := 27) (t2 := 84) hG ha rfl) (by decide)), ⟨(by omega), by omega, by omega⟩⟩

set_option maxHeartbeats 4000000 in
set_option maxRecDepth 20000 in
theorem c_X12_counts {E : zE} {l : Launch} (hst : l.stackTraces = false) (a : Nat) (x1 : Int) (x2 : Int) : Con E l yX12_counts cX12_counts 3 none { frames := 0, cells := 0, slots := 0, locals := 0 } (fun G s vs => vs = [.ref a, .int (zI x1), .int (zI x2)] ∧ zGK G ∧ zSK G s ∧ (gT G a = 13) ∧ (0 ≤ x1 ∧ x1 ≤ 2) ∧ (0 ≤ x2 ∧ x2 ≤ 5)) (fun G s _ => pV (fun G2 s2 => G2 = G ∧ zSK G s2 ∧ zFr [84] G s s2 ∧ zc (s2 (gP G a 27)) = zc (s (gP G a 27)) ∧ s2 (gP G a 27) 488 = s (gP G a 27) 488)) := by
  refine Con.mk hst (by decide) (fun G s vs h => by rw [h.1]; exact Nat.le_of_ble_eq_true rfl) ?_
  rintro X G s0 vs ⟨rfl, hG, hS0, ha, hx1, hx2⟩ rfl hx hq
  show JJ X E 3 G s0 0 0 [(0, .ref a), (1, .int (zI x1)), (2, .int (zI x2))] 0 []
  refine j_aload_n hx 0 dX12_counts_0 rfl ?_
  refine g13_27 hx hG ha kf_RX12_56 dX12_counts_1 ?_
  refine j_sipush hx dX12_counts_4 rfl ?_
  refine j_bipush hx dX12_counts_7 rfl ?_
  refine j_iload_n hx 1 dX12_counts_9 rfl ?_
  refine j_imul hx (r := 6 * x1) dX12_counts_10 rfl ?_
  refine j_iadd hx (r := 6 * x1 + 494) dX12_counts_11 (by omega) ?_
  refine j_iload_n hx 2 dX12_counts_12 rfl ?_
  refine j_iadd hx (r := 6 * x1 + x2 + 494) dX12_counts_13 (by omega) ?_
  refine j_dup2 hx dX12_counts_14 rfl rfl ?_
  have f1 := zaQ (j := (6 * x1 + x2 + 494).toNat) hS0 (zr (k := 27) (t2 := 84) hG ha rfl) (congrArg some (axS_8 (6 * x1 + x2 + 494).toNat (by omega))) (zlen hG (zr (k := 27) (t2 := 84) hG ha rfl) (n := 515) rfl rfl) (show 0 ≤ 6 * x1 + x2 + 494 by omega) (by omega) rfl
  refine j_iald hx hG (zr (k := 27) (t2 := 84) hG ha rfl) (by decide) rfl (zlen hG (zr (k := 27) (t2 := 84) hG ha rfl) (n := 515) rfl rfl) (by omega) (by omega) (j := (6 * x1 + x2 + 494).toNat) rfl rfl dX12_counts_15 ?_
  refine j_iconst hx dX12_counts_16 ?_
  refine j_iadd hx (r := (s0 (gP G a 27) (6 * x1 + x2 + 494).toNat) + 1) dX12_counts_17 (by omega) ?_
  refine j_norm (fun v2 f3 f4 f5 => ?_)
  refine j_iast hx hG (zr (k := 27) (t2 := 84) hG ha rfl) (by decide) rfl (zlen hG (zr (k := 27) (t2 := 84) hG ha rfl) (n := 515) rfl rfl) (by omega) (by omega) (j := (6 * x1 + x2 + 494).toNat) rfl dX12_counts_18 ?_
  obtain ⟨s1, e_s1⟩ : ∃ z, z = zU s0 (gP G a 27) (6 * x1 + x2 + 494).toNat v2 := ⟨_, rfl⟩
  rw [← e_s1]
  have hS_s1 : zSK G s1 := by rw [e_s1]; exact zSK_a hS0 (zr (k := 27) (t2 := 84) hG ha rfl) rfl rfl (congrArg some (axS_8 (6 * x1 + x2 + 494).toNat (by omega))) (by omega)
  have z6 : zc (s1 (gP G a 27)) = zc (s0 (gP G a 27)) := by rw [e_s1]; exact zc_o (by omega)
  have g7 : s1 (gP G a 27) 488 = s0 (gP G a 27) 488 := (by rw [e_s1, zU_at (Or.inr (by omega))])
  exact j_vret hx hq rfl (by decide) (by decide) dX12_counts_19 ⟨rfl, rfl, hS_s1, (zFr_u zFr_rf e_s1 (zr (k := 27) (t2 := 84) hG ha rfl) (by decide)), ⟨by omega, by omega⟩⟩

theorem lk_RX12_388 : LkV RX12 388 RX12 yX12_counts cX12_counts 3 none 2 := ⟨km_RX12_388, ki_yX12_counts, ks_RX12_yX12_counts, kn_RX12, kc_yX12_counts, rfl, by decide +kernel, by decide +kernel, by decide +kernel⟩
theorem lk_RX12_385 : LkV RX12 385 RX12 yX12_drawn cX12_drawn 1 (some .int) 0 := ⟨km_RX12_385, ki_yX12_drawn, ks_RX12_yX12_drawn, kn_RX12, kc_yX12_drawn, rfl, by decide +kernel, by decide +kernel, by decide +kernel⟩
set_option maxHeartbeats 4000000 in
set_option maxRecDepth 20000 in
theorem c_X12_plans {E : zE} {l : Launch} (hst : l.stackTraces = false) (a : Nat) (x1 : Int) : Con E l yX12_plans cX12_plans 5 none { frames := 4, cells := 0, slots := 0, locals := 96 } (fun G s vs => vs = [.ref a, .int (zI x1)] ∧ zGK G ∧ zSK G s ∧ (gT G a = 13) ∧ (0 ≤ x1 ∧ x1 ≤ 2) ∧ (zRva (s (gP G a 34)) (s (gP G a 35)) (s (gP G a 37)))) (fun G s _ => pV (fun G2 s2 => G2 = G ∧ zSK G s2 ∧ zFr [84, 95, 98] G s s2 ∧ zc (s2 (gP G a 27)) = zc (s (gP G a 27)) ∧ s2 (gP G a 27) 488 = s (gP G a 27) 488)) := by
  refine Con.mk hst (by decide) (fun G s vs h => by rw [h.1]; exact Nat.le_of_ble_eq_true rfl) ?_
  rintro X G s0 vs ⟨rfl, hG, hS0, ha, hx1, e0⟩ rfl hx hq
  show JJ X E 5 G s0 0 0 [(0, .ref a), (1, .int (zI x1))] 0 []
  refine j_aload_n hx 0 dX12_plans_0 rfl ?_
  refine j_iload_n hx 1 dX12_plans_1 rfl ?_
  refine j_callV hx hG (c_X12_next hst a x1) lk_RX12_331 ha (by decide) rfl rfl rfl rfl [.int (zI x1)] ⟨rfl, hG, hS0, ha, (by omega)⟩ rfl rfl ⟨by decide, by decide⟩ ⟨by decide, by decide⟩ (k2 := 0) (n2 := 0) rfl rfl (Nat.le_of_ble_eq_true rfl) dX12_plans_2 (kIP (fun v1 q2 => ?_))
  refine j_istore_n hx [(2, .int (zI v1)), (0, .ref a), (1, .int (zI x1))] dX12_plans_5 (by decide) rfl ?_
  refine j_iconst hx dX12_plans_6 ?_
  refine j_istore_n hx [(3, .int (zI 0)), (2, .int (zI v1)), (0, .ref a), (1, .int (zI x1))] dX12_plans_7 (by decide) rfl ?_
  have c8_1 : ∀ (m_c8_1 : Nat) (v3 : Int) (s2 : zS), 2147483648 - v3 < m_c8_1 → (0 ≤ v3 ∧ v3 ≤ 3) → (zSK G s2) → (zFr [84, 95, 98] G s0 s2) → (zc (s2 (gP G a 27)) = zc (s0 (gP G a 27))) → (s2 (gP G a 27) 488 = s0 (gP G a 27) 488) → JJ X E 5 G s2 0 0 [(0, .ref a), (1, .int (zI x1)), (2, .int (zI v1)), (3, .int (zI v3))] 8 [] := by
    intro m_c8_1
    induction m_c8_1 with
    | zero => intro v3 s2 hm_c8_1 fA3 hS_s2 hF_s2 fA6 fA7; exfalso; omega
    | succ m_c8_1 ih_c8_1 => 
      intro v3 s2 hm_c8_1 fA3 hS_s2 hF_s2 fA6 fA7
      refine j_iload_n hx 3 dX12_plans_8 rfl ?_
      refine j_aload_n hx 0 dX12_plans_9 rfl ?_
      have f4 := zf hS0 ha (k := 24) rfl
      refine g13_24 hx hG ha kf_RX12_189 (v := (s0 a 24)) (by rw [(zFr_g hF_s2 ha (by decide))]) dX12_plans_10 ?_
      refine j_icmp_ge hx 134 dX12_plans_13 rfl (by omega) (by omega) (fun h5 => ?_) (fun h5 => ?_)
      · skip
        exact j_vret hx hq rfl (by decide) (by decide) dX12_plans_134 ⟨rfl, rfl, hS_s2, (zFr_t zFr_rf hF_s2 (by decide)), ⟨by omega, by omega⟩⟩
      · skip
        refine j_aload_n hx 0 dX12_plans_16 rfl ?_
        refine j_iload_n hx 3 dX12_plans_17 rfl ?_
        refine j_callV hx hG (c_X12_isOut hst a v3) lk_RX12_325 ha (by decide) rfl rfl rfl rfl [.int (zI v3)] ⟨rfl, hG, hS_s2, ha, (by omega)⟩ rfl rfl ⟨by decide, by decide⟩ ⟨by decide, by decide⟩ (k2 := 0) (n2 := 0) rfl rfl (Nat.le_of_ble_eq_true rfl) dX12_plans_18 (kIP (fun v6 q7 => ?_))
        have c128_8 : ∀ (s9 : zS), (zSK G s9) → (zFr [84, 95, 98] G s2 s9) → (zc (s9 (gP G a 27)) = zc (s2 (gP G a 27))) → JJ X E 5 G s9 0 0 [(0, .ref a), (1, .int (zI x1)), (2, .int (zI v1)), (3, .int (zI v3))] 128 [] := by
          intro s9 hS_s9 hF_s9 fA12
          refine j_iinc hx 3 [(3, .int (zI (v3 + 1))), (0, .ref a), (1, .int (zI x1)), (2, .int (zI v1))] dX12_plans_128 rfl (by omega) (by decide) rfl ?_
          refine j_goto hx 8 dX12_plans_131 rfl ?_
          exact j_sub [1, 2, 3, 0] [(0, .ref a), (1, .int (zI x1)), (2, .int (zI v1)), (3, .int (zI (v3 + 1)))] rfl (ih_c8_1 (v3 + 1) s9 (by omega) (by omega) hS_s9 (zFr_t (zFr_t zFr_rf hF_s2 (by decide)) hF_s9 (by decide)) (by omega) (by omega))
        refine j_if_ne hx 128 dX12_plans_21 rfl (by omega) (fun h8 => ?_) (fun h8 => ?_)
        · skip
          exact j_sub [0, 1, 2, 3] [(0, .ref a), (1, .int (zI x1)), (2, .int (zI v1)), (3, .int (zI v3))] rfl (c128_8 s2 hS_s2 zFr_rf (by omega))
        · skip
          refine j_aload_n hx 0 dX12_plans_24 rfl ?_
          refine g13_45 hx hG ha kf_RX12_99 dX12_plans_25 ?_
          refine j_iload_n hx 3 dX12_plans_28 rfl ?_
          have f9 := zaI (j := (v3).toNat) hS_s2 (zr (k := 45) (t2 := 98) hG ha rfl) rfl (zlen hG (zr (k := 45) (t2 := 98) hG ha rfl) (n := 3) rfl rfl) (show 0 ≤ v3 by omega) (by omega) rfl
          refine j_iald hx hG (zr (k := 45) (t2 := 98) hG ha rfl) (by decide) rfl (zlen hG (zr (k := 45) (t2 := 98) hG ha rfl) (n := 3) rfl rfl) (by omega) (by omega) (j := (v3).toNat) rfl rfl dX12_plans_29 ?_
          refine j_iconst hx dX12_plans_30 ?_
          refine j_icmp_eq hx 128 dX12_plans_31 rfl (by omega) ⟨by decide, by decide⟩ (fun h10 => ?_) (fun h10 => ?_)
          · skip
            exact j_sub [0, 1, 2, 3] [(0, .ref a), (1, .int (zI x1)), (2, .int (zI v1)), (3, .int (zI v3))] rfl (c128_8 s2 hS_s2 zFr_rf (by omega))
          · skip
            refine j_aload_n hx 0 dX12_plans_34 rfl ?_
            refine j_iload_n hx 3 dX12_plans_35 rfl ?_
            refine j_iload_n hx 3 dX12_plans_36 rfl ?_
            refine j_iload_n hx 2 dX12_plans_37 rfl ?_
            refine j_callV hx hG (c_X12_holds hst a v3 v3 v1) lk_RX12_358 ha (by decide) rfl rfl rfl rfl [.int (zI v3), .int (zI v3), .int (zI v1)] ⟨rfl, hG, hS_s2, ha, (by omega), (by omega), (by omega), ((by rw [(zFr_g hF_s2 (zr (k := 34) (t2 := 91) hG ha rfl) (by decide)), (zFr_g hF_s2 (zr (k := 35) (t2 := 92) hG ha rfl) (by decide)), (zFr_g hF_s2 (zr (k := 37) (t2 := 94) hG ha rfl) (by decide))]; exact e0))⟩ rfl rfl ⟨by decide, by decide⟩ ⟨by decide, by decide⟩ (k2 := 0) (n2 := 0) rfl rfl (Nat.le_of_ble_eq_true rfl) dX12_plans_38 (kIM (fun v11 s13 hS_s13 hF_s13 q12 => ?_))
            refine j_if_ne hx 47 dX12_plans_41 rfl (by omega) (fun h13 => ?_) (fun h13 => ?_)
            · skip
              refine j_aload_n hx 0 dX12_plans_47 rfl ?_
              refine g13_17 hx hG ha kf_RX12_44 dX12_plans_48 ?_
              refine j_iconst hx dX12_plans_51 ?_
              refine j_iload_n hx 3 dX12_plans_52 rfl ?_
              refine j_imul hx (r := 4 * v3) dX12_plans_53 rfl ?_
              refine j_iconst hx dX12_plans_54 ?_
              refine j_iadd hx (r := 4 * v3 + 2) dX12_plans_55 (by omega) ?_
              have f14 := zaI (j := (4 * v3 + 2).toNat) hS0 (zr (k := 17) (t2 := 80) hG ha rfl) rfl (zlen hG (zr (k := 17) (t2 := 80) hG ha rfl) (n := 12) rfl rfl) (show 0 ≤ 4 * v3 + 2 by omega) (by omega) rfl
              refine j_iald hx hG (zr (k := 17) (t2 := 80) hG ha rfl) (by decide) rfl (zlen hG (zr (k := 17) (t2 := 80) hG ha rfl) (n := 12) rfl rfl) (by omega) (by omega) (j := (4 * v3 + 2).toNat) rfl (v := (s0 (gP G a 17) (4 * v3 + 2).toNat)) (by rw [(zFr_g hF_s13 (zr (k := 17) (t2 := 80) hG ha rfl) (by decide)), (zFr_g hF_s2 (zr (k := 17) (t2 := 80) hG ha rfl) (by decide))]) dX12_plans_56 ?_
              refine j_aload_n hx 0 dX12_plans_57 rfl ?_
              refine g13_17 hx hG ha kf_RX12_44 dX12_plans_58 ?_
              refine j_iconst hx dX12_plans_61 ?_
              refine j_iload_n hx 3 dX12_plans_62 rfl ?_
              refine j_imul hx (r := 4 * v3) dX12_plans_63 rfl ?_
              refine j_iconst hx dX12_plans_64 ?_
              refine j_iadd hx (r := 4 * v3 + 3) dX12_plans_65 (by omega) ?_
              have f15 := zaI (j := (4 * v3 + 3).toNat) hS0 (zr (k := 17) (t2 := 80) hG ha rfl) rfl (zlen hG (zr (k := 17) (t2 := 80) hG ha rfl) (n := 12) rfl rfl) (show 0 ≤ 4 * v3 + 3 by omega) (by omega) rfl
              refine j_iald hx hG (zr (k := 17) (t2 := 80) hG ha rfl) (by decide) rfl (zlen hG (zr (k := 17) (t2 := 80) hG ha rfl) (n := 12) rfl rfl) (by omega) (by omega) (j := (4 * v3 + 3).toNat) rfl (v := (s0 (gP G a 17) (4 * v3 + 3).toNat)) (by rw [(zFr_g hF_s13 (zr (k := 17) (t2 := 80) hG ha rfl) (by decide)), (zFr_g hF_s2 (zr (k := 17) (t2 := 80) hG ha rfl) (by decide))]) dX12_plans_66 ?_
              refine j_iload_n hx 1 dX12_plans_67 rfl ?_
              have c76_14 : ∀ (v16 : Int), (0 ≤ v16 ∧ v16 ≤ 1) → JJ X E 5 G s13 0 0 [(0, .ref a), (1, .int (zI x1)), (2, .int (zI v1)), (3, .int (zI v3))] 76 [.int (zI v16), .int (zI ((s0 (gP G a 17) (4 * v3 + 2).toNat)))] := by
                intro v16 fA15
                refine j_iadd hx (r := (s0 (gP G a 17) (4 * v3 + 2).toNat) + v16) dX12_plans_76 (by omega) ?_
                refine j_aload_n hx 0 dX12_plans_77 rfl ?_
                refine g13_27 hx hG ha kf_RX12_56 dX12_plans_78 ?_
                refine j_sipush hx dX12_plans_81 rfl ?_
                have f17 := zaQ (j := 490) hS_s2 (zr (k := 27) (t2 := 84) hG ha rfl) (congrArg some (axS_6 490 (by omega))) (zlen hG (zr (k := 27) (t2 := 84) hG ha rfl) (n := 515) rfl rfl) (show 0 ≤ 490 by omega) (by omega) rfl
                refine j_iald hx hG (zr (k := 27) (t2 := 84) hG ha rfl) (by decide) rfl (zlen hG (zr (k := 27) (t2 := 84) hG ha rfl) (n := 515) rfl rfl) (by omega) (by omega) (j := 490) rfl (v := (s2 (gP G a 27) 490)) (by rw [(zFr_g hF_s13 (zr (k := 27) (t2 := 84) hG ha rfl) (by decide))]) dX12_plans_84 ?_
                refine j_iconst hx dX12_plans_85 ?_
                have g19 : zc (s13 (gP G a 27)) = zc (s2 (gP G a 27)) := by rw [(zFr_g hF_s13 (zr (k := 27) (t2 := 84) hG ha rfl) (by decide))]
                have c97_16 : ∀ (v18 : Int) (s17 : zS), (0 ≤ v18 ∧ v18 ≤ 3) → (zSK G s17) → (zFr [84] G s13 s17) → (zc (s17 (gP G a 27)) = zc (s13 (gP G a 27))) → JJ X E 5 G s17 0 0 [(0, .ref a), (1, .int (zI x1)), (2, .int (zI v1)), (3, .int (zI v3))] 97 [.int (zI v18), .int (zI ((s0 (gP G a 17) (4 * v3 + 2).toNat) + v16))] := by
                  intro v18 s17 fA18 hS_s17 hF_s17 fA21
                  refine j_iadd hx (r := (s0 (gP G a 17) (4 * v3 + 2).toNat) + v16 + v18) dX12_plans_97 (by omega) ?_
                  refine j_istore hx [(4, .int (zI ((s0 (gP G a 17) (4 * v3 + 2).toNat) + v16 + v18))), (0, .ref a), (1, .int (zI x1)), (2, .int (zI v1)), (3, .int (zI v3))] dX12_plans_98 (by decide) rfl ?_
                  refine j_iload hx 0 dX12_plans_100 rfl ?_
                  refine j_aload_n hx 1 dX12_plans_102 rfl ?_
                  refine g13_18 hx hG ha kf_RX12_47 dX12_plans_103 ?_
                  refine j_iload_n hx 2 dX12_plans_106 rfl ?_
                  have f20 := zaI (j := (x1).toNat) hS0 (zr (k := 18) (t2 := 81) hG ha rfl) rfl (zlen hG (zr (k := 18) (t2 := 81) hG ha rfl) (n := 3) rfl rfl) (show 0 ≤ x1 by omega) (by omega) rfl
                  refine j_iald hx hG (zr (k := 18) (t2 := 81) hG ha rfl) (by decide) rfl (zlen hG (zr (k := 18) (t2 := 81) hG ha rfl) (n := 3) rfl rfl) (by omega) (by omega) (j := (x1).toNat) rfl (v := (s0 (gP G a 18) (x1).toNat)) (by rw [(zFr_g hF_s17 (zr (k := 18) (t2 := 81) hG ha rfl) (by decide)), (zFr_g hF_s13 (zr (k := 18) (t2 := 81) hG ha rfl) (by decide)), (zFr_g hF_s2 (zr (k := 18) (t2 := 81) hG ha rfl) (by decide))]) dX12_plans_107 ?_
                  refine j_icmp_lt hx 120 dX12_plans_108 rfl (by omega) (by omega) (fun h21 => ?_) (fun h21 => ?_)
                  · skip
                    refine j_aload_n hx 1 dX12_plans_120 rfl ?_
                    refine g13_45 hx hG ha kf_RX12_99 dX12_plans_121 ?_
                    refine j_iload_n hx 4 dX12_plans_124 rfl ?_
                    refine j_iload hx 0 dX12_plans_125 rfl ?_
                    refine j_iast hx hG (zr (k := 45) (t2 := 98) hG ha rfl) (by decide) rfl (zlen hG (zr (k := 45) (t2 := 98) hG ha rfl) (n := 3) rfl rfl) (by omega) (by omega) (j := (v3).toNat) rfl dX12_plans_127 ?_
                    obtain ⟨s22, e_s22⟩ : ∃ z, z = zU s17 (gP G a 45) (v3).toNat ((s0 (gP G a 17) (4 * v3 + 2).toNat) + v16 + v18) := ⟨_, rfl⟩
                    rw [← e_s22]
                    have hS_s22 : zSK G s22 := by rw [e_s22]; exact zSK_A hS_s17 (zr (k := 45) (t2 := 98) hG ha rfl) rfl rfl rfl (by omega)
                    have g22 : zc (s22 (gP G a 27)) = zc (s17 (gP G a 27)) := by rw [e_s22, zU_ne (zne (zr (k := 27) (t2 := 84) hG ha rfl) (zr (k := 45) (t2 := 98) hG ha rfl) (by decide))]
                    exact j_sub [1, 2, 3, 4] [(0, .ref a), (1, .int (zI x1)), (2, .int (zI v1)), (3, .int (zI v3))] rfl (c128_8 s22 hS_s22 (zFr_u (zFr_t (zFr_t zFr_rf hF_s13 (by decide)) hF_s17 (by decide)) e_s22 (zr (k := 45) (t2 := 98) hG ha rfl) (by decide)) (by omega))
                  · skip
                    refine j_aload_n hx 1 dX12_plans_111 rfl ?_
                    refine j_iload_n hx 4 dX12_plans_112 rfl ?_
                    refine j_iconst hx dX12_plans_113 ?_
                    refine j_callV hx hG (c_X12_counts hst a v3 5) lk_RX12_388 ha (by decide) rfl rfl rfl rfl [.int (zI v3), .int (zI 5)] ⟨rfl, hG, hS_s17, ha, (by omega), (by omega)⟩ rfl rfl ⟨by decide, by decide⟩ ⟨by decide, by decide⟩ (k2 := 0) (n2 := 0) rfl rfl (Nat.le_of_ble_eq_true rfl) dX12_plans_114 (kVM (fun s23 hS_s23 hF_s23 q24 => ?_))
                    refine j_goto hx 128 dX12_plans_117 rfl ?_
                    exact j_sub [1, 2, 3, 4] [(0, .ref a), (1, .int (zI x1)), (2, .int (zI v1)), (3, .int (zI v3))] rfl (c128_8 s23 hS_s23 (zFr_t (zFr_t (zFr_t zFr_rf hF_s13 (by decide)) hF_s17 (by decide)) hF_s23 (by decide)) (by omega))
                refine j_icmp_ne hx 96 dX12_plans_86 rfl (by omega) ⟨by decide, by decide⟩ (fun h25 => ?_) (fun h25 => ?_)
                · skip
                  refine j_iconst hx dX12_plans_96 ?_
                  exact j_sub [0, 1, 2, 3] [(0, .ref a), (1, .int (zI x1)), (2, .int (zI v1)), (3, .int (zI v3))] rfl (c97_16 0 s13 (by omega) hS_s13 zFr_rf (by omega))
                · skip
                  refine j_aload_n hx 0 dX12_plans_89 rfl ?_
                  have g26 : s13 (gP G a 27) 488 = s2 (gP G a 27) 488 := (by rw [(zFr_g hF_s13 (zr (k := 27) (t2 := 84) hG ha rfl) (by decide))])
                  refine j_callV hx hG (c_X12_drawn hst a) lk_RX12_385 ha (by decide) rfl rfl rfl rfl [] ⟨rfl, hG, hS_s13, ha⟩ rfl rfl ⟨by decide, by decide⟩ ⟨by decide, by decide⟩ (k2 := 0) (n2 := 0) rfl rfl (Nat.le_of_ble_eq_true rfl) dX12_plans_90 (kIM (fun v27 s24 hS_s24 hF_s24 q28 => ?_))
                  refine j_goto hx 97 dX12_plans_93 rfl ?_
                  exact j_sub [0, 1, 2, 3] [(0, .ref a), (1, .int (zI x1)), (2, .int (zI v1)), (3, .int (zI v3))] rfl (c97_16 v27 s24 (by omega) hS_s24 (zFr_t zFr_rf hF_s24 (by decide)) (by omega))
              refine j_icmp_ne hx 75 dX12_plans_68 rfl (by omega) (by omega) (fun h29 => ?_) (fun h29 => ?_)
              · skip
                refine j_iconst hx dX12_plans_75 ?_
                exact j_sub [0, 1, 2, 3] [(0, .ref a), (1, .int (zI x1)), (2, .int (zI v1)), (3, .int (zI v3))] rfl (c76_14 1 (by omega))
              · skip
                refine j_iconst hx dX12_plans_71 ?_
                refine j_goto hx 76 dX12_plans_72 rfl ?_
                exact j_sub [0, 1, 2, 3] [(0, .ref a), (1, .int (zI x1)), (2, .int (zI v1)), (3, .int (zI v3))] rfl (c76_14 0 (by omega))
            · skip
              refine j_goto hx 128 dX12_plans_44 rfl ?_
              have g30 : zc (s13 (gP G a 27)) = zc (s2 (gP G a 27)) := by rw [(zFr_g hF_s13 (zr (k := 27) (t2 := 84) hG ha rfl) (by decide))]
              exact j_sub [0, 1, 2, 3] [(0, .ref a), (1, .int (zI x1)), (2, .int (zI v1)), (3, .int (zI v3))] rfl (c128_8 s13 hS_s13 (zFr_t zFr_rf hF_s13 (by decide)) (by omega))
  exact j_sub [2, 3, 1, 0] [(0, .ref a), (1, .int (zI x1)), (2, .int (zI v1)), (3, .int (zI 0))] rfl (c8_1 (2147483648 * 4) 0 s0 (by omega) (by omega) hS0 zFr_rf (by omega) (by omega))

set_option maxHeartbeats 4000000 in
set_option maxRecDepth 20000 in
theorem c_X12_pools {E : zE} {l : Launch} (hst : l.stackTraces = false) (a : Nat) (x1 : Int) : Con E l yX12_pools cX12_pools 2 none { frames := 0, cells := 0, slots := 0, locals := 0 } (fun G s vs => vs = [.ref a, .int (zI x1)] ∧ zGK G ∧ zSK G s ∧ (gT G a = 13) ∧ (0 ≤ x1 ∧ x1 ≤ 59) ∧ (zc (s (gP G a 27)) ≤ 59)) (fun G s _ => pV (fun G2 s2 => G2 = G ∧ zSK G s2 ∧ zFr [84] G s s2 ∧ zc (s2 (gP G a 27)) = zc (s (gP G a 27)) + 1 ∧ s2 (gP G a 27) 488 = s (gP G a 27) 488)) := by
  refine Con.mk hst (by decide) (fun G s vs h => by rw [h.1]; exact Nat.le_of_ble_eq_true rfl) ?_
  rintro X G s0 vs ⟨rfl, hG, hS0, ha, hx1, e0⟩ rfl hx hq
  show JJ X E 2 G s0 0 0 [(0, .ref a), (1, .int (zI x1))] 0 []
  refine j_aload_n hx 0 dX12_pools_0 rfl ?_
  refine g13_27 hx hG ha kf_RX12_56 dX12_pools_1 ?_
  refine j_sipush hx dX12_pools_4 rfl ?_
  refine j_aload_n hx 0 dX12_pools_7 rfl ?_
  refine g13_27 hx hG ha kf_RX12_56 dX12_pools_8 ?_
  refine j_sipush hx dX12_pools_11 rfl ?_
  have f1 := zaQ (j := 486) hS0 (zr (k := 27) (t2 := 84) hG ha rfl) (congrArg some (axS_2 486 (by omega))) (zlen hG (zr (k := 27) (t2 := 84) hG ha rfl) (n := 515) rfl rfl) (show 0 ≤ 486 by omega) (by omega) rfl
  have c2 := zc_1 (j := 486) hS0 (zr (k := 27) (t2 := 84) hG ha rfl) (zn hG (zr (k := 27) (t2 := 84) hG ha rfl) rfl) (by omega) (by omega)
  refine j_iald hx hG (zr (k := 27) (t2 := 84) hG ha rfl) (by decide) rfl (zlen hG (zr (k := 27) (t2 := 84) hG ha rfl) (n := 515) rfl rfl) (by omega) (by omega) (j := 486) rfl rfl dX12_pools_14 ?_
  refine j_iadd hx (r := (s0 (gP G a 27) 486) + 360) dX12_pools_15 (by omega) ?_
  refine j_iload_n hx 1 dX12_pools_16 rfl ?_
  refine j_iast hx hG (zr (k := 27) (t2 := 84) hG ha rfl) (by decide) rfl (zlen hG (zr (k := 27) (t2 := 84) hG ha rfl) (n := 515) rfl rfl) (by omega) (by omega) (j := ((s0 (gP G a 27) 486) + 360).toNat) rfl dX12_pools_17 ?_
  obtain ⟨s1, e_s1⟩ : ∃ z, z = zU s0 (gP G a 27) ((s0 (gP G a 27) 486) + 360).toNat x1 := ⟨_, rfl⟩
  rw [← e_s1]
  have hS_s1 : zSK G s1 := by rw [e_s1]; exact zSK_a hS0 (zr (k := 27) (t2 := 84) hG ha rfl) rfl rfl (congrArg some (axS_0 ((s0 (gP G a 27) 486) + 360).toNat (by omega))) (by omega)
  have z3 : zc (s1 (gP G a 27)) = zc (s0 (gP G a 27)) := by rw [e_s1]; exact zc_o (by omega)
  refine j_aload_n hx 0 dX12_pools_18 rfl ?_
  refine g13_27 hx hG ha kf_RX12_56 dX12_pools_19 ?_
  refine j_sipush hx dX12_pools_22 rfl ?_
  refine j_dup2 hx dX12_pools_25 rfl rfl ?_
  refine j_iald hx hG (zr (k := 27) (t2 := 84) hG ha rfl) (by decide) rfl (zlen hG (zr (k := 27) (t2 := 84) hG ha rfl) (n := 515) rfl rfl) (by omega) (by omega) (j := 486) rfl (v := (s0 (gP G a 27) 486)) (by rw [e_s1, zU_at (Or.inr (by omega))]) dX12_pools_26 ?_
  refine j_iconst hx dX12_pools_27 ?_
  refine j_iadd hx (r := (s0 (gP G a 27) 486) + 1) dX12_pools_28 (by omega) ?_
  refine j_iast hx hG (zr (k := 27) (t2 := 84) hG ha rfl) (by decide) rfl (zlen hG (zr (k := 27) (t2 := 84) hG ha rfl) (n := 515) rfl rfl) (by omega) (by omega) (j := 486) rfl dX12_pools_29 ?_
  obtain ⟨s2, e_s2⟩ : ∃ z, z = zU s1 (gP G a 27) 486 ((s0 (gP G a 27) 486) + 1) := ⟨_, rfl⟩
  rw [← e_s2]
  have hS_s2 : zSK G s2 := by rw [e_s2]; exact zSK_a hS_s1 (zr (k := 27) (t2 := 84) hG ha rfl) rfl rfl (congrArg some (axS_2 486 (by omega))) (by omega)
  have g5 : s1 (gP G a 27) 486 = s0 (gP G a 27) 486 := (by rw [e_s1, zU_at (Or.inr (by omega))])
  have g6 : s2 (gP G a 27) 486 = (s0 (gP G a 27) 486) + 1 := (by rw [e_s2, zU_eq])
  have z4 : zc (s2 (gP G a 27)) = zc (s1 (gP G a 27)) - s1 (gP G a 27) 486 + s2 (gP G a 27) 486 := by rw [e_s2, zU_eq]; exact zc_w (by omega) (by omega)
  have g7 : s2 (gP G a 27) 488 = s0 (gP G a 27) 488 := (by rw [e_s2, zU_at (Or.inr (by decide)), e_s1, zU_at (Or.inr (by omega))])
  exact j_vret hx hq rfl (by decide) (by decide) dX12_pools_30 ⟨rfl, rfl, hS_s2, (zFr_u (zFr_u zFr_rf e_s1 (zr (k := 27) (t2 := 84) hG ha rfl) (by decide)) e_s2 (zr (k := 27) (t2 := 84) hG ha rfl) (by decide)), ⟨by omega, by omega⟩⟩

theorem lk_RX12_381 : LkV RX12 381 RX12 yX12_pools cX12_pools 2 none 1 := ⟨km_RX12_381, ki_yX12_pools, ks_RX12_yX12_pools, kn_RX12, kc_yX12_pools, rfl, by decide +kernel, by decide +kernel, by decide +kernel⟩
set_option maxHeartbeats 4000000 in
set_option maxRecDepth 20000 in
theorem c_X12_falls {E : zE} {l : Launch} (hst : l.stackTraces = false) (a : Nat) (x1 : Int) : Con E l yX12_falls cX12_falls 4 none { frames := 3, cells := 0, slots := 0, locals := 70 } (fun G s vs => vs = [.ref a, .int (zI x1)] ∧ zGK G ∧ zSK G s ∧ (gT G a = 13) ∧ (0 ≤ x1 ∧ x1 ≤ 2) ∧ (zc (s (gP G a 27)) ≤ 60)) (fun G s _ => pV (fun G2 s2 => G2 = G ∧ zSK G s2 ∧ zFr [84] G s s2 ∧ zc (s2 (gP G a 27)) = zc (s (gP G a 27)) ∧ s2 (gP G a 27) 488 = s (gP G a 27) 488)) := by
  refine Con.mk hst (by decide) (fun G s vs h => by rw [h.1]; exact Nat.le_of_ble_eq_true rfl) ?_
  rintro X G s0 vs ⟨rfl, hG, hS0, ha, hx1, e0⟩ rfl hx hq
  show JJ X E 4 G s0 0 0 [(0, .ref a), (1, .int (zI x1))] 0 []
  refine j_aload_n hx 0 dX12_falls_0 rfl ?_
  refine g13_27 hx hG ha kf_RX12_56 dX12_falls_1 ?_
  refine j_sipush hx dX12_falls_4 rfl ?_
  have f1 := zaQ (j := 491) hS0 (zr (k := 27) (t2 := 84) hG ha rfl) (congrArg some (axS_7 491 (by omega))) (zlen hG (zr (k := 27) (t2 := 84) hG ha rfl) (n := 515) rfl rfl) (show 0 ≤ 491 by omega) (by omega) rfl
  refine j_iald hx hG (zr (k := 27) (t2 := 84) hG ha rfl) (by decide) rfl (zlen hG (zr (k := 27) (t2 := 84) hG ha rfl) (n := 515) rfl rfl) (by omega) (by omega) (j := 491) rfl rfl dX12_falls_7 ?_
  refine j_istore_n hx [(2, .int (zI ((s0 (gP G a 27) 491)))), (0, .ref a), (1, .int (zI x1))] dX12_falls_8 (by decide) rfl ?_
  refine j_iload_n hx 0 dX12_falls_9 rfl ?_
  refine j_if_ne hx 38 dX12_falls_10 rfl (by omega) (fun h2 => ?_) (fun h2 => ?_)
  · skip
    refine j_iload_n hx 0 dX12_falls_38 rfl ?_
    refine j_iconst hx dX12_falls_39 ?_
    have c68_1 : JJ X E 4 G s0 0 0 [(0, .ref a), (1, .int (zI x1)), (2, .int (zI ((s0 (gP G a 27) 491))))] 68 [] := by
      refine j_iload_n hx 2 dX12_falls_68 rfl ?_
      refine j_iconst hx dX12_falls_69 ?_
      refine j_icmp_ne hx 128 dX12_falls_70 rfl (by omega) ⟨by decide, by decide⟩ (fun h3 => ?_) (fun h3 => ?_)
      · skip
        exact j_vret hx hq rfl (by decide) (by decide) dX12_falls_128 ⟨rfl, rfl, hS0, zFr_rf, ⟨by omega, by omega⟩⟩
      · skip
        refine j_aload_n hx 0 dX12_falls_73 rfl ?_
        refine g13_27 hx hG ha kf_RX12_56 dX12_falls_74 ?_
        refine j_sipush hx dX12_falls_77 rfl ?_
        refine j_iload_n hx 1 dX12_falls_80 rfl ?_
        refine j_iadd hx (r := x1 + 483) dX12_falls_81 (by omega) ?_
        have f4 := zaQ (j := (x1 + 483).toNat) hS0 (zr (k := 27) (t2 := 84) hG ha rfl) (congrArg some (axS_2 (x1 + 483).toNat (by omega))) (zlen hG (zr (k := 27) (t2 := 84) hG ha rfl) (n := 515) rfl rfl) (show 0 ≤ x1 + 483 by omega) (by omega) rfl
        have c5 := zc_1 (j := (x1 + 483).toNat) hS0 (zr (k := 27) (t2 := 84) hG ha rfl) (zn hG (zr (k := 27) (t2 := 84) hG ha rfl) rfl) (by omega) (by omega)
        refine j_iald hx hG (zr (k := 27) (t2 := 84) hG ha rfl) (by decide) rfl (zlen hG (zr (k := 27) (t2 := 84) hG ha rfl) (n := 515) rfl rfl) (by omega) (by omega) (j := (x1 + 483).toNat) rfl rfl dX12_falls_82 ?_
        refine j_if_le hx 128 dX12_falls_83 rfl (by omega) (fun h6 => ?_) (fun h6 => ?_)
        · skip
          exact j_vret hx hq rfl (by decide) (by decide) dX12_falls_128 ⟨rfl, rfl, hS0, zFr_rf, ⟨by omega, by omega⟩⟩
        · skip
          refine j_aload_n hx 0 dX12_falls_86 rfl ?_
          refine g13_27 hx hG ha kf_RX12_56 dX12_falls_87 ?_
          refine j_sipush hx dX12_falls_90 rfl ?_
          refine j_iload_n hx 1 dX12_falls_93 rfl ?_
          refine j_iadd hx (r := x1 + 483) dX12_falls_94 (by omega) ?_
          refine j_dup2 hx dX12_falls_95 rfl rfl ?_
          refine j_iald hx hG (zr (k := 27) (t2 := 84) hG ha rfl) (by decide) rfl (zlen hG (zr (k := 27) (t2 := 84) hG ha rfl) (n := 515) rfl rfl) (by omega) (by omega) (j := (x1 + 483).toNat) rfl rfl dX12_falls_96 ?_
          refine j_iconst hx dX12_falls_97 ?_
          refine j_isub hx (r := (s0 (gP G a 27) (x1 + 483).toNat) - 1) dX12_falls_98 (by omega) ?_
          refine j_iast hx hG (zr (k := 27) (t2 := 84) hG ha rfl) (by decide) rfl (zlen hG (zr (k := 27) (t2 := 84) hG ha rfl) (n := 515) rfl rfl) (by omega) (by omega) (j := (x1 + 483).toNat) rfl dX12_falls_99 ?_
          obtain ⟨s2, e_s2⟩ : ∃ z, z = zU s0 (gP G a 27) (x1 + 483).toNat ((s0 (gP G a 27) (x1 + 483).toNat) - 1) := ⟨_, rfl⟩
          rw [← e_s2]
          have hS_s2 : zSK G s2 := by rw [e_s2]; exact zSK_a hS0 (zr (k := 27) (t2 := 84) hG ha rfl) rfl rfl (congrArg some (axS_2 (x1 + 483).toNat (by omega))) (by omega)
          have g8 : s2 (gP G a 27) (x1 + 483).toNat = (s0 (gP G a 27) (x1 + 483).toNat) - 1 := (by rw [e_s2, zU_eq])
          have z7 : zc (s2 (gP G a 27)) = zc (s0 (gP G a 27)) - s0 (gP G a 27) (x1 + 483).toNat + s2 (gP G a 27) (x1 + 483).toNat := by rw [e_s2, zU_eq]; exact zc_w (by omega) (by omega)
          refine j_aload_n hx 0 dX12_falls_100 rfl ?_
          refine j_aload_n hx 0 dX12_falls_101 rfl ?_
          refine g13_27 hx hG ha kf_RX12_56 dX12_falls_102 ?_
          refine j_sipush hx dX12_falls_105 rfl ?_
          refine j_bipush hx dX12_falls_108 rfl ?_
          refine j_iload_n hx 1 dX12_falls_110 rfl ?_
          refine j_imul hx (r := 60 * x1) dX12_falls_111 rfl ?_
          refine j_iadd hx (r := 60 * x1 + 180) dX12_falls_112 (by omega) ?_
          refine j_aload_n hx 0 dX12_falls_113 rfl ?_
          refine g13_27 hx hG ha kf_RX12_56 dX12_falls_114 ?_
          refine j_sipush hx dX12_falls_117 rfl ?_
          refine j_iload_n hx 1 dX12_falls_120 rfl ?_
          refine j_iadd hx (r := x1 + 483) dX12_falls_121 (by omega) ?_
          refine j_iald hx hG (zr (k := 27) (t2 := 84) hG ha rfl) (by decide) rfl (zlen hG (zr (k := 27) (t2 := 84) hG ha rfl) (n := 515) rfl rfl) (by omega) (by omega) (j := (x1 + 483).toNat) rfl (v := (s0 (gP G a 27) (x1 + 483).toNat) - 1) (by rw [e_s2, zU_eq]) dX12_falls_122 ?_
          refine j_iadd hx (r := 60 * x1 + (s0 (gP G a 27) (x1 + 483).toNat) + 179) dX12_falls_123 (by omega) ?_
          have f9 := zaQ (j := (60 * x1 + (s0 (gP G a 27) (x1 + 483).toNat) + 179).toNat) hS0 (zr (k := 27) (t2 := 84) hG ha rfl) (congrArg some (axS_0 (60 * x1 + (s0 (gP G a 27) (x1 + 483).toNat) + 179).toNat (by omega))) (zlen hG (zr (k := 27) (t2 := 84) hG ha rfl) (n := 515) rfl rfl) (show 0 ≤ 60 * x1 + (s0 (gP G a 27) (x1 + 483).toNat) + 179 by omega) (by omega) rfl
          refine j_iald hx hG (zr (k := 27) (t2 := 84) hG ha rfl) (by decide) rfl (zlen hG (zr (k := 27) (t2 := 84) hG ha rfl) (n := 515) rfl rfl) (by omega) (by omega) (j := (60 * x1 + (s0 (gP G a 27) (x1 + 483).toNat) + 179).toNat) rfl (v := (s0 (gP G a 27) (60 * x1 + (s0 (gP G a 27) (x1 + 483).toNat) + 179).toNat)) (by rw [e_s2, zU_at (Or.inr (by omega))]) dX12_falls_124 ?_
          have g10 : s2 (gP G a 27) 488 = s0 (gP G a 27) 488 := (by rw [e_s2, zU_at (Or.inr (by omega))])
          refine j_callV hx hG (c_X12_pools hst a ((s0 (gP G a 27) (60 * x1 + (s0 (gP G a 27) (x1 + 483).toNat) + 179).toNat))) lk_RX12_381 ha (by decide) rfl rfl rfl rfl [.int (zI ((s0 (gP G a 27) (60 * x1 + (s0 (gP G a 27) (x1 + 483).toNat) + 179).toNat)))] ⟨rfl, hG, hS_s2, ha, (by omega), (by omega)⟩ rfl rfl ⟨by decide, by decide⟩ ⟨by decide, by decide⟩ (k2 := 0) (n2 := 0) rfl rfl (Nat.le_of_ble_eq_true rfl) dX12_falls_125 (kVM (fun s3 hS_s3 hF_s3 q12 => ?_))
          exact j_vret hx hq rfl (by decide) (by decide) dX12_falls_128 ⟨rfl, rfl, hS_s3, (zFr_t (zFr_u zFr_rf e_s2 (zr (k := 27) (t2 := 84) hG ha rfl) (by decide)) hF_s3 (by decide)), ⟨by omega, by omega⟩⟩
    refine j_icmp_ne hx 68 dX12_falls_40 rfl (by omega) ⟨by decide, by decide⟩ (fun h13 => ?_) (fun h13 => ?_)
    · skip
      exact j_sub [1, 2, 0] [(0, .ref a), (1, .int (zI x1)), (2, .int (zI ((s0 (gP G a 27) 491))))] rfl (c68_1  )
    · skip
      refine j_aload_n hx 1 dX12_falls_43 rfl ?_
      refine g13_27 hx hG ha kf_RX12_56 dX12_falls_44 ?_
      refine j_sipush hx dX12_falls_47 rfl ?_
      refine j_iload_n hx 2 dX12_falls_50 rfl ?_
      refine j_iadd hx (r := x1 + 480) dX12_falls_51 (by omega) ?_
      have f14 := zaQ (j := (x1 + 480).toNat) hS0 (zr (k := 27) (t2 := 84) hG ha rfl) (congrArg some (axS_2 (x1 + 480).toNat (by omega))) (zlen hG (zr (k := 27) (t2 := 84) hG ha rfl) (n := 515) rfl rfl) (show 0 ≤ x1 + 480 by omega) (by omega) rfl
      have c15 := zc_1 (j := (x1 + 480).toNat) hS0 (zr (k := 27) (t2 := 84) hG ha rfl) (zn hG (zr (k := 27) (t2 := 84) hG ha rfl) rfl) (by omega) (by omega)
      refine j_iald hx hG (zr (k := 27) (t2 := 84) hG ha rfl) (by decide) rfl (zlen hG (zr (k := 27) (t2 := 84) hG ha rfl) (n := 515) rfl rfl) (by omega) (by omega) (j := (x1 + 480).toNat) rfl rfl dX12_falls_52 ?_
      refine j_if_le hx 68 dX12_falls_53 rfl (by omega) (fun h16 => ?_) (fun h16 => ?_)
      · skip
        exact j_sub [1, 2, 0] [(0, .ref a), (1, .int (zI x1)), (2, .int (zI ((s0 (gP G a 27) 491))))] rfl (c68_1  )
      · skip
        refine j_aload_n hx 1 dX12_falls_56 rfl ?_
        refine j_aload_n hx 1 dX12_falls_57 rfl ?_
        refine j_iload_n hx 2 dX12_falls_58 rfl ?_
        refine j_callV hx hG (c_X12_takesFirst hst a x1) lk_RX12_371 ha (by decide) rfl rfl rfl rfl [.int (zI x1)] ⟨rfl, hG, hS0, ha, (by omega), (by omega), (by omega)⟩ rfl rfl ⟨by decide, by decide⟩ ⟨by decide, by decide⟩ (k2 := 0) (n2 := 0) rfl rfl (Nat.le_of_ble_eq_true rfl) dX12_falls_59 (kIM (fun v17 s4 hS_s4 hF_s4 q18 => ?_))
        refine j_callV hx hG (c_X12_pools hst a v17) lk_RX12_381 ha (by decide) rfl rfl rfl rfl [.int (zI v17)] ⟨rfl, hG, hS_s4, ha, (by omega), (by omega)⟩ rfl rfl ⟨by decide, by decide⟩ ⟨by decide, by decide⟩ (k2 := 0) (n2 := 0) rfl rfl (Nat.le_of_ble_eq_true rfl) dX12_falls_62 (kVM (fun s5 hS_s5 hF_s5 q20 => ?_))
        refine j_goto hx 128 dX12_falls_65 rfl ?_
        exact j_vret hx hq rfl (by decide) (by decide) dX12_falls_128 ⟨rfl, rfl, hS_s5, (zFr_t (zFr_t zFr_rf hF_s4 (by decide)) hF_s5 (by decide)), ⟨by omega, by omega⟩⟩
  · skip
    refine j_aload_n hx 1 dX12_falls_13 rfl ?_
    refine j_iload_n hx 2 dX12_falls_14 rfl ?_
    refine j_callV hx hG (c_X12_next hst a x1) lk_RX12_331 ha (by decide) rfl rfl rfl rfl [.int (zI x1)] ⟨rfl, hG, hS0, ha, (by omega)⟩ rfl rfl ⟨by decide, by decide⟩ ⟨by decide, by decide⟩ (k2 := 0) (n2 := 0) rfl rfl (Nat.le_of_ble_eq_true rfl) dX12_falls_15 (kIP (fun v21 q22 => ?_))
    refine j_istore_n hx [(3, .int (zI v21)), (2, .int (zI ((s0 (gP G a 27) 491)))), (0, .ref a), (1, .int (zI x1))] dX12_falls_18 (by decide) rfl ?_
    refine j_iload_n hx 0 dX12_falls_19 rfl ?_
    refine j_iconst hx dX12_falls_20 ?_
    refine j_icmp_eq hx 35 dX12_falls_21 rfl (by omega) ⟨by decide, by decide⟩ (fun h23 => ?_) (fun h23 => ?_)
    · skip
      refine j_goto hx 128 dX12_falls_35 rfl ?_
      exact j_vret hx hq rfl (by decide) (by decide) dX12_falls_128 ⟨rfl, rfl, hS0, zFr_rf, ⟨by omega, by omega⟩⟩
    · skip
      refine j_iload_n hx 0 dX12_falls_24 rfl ?_
      refine j_iload_n hx 3 dX12_falls_25 rfl ?_
      refine j_icmp_eq hx 35 dX12_falls_26 rfl (by omega) (by omega) (fun h24 => ?_) (fun h24 => ?_)
      · skip
        refine j_goto hx 128 dX12_falls_35 rfl ?_
        exact j_vret hx hq rfl (by decide) (by decide) dX12_falls_128 ⟨rfl, rfl, hS0, zFr_rf, ⟨by omega, by omega⟩⟩
      · skip
        refine j_aload_n hx 2 dX12_falls_29 rfl ?_
        refine j_iload_n hx 3 dX12_falls_30 rfl ?_
        refine j_iload_n hx 0 dX12_falls_31 rfl ?_
        refine j_callV hx hG (c_X12_comesToRow hst a x1 v21) lk_RX12_368 ha (by decide) rfl rfl rfl rfl [.int (zI x1), .int (zI v21)] ⟨rfl, hG, hS0, ha, (by omega), (by omega), (by omega)⟩ rfl rfl ⟨by decide, by decide⟩ ⟨by decide, by decide⟩ (k2 := 0) (n2 := 0) rfl rfl (Nat.le_of_ble_eq_true rfl) dX12_falls_32 (kVM (fun s6 hS_s6 hF_s6 q26 => ?_))
        refine j_goto hx 128 dX12_falls_35 rfl ?_
        exact j_vret hx hq rfl (by decide) (by decide) dX12_falls_128 ⟨rfl, rfl, hS_s6, (zFr_t zFr_rf hF_s6 (by decide)), ⟨by omega, by omega⟩⟩
