theorem lk_RX12_240 : LkV RX12 240 RX12 yX12_may cX12_may 4 (some .boolean) 3 := ⟨km_RX12_240, ki_yX12_may, ks_RX12_yX12_may, kn_RX12, kc_yX12_may, rfl, by decide +kernel, by decide +kernel, by decide +kernel⟩
theorem lk_RX12_244 : LkV RX12 244 RX12 yX12_begins cX12_begins 2 none 1 := ⟨km_RX12_244, ki_yX12_begins, ks_RX12_yX12_begins, kn_RX12, kc_yX12_begins, rfl, by decide +kernel, by decide +kernel, by decide +kernel⟩
theorem lk_RX12_128 : LkV RX12 128 RX12 yX12_clears cX12_clears 2 none 0 := ⟨km_RX12_128, ki_yX12_clears, ks_RX12_yX12_clears, kn_RX12, kc_yX12_clears, rfl, by decide +kernel, by decide +kernel, by decide +kernel⟩
theorem lk_RX12_265 : LkV RX12 265 RX12 yX12_result cX12_result 2 (some .int) 1 := ⟨km_RX12_265, ki_yX12_result, ks_RX12_yX12_result, kn_RX12, kc_yX12_result, rfl, by decide +kernel, by decide +kernel, by decide +kernel⟩
theorem lk_RX12_131 : LkV RX12 131 RX12 yX12_sets cX12_sets 4 none 0 := ⟨km_RX12_131, ki_yX12_sets, ks_RX12_yX12_sets, kn_RX12, kc_yX12_sets, rfl, by decide +kernel, by decide +kernel, by decide +kernel⟩
theorem lk_RX12_247 : LkV RX12 247 RX12 yX12_isMore cX12_isMore 1 (some .boolean) 0 := ⟨km_RX12_247, ki_yX12_isMore, ks_RX12_yX12_isMore, kn_RX12, kc_yX12_isMore, rfl, by decide +kernel, by decide +kernel, by decide +kernel⟩
theorem lk_RX12_250 : LkV RX12 250 RX12 yX12_word cX12_word 4 (some .int) 0 := ⟨km_RX12_250, ki_yX12_word, ks_RX12_yX12_word, kn_RX12, kc_yX12_word, rfl, by decide +kernel, by decide +kernel, by decide +kernel⟩
theorem lk_RX12_253 : LkS RX12 253 yX12_isClause cX12_isClause 1 (some .boolean) 1 := ⟨km_RX12_253, kst_yX12_isClause, kn_RX12, kc_yX12_isClause, by decide +kernel, by decide +kernel, by decide +kernel⟩
theorem lk_RX12_256 : LkV RX12 256 RX12 yX12_pass cX12_pass 1 none 0 := ⟨km_RX12_256, ki_yX12_pass, ks_RX12_yX12_pass, kn_RX12, kc_yX12_pass, rfl, by decide +kernel, by decide +kernel, by decide +kernel⟩
theorem lk_RX12_259 : LkV RX12 259 RX12 yX12_readClause cX12_readClause 4 none 1 := ⟨km_RX12_259, ki_yX12_readClause, ks_RX12_yX12_readClause, kn_RX12, kc_yX12_readClause, rfl, by decide +kernel, by decide +kernel, by decide +kernel⟩
theorem lk_RX12_262 : LkV RX12 262 RX12 yX12_sign cX12_sign 2 none 1 := ⟨km_RX12_262, ki_yX12_sign, ks_RX12_yX12_sign, kn_RX12, kc_yX12_sign, rfl, by decide +kernel, by decide +kernel, by decide +kernel⟩
set_option maxHeartbeats 4000000 in
set_option maxRecDepth 20000 in
theorem c_X12_table {E : zE} {l : Launch} (hst : l.stackTraces = false) (a : Nat) (x1 : Int) : Con E l yX12_table cX12_table 4 (some .int) { frames := 7, cells := 0, slots := 0, locals := 265 } (fun G s vs => vs = [.ref a, .int (zI x1)] ∧ zGK G ∧ zSK G s ∧ (gT G a = 13) ∧ ((-2147483648) ≤ x1 ∧ x1 ≤ 2147483647) ∧ (zc (s (gP G a 27)) ≤ 60) ∧ (zc (s (gP G a 28)) ≤ 60) ∧ (zRva (s (gP G a 34)) (s (gP G a 35)) (s (gP G a 37))) ∧ (zQn (s (gP G a 17)) (s a 24))) (fun G s _ => pI (fun r G2 s2 => G2 = G ∧ zSK G s2 ∧ zFr [13, 71, 73, 74, 75, 76, 77, 78, 79, 80, 81, 82, 83, 84, 85, 87, 91, 94] G s s2 ∧ ((-2147483648) ≤ r ∧ r ≤ 2147483647) ∧ zc (s2 (gP G a 27)) ≤ 60 ∧ zc (s2 (gP G a 28)) ≤ 60 ∧ s2 (gP G a 27) 488 = s (gP G a 27) 488 ∨ s2 (gP G a 27) 488 = 0 ∧ s2 (gP G a 28) 488 = s (gP G a 28) 488 ∨ s2 (gP G a 28) 488 = 0 ∧ zRva (s2 (gP G a 34)) (s2 (gP G a 35)) (s2 (gP G a 37)) ∧ zQn (s2 (gP G a 17)) (s2 a 24) ∧ s2 a 38 = s a 38 ∧ s2 a 51 = s a 51 ∧ s2 a 52 = s a 52)) := by
  refine Con.mk hst (by decide) (fun G s vs h => by rw [h.1]; exact Nat.le_of_ble_eq_true rfl) ?_
  rintro X G s0 vs ⟨rfl, hG, hS0, ha, hx1, e0, e1, e2, e3⟩ rfl hx hq
  show JJ X E 4 G s0 0 0 [(0, .ref a), (1, .int (zI x1))] 0 []
  refine j_aload_n hx 0 dX12_table_0 rfl ?_
  refine j_iconst hx dX12_table_1 ?_
  refine p13_0 hx hG ha kf_RX12_3 dX12_table_2 ?_
  obtain ⟨s1, e_s1⟩ : ∃ z, z = zU s0 a 0 0 := ⟨_, rfl⟩
  rw [← e_s1]
  have hS_s1 : zSK G s1 := by rw [e_s1]; exact zSK_F hS0 ha rfl rfl rfl (by omega)
  refine j_aload_n hx 0 dX12_table_5 rfl ?_
  refine j_iload_n hx 1 dX12_table_6 rfl ?_
  refine j_if_lt hx 22 dX12_table_7 rfl (by omega) (fun h1 => ?_) (fun h1 => ?_)
  · skip
    refine j_iconst hx dX12_table_22 ?_
    refine j_iconst hx dX12_table_23 ?_
    refine j_iconst hx dX12_table_24 ?_
    have g2 : s1 a 0 = 0 := (by rw [e_s1, zU_eq])
    have g3 : s1 a 3 = s0 a 3 := (by rw [e_s1, zU_at (Or.inr (by decide))])
    have f4 := zf hS0 ha (k := 3) rfl
    have g5 : s1 a 4 = s0 a 4 := (by rw [e_s1, zU_at (Or.inr (by decide))])
    have f6 := zf hS0 ha (k := 4) rfl
    have g7 : s1 a 5 = s0 a 5 := (by rw [e_s1, zU_at (Or.inr (by decide))])
    have f8 := zf hS0 ha (k := 5) rfl
    have g9 : s1 a 7 = s0 a 7 := (by rw [e_s1, zU_at (Or.inr (by decide))])
    have f10 := zf hS0 ha (k := 7) rfl
    have g11 : s1 a 21 = s0 a 21 := (by rw [e_s1, zU_at (Or.inr (by decide))])
    have f12 := zf hS0 ha (k := 21) rfl
    have g13 : s1 a 22 = s0 a 22 := (by rw [e_s1, zU_at (Or.inr (by decide))])
    have f14 := zf hS0 ha (k := 22) rfl
    have g15 : s1 a 23 = s0 a 23 := (by rw [e_s1, zU_at (Or.inr (by decide))])
    have f16 := zf hS0 ha (k := 23) rfl
    have g17 : s1 a 24 = s0 a 24 := (by rw [e_s1, zU_at (Or.inr (by decide))])
    have f18 := zf hS0 ha (k := 24) rfl
    have g19 : s1 a 38 = s0 a 38 := (by rw [e_s1, zU_at (Or.inr (by decide))])
    have f20 := zf hS0 ha (k := 38) rfl
    have g21 : s1 a 51 = s0 a 51 := (by rw [e_s1, zU_at (Or.inr (by decide))])
    have f22 := zf hS0 ha (k := 51) rfl
    have g23 : s1 a 52 = s0 a 52 := (by rw [e_s1, zU_at (Or.inr (by decide))])
    have f24 := zf hS0 ha (k := 52) rfl
    refine j_callV hx hG (c_X12_may_f hst a 0 1 1) lk_RX12_240 ha (by decide) rfl rfl rfl rfl [.int (zI 0), .int (zI 1), .int (zI 1)] ⟨rfl, hG, hS_s1, ha, (by omega), (by omega), (by omega), (((by rw [e_s1, zU_eq]) : s1 a 0 = 0).trans (by omega))⟩ rfl rfl ⟨by decide, by decide⟩ ⟨by decide, by decide⟩ (k2 := 0) (n2 := 0) rfl rfl (Nat.le_of_ble_eq_true rfl) dX12_table_25 (kIM (fun v25 s2 hS_s2 hF_s2 q26 => ?_))
    refine j_if_ne hx 33 dX12_table_28 rfl (by omega) (fun h27 => absurd h27 (by omega)) (fun h27 => ?_)
    refine j_iconst hx dX12_table_31 ?_
    have g28 : zc (s2 (gP G a 27)) = zc (s0 (gP G a 27)) := by rw [(zFr_g hF_s2 (zr (k := 27) (t2 := 84) hG ha rfl) (by decide)), e_s1, zU_ne (zne (zr (k := 27) (t2 := 84) hG ha rfl) ha (by decide))]
    have g29 : zc (s2 (gP G a 28)) = zc (s0 (gP G a 28)) := by rw [(zFr_g hF_s2 (zr (k := 28) (t2 := 85) hG ha rfl) (by decide)), e_s1, zU_ne (zne (zr (k := 28) (t2 := 85) hG ha rfl) ha (by decide))]
    have g30 : s2 (gP G a 27) 488 = s0 (gP G a 27) 488 := (by rw [(zFr_g hF_s2 (zr (k := 27) (t2 := 84) hG ha rfl) (by decide)), e_s1, zU_at (Or.inl (zne ha (zr (k := 27) (t2 := 84) hG ha rfl) (by decide)))])
    have g31 : s2 (gP G a 28) 488 = s0 (gP G a 28) 488 := (by rw [(zFr_g hF_s2 (zr (k := 28) (t2 := 85) hG ha rfl) (by decide)), e_s1, zU_at (Or.inl (zne ha (zr (k := 28) (t2 := 85) hG ha rfl) (by decide)))])
    have f32 := zf hS_s2 ha (k := 38) rfl
    have f33 := zf hS_s2 ha (k := 51) rfl
    have f34 := zf hS_s2 ha (k := 52) rfl
    exact j_iret hx hq rfl (by decide) (by decide) dX12_table_32 ⟨0, rfl, rfl, hS_s2, (zFr_t (zFr_u zFr_rf e_s1 ha (by decide)) hF_s2 (by decide)), ⟨(by omega), by omega, by omega, by omega, by omega, (by rw [(zFr_g hF_s2 (zr (k := 34) (t2 := 91) hG ha rfl) (by decide)), e_s1, zU_ne (zne (zr (k := 34) (t2 := 91) hG ha rfl) ha (by decide)), (zFr_g hF_s2 (zr (k := 35) (t2 := 92) hG ha rfl) (by decide)), e_s1, zU_ne (zne (zr (k := 35) (t2 := 92) hG ha rfl) ha (by decide)), (zFr_g hF_s2 (zr (k := 37) (t2 := 94) hG ha rfl) (by decide)), e_s1, zU_ne (zne (zr (k := 37) (t2 := 94) hG ha rfl) ha (by decide))]; exact e2), (by rw [(zFr_g hF_s2 (zr (k := 17) (t2 := 80) hG ha rfl) (by decide)), e_s1, zU_ne (zne (zr (k := 17) (t2 := 80) hG ha rfl) ha (by decide))]; exact (zQn_nn e3 (by omega))), by omega, by omega, by omega⟩⟩
  · skip
    refine j_iload_n hx 1 dX12_table_10 rfl ?_
    refine j_aload_n hx 0 dX12_table_11 rfl ?_
    have f35 := zf hS0 ha (k := 2) rfl
    refine g13_2 hx hG ha kf_RX12_134 (v := (s0 a 2)) (by rw [e_s1, zU_at (Or.inr (by decide))]) dX12_table_12 ?_
    refine j_icmp_gt hx 22 dX12_table_15 rfl (by omega) (by omega) (fun h36 => ?_) (fun h36 => ?_)
    · skip
      refine j_iconst hx dX12_table_22 ?_
      refine j_iconst hx dX12_table_23 ?_
      refine j_iconst hx dX12_table_24 ?_
      have g37 : s1 a 0 = 0 := (by rw [e_s1, zU_eq])
      have g38 : s1 a 3 = s0 a 3 := (by rw [e_s1, zU_at (Or.inr (by decide))])
      have f39 := zf hS0 ha (k := 3) rfl
      have g40 : s1 a 4 = s0 a 4 := (by rw [e_s1, zU_at (Or.inr (by decide))])
      have f41 := zf hS0 ha (k := 4) rfl
      have g42 : s1 a 5 = s0 a 5 := (by rw [e_s1, zU_at (Or.inr (by decide))])
      have f43 := zf hS0 ha (k := 5) rfl
      have g44 : s1 a 7 = s0 a 7 := (by rw [e_s1, zU_at (Or.inr (by decide))])
      have f45 := zf hS0 ha (k := 7) rfl
      have g46 : s1 a 21 = s0 a 21 := (by rw [e_s1, zU_at (Or.inr (by decide))])
      have f47 := zf hS0 ha (k := 21) rfl
      have g48 : s1 a 22 = s0 a 22 := (by rw [e_s1, zU_at (Or.inr (by decide))])
      have f49 := zf hS0 ha (k := 22) rfl
      have g50 : s1 a 23 = s0 a 23 := (by rw [e_s1, zU_at (Or.inr (by decide))])
      have f51 := zf hS0 ha (k := 23) rfl
      have g52 : s1 a 24 = s0 a 24 := (by rw [e_s1, zU_at (Or.inr (by decide))])
      have f53 := zf hS0 ha (k := 24) rfl
      have g54 : s1 a 38 = s0 a 38 := (by rw [e_s1, zU_at (Or.inr (by decide))])
      have f55 := zf hS0 ha (k := 38) rfl
      have g56 : s1 a 51 = s0 a 51 := (by rw [e_s1, zU_at (Or.inr (by decide))])
      have f57 := zf hS0 ha (k := 51) rfl
      have g58 : s1 a 52 = s0 a 52 := (by rw [e_s1, zU_at (Or.inr (by decide))])
      have f59 := zf hS0 ha (k := 52) rfl
      refine j_callV hx hG (c_X12_may_f hst a 0 1 1) lk_RX12_240 ha (by decide) rfl rfl rfl rfl [.int (zI 0), .int (zI 1), .int (zI 1)] ⟨rfl, hG, hS_s1, ha, (by omega), (by omega), (by omega), (((by rw [e_s1, zU_eq]) : s1 a 0 = 0).trans (by omega))⟩ rfl rfl ⟨by decide, by decide⟩ ⟨by decide, by decide⟩ (k2 := 0) (n2 := 0) rfl rfl (Nat.le_of_ble_eq_true rfl) dX12_table_25 (kIM (fun v60 s3 hS_s3 hF_s3 q61 => ?_))
      refine j_if_ne hx 33 dX12_table_28 rfl (by omega) (fun h62 => absurd h62 (by omega)) (fun h62 => ?_)
      refine j_iconst hx dX12_table_31 ?_
      have g63 : zc (s3 (gP G a 27)) = zc (s0 (gP G a 27)) := by rw [(zFr_g hF_s3 (zr (k := 27) (t2 := 84) hG ha rfl) (by decide)), e_s1, zU_ne (zne (zr (k := 27) (t2 := 84) hG ha rfl) ha (by decide))]
      have g64 : zc (s3 (gP G a 28)) = zc (s0 (gP G a 28)) := by rw [(zFr_g hF_s3 (zr (k := 28) (t2 := 85) hG ha rfl) (by decide)), e_s1, zU_ne (zne (zr (k := 28) (t2 := 85) hG ha rfl) ha (by decide))]
      have g65 : s3 (gP G a 27) 488 = s0 (gP G a 27) 488 := (by rw [(zFr_g hF_s3 (zr (k := 27) (t2 := 84) hG ha rfl) (by decide)), e_s1, zU_at (Or.inl (zne ha (zr (k := 27) (t2 := 84) hG ha rfl) (by decide)))])
      have g66 : s3 (gP G a 28) 488 = s0 (gP G a 28) 488 := (by rw [(zFr_g hF_s3 (zr (k := 28) (t2 := 85) hG ha rfl) (by decide)), e_s1, zU_at (Or.inl (zne ha (zr (k := 28) (t2 := 85) hG ha rfl) (by decide)))])
      have f67 := zf hS_s3 ha (k := 38) rfl
      have f68 := zf hS_s3 ha (k := 51) rfl
      have f69 := zf hS_s3 ha (k := 52) rfl
      exact j_iret hx hq rfl (by decide) (by decide) dX12_table_32 ⟨0, rfl, rfl, hS_s3, (zFr_t (zFr_u zFr_rf e_s1 ha (by decide)) hF_s3 (by decide)), ⟨(by omega), by omega, by omega, by omega, by omega, (by rw [(zFr_g hF_s3 (zr (k := 34) (t2 := 91) hG ha rfl) (by decide)), e_s1, zU_ne (zne (zr (k := 34) (t2 := 91) hG ha rfl) ha (by decide)), (zFr_g hF_s3 (zr (k := 35) (t2 := 92) hG ha rfl) (by decide)), e_s1, zU_ne (zne (zr (k := 35) (t2 := 92) hG ha rfl) ha (by decide)), (zFr_g hF_s3 (zr (k := 37) (t2 := 94) hG ha rfl) (by decide)), e_s1, zU_ne (zne (zr (k := 37) (t2 := 94) hG ha rfl) ha (by decide))]; exact e2), (by rw [(zFr_g hF_s3 (zr (k := 17) (t2 := 80) hG ha rfl) (by decide)), e_s1, zU_ne (zne (zr (k := 17) (t2 := 80) hG ha rfl) ha (by decide))]; exact (zQn_nn e3 (by omega))), by omega, by omega, by omega⟩⟩
    · skip
      refine j_iconst hx dX12_table_18 ?_
      refine j_goto hx 23 dX12_table_19 rfl ?_
      refine j_iconst hx dX12_table_23 ?_
      refine j_iconst hx dX12_table_24 ?_
      have g70 : s1 a 0 = 0 := (by rw [e_s1, zU_eq])
      refine j_callV hx hG (c_X12_may_t hst a 1 1 1) lk_RX12_240 ha (by decide) rfl rfl rfl rfl [.int (zI 1), .int (zI 1), .int (zI 1)] ⟨rfl, hG, hS_s1, ha, (by omega), (by omega), (by omega), (((by rw [e_s1, zU_eq]) : s1 a 0 = 0).trans (by omega))⟩ rfl rfl ⟨by decide, by decide⟩ ⟨by decide, by decide⟩ (k2 := 0) (n2 := 0) rfl rfl (Nat.le_of_ble_eq_true rfl) dX12_table_25 (kIP (fun v71 q72 => ?_))
      refine j_if_ne hx 33 dX12_table_28 rfl (by omega) (fun h73 => ?_) (fun h73 => absurd h73 (by omega))
      refine j_aload_n hx 0 dX12_table_33 rfl ?_
      refine j_iload_n hx 1 dX12_table_34 rfl ?_
      have g74 : s1 a 21 = s0 a 21 := (by rw [e_s1, zU_at (Or.inr (by decide))])
      have f75 := zf hS0 ha (k := 21) rfl
      have g76 : s1 a 22 = s0 a 22 := (by rw [e_s1, zU_at (Or.inr (by decide))])
      have f77 := zf hS0 ha (k := 22) rfl
      have g78 : s1 a 23 = s0 a 23 := (by rw [e_s1, zU_at (Or.inr (by decide))])
      have f79 := zf hS0 ha (k := 23) rfl
      have g80 : s1 a 24 = s0 a 24 := (by rw [e_s1, zU_at (Or.inr (by decide))])
      have f81 := zf hS0 ha (k := 24) rfl
      have g82 : s1 a 38 = s0 a 38 := (by rw [e_s1, zU_at (Or.inr (by decide))])
      have f83 := zf hS0 ha (k := 38) rfl
      have g84 : s1 a 51 = s0 a 51 := (by rw [e_s1, zU_at (Or.inr (by decide))])
      have f85 := zf hS0 ha (k := 51) rfl
      have g86 : s1 a 52 = s0 a 52 := (by rw [e_s1, zU_at (Or.inr (by decide))])
      have f87 := zf hS0 ha (k := 52) rfl
      refine j_callV hx hG (c_X12_begins hst a x1) lk_RX12_244 ha (by decide) rfl rfl rfl rfl [.int (zI x1)] ⟨rfl, hG, hS_s1, ha, (by omega)⟩ rfl rfl ⟨by decide, by decide⟩ ⟨by decide, by decide⟩ (k2 := 0) (n2 := 0) rfl rfl (Nat.le_of_ble_eq_true rfl) dX12_table_35 (kVM (fun s4 hS_s4 hF_s4 q89 => ?_))
      refine j_aload_n hx 0 dX12_table_38 rfl ?_
      have f90 := zf hS_s4 ha (k := 0) rfl
      have f91 := zf hS_s4 ha (k := 3) rfl
      have f92 := zf hS_s4 ha (k := 24) rfl
      have f93 := zf hS_s4 ha (k := 38) rfl
      have f94 := zf hS_s4 ha (k := 51) rfl
      have f95 := zf hS_s4 ha (k := 52) rfl
      refine j_callV hx hG (c_X12_clears hst a) lk_RX12_128 ha (by decide) rfl rfl rfl rfl [] ⟨rfl, hG, hS_s4, ha⟩ rfl rfl ⟨by decide, by decide⟩ ⟨by decide, by decide⟩ (k2 := 0) (n2 := 0) rfl rfl (Nat.le_of_ble_eq_true rfl) dX12_table_39 (kVM (fun s5 hS_s5 hF_s5 q97 => ?_))
      have hP98 : zQi (s5 a 5) (s5 (gP G a 10)) (s5 a 21) := (fun _ => zQn_0 (by omega))
      refine j_iconst hx dX12_table_42 ?_
      refine j_istore_n hx [(2, .int (zI 0)), (0, .ref a), (1, .int (zI x1))] dX12_table_43 (by decide) rfl ?_
      have f100 := zf hS_s5 ha (k := 0) rfl
      have f101 := zf hS_s5 ha (k := 3) rfl
      have f102 := zf hS_s5 ha (k := 7) rfl
      have f103 := zf hS_s5 ha (k := 24) rfl
      have f104 := zf hS_s5 ha (k := 38) rfl
      have f105 := zf hS_s5 ha (k := 51) rfl
      have f106 := zf hS_s5 ha (k := 52) rfl
      have f107 := zf hS_s5 ha (k := 4) rfl
      have c44_6 : ∀ (m_c44_6 : Nat) (v99 : Int) (s7 : zS), 2 * (1000 - s7 a 4) + max 0 (0 - s7 a 5) < m_c44_6 → ((-2147483648) ≤ v99 ∧ v99 ≤ 2147483647) → (zSK G s7) → (zFr [13, 73, 74, 75, 76, 77, 78, 79] G s5 s7) → (s7 a 0 = s5 a 0) → (s7 a 3 = s5 a 3) → (s7 a 7 = s5 a 7) → (s7 a 24 = s5 a 24) → (s7 a 38 = s5 a 38) → (s7 a 51 = s5 a 51) → (s7 a 52 = s5 a 52) → (zQi (s7 a 5) (s7 (gP G a 10)) (s7 a 21)) → (s7 (gP G a 13) 0 + s7 (gP G a 13) 1 + s7 (gP G a 13) 2 = s7 a 22) → (s5 a 4 ≤ s7 a 4) → JJ X E 4 G s7 0 0 [(0, .ref a), (2, .int (zI v99))] 44 [] := by
        intro m_c44_6
        induction m_c44_6 with
        | zero => intro v99 s7 hm_c44_6 fA8 hS_s7 hF_s7 fA11 fA12 fA13 fA14 fA15 fA16 fA17 fA18 fA19 fA20; exfalso; omega
        | succ m_c44_6 ih_c44_6 => 
          intro v99 s7 hm_c44_6 fA8 hS_s7 hF_s7 fA11 fA12 fA13 fA14 fA15 fA16 fA17 fA18 fA19 fA20
          refine j_aload_n hx 0 dX12_table_44 rfl ?_
          refine j_callV hx hG (c_X12_fine hst a) lk_RX12_166 ha (by decide) rfl rfl rfl rfl [] ⟨rfl, hG, hS_s7, ha⟩ rfl rfl ⟨by decide, by decide⟩ ⟨by decide, by decide⟩ (k2 := 0) (n2 := 0) rfl rfl (Nat.le_of_ble_eq_true rfl) dX12_table_45 (kIP (fun v108 q109 => ?_))
          refine j_if_eq hx 163 dX12_table_48 rfl (by omega) (fun h110 => ?_) (fun h110 => ?_)
          · skip
            refine j_aload_n hx 0 dX12_table_163 rfl ?_
            refine j_callV hx hG (c_X12_fine hst a) lk_RX12_166 ha (by decide) rfl rfl rfl rfl [] ⟨rfl, hG, hS_s7, ha⟩ rfl rfl ⟨by decide, by decide⟩ ⟨by decide, by decide⟩ (k2 := 0) (n2 := 0) rfl rfl (Nat.le_of_ble_eq_true rfl) dX12_table_164 (kIP (fun v111 q112 => ?_))
            refine j_if_eq hx 187 dX12_table_167 rfl (by omega) (fun h113 => ?_) (fun h113 => ?_)
            · skip
              refine j_aload_n hx 0 dX12_table_187 rfl ?_
              refine j_aload_n hx 0 dX12_table_188 rfl ?_
              have f114 := zf hS_s7 ha (k := 21) rfl
              refine g13_21 hx hG ha kf_RX12_180 rfl dX12_table_189 ?_
              have f115 := zf hS_s7 ha (k := 0) rfl
              have f116 := zf hS_s7 ha (k := 3) rfl
              have f117 := zf hS_s7 ha (k := 4) rfl
              have f118 := zf hS_s7 ha (k := 5) rfl
              have f119 := zf hS_s7 ha (k := 7) rfl
              have f120 := zf hS_s7 ha (k := 22) rfl
              have f121 := zf hS_s7 ha (k := 23) rfl
              have f122 := zf hS_s7 ha (k := 24) rfl
              have f123 := zf hS_s7 ha (k := 38) rfl
              have f124 := zf hS_s7 ha (k := 51) rfl
              have f125 := zf hS_s7 ha (k := 52) rfl
              refine j_callV hx hG (c_X12_result hst a ((s7 a 21))) lk_RX12_265 ha (by decide) rfl rfl rfl rfl [.int (zI ((s7 a 21)))] ⟨rfl, hG, hS_s7, ha, (by omega)⟩ rfl rfl ⟨by decide, by decide⟩ ⟨by decide, by decide⟩ (k2 := 0) (n2 := 0) rfl rfl (Nat.le_of_ble_eq_true rfl) dX12_table_192 (kIM (fun v126 s21 hS_s21 hF_s21 q127 => ?_))
              refine j_istore_n hx [(3, .int (zI v126)), (0, .ref a), (2, .int (zI v99))] dX12_table_195 (by decide) rfl ?_
              refine j_aload_n hx 1 dX12_table_196 rfl ?_
              have f128 := zf hS_s21 ha (k := 5) rfl
              refine g13_5 hx hG ha kf_RX12_137 rfl dX12_table_197 ?_
              refine j_iconst hx dX12_table_200 ?_
              refine j_icmp_ne hx 208 dX12_table_201 rfl (by omega) ⟨by decide, by decide⟩ (fun h129 => ?_) (fun h129 => ?_)
              · skip
                refine j_iload_n hx 0 dX12_table_208 rfl ?_
                have g130 : zc (s21 (gP G a 27)) = zc (s0 (gP G a 27)) := by rw [(zFr_g hF_s21 (zr (k := 27) (t2 := 84) hG ha rfl) (by decide)), (zFr_g hF_s7 (zr (k := 27) (t2 := 84) hG ha rfl) (by decide)), (zFr_g hF_s5 (zr (k := 27) (t2 := 84) hG ha rfl) (by decide)), (zFr_g hF_s4 (zr (k := 27) (t2 := 84) hG ha rfl) (by decide)), e_s1, zU_ne (zne (zr (k := 27) (t2 := 84) hG ha rfl) ha (by decide))]
                have g131 : zc (s21 (gP G a 28)) = zc (s0 (gP G a 28)) := by rw [(zFr_g hF_s21 (zr (k := 28) (t2 := 85) hG ha rfl) (by decide)), (zFr_g hF_s7 (zr (k := 28) (t2 := 85) hG ha rfl) (by decide)), (zFr_g hF_s5 (zr (k := 28) (t2 := 85) hG ha rfl) (by decide)), (zFr_g hF_s4 (zr (k := 28) (t2 := 85) hG ha rfl) (by decide)), e_s1, zU_ne (zne (zr (k := 28) (t2 := 85) hG ha rfl) ha (by decide))]
                have g132 : s21 (gP G a 27) 488 = s0 (gP G a 27) 488 := (by rw [(zFr_g hF_s21 (zr (k := 27) (t2 := 84) hG ha rfl) (by decide)), (zFr_g hF_s7 (zr (k := 27) (t2 := 84) hG ha rfl) (by decide)), (zFr_g hF_s5 (zr (k := 27) (t2 := 84) hG ha rfl) (by decide)), (zFr_g hF_s4 (zr (k := 27) (t2 := 84) hG ha rfl) (by decide)), e_s1, zU_at (Or.inl (zne ha (zr (k := 27) (t2 := 84) hG ha rfl) (by decide)))])
                have g133 : s21 (gP G a 28) 488 = s0 (gP G a 28) 488 := (by rw [(zFr_g hF_s21 (zr (k := 28) (t2 := 85) hG ha rfl) (by decide)), (zFr_g hF_s7 (zr (k := 28) (t2 := 85) hG ha rfl) (by decide)), (zFr_g hF_s5 (zr (k := 28) (t2 := 85) hG ha rfl) (by decide)), (zFr_g hF_s4 (zr (k := 28) (t2 := 85) hG ha rfl) (by decide)), e_s1, zU_at (Or.inl (zne ha (zr (k := 28) (t2 := 85) hG ha rfl) (by decide)))])
                have f134 := zf hS_s21 ha (k := 38) rfl
                have f135 := zf hS_s21 ha (k := 51) rfl
                have f136 := zf hS_s21 ha (k := 52) rfl
                exact j_iret hx hq rfl (by decide) (by decide) dX12_table_209 ⟨v126, rfl, rfl, hS_s21, (zFr_t (zFr_t (zFr_t (zFr_t (zFr_u zFr_rf e_s1 ha (by decide)) hF_s4 (by decide)) hF_s5 (by decide)) hF_s7 (by decide)) hF_s21 (by decide)), ⟨(by omega), by omega, by omega, by omega, by omega, (by rw [(zFr_g hF_s21 (zr (k := 34) (t2 := 91) hG ha rfl) (by decide)), (zFr_g hF_s7 (zr (k := 34) (t2 := 91) hG ha rfl) (by decide)), (zFr_g hF_s5 (zr (k := 34) (t2 := 91) hG ha rfl) (by decide)), (zFr_g hF_s4 (zr (k := 34) (t2 := 91) hG ha rfl) (by decide)), e_s1, zU_ne (zne (zr (k := 34) (t2 := 91) hG ha rfl) ha (by decide)), (zFr_g hF_s21 (zr (k := 35) (t2 := 92) hG ha rfl) (by decide)), (zFr_g hF_s7 (zr (k := 35) (t2 := 92) hG ha rfl) (by decide)), (zFr_g hF_s5 (zr (k := 35) (t2 := 92) hG ha rfl) (by decide)), (zFr_g hF_s4 (zr (k := 35) (t2 := 92) hG ha rfl) (by decide)), e_s1, zU_ne (zne (zr (k := 35) (t2 := 92) hG ha rfl) ha (by decide)), (zFr_g hF_s21 (zr (k := 37) (t2 := 94) hG ha rfl) (by decide)), (zFr_g hF_s7 (zr (k := 37) (t2 := 94) hG ha rfl) (by decide)), (zFr_g hF_s5 (zr (k := 37) (t2 := 94) hG ha rfl) (by decide)), (zFr_g hF_s4 (zr (k := 37) (t2 := 94) hG ha rfl) (by decide)), e_s1, zU_ne (zne (zr (k := 37) (t2 := 94) hG ha rfl) ha (by decide))]; exact e2), (by rw [(zFr_g hF_s21 (zr (k := 17) (t2 := 80) hG ha rfl) (by decide)), (zFr_g hF_s7 (zr (k := 17) (t2 := 80) hG ha rfl) (by decide)), (zFr_g hF_s5 (zr (k := 17) (t2 := 80) hG ha rfl) (by decide)), (zFr_g hF_s4 (zr (k := 17) (t2 := 80) hG ha rfl) (by decide)), e_s1, zU_ne (zne (zr (k := 17) (t2 := 80) hG ha rfl) ha (by decide))]; exact (zQn_nn e3 (by omega))), by omega, by omega, by omega⟩⟩
              · skip
                refine j_aload_n hx 1 dX12_table_204 rfl ?_
                have f137 := zf hS_s21 ha (k := 21) rfl
                have hP138 : zQn (s21 (gP G a 10)) (s21 a 21) := ((by rw [(zFr_g hF_s21 (zr (k := 10) (t2 := 73) hG ha rfl) (by decide))]; exact (zQi_k fA18 (by omega) (by omega))) (by omega))
                have g139 : s21 (gP G a 13) 0 = s7 (gP G a 13) 0 := (by rw [(zFr_g hF_s21 (zr (k := 13) (t2 := 76) hG ha rfl) (by decide))])
                have g140 : s21 (gP G a 13) 1 = s7 (gP G a 13) 1 := (by rw [(zFr_g hF_s21 (zr (k := 13) (t2 := 76) hG ha rfl) (by decide))])
                have g141 : s21 (gP G a 13) 2 = s7 (gP G a 13) 2 := (by rw [(zFr_g hF_s21 (zr (k := 13) (t2 := 76) hG ha rfl) (by decide))])
                have f142 := zf hS_s21 ha (k := 0) rfl
                have f143 := zf hS_s21 ha (k := 3) rfl
                have f144 := zf hS_s21 ha (k := 4) rfl
                have f145 := zf hS_s21 ha (k := 7) rfl
                have f146 := zf hS_s21 ha (k := 22) rfl
                have f147 := zf hS_s21 ha (k := 23) rfl
                have f148 := zf hS_s21 ha (k := 38) rfl
                have f149 := zf hS_s21 ha (k := 51) rfl
                have f150 := zf hS_s21 ha (k := 52) rfl
                refine j_callV hx hG (c_X12_sets hst a) lk_RX12_131 ha (by decide) rfl rfl rfl rfl [] ⟨rfl, hG, hS_s21, ha, (by omega), ((zQn_nn hP138 (by omega)))⟩ rfl rfl ⟨by decide, by decide⟩ ⟨by decide, by decide⟩ (k2 := 0) (n2 := 0) rfl rfl (Nat.le_of_ble_eq_true rfl) dX12_table_205 (kVM (fun s22 hS_s22 hF_s22 q152 => ?_))
                refine j_iload_n hx 0 dX12_table_208 rfl ?_
                have f153 := zf hS_s22 ha (k := 38) rfl
                have f154 := zf hS_s22 ha (k := 51) rfl
                have f155 := zf hS_s22 ha (k := 52) rfl
                exact j_iret hx hq rfl (by decide) (by decide) dX12_table_209 ⟨v126, rfl, rfl, hS_s22, (zFr_t (zFr_t (zFr_t (zFr_t (zFr_t (zFr_u zFr_rf e_s1 ha (by decide)) hF_s4 (by decide)) hF_s5 (by decide)) hF_s7 (by decide)) hF_s21 (by decide)) hF_s22 (by decide)), ⟨(by omega), by omega, by omega, by omega, by omega, q152.2.2.2.2.2.1, (zQn_nn q152.2.2.2.2.1 (by omega)), by omega, by omega, by omega⟩⟩
            · skip
              refine j_aload_n hx 0 dX12_table_170 rfl ?_
              have f156 := zf hS_s7 ha (k := 21) rfl
              refine g13_21 hx hG ha kf_RX12_180 rfl dX12_table_171 ?_
              refine j_iconst hx dX12_table_174 ?_
              refine j_icmp_ge hx 187 dX12_table_175 rfl (by omega) ⟨by decide, by decide⟩ (fun h157 => ?_) (fun h157 => ?_)
              · skip
                refine j_aload_n hx 0 dX12_table_187 rfl ?_
                refine j_aload_n hx 0 dX12_table_188 rfl ?_
                refine g13_21 hx hG ha kf_RX12_180 rfl dX12_table_189 ?_
                have f158 := zf hS_s7 ha (k := 0) rfl
                have f159 := zf hS_s7 ha (k := 3) rfl
                have f160 := zf hS_s7 ha (k := 4) rfl
                have f161 := zf hS_s7 ha (k := 5) rfl
                have f162 := zf hS_s7 ha (k := 7) rfl
                have f163 := zf hS_s7 ha (k := 22) rfl
                have f164 := zf hS_s7 ha (k := 23) rfl
                have f165 := zf hS_s7 ha (k := 24) rfl
                have f166 := zf hS_s7 ha (k := 38) rfl
                have f167 := zf hS_s7 ha (k := 51) rfl
                have f168 := zf hS_s7 ha (k := 52) rfl
                refine j_callV hx hG (c_X12_result hst a ((s7 a 21))) lk_RX12_265 ha (by decide) rfl rfl rfl rfl [.int (zI ((s7 a 21)))] ⟨rfl, hG, hS_s7, ha, (by omega)⟩ rfl rfl ⟨by decide, by decide⟩ ⟨by decide, by decide⟩ (k2 := 0) (n2 := 0) rfl rfl (Nat.le_of_ble_eq_true rfl) dX12_table_192 (kIM (fun v169 s23 hS_s23 hF_s23 q170 => ?_))
                refine j_istore_n hx [(3, .int (zI v169)), (0, .ref a), (2, .int (zI v99))] dX12_table_195 (by decide) rfl ?_
                refine j_aload_n hx 1 dX12_table_196 rfl ?_
                have f171 := zf hS_s23 ha (k := 5) rfl
                refine g13_5 hx hG ha kf_RX12_137 rfl dX12_table_197 ?_
                refine j_iconst hx dX12_table_200 ?_
                refine j_icmp_ne hx 208 dX12_table_201 rfl (by omega) ⟨by decide, by decide⟩ (fun h172 => ?_) (fun h172 => ?_)
                · skip
                  refine j_iload_n hx 0 dX12_table_208 rfl ?_
                  have g173 : zc (s23 (gP G a 27)) = zc (s0 (gP G a 27)) := by rw [(zFr_g hF_s23 (zr (k := 27) (t2 := 84) hG ha rfl) (by decide)), (zFr_g hF_s7 (zr (k := 27) (t2 := 84) hG ha rfl) (by decide)), (zFr_g hF_s5 (zr (k := 27) (t2 := 84) hG ha rfl) (by decide)), (zFr_g hF_s4 (zr (k := 27) (t2 := 84) hG ha rfl) (by decide)), e_s1, zU_ne (zne (zr (k := 27) (t2 := 84) hG ha rfl) ha (by decide))]
                  have g174 : zc (s23 (gP G a 28)) = zc (s0 (gP G a 28)) := by rw [(zFr_g hF_s23 (zr (k := 28) (t2 := 85) hG ha rfl) (by decide)), (zFr_g hF_s7 (zr (k := 28) (t2 := 85) hG ha rfl) (by decide)), (zFr_g hF_s5 (zr (k := 28) (t2 := 85) hG ha rfl) (by decide)), (zFr_g hF_s4 (zr (k := 28) (t2 := 85) hG ha rfl) (by decide)), e_s1, zU_ne (zne (zr (k := 28) (t2 := 85) hG ha rfl) ha (by decide))]
                  have g175 : s23 (gP G a 27) 488 = s0 (gP G a 27) 488 := (by rw [(zFr_g hF_s23 (zr (k := 27) (t2 := 84) hG ha rfl) (by decide)), (zFr_g hF_s7 (zr (k := 27) (t2 := 84) hG ha rfl) (by decide)), (zFr_g hF_s5 (zr (k := 27) (t2 := 84) hG ha rfl) (by decide)), (zFr_g hF_s4 (zr (k := 27) (t2 := 84) hG ha rfl) (by decide)), e_s1, zU_at (Or.inl (zne ha (zr (k := 27) (t2 := 84) hG ha rfl) (by decide)))])
                  have g176 : s23 (gP G a 28) 488 = s0 (gP G a 28) 488 := (by rw [(zFr_g hF_s23 (zr (k := 28) (t2 := 85) hG ha rfl) (by decide)), (zFr_g hF_s7 (zr (k := 28) (t2 := 85) hG ha rfl) (by decide)), (zFr_g hF_s5 (zr (k := 28) (t2 := 85) hG ha rfl) (by decide)), (zFr_g hF_s4 (zr (k := 28) (t2 := 85) hG ha rfl) (by decide)), e_s1, zU_at (Or.inl (zne ha (zr (k := 28) (t2 := 85) hG ha rfl) (by decide)))])
                  have f177 := zf hS_s23 ha (k := 38) rfl
                  have f178 := zf hS_s23 ha (k := 51) rfl
                  have f179 := zf hS_s23 ha (k := 52) rfl
                  exact j_iret hx hq rfl (by decide) (by decide) dX12_table_209 ⟨v169, rfl, rfl, hS_s23, (zFr_t (zFr_t (zFr_t (zFr_t (zFr_u zFr_rf e_s1 ha (by decide)) hF_s4 (by decide)) hF_s5 (by decide)) hF_s7 (by decide)) hF_s23 (by decide)), ⟨(by omega), by omega, by omega, by omega, by omega, (by rw [(zFr_g hF_s23 (zr (k := 34) (t2 := 91) hG ha rfl) (by decide)), (zFr_g hF_s7 (zr (k := 34) (t2 := 91) hG ha rfl) (by decide)), (zFr_g hF_s5 (zr (k := 34) (t2 := 91) hG ha rfl) (by decide)), (zFr_g hF_s4 (zr (k := 34) (t2 := 91) hG ha rfl) (by decide)), e_s1, zU_ne (zne (zr (k := 34) (t2 := 91) hG ha rfl) ha (by decide)), (zFr_g hF_s23 (zr (k := 35) (t2 := 92) hG ha rfl) (by decide)), (zFr_g hF_s7 (zr (k := 35) (t2 := 92) hG ha rfl) (by decide)), (zFr_g hF_s5 (zr (k := 35) (t2 := 92) hG ha rfl) (by decide)), (zFr_g hF_s4 (zr (k := 35) (t2 := 92) hG ha rfl) (by decide)), e_s1, zU_ne (zne (zr (k := 35) (t2 := 92) hG ha rfl) ha (by decide)), (zFr_g hF_s23 (zr (k := 37) (t2 := 94) hG ha rfl) (by decide)), (zFr_g hF_s7 (zr (k := 37) (t2 := 94) hG ha rfl) (by decide)), (zFr_g hF_s5 (zr (k := 37) (t2 := 94) hG ha rfl) (by decide)), (zFr_g hF_s4 (zr (k := 37) (t2 := 94) hG ha rfl) (by decide)), e_s1, zU_ne (zne (zr (k := 37) (t2 := 94) hG ha rfl) ha (by decide))]; exact e2), (by rw [(zFr_g hF_s23 (zr (k := 17) (t2 := 80) hG ha rfl) (by decide)), (zFr_g hF_s7 (zr (k := 17) (t2 := 80) hG ha rfl) (by decide)), (zFr_g hF_s5 (zr (k := 17) (t2 := 80) hG ha rfl) (by decide)), (zFr_g hF_s4 (zr (k := 17) (t2 := 80) hG ha rfl) (by decide)), e_s1, zU_ne (zne (zr (k := 17) (t2 := 80) hG ha rfl) ha (by decide))]; exact (zQn_nn e3 (by omega))), by omega, by omega, by omega⟩⟩
                · skip
                  refine j_aload_n hx 1 dX12_table_204 rfl ?_
                  have f180 := zf hS_s23 ha (k := 21) rfl
                  have hP181 : zQn (s23 (gP G a 10)) (s23 a 21) := ((by rw [(zFr_g hF_s23 (zr (k := 10) (t2 := 73) hG ha rfl) (by decide))]; exact (zQi_k fA18 (by omega) (by omega))) (by omega))
                  have g182 : s23 (gP G a 13) 0 = s7 (gP G a 13) 0 := (by rw [(zFr_g hF_s23 (zr (k := 13) (t2 := 76) hG ha rfl) (by decide))])
                  have g183 : s23 (gP G a 13) 1 = s7 (gP G a 13) 1 := (by rw [(zFr_g hF_s23 (zr (k := 13) (t2 := 76) hG ha rfl) (by decide))])
                  have g184 : s23 (gP G a 13) 2 = s7 (gP G a 13) 2 := (by rw [(zFr_g hF_s23 (zr (k := 13) (t2 := 76) hG ha rfl) (by decide))])
                  have f185 := zf hS_s23 ha (k := 0) rfl
                  have f186 := zf hS_s23 ha (k := 3) rfl
                  have f187 := zf hS_s23 ha (k := 4) rfl
                  have f188 := zf hS_s23 ha (k := 7) rfl
                  have f189 := zf hS_s23 ha (k := 22) rfl
                  have f190 := zf hS_s23 ha (k := 23) rfl
                  have f191 := zf hS_s23 ha (k := 38) rfl
                  have f192 := zf hS_s23 ha (k := 51) rfl
                  have f193 := zf hS_s23 ha (k := 52) rfl
                  refine j_callV hx hG (c_X12_sets hst a) lk_RX12_131 ha (by decide) rfl rfl rfl rfl [] ⟨rfl, hG, hS_s23, ha, (by omega), ((zQn_nn hP181 (by omega)))⟩ rfl rfl ⟨by decide, by decide⟩ ⟨by decide, by decide⟩ (k2 := 0) (n2 := 0) rfl rfl (Nat.le_of_ble_eq_true rfl) dX12_table_205 (kVM (fun s24 hS_s24 hF_s24 q195 => ?_))
                  refine j_iload_n hx 0 dX12_table_208 rfl ?_
                  have f196 := zf hS_s24 ha (k := 38) rfl
                  have f197 := zf hS_s24 ha (k := 51) rfl
                  have f198 := zf hS_s24 ha (k := 52) rfl
                  exact j_iret hx hq rfl (by decide) (by decide) dX12_table_209 ⟨v169, rfl, rfl, hS_s24, (zFr_t (zFr_t (zFr_t (zFr_t (zFr_t (zFr_u zFr_rf e_s1 ha (by decide)) hF_s4 (by decide)) hF_s5 (by decide)) hF_s7 (by decide)) hF_s23 (by decide)) hF_s24 (by decide)), ⟨(by omega), by omega, by omega, by omega, by omega, q195.2.2.2.2.2.1, (zQn_nn q195.2.2.2.2.1 (by omega)), by omega, by omega, by omega⟩⟩
              · skip
                refine j_aload_n hx 0 dX12_table_178 rfl ?_
                refine j_iconst hx dX12_table_179 ?_
                refine j_aload_n hx 0 dX12_table_180 rfl ?_
                have f199 := zf hS_s7 ha (k := 3) rfl
                refine g13_3 hx hG ha kf_RX12_146 rfl dX12_table_181 ?_
                have f200 := zf hS_s7 ha (k := 0) rfl
                have f201 := zf hS_s7 ha (k := 4) rfl
                have f202 := zf hS_s7 ha (k := 7) rfl
                have f203 := zf hS_s7 ha (k := 22) rfl
                have f204 := zf hS_s7 ha (k := 23) rfl
                have f205 := zf hS_s7 ha (k := 24) rfl
                have f206 := zf hS_s7 ha (k := 38) rfl
                have f207 := zf hS_s7 ha (k := 51) rfl
                have f208 := zf hS_s7 ha (k := 52) rfl
                refine j_callV hx hG (c_X12_wrong hst a 4 ((s7 a 3))) lk_RX12_173 ha (by decide) rfl rfl rfl rfl [.int (zI 4), .int (zI ((s7 a 3)))] ⟨rfl, hG, hS_s7, ha, (by omega), (by omega)⟩ rfl rfl ⟨by decide, by decide⟩ ⟨by decide, by decide⟩ (k2 := 0) (n2 := 0) rfl rfl (Nat.le_of_ble_eq_true rfl) dX12_table_184 (kVM (fun s25 hS_s25 hF_s25 q210 => ?_))
                refine j_aload_n hx 0 dX12_table_187 rfl ?_
                refine j_aload_n hx 0 dX12_table_188 rfl ?_
                have f211 := zf hS_s25 ha (k := 21) rfl
                refine g13_21 hx hG ha kf_RX12_180 rfl dX12_table_189 ?_
                have f212 := zf hS_s25 ha (k := 0) rfl
                have f213 := zf hS_s25 ha (k := 3) rfl
                have f214 := zf hS_s25 ha (k := 4) rfl
                have f215 := zf hS_s25 ha (k := 5) rfl
                have f216 := zf hS_s25 ha (k := 7) rfl
                have f217 := zf hS_s25 ha (k := 22) rfl
                have f218 := zf hS_s25 ha (k := 23) rfl
                have f219 := zf hS_s25 ha (k := 24) rfl
                have f220 := zf hS_s25 ha (k := 38) rfl
                have f221 := zf hS_s25 ha (k := 51) rfl
                have f222 := zf hS_s25 ha (k := 52) rfl
                refine j_callV hx hG (c_X12_result hst a ((s25 a 21))) lk_RX12_265 ha (by decide) rfl rfl rfl rfl [.int (zI ((s25 a 21)))] ⟨rfl, hG, hS_s25, ha, (by omega)⟩ rfl rfl ⟨by decide, by decide⟩ ⟨by decide, by decide⟩ (k2 := 0) (n2 := 0) rfl rfl (Nat.le_of_ble_eq_true rfl) dX12_table_192 (kIM (fun v223 s26 hS_s26 hF_s26 q224 => ?_))
                refine j_istore_n hx [(3, .int (zI v223)), (0, .ref a), (2, .int (zI v99))] dX12_table_195 (by decide) rfl ?_
                refine j_aload_n hx 1 dX12_table_196 rfl ?_
                have f225 := zf hS_s26 ha (k := 5) rfl
                refine g13_5 hx hG ha kf_RX12_137 rfl dX12_table_197 ?_
                refine j_iconst hx dX12_table_200 ?_
                refine j_icmp_ne hx 208 dX12_table_201 rfl (by omega) ⟨by decide, by decide⟩ (fun h226 => ?_) (fun h226 => ?_)
                · skip
                  refine j_iload_n hx 0 dX12_table_208 rfl ?_
                  have g227 : zc (s26 (gP G a 27)) = zc (s0 (gP G a 27)) := by rw [(zFr_g hF_s26 (zr (k := 27) (t2 := 84) hG ha rfl) (by decide)), (zFr_g hF_s25 (zr (k := 27) (t2 := 84) hG ha rfl) (by decide)), (zFr_g hF_s7 (zr (k := 27) (t2 := 84) hG ha rfl) (by decide)), (zFr_g hF_s5 (zr (k := 27) (t2 := 84) hG ha rfl) (by decide)), (zFr_g hF_s4 (zr (k := 27) (t2 := 84) hG ha rfl) (by decide)), e_s1, zU_ne (zne (zr (k := 27) (t2 := 84) hG ha rfl) ha (by decide))]
                  have g228 : zc (s26 (gP G a 28)) = zc (s0 (gP G a 28)) := by rw [(zFr_g hF_s26 (zr (k := 28) (t2 := 85) hG ha rfl) (by decide)), (zFr_g hF_s25 (zr (k := 28) (t2 := 85) hG ha rfl) (by decide)), (zFr_g hF_s7 (zr (k := 28) (t2 := 85) hG ha rfl) (by decide)), (zFr_g hF_s5 (zr (k := 28) (t2 := 85) hG ha rfl) (by decide)), (zFr_g hF_s4 (zr (k := 28) (t2 := 85) hG ha rfl) (by decide)), e_s1, zU_ne (zne (zr (k := 28) (t2 := 85) hG ha rfl) ha (by decide))]
                  have g229 : s26 (gP G a 27) 488 = s0 (gP G a 27) 488 := (by rw [(zFr_g hF_s26 (zr (k := 27) (t2 := 84) hG ha rfl) (by decide)), (zFr_g hF_s25 (zr (k := 27) (t2 := 84) hG ha rfl) (by decide)), (zFr_g hF_s7 (zr (k := 27) (t2 := 84) hG ha rfl) (by decide)), (zFr_g hF_s5 (zr (k := 27) (t2 := 84) hG ha rfl) (by decide)), (zFr_g hF_s4 (zr (k := 27) (t2 := 84) hG ha rfl) (by decide)), e_s1, zU_at (Or.inl (zne ha (zr (k := 27) (t2 := 84) hG ha rfl) (by decide)))])
                  have g230 : s26 (gP G a 28) 488 = s0 (gP G a 28) 488 := (by rw [(zFr_g hF_s26 (zr (k := 28) (t2 := 85) hG ha rfl) (by decide)), (zFr_g hF_s25 (zr (k := 28) (t2 := 85) hG ha rfl) (by decide)), (zFr_g hF_s7 (zr (k := 28) (t2 := 85) hG ha rfl) (by decide)), (zFr_g hF_s5 (zr (k := 28) (t2 := 85) hG ha rfl) (by decide)), (zFr_g hF_s4 (zr (k := 28) (t2 := 85) hG ha rfl) (by decide)), e_s1, zU_at (Or.inl (zne ha (zr (k := 28) (t2 := 85) hG ha rfl) (by decide)))])
                  have f231 := zf hS_s26 ha (k := 38) rfl
                  have f232 := zf hS_s26 ha (k := 51) rfl
                  have f233 := zf hS_s26 ha (k := 52) rfl
                  exact j_iret hx hq rfl (by decide) (by decide) dX12_table_209 ⟨v223, rfl, rfl, hS_s26, (zFr_t (zFr_t (zFr_t (zFr_t (zFr_t (zFr_u zFr_rf e_s1 ha (by decide)) hF_s4 (by decide)) hF_s5 (by decide)) hF_s7 (by decide)) hF_s25 (by decide)) hF_s26 (by decide)), ⟨(by omega), by omega, by omega, by omega, by omega, (by rw [(zFr_g hF_s26 (zr (k := 34) (t2 := 91) hG ha rfl) (by decide)), (zFr_g hF_s25 (zr (k := 34) (t2 := 91) hG ha rfl) (by decide)), (zFr_g hF_s7 (zr (k := 34) (t2 := 91) hG ha rfl) (by decide)), (zFr_g hF_s5 (zr (k := 34) (t2 := 91) hG ha rfl) (by decide)), (zFr_g hF_s4 (zr (k := 34) (t2 := 91) hG ha rfl) (by decide)), e_s1, zU_ne (zne (zr (k := 34) (t2 := 91) hG ha rfl) ha (by decide)), (zFr_g hF_s26 (zr (k := 35) (t2 := 92) hG ha rfl) (by decide)), (zFr_g hF_s25 (zr (k := 35) (t2 := 92) hG ha rfl) (by decide)), (zFr_g hF_s7 (zr (k := 35) (t2 := 92) hG ha rfl) (by decide)), (zFr_g hF_s5 (zr (k := 35) (t2 := 92) hG ha rfl) (by decide)), (zFr_g hF_s4 (zr (k := 35) (t2 := 92) hG ha rfl) (by decide)), e_s1, zU_ne (zne (zr (k := 35) (t2 := 92) hG ha rfl) ha (by decide)), (zFr_g hF_s26 (zr (k := 37) (t2 := 94) hG ha rfl) (by decide)), (zFr_g hF_s25 (zr (k := 37) (t2 := 94) hG ha rfl) (by decide)), (zFr_g hF_s7 (zr (k := 37) (t2 := 94) hG ha rfl) (by decide)), (zFr_g hF_s5 (zr (k := 37) (t2 := 94) hG ha rfl) (by decide)), (zFr_g hF_s4 (zr (k := 37) (t2 := 94) hG ha rfl) (by decide)), e_s1, zU_ne (zne (zr (k := 37) (t2 := 94) hG ha rfl) ha (by decide))]; exact e2), (by rw [(zFr_g hF_s26 (zr (k := 17) (t2 := 80) hG ha rfl) (by decide)), (zFr_g hF_s25 (zr (k := 17) (t2 := 80) hG ha rfl) (by decide)), (zFr_g hF_s7 (zr (k := 17) (t2 := 80) hG ha rfl) (by decide)), (zFr_g hF_s5 (zr (k := 17) (t2 := 80) hG ha rfl) (by decide)), (zFr_g hF_s4 (zr (k := 17) (t2 := 80) hG ha rfl) (by decide)), e_s1, zU_ne (zne (zr (k := 17) (t2 := 80) hG ha rfl) ha (by decide))]; exact (zQn_nn e3 (by omega))), by omega, by omega, by omega⟩⟩
                · skip
                  refine j_aload_n hx 1 dX12_table_204 rfl ?_
                  have f234 := zf hS_s26 ha (k := 21) rfl
                  have hP235 : zQn (s26 (gP G a 10)) (s26 a 21) := ((by rw [(zFr_g hF_s26 (zr (k := 10) (t2 := 73) hG ha rfl) (by decide)), (zFr_g hF_s25 (zr (k := 10) (t2 := 73) hG ha rfl) (by decide))]; exact (zQi_k fA18 (by omega) (by omega))) (by omega))
                  have g236 : s26 (gP G a 13) 0 = s7 (gP G a 13) 0 := (by rw [(zFr_g hF_s26 (zr (k := 13) (t2 := 76) hG ha rfl) (by decide)), (zFr_g hF_s25 (zr (k := 13) (t2 := 76) hG ha rfl) (by decide))])
                  have g237 : s26 (gP G a 13) 1 = s7 (gP G a 13) 1 := (by rw [(zFr_g hF_s26 (zr (k := 13) (t2 := 76) hG ha rfl) (by decide)), (zFr_g hF_s25 (zr (k := 13) (t2 := 76) hG ha rfl) (by decide))])
                  have g238 : s26 (gP G a 13) 2 = s7 (gP G a 13) 2 := (by rw [(zFr_g hF_s26 (zr (k := 13) (t2 := 76) hG ha rfl) (by decide)), (zFr_g hF_s25 (zr (k := 13) (t2 := 76) hG ha rfl) (by decide))])
                  have f239 := zf hS_s26 ha (k := 0) rfl
                  have f240 := zf hS_s26 ha (k := 3) rfl
                  have f241 := zf hS_s26 ha (k := 4) rfl
                  have f242 := zf hS_s26 ha (k := 7) rfl
                  have f243 := zf hS_s26 ha (k := 22) rfl
                  have f244 := zf hS_s26 ha (k := 23) rfl
                  have f245 := zf hS_s26 ha (k := 38) rfl
                  have f246 := zf hS_s26 ha (k := 51) rfl
                  have f247 := zf hS_s26 ha (k := 52) rfl
                  refine j_callV hx hG (c_X12_sets hst a) lk_RX12_131 ha (by decide) rfl rfl rfl rfl [] ⟨rfl, hG, hS_s26, ha, (by omega), ((zQn_nn hP235 (by omega)))⟩ rfl rfl ⟨by decide, by decide⟩ ⟨by decide, by decide⟩ (k2 := 0) (n2 := 0) rfl rfl (Nat.le_of_ble_eq_true rfl) dX12_table_205 (kVM (fun s27 hS_s27 hF_s27 q249 => ?_))
                  refine j_iload_n hx 0 dX12_table_208 rfl ?_
                  have f250 := zf hS_s27 ha (k := 38) rfl
                  have f251 := zf hS_s27 ha (k := 51) rfl
                  have f252 := zf hS_s27 ha (k := 52) rfl
                  exact j_iret hx hq rfl (by decide) (by decide) dX12_table_209 ⟨v223, rfl, rfl, hS_s27, (zFr_t (zFr_t (zFr_t (zFr_t (zFr_t (zFr_t (zFr_u zFr_rf e_s1 ha (by decide)) hF_s4 (by decide)) hF_s5 (by decide)) hF_s7 (by decide)) hF_s25 (by decide)) hF_s26 (by decide)) hF_s27 (by decide)), ⟨(by omega), by omega, by omega, by omega, by omega, q249.2.2.2.2.2.1, (zQn_nn q249.2.2.2.2.1 (by omega)), by omega, by omega, by omega⟩⟩
          · skip
            refine j_aload_n hx 0 dX12_table_51 rfl ?_
            have f253 := zf hS_s7 ha (k := 4) rfl
            have f254 := zf hS_s7 ha (k := 3) rfl
            have f255 := zf hS_s7 ha (k := 0) rfl
            have f256 := zf hS_s7 ha (k := 5) rfl
            have f257 := zf hS_s7 ha (k := 7) rfl
            have f258 := zf hS_s7 ha (k := 21) rfl
            have f259 := zf hS_s7 ha (k := 22) rfl
            have f260 := zf hS_s7 ha (k := 23) rfl
            have f261 := zf hS_s7 ha (k := 24) rfl
            have f262 := zf hS_s7 ha (k := 38) rfl
            have f263 := zf hS_s7 ha (k := 51) rfl
            have f264 := zf hS_s7 ha (k := 52) rfl
            refine j_callV hx hG (c_X12_isMore hst a) lk_RX12_247 ha (by decide) rfl rfl rfl rfl [] ⟨rfl, hG, hS_s7, ha⟩ rfl rfl ⟨by decide, by decide⟩ ⟨by decide, by decide⟩ (k2 := 0) (n2 := 0) rfl rfl (Nat.le_of_ble_eq_true rfl) dX12_table_52 (kIM (fun v265 s28 hS_s28 hF_s28 q266 => ?_))
            refine j_if_eq hx 163 dX12_table_55 rfl (by omega) (fun h267 => ?_) (fun h267 => ?_)
            · skip
              refine j_aload_n hx 0 dX12_table_163 rfl ?_
              refine j_callV hx hG (c_X12_fine hst a) lk_RX12_166 ha (by decide) rfl rfl rfl rfl [] ⟨rfl, hG, hS_s28, ha⟩ rfl rfl ⟨by decide, by decide⟩ ⟨by decide, by decide⟩ (k2 := 0) (n2 := 0) rfl rfl (Nat.le_of_ble_eq_true rfl) dX12_table_164 (kIP (fun v268 q269 => ?_))
              refine j_if_eq hx 187 dX12_table_167 rfl (by omega) (fun h270 => ?_) (fun h270 => ?_)
              · skip
                refine j_aload_n hx 0 dX12_table_187 rfl ?_
                refine j_aload_n hx 0 dX12_table_188 rfl ?_
                have f271 := zf hS_s28 ha (k := 21) rfl
                refine g13_21 hx hG ha kf_RX12_180 rfl dX12_table_189 ?_
                have f272 := zf hS_s28 ha (k := 0) rfl
                have f273 := zf hS_s28 ha (k := 3) rfl
                have f274 := zf hS_s28 ha (k := 4) rfl
                have f275 := zf hS_s28 ha (k := 5) rfl
                have f276 := zf hS_s28 ha (k := 7) rfl
                have f277 := zf hS_s28 ha (k := 22) rfl
                have f278 := zf hS_s28 ha (k := 23) rfl
                have f279 := zf hS_s28 ha (k := 24) rfl
                have f280 := zf hS_s28 ha (k := 38) rfl
                have f281 := zf hS_s28 ha (k := 51) rfl
                have f282 := zf hS_s28 ha (k := 52) rfl
                refine j_callV hx hG (c_X12_result hst a ((s28 a 21))) lk_RX12_265 ha (by decide) rfl rfl rfl rfl [.int (zI ((s28 a 21)))] ⟨rfl, hG, hS_s28, ha, (by omega)⟩ rfl rfl ⟨by decide, by decide⟩ ⟨by decide, by decide⟩ (k2 := 0) (n2 := 0) rfl rfl (Nat.le_of_ble_eq_true rfl) dX12_table_192 (kIM (fun v283 s29 hS_s29 hF_s29 q284 => ?_))
                refine j_istore_n hx [(3, .int (zI v283)), (0, .ref a), (2, .int (zI v99))] dX12_table_195 (by decide) rfl ?_
                refine j_aload_n hx 1 dX12_table_196 rfl ?_
                have f285 := zf hS_s29 ha (k := 5) rfl
                refine g13_5 hx hG ha kf_RX12_137 rfl dX12_table_197 ?_
                refine j_iconst hx dX12_table_200 ?_
                refine j_icmp_ne hx 208 dX12_table_201 rfl (by omega) ⟨by decide, by decide⟩ (fun h286 => ?_) (fun h286 => ?_)
                · skip
                  refine j_iload_n hx 0 dX12_table_208 rfl ?_
                  have g287 : zc (s29 (gP G a 27)) = zc (s0 (gP G a 27)) := by rw [(zFr_g hF_s29 (zr (k := 27) (t2 := 84) hG ha rfl) (by decide)), (zFr_g hF_s28 (zr (k := 27) (t2 := 84) hG ha rfl) (by decide)), (zFr_g hF_s7 (zr (k := 27) (t2 := 84) hG ha rfl) (by decide)), (zFr_g hF_s5 (zr (k := 27) (t2 := 84) hG ha rfl) (by decide)), (zFr_g hF_s4 (zr (k := 27) (t2 := 84) hG ha rfl) (by decide)), e_s1, zU_ne (zne (zr (k := 27) (t2 := 84) hG ha rfl) ha (by decide))]
                  have g288 : zc (s29 (gP G a 28)) = zc (s0 (gP G a 28)) := by rw [(zFr_g hF_s29 (zr (k := 28) (t2 := 85) hG ha rfl) (by decide)), (zFr_g hF_s28 (zr (k := 28) (t2 := 85) hG ha rfl) (by decide)), (zFr_g hF_s7 (zr (k := 28) (t2 := 85) hG ha rfl) (by decide)), (zFr_g hF_s5 (zr (k := 28) (t2 := 85) hG ha rfl) (by decide)), (zFr_g hF_s4 (zr (k := 28) (t2 := 85) hG ha rfl) (by decide)), e_s1, zU_ne (zne (zr (k := 28) (t2 := 85) hG ha rfl) ha (by decide))]
                  have g289 : s29 (gP G a 27) 488 = s0 (gP G a 27) 488 := (by rw [(zFr_g hF_s29 (zr (k := 27) (t2 := 84) hG ha rfl) (by decide)), (zFr_g hF_s28 (zr (k := 27) (t2 := 84) hG ha rfl) (by decide)), (zFr_g hF_s7 (zr (k := 27) (t2 := 84) hG ha rfl) (by decide)), (zFr_g hF_s5 (zr (k := 27) (t2 := 84) hG ha rfl) (by decide)), (zFr_g hF_s4 (zr (k := 27) (t2 := 84) hG ha rfl) (by decide)), e_s1, zU_at (Or.inl (zne ha (zr (k := 27) (t2 := 84) hG ha rfl) (by decide)))])
                  have g290 : s29 (gP G a 28) 488 = s0 (gP G a 28) 488 := (by rw [(zFr_g hF_s29 (zr (k := 28) (t2 := 85) hG ha rfl) (by decide)), (zFr_g hF_s28 (zr (k := 28) (t2 := 85) hG ha rfl) (by decide)), (zFr_g hF_s7 (zr (k := 28) (t2 := 85) hG ha rfl) (by decide)), (zFr_g hF_s5 (zr (k := 28) (t2 := 85) hG ha rfl) (by decide)), (zFr_g hF_s4 (zr (k := 28) (t2 := 85) hG ha rfl) (by decide)), e_s1, zU_at (Or.inl (zne ha (zr (k := 28) (t2 := 85) hG ha rfl) (by decide)))])
                  have f291 := zf hS_s29 ha (k := 38) rfl
                  have f292 := zf hS_s29 ha (k := 51) rfl
                  have f293 := zf hS_s29 ha (k := 52) rfl
                  exact j_iret hx hq rfl (by decide) (by decide) dX12_table_209 ⟨v283, rfl, rfl, hS_s29, (zFr_t (zFr_t (zFr_t (zFr_t (zFr_t (zFr_u zFr_rf e_s1 ha (by decide)) hF_s4 (by decide)) hF_s5 (by decide)) hF_s7 (by decide)) hF_s28 (by decide)) hF_s29 (by decide)), ⟨(by omega), by omega, by omega, by omega, by omega, (by rw [(zFr_g hF_s29 (zr (k := 34) (t2 := 91) hG ha rfl) (by decide)), (zFr_g hF_s28 (zr (k := 34) (t2 := 91) hG ha rfl) (by decide)), (zFr_g hF_s7 (zr (k := 34) (t2 := 91) hG ha rfl) (by decide)), (zFr_g hF_s5 (zr (k := 34) (t2 := 91) hG ha rfl) (by decide)), (zFr_g hF_s4 (zr (k := 34) (t2 := 91) hG ha rfl) (by decide)), e_s1, zU_ne (zne (zr (k := 34) (t2 := 91) hG ha rfl) ha (by decide)), (zFr_g hF_s29 (zr (k := 35) (t2 := 92) hG ha rfl) (by decide)), (zFr_g hF_s28 (zr (k := 35) (t2 := 92) hG ha rfl) (by decide)), (zFr_g hF_s7 (zr (k := 35) (t2 := 92) hG ha rfl) (by decide)), (zFr_g hF_s5 (zr (k := 35) (t2 := 92) hG ha rfl) (by decide)), (zFr_g hF_s4 (zr (k := 35) (t2 := 92) hG ha rfl) (by decide)), e_s1, zU_ne (zne (zr (k := 35) (t2 := 92) hG ha rfl) ha (by decide)), (zFr_g hF_s29 (zr (k := 37) (t2 := 94) hG ha rfl) (by decide)), (zFr_g hF_s28 (zr (k := 37) (t2 := 94) hG ha rfl) (by decide)), (zFr_g hF_s7 (zr (k := 37) (t2 := 94) hG ha rfl) (by decide)), (zFr_g hF_s5 (zr (k := 37) (t2 := 94) hG ha rfl) (by decide)), (zFr_g hF_s4 (zr (k := 37) (t2 := 94) hG ha rfl) (by decide)), e_s1, zU_ne (zne (zr (k := 37) (t2 := 94) hG ha rfl) ha (by decide))]; exact e2), (by rw [(zFr_g hF_s29 (zr (k := 17) (t2 := 80) hG ha rfl) (by decide)), (zFr_g hF_s28 (zr (k := 17) (t2 := 80) hG ha rfl) (by decide)), (zFr_g hF_s7 (zr (k := 17) (t2 := 80) hG ha rfl) (by decide)), (zFr_g hF_s5 (zr (k := 17) (t2 := 80) hG ha rfl) (by decide)), (zFr_g hF_s4 (zr (k := 17) (t2 := 80) hG ha rfl) (by decide)), e_s1, zU_ne (zne (zr (k := 17) (t2 := 80) hG ha rfl) ha (by decide))]; exact (zQn_nn e3 (by omega))), by omega, by omega, by omega⟩⟩
                · skip
                  refine j_aload_n hx 1 dX12_table_204 rfl ?_
                  have f294 := zf hS_s29 ha (k := 21) rfl
                  have hP295 : zQn (s29 (gP G a 10)) (s29 a 21) := ((by rw [(zFr_g hF_s29 (zr (k := 10) (t2 := 73) hG ha rfl) (by decide)), (zFr_g hF_s28 (zr (k := 10) (t2 := 73) hG ha rfl) (by decide))]; exact (zQi_k fA18 (by omega) (by omega))) (by omega))
                  have g296 : s29 (gP G a 13) 0 = s7 (gP G a 13) 0 := (by rw [(zFr_g hF_s29 (zr (k := 13) (t2 := 76) hG ha rfl) (by decide)), (zFr_g hF_s28 (zr (k := 13) (t2 := 76) hG ha rfl) (by decide))])
                  have g297 : s29 (gP G a 13) 1 = s7 (gP G a 13) 1 := (by rw [(zFr_g hF_s29 (zr (k := 13) (t2 := 76) hG ha rfl) (by decide)), (zFr_g hF_s28 (zr (k := 13) (t2 := 76) hG ha rfl) (by decide))])
                  have g298 : s29 (gP G a 13) 2 = s7 (gP G a 13) 2 := (by rw [(zFr_g hF_s29 (zr (k := 13) (t2 := 76) hG ha rfl) (by decide)), (zFr_g hF_s28 (zr (k := 13) (t2 := 76) hG ha rfl) (by decide))])
                  have f299 := zf hS_s29 ha (k := 0) rfl
                  have f300 := zf hS_s29 ha (k := 3) rfl
                  have f301 := zf hS_s29 ha (k := 4) rfl
                  have f302 := zf hS_s29 ha (k := 7) rfl
                  have f303 := zf hS_s29 ha (k := 22) rfl
                  have f304 := zf hS_s29 ha (k := 23) rfl
                  have f305 := zf hS_s29 ha (k := 38) rfl
                  have f306 := zf hS_s29 ha (k := 51) rfl
                  have f307 := zf hS_s29 ha (k := 52) rfl
                  refine j_callV hx hG (c_X12_sets hst a) lk_RX12_131 ha (by decide) rfl rfl rfl rfl [] ⟨rfl, hG, hS_s29, ha, (by omega), ((zQn_nn hP295 (by omega)))⟩ rfl rfl ⟨by decide, by decide⟩ ⟨by decide, by decide⟩ (k2 := 0) (n2 := 0) rfl rfl (Nat.le_of_ble_eq_true rfl) dX12_table_205 (kVM (fun s30 hS_s30 hF_s30 q309 => ?_))
                  refine j_iload_n hx 0 dX12_table_208 rfl ?_
                  have f310 := zf hS_s30 ha (k := 38) rfl
                  have f311 := zf hS_s30 ha (k := 51) rfl
                  have f312 := zf hS_s30 ha (k := 52) rfl
                  exact j_iret hx hq rfl (by decide) (by decide) dX12_table_209 ⟨v283, rfl, rfl, hS_s30, (zFr_t (zFr_t (zFr_t (zFr_t (zFr_t (zFr_t (zFr_u zFr_rf e_s1 ha (by decide)) hF_s4 (by decide)) hF_s5 (by decide)) hF_s7 (by decide)) hF_s28 (by decide)) hF_s29 (by decide)) hF_s30 (by decide)), ⟨(by omega), by omega, by omega, by omega, by omega, q309.2.2.2.2.2.1, (zQn_nn q309.2.2.2.2.1 (by omega)), by omega, by omega, by omega⟩⟩
              · skip
                refine j_aload_n hx 0 dX12_table_170 rfl ?_
                have f313 := zf hS_s28 ha (k := 21) rfl
                refine g13_21 hx hG ha kf_RX12_180 rfl dX12_table_171 ?_
                refine j_iconst hx dX12_table_174 ?_
                refine j_icmp_ge hx 187 dX12_table_175 rfl (by omega) ⟨by decide, by decide⟩ (fun h314 => ?_) (fun h314 => ?_)
                · skip
                  refine j_aload_n hx 0 dX12_table_187 rfl ?_
                  refine j_aload_n hx 0 dX12_table_188 rfl ?_
                  refine g13_21 hx hG ha kf_RX12_180 rfl dX12_table_189 ?_
                  have f315 := zf hS_s28 ha (k := 0) rfl
                  have f316 := zf hS_s28 ha (k := 3) rfl
                  have f317 := zf hS_s28 ha (k := 4) rfl
                  have f318 := zf hS_s28 ha (k := 5) rfl
                  have f319 := zf hS_s28 ha (k := 7) rfl
                  have f320 := zf hS_s28 ha (k := 22) rfl
                  have f321 := zf hS_s28 ha (k := 23) rfl
                  have f322 := zf hS_s28 ha (k := 24) rfl
                  have f323 := zf hS_s28 ha (k := 38) rfl
                  have f324 := zf hS_s28 ha (k := 51) rfl
                  have f325 := zf hS_s28 ha (k := 52) rfl
                  refine j_callV hx hG (c_X12_result hst a ((s28 a 21))) lk_RX12_265 ha (by decide) rfl rfl rfl rfl [.int (zI ((s28 a 21)))] ⟨rfl, hG, hS_s28, ha, (by omega)⟩ rfl rfl ⟨by decide, by decide⟩ ⟨by decide, by decide⟩ (k2 := 0) (n2 := 0) rfl rfl (Nat.le_of_ble_eq_true rfl) dX12_table_192 (kIM (fun v326 s31 hS_s31 hF_s31 q327 => ?_))
                  refine j_istore_n hx [(3, .int (zI v326)), (0, .ref a), (2, .int (zI v99))] dX12_table_195 (by decide) rfl ?_
                  refine j_aload_n hx 1 dX12_table_196 rfl ?_
                  have f328 := zf hS_s31 ha (k := 5) rfl
                  refine g13_5 hx hG ha kf_RX12_137 rfl dX12_table_197 ?_
                  refine j_iconst hx dX12_table_200 ?_
                  refine j_icmp_ne hx 208 dX12_table_201 rfl (by omega) ⟨by decide, by decide⟩ (fun h329 => ?_) (fun h329 => ?_)
                  · skip
                    refine j_iload_n hx 0 dX12_table_208 rfl ?_
                    have g330 : zc (s31 (gP G a 27)) = zc (s0 (gP G a 27)) := by rw [(zFr_g hF_s31 (zr (k := 27) (t2 := 84) hG ha rfl) (by decide)), (zFr_g hF_s28 (zr (k := 27) (t2 := 84) hG ha rfl) (by decide)), (zFr_g hF_s7 (zr (k := 27) (t2 := 84) hG ha rfl) (by decide)), (zFr_g hF_s5 (zr (k := 27) (t2 := 84) hG ha rfl) (by decide)), (zFr_g hF_s4 (zr (k := 27) (t2 := 84) hG ha rfl) (by decide)), e_s1, zU_ne (zne (zr (k := 27) (t2 := 84) hG ha rfl) ha (by decide))]
                    have g331 : zc (s31 (gP G a 28)) = zc (s0 (gP G a 28)) := by rw [(zFr_g hF_s31 (zr (k := 28) (t2 := 85) hG ha rfl) (by decide)), (zFr_g hF_s28 (zr (k := 28) (t2 := 85) hG ha rfl) (by decide)), (zFr_g hF_s7 (zr (k := 28) (t2 := 85) hG ha rfl) (by decide)), (zFr_g hF_s5 (zr (k := 28) (t2 := 85) hG ha rfl) (by decide)), (zFr_g hF_s4 (zr (k := 28) (t2 := 85) hG ha rfl) (by decide)), e_s1, zU_ne (zne (zr (k := 28) (t2 := 85) hG ha rfl) ha (by decide))]
                    have g332 : s31 (gP G a 27) 488 = s0 (gP G a 27) 488 := (by rw [(zFr_g hF_s31 (zr (k := 27) (t2 := 84) hG ha rfl) (by decide)), (zFr_g hF_s28 (zr (k := 27) (t2 := 84) hG ha rfl) (by decide)), (zFr_g hF_s7 (zr (k := 27) (t2 := 84) hG ha rfl) (by decide)), (zFr_g hF_s5 (zr (k := 27) (t2 := 84) hG ha rfl) (by decide)), (zFr_g hF_s4 (zr (k := 27) (t2 := 84) hG ha rfl) (by decide)), e_s1, zU_at (Or.inl (zne ha (zr (k := 27) (t2 := 84) hG ha rfl) (by decide)))])
                    have g333 : s31 (gP G a 28) 488 = s0 (gP G a 28) 488 := (by rw [(zFr_g hF_s31 (zr (k := 28) (t2 := 85) hG ha rfl) (by decide)), (zFr_g hF_s28 (zr (k := 28) (t2 := 85) hG ha rfl) (by decide)), (zFr_g hF_s7 (zr (k := 28) (t2 := 85) hG ha rfl) (by decide)), (zFr_g hF_s5 (zr (k := 28) (t2 := 85) hG ha rfl) (by decide)), (zFr_g hF_s4 (zr (k := 28) (t2 := 85) hG ha rfl) (by decide)), e_s1, zU_at (Or.inl (zne ha (zr (k := 28) (t2 := 85) hG ha rfl) (by decide)))])
                    have f334 := zf hS_s31 ha (k := 38) rfl
                    have f335 := zf hS_s31 ha (k := 51) rfl
                    have f336 := zf hS_s31 ha (k := 52) rfl
                    exact j_iret hx hq rfl (by decide) (by decide) dX12_table_209 ⟨v326, rfl, rfl, hS_s31, (zFr_t (zFr_t (zFr_t (zFr_t (zFr_t (zFr_u zFr_rf e_s1 ha (by decide)) hF_s4 (by decide)) hF_s5 (by decide)) hF_s7 (by decide)) hF_s28 (by decide)) hF_s31 (by decide)), ⟨(by omega), by omega, by omega, by omega, by omega, (by rw [(zFr_g hF_s31 (zr (k := 34) (t2 := 91) hG ha rfl) (by decide)), (zFr_g hF_s28 (zr (k := 34) (t2 := 91) hG ha rfl) (by decide)), (zFr_g hF_s7 (zr (k := 34) (t2 := 91) hG ha rfl) (by decide)), (zFr_g hF_s5 (zr (k := 34) (t2 := 91) hG ha rfl) (by decide)), (zFr_g hF_s4 (zr (k := 34) (t2 := 91) hG ha rfl) (by decide)), e_s1, zU_ne (zne (zr (k := 34) (t2 := 91) hG ha rfl) ha (by decide)), (zFr_g hF_s31 (zr (k := 35) (t2 := 92) hG ha rfl) (by decide)), (zFr_g hF_s28 (zr (k := 35) (t2 := 92) hG ha rfl) (by decide)), (zFr_g hF_s7 (zr (k := 35) (t2 := 92) hG ha rfl) (by decide)), (zFr_g hF_s5 (zr (k := 35) (t2 := 92) hG ha rfl) (by decide)), (zFr_g hF_s4 (zr (k := 35) (t2 := 92) hG ha rfl) (by decide)), e_s1, zU_ne (zne (zr (k := 35) (t2 := 92) hG ha rfl) ha (by decide)), (zFr_g hF_s31 (zr (k := 37) (t2 := 94) hG ha rfl) (by decide)), (zFr_g hF_s28 (zr (k := 37) (t2 := 94) hG ha rfl) (by decide)), (zFr_g hF_s7 (zr (k := 37) (t2 := 94) hG ha rfl) (by decide)), (zFr_g hF_s5 (zr (k := 37) (t2 := 94) hG ha rfl) (by decide)), (zFr_g hF_s4 (zr (k := 37) (t2 := 94) hG ha rfl) (by decide)), e_s1, zU_ne (zne (zr (k := 37) (t2 := 94) hG ha rfl) ha (by decide))]; exact e2), (by rw [(zFr_g hF_s31 (zr (k := 17) (t2 := 80) hG ha rfl) (by decide)), (zFr_g hF_s28 (zr (k := 17) (t2 := 80) hG ha rfl) (by decide)), (zFr_g hF_s7 (zr (k := 17) (t2 := 80) hG ha rfl) (by decide)), (zFr_g hF_s5 (zr (k := 17) (t2 := 80) hG ha rfl) (by decide)), (zFr_g hF_s4 (zr (k := 17) (t2 := 80) hG ha rfl) (by decide)), e_s1, zU_ne (zne (zr (k := 17) (t2 := 80) hG ha rfl) ha (by decide))]; exact (zQn_nn e3 (by omega))), by omega, by omega, by omega⟩⟩
                  · skip
                    refine j_aload_n hx 1 dX12_table_204 rfl ?_
                    have f337 := zf hS_s31 ha (k := 21) rfl
                    have hP338 : zQn (s31 (gP G a 10)) (s31 a 21) := ((by rw [(zFr_g hF_s31 (zr (k := 10) (t2 := 73) hG ha rfl) (by decide)), (zFr_g hF_s28 (zr (k := 10) (t2 := 73) hG ha rfl) (by decide))]; exact (zQi_k fA18 (by omega) (by omega))) (by omega))
                    have g339 : s31 (gP G a 13) 0 = s7 (gP G a 13) 0 := (by rw [(zFr_g hF_s31 (zr (k := 13) (t2 := 76) hG ha rfl) (by decide)), (zFr_g hF_s28 (zr (k := 13) (t2 := 76) hG ha rfl) (by decide))])
                    have g340 : s31 (gP G a 13) 1 = s7 (gP G a 13) 1 := (by rw [(zFr_g hF_s31 (zr (k := 13) (t2 := 76) hG ha rfl) (by decide)), (zFr_g hF_s28 (zr (k := 13) (t2 := 76) hG ha rfl) (by decide))])
                    have g341 : s31 (gP G a 13) 2 = s7 (gP G a 13) 2 := (by rw [(zFr_g hF_s31 (zr (k := 13) (t2 := 76) hG ha rfl) (by decide)), (zFr_g hF_s28 (zr (k := 13) (t2 := 76) hG ha rfl) (by decide))])
                    have f342 := zf hS_s31 ha (k := 0) rfl
                    have f343 := zf hS_s31 ha (k := 3) rfl
                    have f344 := zf hS_s31 ha (k := 4) rfl
                    have f345 := zf hS_s31 ha (k := 7) rfl
                    have f346 := zf hS_s31 ha (k := 22) rfl
                    have f347 := zf hS_s31 ha (k := 23) rfl
                    have f348 := zf hS_s31 ha (k := 38) rfl
                    have f349 := zf hS_s31 ha (k := 51) rfl
                    have f350 := zf hS_s31 ha (k := 52) rfl
                    refine j_callV hx hG (c_X12_sets hst a) lk_RX12_131 ha (by decide) rfl rfl rfl rfl [] ⟨rfl, hG, hS_s31, ha, (by omega), ((zQn_nn hP338 (by omega)))⟩ rfl rfl ⟨by decide, by decide⟩ ⟨by decide, by decide⟩ (k2 := 0) (n2 := 0) rfl rfl (Nat.le_of_ble_eq_true rfl) dX12_table_205 (kVM (fun s32 hS_s32 hF_s32 q352 => ?_))
                    refine j_iload_n hx 0 dX12_table_208 rfl ?_
                    have f353 := zf hS_s32 ha (k := 38) rfl
                    have f354 := zf hS_s32 ha (k := 51) rfl
                    have f355 := zf hS_s32 ha (k := 52) rfl
                    exact j_iret hx hq rfl (by decide) (by decide) dX12_table_209 ⟨v326, rfl, rfl, hS_s32, (zFr_t (zFr_t (zFr_t (zFr_t (zFr_t (zFr_t (zFr_u zFr_rf e_s1 ha (by decide)) hF_s4 (by decide)) hF_s5 (by decide)) hF_s7 (by decide)) hF_s28 (by decide)) hF_s31 (by decide)) hF_s32 (by decide)), ⟨(by omega), by omega, by omega, by omega, by omega, q352.2.2.2.2.2.1, (zQn_nn q352.2.2.2.2.1 (by omega)), by omega, by omega, by omega⟩⟩
                · skip
                  refine j_aload_n hx 0 dX12_table_178 rfl ?_
                  refine j_iconst hx dX12_table_179 ?_
                  refine j_aload_n hx 0 dX12_table_180 rfl ?_
                  have f356 := zf hS_s28 ha (k := 3) rfl
                  refine g13_3 hx hG ha kf_RX12_146 rfl dX12_table_181 ?_
                  have f357 := zf hS_s28 ha (k := 0) rfl
                  have f358 := zf hS_s28 ha (k := 4) rfl
                  have f359 := zf hS_s28 ha (k := 7) rfl
                  have f360 := zf hS_s28 ha (k := 22) rfl
                  have f361 := zf hS_s28 ha (k := 23) rfl
                  have f362 := zf hS_s28 ha (k := 24) rfl
                  have f363 := zf hS_s28 ha (k := 38) rfl
                  have f364 := zf hS_s28 ha (k := 51) rfl
                  have f365 := zf hS_s28 ha (k := 52) rfl
                  refine j_callV hx hG (c_X12_wrong hst a 4 ((s28 a 3))) lk_RX12_173 ha (by decide) rfl rfl rfl rfl [.int (zI 4), .int (zI ((s28 a 3)))] ⟨rfl, hG, hS_s28, ha, (by omega), (by omega)⟩ rfl rfl ⟨by decide, by decide⟩ ⟨by decide, by decide⟩ (k2 := 0) (n2 := 0) rfl rfl (Nat.le_of_ble_eq_true rfl) dX12_table_184 (kVM (fun s33 hS_s33 hF_s33 q367 => ?_))
                  refine j_aload_n hx 0 dX12_table_187 rfl ?_
                  refine j_aload_n hx 0 dX12_table_188 rfl ?_
                  have f368 := zf hS_s33 ha (k := 21) rfl
                  refine g13_21 hx hG ha kf_RX12_180 rfl dX12_table_189 ?_
                  have f369 := zf hS_s33 ha (k := 0) rfl
                  have f370 := zf hS_s33 ha (k := 3) rfl
                  have f371 := zf hS_s33 ha (k := 4) rfl
                  have f372 := zf hS_s33 ha (k := 5) rfl
                  have f373 := zf hS_s33 ha (k := 7) rfl
                  have f374 := zf hS_s33 ha (k := 22) rfl
                  have f375 := zf hS_s33 ha (k := 23) rfl
                  have f376 := zf hS_s33 ha (k := 24) rfl
                  have f377 := zf hS_s33 ha (k := 38) rfl
                  have f378 := zf hS_s33 ha (k := 51) rfl
                  have f379 := zf hS_s33 ha (k := 52) rfl
                  refine j_callV hx hG (c_X12_result hst a ((s33 a 21))) lk_RX12_265 ha (by decide) rfl rfl rfl rfl [.int (zI ((s33 a 21)))] ⟨rfl, hG, hS_s33, ha, (by omega)⟩ rfl rfl ⟨by decide, by decide⟩ ⟨by decide, by decide⟩ (k2 := 0) (n2 := 0) rfl rfl (Nat.le_of_ble_eq_true rfl) dX12_table_192 (kIM (fun v380 s34 hS_s34 hF_s34 q381 => ?_))
                  refine j_istore_n hx [(3, .int (zI v380)), (0, .ref a), (2, .int (zI v99))] dX12_table_195 (by decide) rfl ?_
                  refine j_aload_n hx 1 dX12_table_196 rfl ?_
                  have f382 := zf hS_s34 ha (k := 5) rfl
                  refine g13_5 hx hG ha kf_RX12_137 rfl dX12_table_197 ?_
                  refine j_iconst hx dX12_table_200 ?_
                  refine j_icmp_ne hx 208 dX12_table_201 rfl (by omega) ⟨by decide, by decide⟩ (fun h383 => ?_) (fun h383 => ?_)
                  · skip
                    refine j_iload_n hx 0 dX12_table_208 rfl ?_
                    have g384 : zc (s34 (gP G a 27)) = zc (s0 (gP G a 27)) := by rw [(zFr_g hF_s34 (zr (k := 27) (t2 := 84) hG ha rfl) (by decide)), (zFr_g hF_s33 (zr (k := 27) (t2 := 84) hG ha rfl) (by decide)), (zFr_g hF_s28 (zr (k := 27) (t2 := 84) hG ha rfl) (by decide)), (zFr_g hF_s7 (zr (k := 27) (t2 := 84) hG ha rfl) (by decide)), (zFr_g hF_s5 (zr (k := 27) (t2 := 84) hG ha rfl) (by decide)), (zFr_g hF_s4 (zr (k := 27) (t2 := 84) hG ha rfl) (by decide)), e_s1, zU_ne (zne (zr (k := 27) (t2 := 84) hG ha rfl) ha (by decide))]
                    have g385 : zc (s34 (gP G a 28)) = zc (s0 (gP G a 28)) := by rw [(zFr_g hF_s34 (zr (k := 28) (t2 := 85) hG ha rfl) (by decide)), (zFr_g hF_s33 (zr (k := 28) (t2 := 85) hG ha rfl) (by decide)), (zFr_g hF_s28 (zr (k := 28) (t2 := 85) hG ha rfl) (by decide)), (zFr_g hF_s7 (zr (k := 28) (t2 := 85) hG ha rfl) (by decide)), (zFr_g hF_s5 (zr (k := 28) (t2 := 85) hG ha rfl) (by decide)), (zFr_g hF_s4 (zr (k := 28) (t2 := 85) hG ha rfl) (by decide)), e_s1, zU_ne (zne (zr (k := 28) (t2 := 85) hG ha rfl) ha (by decide))]
                    have g386 : s34 (gP G a 27) 488 = s0 (gP G a 27) 488 := (by rw [(zFr_g hF_s34 (zr (k := 27) (t2 := 84) hG ha rfl) (by decide)), (zFr_g hF_s33 (zr (k := 27) (t2 := 84) hG ha rfl) (by decide)), (zFr_g hF_s28 (zr (k := 27) (t2 := 84) hG ha rfl) (by decide)), (zFr_g hF_s7 (zr (k := 27) (t2 := 84) hG ha rfl) (by decide)), (zFr_g hF_s5 (zr (k := 27) (t2 := 84) hG ha rfl) (by decide)), (zFr_g hF_s4 (zr (k := 27) (t2 := 84) hG ha rfl) (by decide)), e_s1, zU_at (Or.inl (zne ha (zr (k := 27) (t2 := 84) hG ha rfl) (by decide)))])
                    have g387 : s34 (gP G a 28) 488 = s0 (gP G a 28) 488 := (by rw [(zFr_g hF_s34 (zr (k := 28) (t2 := 85) hG ha rfl) (by decide)), (zFr_g hF_s33 (zr (k := 28) (t2 := 85) hG ha rfl) (by decide)), (zFr_g hF_s28 (zr (k := 28) (t2 := 85) hG ha rfl) (by decide)), (zFr_g hF_s7 (zr (k := 28) (t2 := 85) hG ha rfl) (by decide)), (zFr_g hF_s5 (zr (k := 28) (t2 := 85) hG ha rfl) (by decide)), (zFr_g hF_s4 (zr (k := 28) (t2 := 85) hG ha rfl) (by decide)), e_s1, zU_at (Or.inl (zne ha (zr (k := 28) (t2 := 85) hG ha rfl) (by decide)))])
                    have f388 := zf hS_s34 ha (k := 38) rfl
                    have f389 := zf hS_s34 ha (k := 51) rfl
                    have f390 := zf hS_s34 ha (k := 52) rfl
                    exact j_iret hx hq rfl (by decide) (by decide) dX12_table_209 ⟨v380, rfl, rfl, hS_s34, (zFr_t (zFr_t (zFr_t (zFr_t (zFr_t (zFr_t (zFr_u zFr_rf e_s1 ha (by decide)) hF_s4 (by decide)) hF_s5 (by decide)) hF_s7 (by decide)) hF_s28 (by decide)) hF_s33 (by decide)) hF_s34 (by decide)), ⟨(by omega), by omega, by omega, by omega, by omega, (by rw [(zFr_g hF_s34 (zr (k := 34) (t2 := 91) hG ha rfl) (by decide)), (zFr_g hF_s33 (zr (k := 34) (t2 := 91) hG ha rfl) (by decide)), (zFr_g hF_s28 (zr (k := 34) (t2 := 91) hG ha rfl) (by decide)), (zFr_g hF_s7 (zr (k := 34) (t2 := 91) hG ha rfl) (by decide)), (zFr_g hF_s5 (zr (k := 34) (t2 := 91) hG ha rfl) (by decide)), (zFr_g hF_s4 (zr (k := 34) (t2 := 91) hG ha rfl) (by decide)), e_s1, zU_ne (zne (zr (k := 34) (t2 := 91) hG ha rfl) ha (by decide)), (zFr_g hF_s34 (zr (k := 35) (t2 := 92) hG ha rfl) (by decide)), (zFr_g hF_s33 (zr (k := 35) (t2 := 92) hG ha rfl) (by decide)), (zFr_g hF_s28 (zr (k := 35) (t2 := 92) hG ha rfl) (by decide)), (zFr_g hF_s7 (zr (k := 35) (t2 := 92) hG ha rfl) (by decide)), (zFr_g hF_s5 (zr (k := 35) (t2 := 92) hG ha rfl) (by decide)), (zFr_g hF_s4 (zr (k := 35) (t2 := 92) hG ha rfl) (by decide)), e_s1, zU_ne (zne (zr (k := 35) (t2 := 92) hG ha rfl) ha (by decide)), (zFr_g hF_s34 (zr (k := 37) (t2 := 94) hG ha rfl) (by decide)), (zFr_g hF_s33 (zr (k := 37) (t2 := 94) hG ha rfl) (by decide)), (zFr_g hF_s28 (zr (k := 37) (t2 := 94) hG ha rfl) (by decide)), (zFr_g hF_s7 (zr (k := 37) (t2 := 94) hG ha rfl) (by decide)), (zFr_g hF_s5 (zr (k := 37) (t2 := 94) hG ha rfl) (by decide)), (zFr_g hF_s4 (zr (k := 37) (t2 := 94) hG ha rfl) (by decide)), e_s1, zU_ne (zne (zr (k := 37) (t2 := 94) hG ha rfl) ha (by decide))]; exact e2), (by rw [(zFr_g hF_s34 (zr (k := 17) (t2 := 80) hG ha rfl) (by decide)), (zFr_g hF_s33 (zr (k := 17) (t2 := 80) hG ha rfl) (by decide)), (zFr_g hF_s28 (zr (k := 17) (t2 := 80) hG ha rfl) (by decide)), (zFr_g hF_s7 (zr (k := 17) (t2 := 80) hG ha rfl) (by decide)), (zFr_g hF_s5 (zr (k := 17) (t2 := 80) hG ha rfl) (by decide)), (zFr_g hF_s4 (zr (k := 17) (t2 := 80) hG ha rfl) (by decide)), e_s1, zU_ne (zne (zr (k := 17) (t2 := 80) hG ha rfl) ha (by decide))]; exact (zQn_nn e3 (by omega))), by omega, by omega, by omega⟩⟩
                  · skip
                    refine j_aload_n hx 1 dX12_table_204 rfl ?_
                    have f391 := zf hS_s34 ha (k := 21) rfl
                    have hP392 : zQn (s34 (gP G a 10)) (s34 a 21) := ((by rw [(zFr_g hF_s34 (zr (k := 10) (t2 := 73) hG ha rfl) (by decide)), (zFr_g hF_s33 (zr (k := 10) (t2 := 73) hG ha rfl) (by decide)), (zFr_g hF_s28 (zr (k := 10) (t2 := 73) hG ha rfl) (by decide))]; exact (zQi_k fA18 (by omega) (by omega))) (by omega))
                    have g393 : s34 (gP G a 13) 0 = s7 (gP G a 13) 0 := (by rw [(zFr_g hF_s34 (zr (k := 13) (t2 := 76) hG ha rfl) (by decide)), (zFr_g hF_s33 (zr (k := 13) (t2 := 76) hG ha rfl) (by decide)), (zFr_g hF_s28 (zr (k := 13) (t2 := 76) hG ha rfl) (by decide))])
                    have g394 : s34 (gP G a 13) 1 = s7 (gP G a 13) 1 := (by rw [(zFr_g hF_s34 (zr (k := 13) (t2 := 76) hG ha rfl) (by decide)), (zFr_g hF_s33 (zr (k := 13) (t2 := 76) hG ha rfl) (by decide)), (zFr_g hF_s28 (zr (k := 13) (t2 := 76) hG ha rfl) (by decide))])
                    have g395 : s34 (gP G a 13) 2 = s7 (gP G a 13) 2 := (by rw [(zFr_g hF_s34 (zr (k := 13) (t2 := 76) hG ha rfl) (by decide)), (zFr_g hF_s33 (zr (k := 13) (t2 := 76) hG ha rfl) (by decide)), (zFr_g hF_s28 (zr (k := 13) (t2 := 76) hG ha rfl) (by decide))])
                    have f396 := zf hS_s34 ha (k := 0) rfl
                    have f397 := zf hS_s34 ha (k := 3) rfl
                    have f398 := zf hS_s34 ha (k := 4) rfl
                    have f399 := zf hS_s34 ha (k := 7) rfl
                    have f400 := zf hS_s34 ha (k := 22) rfl
                    have f401 := zf hS_s34 ha (k := 23) rfl
                    have f402 := zf hS_s34 ha (k := 38) rfl
                    have f403 := zf hS_s34 ha (k := 51) rfl
                    have f404 := zf hS_s34 ha (k := 52) rfl
                    refine j_callV hx hG (c_X12_sets hst a) lk_RX12_131 ha (by decide) rfl rfl rfl rfl [] ⟨rfl, hG, hS_s34, ha, (by omega), ((zQn_nn hP392 (by omega)))⟩ rfl rfl ⟨by decide, by decide⟩ ⟨by decide, by decide⟩ (k2 := 0) (n2 := 0) rfl rfl (Nat.le_of_ble_eq_true rfl) dX12_table_205 (kVM (fun s35 hS_s35 hF_s35 q406 => ?_))
                    refine j_iload_n hx 0 dX12_table_208 rfl ?_
                    have f407 := zf hS_s35 ha (k := 38) rfl
                    have f408 := zf hS_s35 ha (k := 51) rfl
                    have f409 := zf hS_s35 ha (k := 52) rfl
                    exact j_iret hx hq rfl (by decide) (by decide) dX12_table_209 ⟨v380, rfl, rfl, hS_s35, (zFr_t (zFr_t (zFr_t (zFr_t (zFr_t (zFr_t (zFr_t (zFr_u zFr_rf e_s1 ha (by decide)) hF_s4 (by decide)) hF_s5 (by decide)) hF_s7 (by decide)) hF_s28 (by decide)) hF_s33 (by decide)) hF_s34 (by decide)) hF_s35 (by decide)), ⟨(by omega), by omega, by omega, by omega, by omega, q406.2.2.2.2.2.1, (zQn_nn q406.2.2.2.2.1 (by omega)), by omega, by omega, by omega⟩⟩
            · skip
              refine j_aload_n hx 0 dX12_table_58 rfl ?_
              have f410 := zf hS_s28 ha (k := 4) rfl
              have f411 := zf hS_s28 ha (k := 3) rfl
              have f412 := zf hS_s28 ha (k := 0) rfl
              have f413 := zf hS_s28 ha (k := 5) rfl
              have f414 := zf hS_s28 ha (k := 7) rfl
              have f415 := zf hS_s28 ha (k := 21) rfl
              have f416 := zf hS_s28 ha (k := 22) rfl
              have f417 := zf hS_s28 ha (k := 23) rfl
              have f418 := zf hS_s28 ha (k := 24) rfl
              have f419 := zf hS_s28 ha (k := 38) rfl
              have f420 := zf hS_s28 ha (k := 51) rfl
              have f421 := zf hS_s28 ha (k := 52) rfl
              refine j_callV hx hG (c_X12_word hst a) lk_RX12_250 ha (by decide) rfl rfl rfl rfl [] ⟨rfl, hG, hS_s28, ha⟩ rfl rfl ⟨by decide, by decide⟩ ⟨by decide, by decide⟩ (k2 := 0) (n2 := 0) rfl rfl (Nat.le_of_ble_eq_true rfl) dX12_table_59 (kIM (fun v422 s36 hS_s36 hF_s36 q423 => ?_))
              refine j_istore_n hx [(3, .int (zI v422)), (0, .ref a), (2, .int (zI v99))] dX12_table_62 (by decide) rfl ?_
              refine j_iload_n hx 0 dX12_table_63 rfl ?_
              refine j_callS hx (c_X12_isClause hst v422) lk_RX12_253 [.int (zI v422)] ⟨rfl, hG, hS_s36, (by omega)⟩ rfl rfl ⟨by decide, by decide⟩ ⟨by decide, by decide⟩ (k2 := 0) (n2 := 0) rfl rfl (Nat.le_of_ble_eq_true rfl) dX12_table_64 (kIP (fun v424 q425 => ?_))
              refine j_if_ne hx 82 dX12_table_67 rfl (by omega) (fun h426 => ?_) (fun h426 => ?_)
              · skip
                refine j_iload_n hx 2 dX12_table_82 rfl ?_
                refine j_bipush hx dX12_table_83 rfl ?_
                refine j_icmp_eq hx 123 dX12_table_85 rfl (by omega) ⟨by decide, by decide⟩ (fun h427 => ?_) (fun h427 => ?_)
                · skip
                  refine j_aload_n hx 1 dX12_table_123 rfl ?_
                  refine j_iconst hx dX12_table_124 ?_
                  refine j_aload_n hx 1 dX12_table_125 rfl ?_
                  have f428 := zf hS_s36 ha (k := 4) rfl
                  refine g13_4 hx hG ha kf_RX12_143 rfl dX12_table_126 ?_
                  have f429 := zf hS_s36 ha (k := 0) rfl
                  have f430 := zf hS_s36 ha (k := 3) rfl
                  have f431 := zf hS_s36 ha (k := 7) rfl
                  have f432 := zf hS_s36 ha (k := 21) rfl
                  have f433 := zf hS_s36 ha (k := 22) rfl
                  have f434 := zf hS_s36 ha (k := 23) rfl
                  have f435 := zf hS_s36 ha (k := 24) rfl
                  have f436 := zf hS_s36 ha (k := 38) rfl
                  have f437 := zf hS_s36 ha (k := 51) rfl
                  have f438 := zf hS_s36 ha (k := 52) rfl
                  refine j_callV hx hG (c_X12_wrong hst a 3 ((s36 a 4))) lk_RX12_173 ha (by decide) rfl rfl rfl rfl [.int (zI 3), .int (zI ((s36 a 4)))] ⟨rfl, hG, hS_s36, ha, (by omega), (by omega)⟩ rfl rfl ⟨by decide, by decide⟩ ⟨by decide, by decide⟩ (k2 := 0) (n2 := 0) rfl rfl (Nat.le_of_ble_eq_true rfl) dX12_table_129 (kVM (fun s37 hS_s37 hF_s37 q440 => ?_))
                  refine j_aload_n hx 1 dX12_table_132 rfl ?_
                  refine j_callV hx hG (c_X12_fine hst a) lk_RX12_166 ha (by decide) rfl rfl rfl rfl [] ⟨rfl, hG, hS_s37, ha⟩ rfl rfl ⟨by decide, by decide⟩ ⟨by decide, by decide⟩ (k2 := 0) (n2 := 0) rfl rfl (Nat.le_of_ble_eq_true rfl) dX12_table_133 (kIP (fun v441 q442 => ?_))
                  refine j_if_ne hx 142 dX12_table_136 rfl (by omega) (fun h443 => ?_) (fun h443 => ?_)
                  · skip
                    refine j_aload_n hx 1 dX12_table_142 rfl ?_
                    have f444 := zf hS_s37 ha (k := 4) rfl
                    have f445 := zf hS_s37 ha (k := 3) rfl
                    have g446 : s37 (gP G a 9) (s37 a 4).toNat = s0 (gP G a 9) (s37 a 4).toNat := (by rw [(zFr_g hF_s37 (zr (k := 9) (t2 := 72) hG ha rfl) (by decide)), (zFr_g hF_s36 (zr (k := 9) (t2 := 72) hG ha rfl) (by decide)), (zFr_g hF_s28 (zr (k := 9) (t2 := 72) hG ha rfl) (by decide)), (zFr_g hF_s7 (zr (k := 9) (t2 := 72) hG ha rfl) (by decide)), (zFr_g hF_s5 (zr (k := 9) (t2 := 72) hG ha rfl) (by decide)), (zFr_g hF_s4 (zr (k := 9) (t2 := 72) hG ha rfl) (by decide)), e_s1, zU_at (Or.inl (zne ha (zr (k := 9) (t2 := 72) hG ha rfl) (by decide)))])
                    have f447 := zf hS_s37 ha (k := 0) rfl
                    have f448 := zf hS_s37 ha (k := 5) rfl
                    have f449 := zf hS_s37 ha (k := 7) rfl
                    have f450 := zf hS_s37 ha (k := 21) rfl
                    have f451 := zf hS_s37 ha (k := 22) rfl
                    have f452 := zf hS_s37 ha (k := 23) rfl
                    have f453 := zf hS_s37 ha (k := 24) rfl
                    have f454 := zf hS_s37 ha (k := 38) rfl
                    have f455 := zf hS_s37 ha (k := 51) rfl
                    have f456 := zf hS_s37 ha (k := 52) rfl
                    refine j_callV hx hG (c_X12_pass hst a) lk_RX12_256 ha (by decide) rfl rfl rfl rfl [] ⟨rfl, hG, hS_s37, ha⟩ rfl rfl ⟨by decide, by decide⟩ ⟨by decide, by decide⟩ (k2 := 0) (n2 := 0) rfl rfl (Nat.le_of_ble_eq_true rfl) dX12_table_143 (kVM (fun s38 hS_s38 hF_s38 q458 => ?_))
                    refine j_aload_n hx 1 dX12_table_146 rfl ?_
                    refine j_iload_n hx 0 dX12_table_147 rfl ?_
                    have g459 : s38 (gP G a 13) 0 = s7 (gP G a 13) 0 := (by rw [(zFr_g hF_s38 (zr (k := 13) (t2 := 76) hG ha rfl) (by decide)), (zFr_g hF_s37 (zr (k := 13) (t2 := 76) hG ha rfl) (by decide)), (zFr_g hF_s36 (zr (k := 13) (t2 := 76) hG ha rfl) (by decide)), (zFr_g hF_s28 (zr (k := 13) (t2 := 76) hG ha rfl) (by decide))])
                    have g460 : s38 (gP G a 13) 1 = s7 (gP G a 13) 1 := (by rw [(zFr_g hF_s38 (zr (k := 13) (t2 := 76) hG ha rfl) (by decide)), (zFr_g hF_s37 (zr (k := 13) (t2 := 76) hG ha rfl) (by decide)), (zFr_g hF_s36 (zr (k := 13) (t2 := 76) hG ha rfl) (by decide)), (zFr_g hF_s28 (zr (k := 13) (t2 := 76) hG ha rfl) (by decide))])
                    have g461 : s38 (gP G a 13) 2 = s7 (gP G a 13) 2 := (by rw [(zFr_g hF_s38 (zr (k := 13) (t2 := 76) hG ha rfl) (by decide)), (zFr_g hF_s37 (zr (k := 13) (t2 := 76) hG ha rfl) (by decide)), (zFr_g hF_s36 (zr (k := 13) (t2 := 76) hG ha rfl) (by decide)), (zFr_g hF_s28 (zr (k := 13) (t2 := 76) hG ha rfl) (by decide))])
                    have f462 := zf hS_s38 ha (k := 22) rfl
                    have f463 := zf hS_s38 ha (k := 21) rfl
                    have f464 := zf hS_s38 ha (k := 23) rfl
                    have f465 := zf hS_s38 ha (k := 4) rfl
                    have f466 := zf hS_s38 ha (k := 5) rfl
                    have f467 := zf hS_s38 ha (k := 3) rfl
                    have f468 := zf hS_s38 ha (k := 0) rfl
                    have f469 := zf hS_s38 ha (k := 7) rfl
                    have f470 := zf hS_s38 ha (k := 24) rfl
                    have f471 := zf hS_s38 ha (k := 38) rfl
                    have f472 := zf hS_s38 ha (k := 51) rfl
                    have f473 := zf hS_s38 ha (k := 52) rfl
                    refine j_callV hx hG (c_X12_readClause hst a v422) lk_RX12_259 ha (by decide) rfl rfl rfl rfl [.int (zI v422)] ⟨rfl, hG, hS_s38, ha, (by omega), ((by rw [(zFr_g hF_s38 (zr (k := 10) (t2 := 73) hG ha rfl) (by decide)), (zFr_g hF_s37 (zr (k := 10) (t2 := 73) hG ha rfl) (by decide)), (zFr_g hF_s36 (zr (k := 10) (t2 := 73) hG ha rfl) (by decide)), (zFr_g hF_s28 (zr (k := 10) (t2 := 73) hG ha rfl) (by decide))]; exact (zQi_k fA18 (by omega) (by omega)))), (by omega), (by omega), (by omega)⟩ rfl rfl ⟨by decide, by decide⟩ ⟨by decide, by decide⟩ (k2 := 0) (n2 := 0) rfl rfl (Nat.le_of_ble_eq_true rfl) dX12_table_148 (kVM (fun s39 hS_s39 hF_s39 q475 => ?_))
                    refine j_aload_n hx 1 dX12_table_151 rfl ?_
                    refine j_bipush hx dX12_table_152 rfl ?_
                    have f476 := zf hS_s39 ha (k := 4) rfl
                    have f477 := zf hS_s39 ha (k := 5) rfl
                    have f478 := zf hS_s39 ha (k := 3) rfl
                    have f479 := zf hS_s39 ha (k := 0) rfl
                    have f480 := zf hS_s39 ha (k := 7) rfl
                    have f481 := zf hS_s39 ha (k := 21) rfl
                    have f482 := zf hS_s39 ha (k := 22) rfl
                    have f483 := zf hS_s39 ha (k := 23) rfl
                    have f484 := zf hS_s39 ha (k := 24) rfl
                    have f485 := zf hS_s39 ha (k := 38) rfl
                    have f486 := zf hS_s39 ha (k := 51) rfl
                    have f487 := zf hS_s39 ha (k := 52) rfl
                    refine j_callV hx hG (c_X12_sign hst a 59) lk_RX12_262 ha (by decide) rfl rfl rfl rfl [.int (zI 59)] ⟨rfl, hG, hS_s39, ha, (by omega)⟩ rfl rfl ⟨by decide, by decide⟩ ⟨by decide, by decide⟩ (k2 := 0) (n2 := 0) rfl rfl (Nat.le_of_ble_eq_true rfl) dX12_table_154 (kVM (fun s40 hS_s40 hF_s40 q489 => ?_))
                    refine j_iinc hx 2 [(2, .int (zI (v99 + 1))), (3, .int (zI v422)), (0, .ref a)] dX12_table_157 rfl (by omega) (by decide) rfl ?_
                    refine j_goto hx 44 dX12_table_160 rfl ?_
                    have f490 := zf hS_s40 ha (k := 4) rfl
                    have f491 := zf hS_s40 ha (k := 5) rfl
                    have f492 := zf hS_s40 ha (k := 0) rfl
                    have f493 := zf hS_s40 ha (k := 3) rfl
                    have f494 := zf hS_s40 ha (k := 7) rfl
                    have f495 := zf hS_s40 ha (k := 24) rfl
                    have f496 := zf hS_s40 ha (k := 38) rfl
                    have f497 := zf hS_s40 ha (k := 51) rfl
                    have f498 := zf hS_s40 ha (k := 52) rfl
                    have g499 : s40 (gP G a 13) 0 = s39 (gP G a 13) 0 := (by rw [(zFr_g hF_s40 (zr (k := 13) (t2 := 76) hG ha rfl) (by decide))])
                    have g500 : s40 (gP G a 13) 1 = s39 (gP G a 13) 1 := (by rw [(zFr_g hF_s40 (zr (k := 13) (t2 := 76) hG ha rfl) (by decide))])
                    have g501 : s40 (gP G a 13) 2 = s39 (gP G a 13) 2 := (by rw [(zFr_g hF_s40 (zr (k := 13) (t2 := 76) hG ha rfl) (by decide))])
                    have f502 := zf hS_s40 ha (k := 22) rfl
                    exact j_sub [2, 0] [(0, .ref a), (2, .int (zI (v99 + 1)))] rfl (ih_c44_6 (v99 + 1) s40 (by omega) (by omega) hS_s40 (zFr_t (zFr_t (zFr_t (zFr_t (zFr_t (zFr_t (zFr_t zFr_rf hF_s7 (by decide)) hF_s28 (by decide)) hF_s36 (by decide)) hF_s37 (by decide)) hF_s38 (by decide)) hF_s39 (by decide)) hF_s40 (by decide)) (by omega) (by omega) (by omega) (by omega) (by omega) (by omega) (by omega) (by rw [(zFr_g hF_s40 (zr (k := 10) (t2 := 73) hG ha rfl) (by decide))]; exact (zQi_k q475.2.2.1 (by omega) (by omega))) (by omega) (by omega))
                  · skip
                    refine j_goto hx 163 dX12_table_139 rfl ?_
                    refine j_aload_n hx 1 dX12_table_163 rfl ?_
                    refine j_callV hx hG (c_X12_fine hst a) lk_RX12_166 ha (by decide) rfl rfl rfl rfl [] ⟨rfl, hG, hS_s37, ha⟩ rfl rfl ⟨by decide, by decide⟩ ⟨by decide, by decide⟩ (k2 := 0) (n2 := 0) rfl rfl (Nat.le_of_ble_eq_true rfl) dX12_table_164 (kIP (fun v503 q504 => ?_))
                    refine j_if_eq hx 187 dX12_table_167 rfl (by omega) (fun h505 => ?_) (fun h505 => ?_)
                    · skip
                      refine j_aload_n hx 1 dX12_table_187 rfl ?_
                      refine j_aload_n hx 1 dX12_table_188 rfl ?_
                      have f506 := zf hS_s37 ha (k := 21) rfl
                      refine g13_21 hx hG ha kf_RX12_180 rfl dX12_table_189 ?_
                      have f507 := zf hS_s37 ha (k := 0) rfl
                      have f508 := zf hS_s37 ha (k := 3) rfl
                      have f509 := zf hS_s37 ha (k := 4) rfl
                      have f510 := zf hS_s37 ha (k := 5) rfl
                      have f511 := zf hS_s37 ha (k := 7) rfl
                      have f512 := zf hS_s37 ha (k := 22) rfl
                      have f513 := zf hS_s37 ha (k := 23) rfl
                      have f514 := zf hS_s37 ha (k := 24) rfl
                      have f515 := zf hS_s37 ha (k := 38) rfl
                      have f516 := zf hS_s37 ha (k := 51) rfl
                      have f517 := zf hS_s37 ha (k := 52) rfl
                      refine j_callV hx hG (c_X12_result hst a ((s37 a 21))) lk_RX12_265 ha (by decide) rfl rfl rfl rfl [.int (zI ((s37 a 21)))] ⟨rfl, hG, hS_s37, ha, (by omega)⟩ rfl rfl ⟨by decide, by decide⟩ ⟨by decide, by decide⟩ (k2 := 0) (n2 := 0) rfl rfl (Nat.le_of_ble_eq_true rfl) dX12_table_192 (kIM (fun v518 s41 hS_s41 hF_s41 q519 => ?_))
                      refine j_istore_n hx [(3, .int (zI v518)), (0, .ref a), (2, .int (zI v99))] dX12_table_195 (by decide) rfl ?_
                      refine j_aload_n hx 1 dX12_table_196 rfl ?_
                      have f520 := zf hS_s41 ha (k := 5) rfl
                      refine g13_5 hx hG ha kf_RX12_137 rfl dX12_table_197 ?_
                      refine j_iconst hx dX12_table_200 ?_
                      refine j_icmp_ne hx 208 dX12_table_201 rfl (by omega) ⟨by decide, by decide⟩ (fun h521 => ?_) (fun h521 => ?_)
                      · skip
                        refine j_iload_n hx 0 dX12_table_208 rfl ?_
                        have g522 : zc (s41 (gP G a 27)) = zc (s0 (gP G a 27)) := by rw [(zFr_g hF_s41 (zr (k := 27) (t2 := 84) hG ha rfl) (by decide)), (zFr_g hF_s37 (zr (k := 27) (t2 := 84) hG ha rfl) (by decide)), (zFr_g hF_s36 (zr (k := 27) (t2 := 84) hG ha rfl) (by decide)), (zFr_g hF_s28 (zr (k := 27) (t2 := 84) hG ha rfl) (by decide)), (zFr_g hF_s7 (zr (k := 27) (t2 := 84) hG ha rfl) (by decide)), (zFr_g hF_s5 (zr (k := 27) (t2 := 84) hG ha rfl) (by decide)), (zFr_g hF_s4 (zr (k := 27) (t2 := 84) hG ha rfl) (by decide)), e_s1, zU_ne (zne (zr (k := 27) (t2 := 84) hG ha rfl) ha (by decide))]
                        have g523 : zc (s41 (gP G a 28)) = zc (s0 (gP G a 28)) := by rw [(zFr_g hF_s41 (zr (k := 28) (t2 := 85) hG ha rfl) (by decide)), (zFr_g hF_s37 (zr (k := 28) (t2 := 85) hG ha rfl) (by decide)), (zFr_g hF_s36 (zr (k := 28) (t2 := 85) hG ha rfl) (by decide)), (zFr_g hF_s28 (zr (k := 28) (t2 := 85) hG ha rfl) (by decide)), (zFr_g hF_s7 (zr (k := 28) (t2 := 85) hG ha rfl) (by decide)), (zFr_g hF_s5 (zr (k := 28) (t2 := 85) hG ha rfl) (by decide)), (zFr_g hF_s4 (zr (k := 28) (t2 := 85) hG ha rfl) (by decide)), e_s1, zU_ne (zne (zr (k := 28) (t2 := 85) hG ha rfl) ha (by decide))]
                        have g524 : s41 (gP G a 27) 488 = s0 (gP G a 27) 488 := (by rw [(zFr_g hF_s41 (zr (k := 27) (t2 := 84) hG ha rfl) (by decide)), (zFr_g hF_s37 (zr (k := 27) (t2 := 84) hG ha rfl) (by decide)), (zFr_g hF_s36 (zr (k := 27) (t2 := 84) hG ha rfl) (by decide)), (zFr_g hF_s28 (zr (k := 27) (t2 := 84) hG ha rfl) (by decide)), (zFr_g hF_s7 (zr (k := 27) (t2 := 84) hG ha rfl) (by decide)), (zFr_g hF_s5 (zr (k := 27) (t2 := 84) hG ha rfl) (by decide)), (zFr_g hF_s4 (zr (k := 27) (t2 := 84) hG ha rfl) (by decide)), e_s1, zU_at (Or.inl (zne ha (zr (k := 27) (t2 := 84) hG ha rfl) (by decide)))])
                        have g525 : s41 (gP G a 28) 488 = s0 (gP G a 28) 488 := (by rw [(zFr_g hF_s41 (zr (k := 28) (t2 := 85) hG ha rfl) (by decide)), (zFr_g hF_s37 (zr (k := 28) (t2 := 85) hG ha rfl) (by decide)), (zFr_g hF_s36 (zr (k := 28) (t2 := 85) hG ha rfl) (by decide)), (zFr_g hF_s28 (zr (k := 28) (t2 := 85) hG ha rfl) (by decide)), (zFr_g hF_s7 (zr (k := 28) (t2 := 85) hG ha rfl) (by decide)), (zFr_g hF_s5 (zr (k := 28) (t2 := 85) hG ha rfl) (by decide)), (zFr_g hF_s4 (zr (k := 28) (t2 := 85) hG ha rfl) (by decide)), e_s1, zU_at (Or.inl (zne ha (zr (k := 28) (t2 := 85) hG ha rfl) (by decide)))])
                        have f526 := zf hS_s41 ha (k := 38) rfl
                        have f527 := zf hS_s41 ha (k := 51) rfl
                        have f528 := zf hS_s41 ha (k := 52) rfl
                        exact j_iret hx hq rfl (by decide) (by decide) dX12_table_209 ⟨v518, rfl, rfl, hS_s41, (zFr_t (zFr_t (zFr_t (zFr_t (zFr_t (zFr_t (zFr_t (zFr_u zFr_rf e_s1 ha (by decide)) hF_s4 (by decide)) hF_s5 (by decide)) hF_s7 (by decide)) hF_s28 (by decide)) hF_s36 (by decide)) hF_s37 (by decide)) hF_s41 (by decide)), ⟨(by omega), by omega, by omega, by omega, by omega, (by rw [(zFr_g hF_s41 (zr (k := 34) (t2 := 91) hG ha rfl) (by decide)), (zFr_g hF_s37 (zr (k := 34) (t2 := 91) hG ha rfl) (by decide)), (zFr_g hF_s36 (zr (k := 34) (t2 := 91) hG ha rfl) (by decide)), (zFr_g hF_s28 (zr (k := 34) (t2 := 91) hG ha rfl) (by decide)), (zFr_g hF_s7 (zr (k := 34) (t2 := 91) hG ha rfl) (by decide)), (zFr_g hF_s5 (zr (k := 34) (t2 := 91) hG ha rfl) (by decide)), (zFr_g hF_s4 (zr (k := 34) (t2 := 91) hG ha rfl) (by decide)), e_s1, zU_ne (zne (zr (k := 34) (t2 := 91) hG ha rfl) ha (by decide)), (zFr_g hF_s41 (zr (k := 35) (t2 := 92) hG ha rfl) (by decide)), (zFr_g hF_s37 (zr (k := 35) (t2 := 92) hG ha rfl) (by decide)), (zFr_g hF_s36 (zr (k := 35) (t2 := 92) hG ha rfl) (by decide)), (zFr_g hF_s28 (zr (k := 35) (t2 := 92) hG ha rfl) (by decide)), (zFr_g hF_s7 (zr (k := 35) (t2 := 92) hG ha rfl) (by decide)), (zFr_g hF_s5 (zr (k := 35) (t2 := 92) hG ha rfl) (by decide)), (zFr_g hF_s4 (zr (k := 35) (t2 := 92) hG ha rfl) (by decide)), e_s1, zU_ne (zne (zr (k := 35) (t2 := 92) hG ha rfl) ha (by decide)), (zFr_g hF_s41 (zr (k := 37) (t2 := 94) hG ha rfl) (by decide)), (zFr_g hF_s37 (zr (k := 37) (t2 := 94) hG ha rfl) (by decide)), (zFr_g hF_s36 (zr (k := 37) (t2 := 94) hG ha rfl) (by decide)), (zFr_g hF_s28 (zr (k := 37) (t2 := 94) hG ha rfl) (by decide)), (zFr_g hF_s7 (zr (k := 37) (t2 := 94) hG ha rfl) (by decide)), (zFr_g hF_s5 (zr (k := 37) (t2 := 94) hG ha rfl) (by decide)), (zFr_g hF_s4 (zr (k := 37) (t2 := 94) hG ha rfl) (by decide)), e_s1, zU_ne (zne (zr (k := 37) (t2 := 94) hG ha rfl) ha (by decide))]; exact e2), (by rw [(zFr_g hF_s41 (zr (k := 17) (t2 := 80) hG ha rfl) (by decide)), (zFr_g hF_s37 (zr (k := 17) (t2 := 80) hG ha rfl) (by decide)), (zFr_g hF_s36 (zr (k := 17) (t2 := 80) hG ha rfl) (by decide)), (zFr_g hF_s28 (zr (k := 17) (t2 := 80) hG ha rfl) (by decide)), (zFr_g hF_s7 (zr (k := 17) (t2 := 80) hG ha rfl) (by decide)), (zFr_g hF_s5 (zr (k := 17) (t2 := 80) hG ha rfl) (by decide)), (zFr_g hF_s4 (zr (k := 17) (t2 := 80) hG ha rfl) (by decide)), e_s1, zU_ne (zne (zr (k := 17) (t2 := 80) hG ha rfl) ha (by decide))]; exact (zQn_nn e3 (by omega))), by omega, by omega, by omega⟩⟩
                      · skip
                        refine j_aload_n hx 1 dX12_table_204 rfl ?_
                        have f529 := zf hS_s41 ha (k := 21) rfl
                        have hP530 : zQn (s41 (gP G a 10)) (s41 a 21) := ((by rw [(zFr_g hF_s41 (zr (k := 10) (t2 := 73) hG ha rfl) (by decide)), (zFr_g hF_s37 (zr (k := 10) (t2 := 73) hG ha rfl) (by decide)), (zFr_g hF_s36 (zr (k := 10) (t2 := 73) hG ha rfl) (by decide)), (zFr_g hF_s28 (zr (k := 10) (t2 := 73) hG ha rfl) (by decide))]; exact (zQi_k fA18 (by omega) (by omega))) (by omega))
                        have g531 : s41 (gP G a 13) 0 = s7 (gP G a 13) 0 := (by rw [(zFr_g hF_s41 (zr (k := 13) (t2 := 76) hG ha rfl) (by decide)), (zFr_g hF_s37 (zr (k := 13) (t2 := 76) hG ha rfl) (by decide)), (zFr_g hF_s36 (zr (k := 13) (t2 := 76) hG ha rfl) (by decide)), (zFr_g hF_s28 (zr (k := 13) (t2 := 76) hG ha rfl) (by decide))])
                        have g532 : s41 (gP G a 13) 1 = s7 (gP G a 13) 1 := (by rw [(zFr_g hF_s41 (zr (k := 13) (t2 := 76) hG ha rfl) (by decide)), (zFr_g hF_s37 (zr (k := 13) (t2 := 76) hG ha rfl) (by decide)), (zFr_g hF_s36 (zr (k := 13) (t2 := 76) hG ha rfl) (by decide)), (zFr_g hF_s28 (zr (k := 13) (t2 := 76) hG ha rfl) (by decide))])
                        have g533 : s41 (gP G a 13) 2 = s7 (gP G a 13) 2 := (by rw [(zFr_g hF_s41 (zr (k := 13) (t2 := 76) hG ha rfl) (by decide)), (zFr_g hF_s37 (zr (k := 13) (t2 := 76) hG ha rfl) (by decide)), (zFr_g hF_s36 (zr (k := 13) (t2 := 76) hG ha rfl) (by decide)), (zFr_g hF_s28 (zr (k := 13) (t2 := 76) hG ha rfl) (by decide))])
                        have f534 := zf hS_s41 ha (k := 0) rfl
                        have f535 := zf hS_s41 ha (k := 3) rfl
                        have f536 := zf hS_s41 ha (k := 4) rfl
                        have f537 := zf hS_s41 ha (k := 7) rfl
                        have f538 := zf hS_s41 ha (k := 22) rfl
                        have f539 := zf hS_s41 ha (k := 23) rfl
                        have f540 := zf hS_s41 ha (k := 38) rfl
                        have f541 := zf hS_s41 ha (k := 51) rfl
                        have f542 := zf hS_s41 ha (k := 52) rfl
                        refine j_callV hx hG (c_X12_sets hst a) lk_RX12_131 ha (by decide) rfl rfl rfl rfl [] ⟨rfl, hG, hS_s41, ha, (by omega), ((zQn_nn hP530 (by omega)))⟩ rfl rfl ⟨by decide, by decide⟩ ⟨by decide, by decide⟩ (k2 := 0) (n2 := 0) rfl rfl (Nat.le_of_ble_eq_true rfl) dX12_table_205 (kVM (fun s42 hS_s42 hF_s42 q544 => ?_))
                        refine j_iload_n hx 0 dX12_table_208 rfl ?_
                        have f545 := zf hS_s42 ha (k := 38) rfl
                        have f546 := zf hS_s42 ha (k := 51) rfl
                        have f547 := zf hS_s42 ha (k := 52) rfl
                        exact j_iret hx hq rfl (by decide) (by decide) dX12_table_209 ⟨v518, rfl, rfl, hS_s42, (zFr_t (zFr_t (zFr_t (zFr_t (zFr_t (zFr_t (zFr_t (zFr_t (zFr_u zFr_rf e_s1 ha (by decide)) hF_s4 (by decide)) hF_s5 (by decide)) hF_s7 (by decide)) hF_s28 (by decide)) hF_s36 (by decide)) hF_s37 (by decide)) hF_s41 (by decide)) hF_s42 (by decide)), ⟨(by omega), by omega, by omega, by omega, by omega, q544.2.2.2.2.2.1, (zQn_nn q544.2.2.2.2.1 (by omega)), by omega, by omega, by omega⟩⟩
                    · skip
                      refine j_aload_n hx 1 dX12_table_170 rfl ?_
                      have f548 := zf hS_s37 ha (k := 21) rfl
                      refine g13_21 hx hG ha kf_RX12_180 rfl dX12_table_171 ?_
                      refine j_iconst hx dX12_table_174 ?_
                      refine j_icmp_ge hx 187 dX12_table_175 rfl (by omega) ⟨by decide, by decide⟩ (fun h549 => ?_) (fun h549 => ?_)
                      · skip
                        refine j_aload_n hx 1 dX12_table_187 rfl ?_
                        refine j_aload_n hx 1 dX12_table_188 rfl ?_
                        refine g13_21 hx hG ha kf_RX12_180 rfl dX12_table_189 ?_
                        have f550 := zf hS_s37 ha (k := 0) rfl
                        have f551 := zf hS_s37 ha (k := 3) rfl
                        have f552 := zf hS_s37 ha (k := 4) rfl
                        have f553 := zf hS_s37 ha (k := 5) rfl
                        have f554 := zf hS_s37 ha (k := 7) rfl
                        have f555 := zf hS_s37 ha (k := 22) rfl
                        have f556 := zf hS_s37 ha (k := 23) rfl
                        have f557 := zf hS_s37 ha (k := 24) rfl
                        have f558 := zf hS_s37 ha (k := 38) rfl
                        have f559 := zf hS_s37 ha (k := 51) rfl
                        have f560 := zf hS_s37 ha (k := 52) rfl
                        refine j_callV hx hG (c_X12_result hst a ((s37 a 21))) lk_RX12_265 ha (by decide) rfl rfl rfl rfl [.int (zI ((s37 a 21)))] ⟨rfl, hG, hS_s37, ha, (by omega)⟩ rfl rfl ⟨by decide, by decide⟩ ⟨by decide, by decide⟩ (k2 := 0) (n2 := 0) rfl rfl (Nat.le_of_ble_eq_true rfl) dX12_table_192 (kIM (fun v561 s43 hS_s43 hF_s43 q562 => ?_))
                        refine j_istore_n hx [(3, .int (zI v561)), (0, .ref a), (2, .int (zI v99))] dX12_table_195 (by decide) rfl ?_
                        refine j_aload_n hx 1 dX12_table_196 rfl ?_
                        have f563 := zf hS_s43 ha (k := 5) rfl
                        refine g13_5 hx hG ha kf_RX12_137 rfl dX12_table_197 ?_
                        refine j_iconst hx dX12_table_200 ?_
                        refine j_icmp_ne hx 208 dX12_table_201 rfl (by omega) ⟨by decide, by decide⟩ (fun h564 => ?_) (fun h564 => ?_)
                        · skip
                          refine j_iload_n hx 0 dX12_table_208 rfl ?_
                          have g565 : zc (s43 (gP G a 27)) = zc (s0 (gP G a 27)) := by rw [(zFr_g hF_s43 (zr (k := 27) (t2 := 84) hG ha rfl) (by decide)), (zFr_g hF_s37 (zr (k := 27) (t2 := 84) hG ha rfl) (by decide)), (zFr_g hF_s36 (zr (k := 27) (t2 := 84) hG ha rfl) (by decide)), (zFr_g hF_s28 (zr (k := 27) (t2 := 84) hG ha rfl) (by decide)), (zFr_g hF_s7 (zr (k := 27) (t2 := 84) hG ha rfl) (by decide)), (zFr_g hF_s5 (zr (k := 27) (t2 := 84) hG ha rfl) (by decide)), (zFr_g hF_s4 (zr (k := 27) (t2 := 84) hG ha rfl) (by decide)), e_s1, zU_ne (zne (zr (k := 27) (t2 := 84) hG ha rfl) ha (by decide))]
                          have g566 : zc (s43 (gP G a 28)) = zc (s0 (gP G a 28)) := by rw [(zFr_g hF_s43 (zr (k := 28) (t2 := 85) hG ha rfl) (by decide)), (zFr_g hF_s37 (zr (k := 28) (t2 := 85) hG ha rfl) (by decide)), (zFr_g hF_s36 (zr (k := 28) (t2 := 85) hG ha rfl) (by decide)), (zFr_g hF_s28 (zr (k := 28) (t2 := 85) hG ha rfl) (by decide)), (zFr_g hF_s7 (zr (k := 28) (t2 := 85) hG ha rfl) (by decide)), (zFr_g hF_s5 (zr (k := 28) (t2 := 85) hG ha rfl) (by decide)), (zFr_g hF_s4 (zr (k := 28) (t2 := 85) hG ha rfl) (by decide)), e_s1, zU_ne (zne (zr (k := 28) (t2 := 85) hG ha rfl) ha (by decide))]
                          have g567 : s43 (gP G a 27) 488 = s0 (gP G a 27) 488 := (by rw [(zFr_g hF_s43 (zr (k := 27) (t2 := 84) hG ha rfl) (by decide)), (zFr_g hF_s37 (zr (k := 27) (t2 := 84) hG ha rfl) (by decide)), (zFr_g hF_s36 (zr (k := 27) (t2 := 84) hG ha rfl) (by decide)), (zFr_g hF_s28 (zr (k := 27) (t2 := 84) hG ha rfl) (by decide)), (zFr_g hF_s7 (zr (k := 27) (t2 := 84) hG ha rfl) (by decide)), (zFr_g hF_s5 (zr (k := 27) (t2 := 84) hG ha rfl) (by decide)), (zFr_g hF_s4 (zr (k := 27) (t2 := 84) hG ha rfl) (by decide)), e_s1, zU_at (Or.inl (zne ha (zr (k := 27) (t2 := 84) hG ha rfl) (by decide)))])
                          have g568 : s43 (gP G a 28) 488 = s0 (gP G a 28) 488 := (by rw [(zFr_g hF_s43 (zr (k := 28) (t2 := 85) hG ha rfl) (by decide)), (zFr_g hF_s37 (zr (k := 28) (t2 := 85) hG ha rfl) (by decide)), (zFr_g hF_s36 (zr (k := 28) (t2 := 85) hG ha rfl) (by decide)), (zFr_g hF_s28 (zr (k := 28) (t2 := 85) hG ha rfl) (by decide)), (zFr_g hF_s7 (zr (k := 28) (t2 := 85) hG ha rfl) (by decide)), (zFr_g hF_s5 (zr (k := 28) (t2 := 85) hG ha rfl) (by decide)), (zFr_g hF_s4 (zr (k := 28) (t2 := 85) hG ha rfl) (by decide)), e_s1, zU_at (Or.inl (zne ha (zr (k := 28) (t2 := 85) hG ha rfl) (by decide)))])
                          have f569 := zf hS_s43 ha (k := 38) rfl
                          have f570 := zf hS_s43 ha (k := 51) rfl
                          have f571 := zf hS_s43 ha (k := 52) rfl
                          exact j_iret hx hq rfl (by decide) (by decide) dX12_table_209 ⟨v561, rfl, rfl, hS_s43, (zFr_t (zFr_t (zFr_t (zFr_t (zFr_t (zFr_t (zFr_t (zFr_u zFr_rf e_s1 ha (by decide)) hF_s4 (by decide)) hF_s5 (by decide)) hF_s7 (by decide)) hF_s28 (by decide)) hF_s36 (by decide)) hF_s37 (by decide)) hF_s43 (by decide)), ⟨(by omega), by omega, by omega, by omega, by omega, (by rw [(zFr_g hF_s43 (zr (k := 34) (t2 := 91) hG ha rfl) (by decide)), (zFr_g hF_s37 (zr (k := 34) (t2 := 91) hG ha rfl) (by decide)), (zFr_g hF_s36 (zr (k := 34) (t2 := 91) hG ha rfl) (by decide)), (zFr_g hF_s28 (zr (k := 34) (t2 := 91) hG ha rfl) (by decide)), (zFr_g hF_s7 (zr (k := 34) (t2 := 91) hG ha rfl) (by decide)), (zFr_g hF_s5 (zr (k := 34) (t2 := 91) hG ha rfl) (by decide)), (zFr_g hF_s4 (zr (k := 34) (t2 := 91) hG ha rfl) (by decide)), e_s1, zU_ne (zne (zr (k := 34) (t2 := 91) hG ha rfl) ha (by decide)), (zFr_g hF_s43 (zr (k := 35) (t2 := 92) hG ha rfl) (by decide)), (zFr_g hF_s37 (zr (k := 35) (t2 := 92) hG ha rfl) (by decide)), (zFr_g hF_s36 (zr (k := 35) (t2 := 92) hG ha rfl) (by decide)), (zFr_g hF_s28 (zr (k := 35) (t2 := 92) hG ha rfl) (by decide)), (zFr_g hF_s7 (zr (k := 35) (t2 := 92) hG ha rfl) (by decide)), (zFr_g hF_s5 (zr (k := 35) (t2 := 92) hG ha rfl) (by decide)), (zFr_g hF_s4 (zr (k := 35) (t2 := 92) hG ha rfl) (by decide)), e_s1, zU_ne (zne (zr (k := 35) (t2 := 92) hG ha rfl) ha (by decide)), (zFr_g hF_s43 (zr (k := 37) (t2 := 94) hG ha rfl) (by decide)), (zFr_g hF_s37 (zr (k := 37) (t2 := 94) hG ha rfl) (by decide)), (zFr_g hF_s36 (zr (k := 37) (t2 := 94) hG ha rfl) (by decide)), (zFr_g hF_s28 (zr (k := 37) (t2 := 94) hG ha rfl) (by decide)), (zFr_g hF_s7 (zr (k := 37) (t2 := 94) hG ha rfl) (by decide)), (zFr_g hF_s5 (zr (k := 37) (t2 := 94) hG ha rfl) (by decide)), (zFr_g hF_s4 (zr (k := 37) (t2 := 94) hG ha rfl) (by decide)), e_s1, zU_ne (zne (zr (k := 37) (t2 := 94) hG ha rfl) ha (by decide))]; exact e2), (by rw [(zFr_g hF_s43 (zr (k := 17) (t2 := 80) hG ha rfl) (by decide)), (zFr_g hF_s37 (zr (k := 17) (t2 := 80) hG ha rfl) (by decide)), (zFr_g hF_s36 (zr (k := 17) (t2 := 80) hG ha rfl) (by decide)), (zFr_g hF_s28 (zr (k := 17) (t2 := 80) hG ha rfl) (by decide)), (zFr_g hF_s7 (zr (k := 17) (t2 := 80) hG ha rfl) (by decide)), (zFr_g hF_s5 (zr (k := 17) (t2 := 80) hG ha rfl) (by decide)), (zFr_g hF_s4 (zr (k := 17) (t2 := 80) hG ha rfl) (by decide)), e_s1, zU_ne (zne (zr (k := 17) (t2 := 80) hG ha rfl) ha (by decide))]; exact (zQn_nn e3 (by omega))), by omega, by omega, by omega⟩⟩
                        · skip
                          refine j_aload_n hx 1 dX12_table_204 rfl ?_
                          have f572 := zf hS_s43 ha (k := 21) rfl
                          have hP573 : zQn (s43 (gP G a 10)) (s43 a 21) := ((by rw [(zFr_g hF_s43 (zr (k := 10) (t2 := 73) hG ha rfl) (by decide)), (zFr_g hF_s37 (zr (k := 10) (t2 := 73) hG ha rfl) (by decide)), (zFr_g hF_s36 (zr (k := 10) (t2 := 73) hG ha rfl) (by decide)), (zFr_g hF_s28 (zr (k := 10) (t2 := 73) hG ha rfl) (by decide))]; exact (zQi_k fA18 (by omega) (by omega))) (by omega))
                          have g574 : s43 (gP G a 13) 0 = s7 (gP G a 13) 0 := (by rw [(zFr_g hF_s43 (zr (k := 13) (t2 := 76) hG ha rfl) (by decide)), (zFr_g hF_s37 (zr (k := 13) (t2 := 76) hG ha rfl) (by decide)), (zFr_g hF_s36 (zr (k := 13) (t2 := 76) hG ha rfl) (by decide)), (zFr_g hF_s28 (zr (k := 13) (t2 := 76) hG ha rfl) (by decide))])
                          have g575 : s43 (gP G a 13) 1 = s7 (gP G a 13) 1 := (by rw [(zFr_g hF_s43 (zr (k := 13) (t2 := 76) hG ha rfl) (by decide)), (zFr_g hF_s37 (zr (k := 13) (t2 := 76) hG ha rfl) (by decide)), (zFr_g hF_s36 (zr (k := 13) (t2 := 76) hG ha rfl) (by decide)), (zFr_g hF_s28 (zr (k := 13) (t2 := 76) hG ha rfl) (by decide))])
                          have g576 : s43 (gP G a 13) 2 = s7 (gP G a 13) 2 := (by rw [(zFr_g hF_s43 (zr (k := 13) (t2 := 76) hG ha rfl) (by decide)), (zFr_g hF_s37 (zr (k := 13) (t2 := 76) hG ha rfl) (by decide)), (zFr_g hF_s36 (zr (k := 13) (t2 := 76) hG ha rfl) (by decide)), (zFr_g hF_s28 (zr (k := 13) (t2 := 76) hG ha rfl) (by decide))])
                          have f577 := zf hS_s43 ha (k := 0) rfl
                          have f578 := zf hS_s43 ha (k := 3) rfl
                          have f579 := zf hS_s43 ha (k := 4) rfl
                          have f580 := zf hS_s43 ha (k := 7) rfl
                          have f581 := zf hS_s43 ha (k := 22) rfl
                          have f582 := zf hS_s43 ha (k := 23) rfl
                          have f583 := zf hS_s43 ha (k := 38) rfl
                          have f584 := zf hS_s43 ha (k := 51) rfl
                          have f585 := zf hS_s43 ha (k := 52) rfl
                          refine j_callV hx hG (c_X12_sets hst a) lk_RX12_131 ha (by decide) rfl rfl rfl rfl [] ⟨rfl, hG, hS_s43, ha, (by omega), ((zQn_nn hP573 (by omega)))⟩ rfl rfl ⟨by decide, by decide⟩ ⟨by decide, by decide⟩ (k2 := 0) (n2 := 0) rfl rfl (Nat.le_of_ble_eq_true rfl) dX12_table_205 (kVM (fun s44 hS_s44 hF_s44 q587 => ?_))
                          refine j_iload_n hx 0 dX12_table_208 rfl ?_
                          have f588 := zf hS_s44 ha (k := 38) rfl
                          have f589 := zf hS_s44 ha (k := 51) rfl
                          have f590 := zf hS_s44 ha (k := 52) rfl
                          exact j_iret hx hq rfl (by decide) (by decide) dX12_table_209 ⟨v561, rfl, rfl, hS_s44, (zFr_t (zFr_t (zFr_t (zFr_t (zFr_t (zFr_t (zFr_t (zFr_t (zFr_u zFr_rf e_s1 ha (by decide)) hF_s4 (by decide)) hF_s5 (by decide)) hF_s7 (by decide)) hF_s28 (by decide)) hF_s36 (by decide)) hF_s37 (by decide)) hF_s43 (by decide)) hF_s44 (by decide)), ⟨(by omega), by omega, by omega, by omega, by omega, q587.2.2.2.2.2.1, (zQn_nn q587.2.2.2.2.1 (by omega)), by omega, by omega, by omega⟩⟩
                      · skip
                        refine j_aload_n hx 1 dX12_table_178 rfl ?_
                        refine j_iconst hx dX12_table_179 ?_
                        refine j_aload_n hx 1 dX12_table_180 rfl ?_
                        have f591 := zf hS_s37 ha (k := 3) rfl
                        refine g13_3 hx hG ha kf_RX12_146 rfl dX12_table_181 ?_
                        have f592 := zf hS_s37 ha (k := 0) rfl
                        have f593 := zf hS_s37 ha (k := 4) rfl
                        have f594 := zf hS_s37 ha (k := 7) rfl
                        have f595 := zf hS_s37 ha (k := 22) rfl
                        have f596 := zf hS_s37 ha (k := 23) rfl
                        have f597 := zf hS_s37 ha (k := 24) rfl
                        have f598 := zf hS_s37 ha (k := 38) rfl
                        have f599 := zf hS_s37 ha (k := 51) rfl
                        have f600 := zf hS_s37 ha (k := 52) rfl
                        refine j_callV hx hG (c_X12_wrong hst a 4 ((s37 a 3))) lk_RX12_173 ha (by decide) rfl rfl rfl rfl [.int (zI 4), .int (zI ((s37 a 3)))] ⟨rfl, hG, hS_s37, ha, (by omega), (by omega)⟩ rfl rfl ⟨by decide, by decide⟩ ⟨by decide, by decide⟩ (k2 := 0) (n2 := 0) rfl rfl (Nat.le_of_ble_eq_true rfl) dX12_table_184 (kVM (fun s45 hS_s45 hF_s45 q602 => ?_))
                        refine j_aload_n hx 1 dX12_table_187 rfl ?_
                        refine j_aload_n hx 1 dX12_table_188 rfl ?_
                        have f603 := zf hS_s45 ha (k := 21) rfl
                        refine g13_21 hx hG ha kf_RX12_180 rfl dX12_table_189 ?_
                        have f604 := zf hS_s45 ha (k := 0) rfl
                        have f605 := zf hS_s45 ha (k := 3) rfl
                        have f606 := zf hS_s45 ha (k := 4) rfl
                        have f607 := zf hS_s45 ha (k := 5) rfl
                        have f608 := zf hS_s45 ha (k := 7) rfl
                        have f609 := zf hS_s45 ha (k := 22) rfl
                        have f610 := zf hS_s45 ha (k := 23) rfl
                        have f611 := zf hS_s45 ha (k := 24) rfl
                        have f612 := zf hS_s45 ha (k := 38) rfl
                        have f613 := zf hS_s45 ha (k := 51) rfl
                        have f614 := zf hS_s45 ha (k := 52) rfl
                        refine j_callV hx hG (c_X12_result hst a ((s45 a 21))) lk_RX12_265 ha (by decide) rfl rfl rfl rfl [.int (zI ((s45 a 21)))] ⟨rfl, hG, hS_s45, ha, (by omega)⟩ rfl rfl ⟨by decide, by decide⟩ ⟨by decide, by decide⟩ (k2 := 0) (n2 := 0) rfl rfl (Nat.le_of_ble_eq_true rfl) dX12_table_192 (kIM (fun v615 s46 hS_s46 hF_s46 q616 => ?_))
                        refine j_istore_n hx [(3, .int (zI v615)), (0, .ref a), (2, .int (zI v99))] dX12_table_195 (by decide) rfl ?_
                        refine j_aload_n hx 1 dX12_table_196 rfl ?_
                        have f617 := zf hS_s46 ha (k := 5) rfl
                        refine g13_5 hx hG ha kf_RX12_137 rfl dX12_table_197 ?_
                        refine j_iconst hx dX12_table_200 ?_
                        refine j_icmp_ne hx 208 dX12_table_201 rfl (by omega) ⟨by decide, by decide⟩ (fun h618 => ?_) (fun h618 => ?_)
                        · skip
                          refine j_iload_n hx 0 dX12_table_208 rfl ?_
                          have g619 : zc (s46 (gP G a 27)) = zc (s0 (gP G a 27)) := by rw [(zFr_g hF_s46 (zr (k := 27) (t2 := 84) hG ha rfl) (by decide)), (zFr_g hF_s45 (zr (k := 27) (t2 := 84) hG ha rfl) (by decide)), (zFr_g hF_s37 (zr (k := 27) (t2 := 84) hG ha rfl) (by decide)), (zFr_g hF_s36 (zr (k := 27) (t2 := 84) hG ha rfl) (by decide)), (zFr_g hF_s28 (zr (k := 27) (t2 := 84) hG ha rfl) (by decide)), (zFr_g hF_s7 (zr (k := 27) (t2 := 84) hG ha rfl) (by decide)), (zFr_g hF_s5 (zr (k := 27) (t2 := 84) hG ha rfl) (by decide)), (zFr_g hF_s4 (zr (k := 27) (t2 := 84) hG ha rfl) (by decide)), e_s1, zU_ne (zne (zr (k := 27) (t2 := 84) hG ha rfl) ha (by decide))]
                          have g620 : zc (s46 (gP G a 28)) = zc (s0 (gP G a 28)) := by rw [(zFr_g hF_s46 (zr (k := 28) (t2 := 85) hG ha rfl) (by decide)), (zFr_g hF_s45 (zr (k := 28) (t2 := 85) hG ha rfl) (by decide)), (zFr_g hF_s37 (zr (k := 28) (t2 := 85) hG ha rfl) (by decide)), (zFr_g hF_s36 (zr (k := 28) (t2 := 85) hG ha rfl) (by decide)), (zFr_g hF_s28 (zr (k := 28) (t2 := 85) hG ha rfl) (by decide)), (zFr_g hF_s7 (zr (k := 28) (t2 := 85) hG ha rfl) (by decide)), (zFr_g hF_s5 (zr (k := 28) (t2 := 85) hG ha rfl) (by decide)), (zFr_g hF_s4 (zr (k := 28) (t2 := 85) hG ha rfl) (by decide)), e_s1, zU_ne (zne (zr (k := 28) (t2 := 85) hG ha rfl) ha (by decide))]
                          have g621 : s46 (gP G a 27) 488 = s0 (gP G a 27) 488 := (by rw [(zFr_g hF_s46 (zr (k := 27) (t2 := 84) hG ha rfl) (by decide)), (zFr_g hF_s45 (zr (k := 27) (t2 := 84) hG ha rfl) (by decide)), (zFr_g hF_s37 (zr (k := 27) (t2 := 84) hG ha rfl) (by decide)), (zFr_g hF_s36 (zr (k := 27) (t2 := 84) hG ha rfl) (by decide)), (zFr_g hF_s28 (zr (k := 27) (t2 := 84) hG ha rfl) (by decide)), (zFr_g hF_s7 (zr (k := 27) (t2 := 84) hG ha rfl) (by decide)), (zFr_g hF_s5 (zr (k := 27) (t2 := 84) hG ha rfl) (by decide)), (zFr_g hF_s4 (zr (k := 27) (t2 := 84) hG ha rfl) (by decide)), e_s1, zU_at (Or.inl (zne ha (zr (k := 27) (t2 := 84) hG ha rfl) (by decide)))])
                          have g622 : s46 (gP G a 28) 488 = s0 (gP G a 28) 488 := (by rw [(zFr_g hF_s46 (zr (k := 28) (t2 := 85) hG ha rfl) (by decide)), (zFr_g hF_s45 (zr (k := 28) (t2 := 85) hG ha rfl) (by decide)), (zFr_g hF_s37 (zr (k := 28) (t2 := 85) hG ha rfl) (by decide)), (zFr_g hF_s36 (zr (k := 28) (t2 := 85) hG ha rfl) (by decide)), (zFr_g hF_s28 (zr (k := 28) (t2 := 85) hG ha rfl) (by decide)), (zFr_g hF_s7 (zr (k := 28) (t2 := 85) hG ha rfl) (by decide)), (zFr_g hF_s5 (zr (k := 28) (t2 := 85) hG ha rfl) (by decide)), (zFr_g hF_s4 (zr (k := 28) (t2 := 85) hG ha rfl) (by decide)), e_s1, zU_at (Or.inl (zne ha (zr (k := 28) (t2 := 85) hG ha rfl) (by decide)))])
                          have f623 := zf hS_s46 ha (k := 38) rfl
                          have f624 := zf hS_s46 ha (k := 51) rfl
                          have f625 := zf hS_s46 ha (k := 52) rfl
                          exact j_iret hx hq rfl (by decide) (by decide) dX12_table_209 ⟨v615, rfl, rfl, hS_s46, (zFr_t (zFr_t (zFr_t (zFr_t (zFr_t (zFr_t (zFr_t (zFr_t (zFr_u zFr_rf e_s1 ha (by decide)) hF_s4 (by decide)) hF_s5 (by decide)) hF_s7 (by decide)) hF_s28 (by decide)) hF_s36 (by decide)) hF_s37 (by decide)) hF_s45 (by decide)) hF_s46 (by decide)), ⟨(by omega), by omega, by omega, by omega, by omega, (by rw [(zFr_g hF_s46 (zr (k := 34) (t2 := 91) hG ha rfl) (by decide)), (zFr_g hF_s45 (zr (k := 34) (t2 := 91) hG ha rfl) (by decide)), (zFr_g hF_s37 (zr (k := 34) (t2 := 91) hG ha rfl) (by decide)), (zFr_g hF_s36 (zr (k := 34) (t2 := 91) hG ha rfl) (by decide)), (zFr_g hF_s28 (zr (k := 34) (t2 := 91) hG ha rfl) (by decide)), (zFr_g hF_s7 (zr (k := 34) (t2 := 91) hG ha rfl) (by decide)), (zFr_g hF_s5 (zr (k := 34) (t2 := 91) hG ha rfl) (by decide)), (zFr_g hF_s4 (zr (k := 34) (t2 := 91) hG ha rfl) (by decide)), e_s1, zU_ne (zne (zr (k := 34) (t2 := 91) hG ha rfl) ha (by decide)), (zFr_g hF_s46 (zr (k := 35) (t2 := 92) hG ha rfl) (by decide)), (zFr_g hF_s45 (zr (k := 35) (t2 := 92) hG ha rfl) (by decide)), (zFr_g hF_s37 (zr (k := 35) (t2 := 92) hG ha rfl) (by decide)), (zFr_g hF_s36 (zr (k := 35) (t2 := 92) hG ha rfl) (by decide)), (zFr_g hF_s28 (zr (k := 35) (t2 := 92) hG ha rfl) (by decide)), (zFr_g hF_s7 (zr (k := 35) (t2 := 92) hG ha rfl) (by decide)), (zFr_g hF_s5 (zr (k := 35) (t2 := 92) hG ha rfl) (by decide)), (zFr_g hF_s4 (zr (k := 35) (t2 := 92) hG ha rfl) (by decide)), e_s1, zU_ne (zne (zr (k := 35) (t2 := 92) hG ha rfl) ha (by decide)), (zFr_g hF_s46 (zr (k := 37) (t2 := 94) hG ha rfl) (by decide)), (zFr_g hF_s45 (zr (k := 37) (t2 := 94) hG ha rfl) (by decide)), (zFr_g hF_s37 (zr (k := 37) (t2 := 94) hG ha rfl) (by decide)), (zFr_g hF_s36 (zr (k := 37) (t2 := 94) hG ha rfl) (by decide)), (zFr_g hF_s28 (zr (k := 37) (t2 := 94) hG ha rfl) (by decide)), (zFr_g hF_s7 (zr (k := 37) (t2 := 94) hG ha rfl) (by decide)), (zFr_g hF_s5 (zr (k := 37) (t2 := 94) hG ha rfl) (by decide)), (zFr_g hF_s4 (zr (k := 37) (t2 := 94) hG ha rfl) (by decide)), e_s1, zU_ne (zne (zr (k := 37) (t2 := 94) hG ha rfl) ha (by decide))]; exact e2), (by rw [(zFr_g hF_s46 (zr (k := 17) (t2 := 80) hG ha rfl) (by decide)), (zFr_g hF_s45 (zr (k := 17) (t2 := 80) hG ha rfl) (by decide)), (zFr_g hF_s37 (zr (k := 17) (t2 := 80) hG ha rfl) (by decide)), (zFr_g hF_s36 (zr (k := 17) (t2 := 80) hG ha rfl) (by decide)), (zFr_g hF_s28 (zr (k := 17) (t2 := 80) hG ha rfl) (by decide)), (zFr_g hF_s7 (zr (k := 17) (t2 := 80) hG ha rfl) (by decide)), (zFr_g hF_s5 (zr (k := 17) (t2 := 80) hG ha rfl) (by decide)), (zFr_g hF_s4 (zr (k := 17) (t2 := 80) hG ha rfl) (by decide)), e_s1, zU_ne (zne (zr (k := 17) (t2 := 80) hG ha rfl) ha (by decide))]; exact (zQn_nn e3 (by omega))), by omega, by omega, by omega⟩⟩
                        · skip
                          refine j_aload_n hx 1 dX12_table_204 rfl ?_
                          have f626 := zf hS_s46 ha (k := 21) rfl
                          have hP627 : zQn (s46 (gP G a 10)) (s46 a 21) := ((by rw [(zFr_g hF_s46 (zr (k := 10) (t2 := 73) hG ha rfl) (by decide)), (zFr_g hF_s45 (zr (k := 10) (t2 := 73) hG ha rfl) (by decide)), (zFr_g hF_s37 (zr (k := 10) (t2 := 73) hG ha rfl) (by decide)), (zFr_g hF_s36 (zr (k := 10) (t2 := 73) hG ha rfl) (by decide)), (zFr_g hF_s28 (zr (k := 10) (t2 := 73) hG ha rfl) (by decide))]; exact (zQi_k fA18 (by omega) (by omega))) (by omega))
                          have g628 : s46 (gP G a 13) 0 = s7 (gP G a 13) 0 := (by rw [(zFr_g hF_s46 (zr (k := 13) (t2 := 76) hG ha rfl) (by decide)), (zFr_g hF_s45 (zr (k := 13) (t2 := 76) hG ha rfl) (by decide)), (zFr_g hF_s37 (zr (k := 13) (t2 := 76) hG ha rfl) (by decide)), (zFr_g hF_s36 (zr (k := 13) (t2 := 76) hG ha rfl) (by decide)), (zFr_g hF_s28 (zr (k := 13) (t2 := 76) hG ha rfl) (by decide))])
                          have g629 : s46 (gP G a 13) 1 = s7 (gP G a 13) 1 := (by rw [(zFr_g hF_s46 (zr (k := 13) (t2 := 76) hG ha rfl) (by decide)), (zFr_g hF_s45 (zr (k := 13) (t2 := 76) hG ha rfl) (by decide)), (zFr_g hF_s37 (zr (k := 13) (t2 := 76) hG ha rfl) (by decide)), (zFr_g hF_s36 (zr (k := 13) (t2 := 76) hG ha rfl) (by decide)), (zFr_g hF_s28 (zr (k := 13) (t2 := 76) hG ha rfl) (by decide))])
                          have g630 : s46 (gP G a 13) 2 = s7 (gP G a 13) 2 := (by rw [(zFr_g hF_s46 (zr (k := 13) (t2 := 76) hG ha rfl) (by decide)), (zFr_g hF_s45 (zr (k := 13) (t2 := 76) hG ha rfl) (by decide)), (zFr_g hF_s37 (zr (k := 13) (t2 := 76) hG ha rfl) (by decide)), (zFr_g hF_s36 (zr (k := 13) (t2 := 76) hG ha rfl) (by decide)), (zFr_g hF_s28 (zr (k := 13) (t2 := 76) hG ha rfl) (by decide))])
                          have f631 := zf hS_s46 ha (k := 0) rfl
                          have f632 := zf hS_s46 ha (k := 3) rfl
                          have f633 := zf hS_s46 ha (k := 4) rfl
                          have f634 := zf hS_s46 ha (k := 7) rfl
                          have f635 := zf hS_s46 ha (k := 22) rfl
                          have f636 := zf hS_s46 ha (k := 23) rfl
                          have f637 := zf hS_s46 ha (k := 38) rfl
                          have f638 := zf hS_s46 ha (k := 51) rfl
                          have f639 := zf hS_s46 ha (k := 52) rfl
                          refine j_callV hx hG (c_X12_sets hst a) lk_RX12_131 ha (by decide) rfl rfl rfl rfl [] ⟨rfl, hG, hS_s46, ha, (by omega), ((zQn_nn hP627 (by omega)))⟩ rfl rfl ⟨by decide, by decide⟩ ⟨by decide, by decide⟩ (k2 := 0) (n2 := 0) rfl rfl (Nat.le_of_ble_eq_true rfl) dX12_table_205 (kVM (fun s47 hS_s47 hF_s47 q641 => ?_))
                          refine j_iload_n hx 0 dX12_table_208 rfl ?_
                          have f642 := zf hS_s47 ha (k := 38) rfl
                          have f643 := zf hS_s47 ha (k := 51) rfl
                          have f644 := zf hS_s47 ha (k := 52) rfl
                          exact j_iret hx hq rfl (by decide) (by decide) dX12_table_209 ⟨v615, rfl, rfl, hS_s47, (zFr_t (zFr_t (zFr_t (zFr_t (zFr_t (zFr_t (zFr_t (zFr_t (zFr_t (zFr_u zFr_rf e_s1 ha (by decide)) hF_s4 (by decide)) hF_s5 (by decide)) hF_s7 (by decide)) hF_s28 (by decide)) hF_s36 (by decide)) hF_s37 (by decide)) hF_s45 (by decide)) hF_s46 (by decide)) hF_s47 (by decide)), ⟨(by omega), by omega, by omega, by omega, by omega, q641.2.2.2.2.2.1, (zQn_nn q641.2.2.2.2.1 (by omega)), by omega, by omega, by omega⟩⟩
                · skip
                  refine j_iload_n hx 0 dX12_table_88 rfl ?_
                  refine j_ldcT hx (i := 0) 20 (by decide) rfl rfl rfl dX12_table_89 ?_
                  refine j_callS hx (c_X12_of hst 0) lk_RX12_215 [.ref (zTa E 0)] ⟨rfl, hG, hS_s36, (by decide)⟩ rfl rfl ⟨by decide, by decide⟩ ⟨by decide, by decide⟩ (k2 := 0) (n2 := 0) rfl rfl (Nat.le_of_ble_eq_true rfl) dX12_table_91 (kIP (fun v645 q646 => ?_))
                  refine j_icmp_ne hx 105 dX12_table_94 rfl (by omega) (by omega) (fun h647 => ?_) (fun h647 => ?_)
                  · skip
                    refine j_iload_n hx 0 dX12_table_105 rfl ?_
                    refine j_ldcT hx (i := 1) 27 (by decide) rfl rfl rfl dX12_table_106 ?_
                    refine j_callS hx (c_X12_of hst 1) lk_RX12_215 [.ref (zTa E 1)] ⟨rfl, hG, hS_s36, (by decide)⟩ rfl rfl ⟨by decide, by decide⟩ ⟨by decide, by decide⟩ (k2 := 0) (n2 := 0) rfl rfl (Nat.le_of_ble_eq_true rfl) dX12_table_108 (kIP (fun v648 q649 => ?_))
                    refine j_icmp_ne hx 132 dX12_table_111 rfl (by omega) (by omega) (fun h650 => ?_) (fun h650 => ?_)
                    · skip
                      refine j_aload_n hx 1 dX12_table_132 rfl ?_
                      refine j_callV hx hG (c_X12_fine hst a) lk_RX12_166 ha (by decide) rfl rfl rfl rfl [] ⟨rfl, hG, hS_s36, ha⟩ rfl rfl ⟨by decide, by decide⟩ ⟨by decide, by decide⟩ (k2 := 0) (n2 := 0) rfl rfl (Nat.le_of_ble_eq_true rfl) dX12_table_133 (kIP (fun v651 q652 => ?_))
                      refine j_if_ne hx 142 dX12_table_136 rfl (by omega) (fun h653 => ?_) (fun h653 => ?_)
                      · skip
                        refine j_aload_n hx 1 dX12_table_142 rfl ?_
                        have f654 := zf hS_s36 ha (k := 4) rfl
                        have f655 := zf hS_s36 ha (k := 3) rfl
                        have g656 : s36 (gP G a 9) (s36 a 4).toNat = s0 (gP G a 9) (s36 a 4).toNat := (by rw [(zFr_g hF_s36 (zr (k := 9) (t2 := 72) hG ha rfl) (by decide)), (zFr_g hF_s28 (zr (k := 9) (t2 := 72) hG ha rfl) (by decide)), (zFr_g hF_s7 (zr (k := 9) (t2 := 72) hG ha rfl) (by decide)), (zFr_g hF_s5 (zr (k := 9) (t2 := 72) hG ha rfl) (by decide)), (zFr_g hF_s4 (zr (k := 9) (t2 := 72) hG ha rfl) (by decide)), e_s1, zU_at (Or.inl (zne ha (zr (k := 9) (t2 := 72) hG ha rfl) (by decide)))])
                        have f657 := zf hS_s36 ha (k := 0) rfl
                        have f658 := zf hS_s36 ha (k := 5) rfl
                        have f659 := zf hS_s36 ha (k := 7) rfl
                        have f660 := zf hS_s36 ha (k := 21) rfl
                        have f661 := zf hS_s36 ha (k := 22) rfl
                        have f662 := zf hS_s36 ha (k := 23) rfl
                        have f663 := zf hS_s36 ha (k := 24) rfl
                        have f664 := zf hS_s36 ha (k := 38) rfl
                        have f665 := zf hS_s36 ha (k := 51) rfl
                        have f666 := zf hS_s36 ha (k := 52) rfl
                        refine j_callV hx hG (c_X12_pass hst a) lk_RX12_256 ha (by decide) rfl rfl rfl rfl [] ⟨rfl, hG, hS_s36, ha⟩ rfl rfl ⟨by decide, by decide⟩ ⟨by decide, by decide⟩ (k2 := 0) (n2 := 0) rfl rfl (Nat.le_of_ble_eq_true rfl) dX12_table_143 (kVM (fun s48 hS_s48 hF_s48 q668 => ?_))
                        refine j_aload_n hx 1 dX12_table_146 rfl ?_
                        refine j_iload_n hx 0 dX12_table_147 rfl ?_
                        have g669 : s48 (gP G a 13) 0 = s7 (gP G a 13) 0 := (by rw [(zFr_g hF_s48 (zr (k := 13) (t2 := 76) hG ha rfl) (by decide)), (zFr_g hF_s36 (zr (k := 13) (t2 := 76) hG ha rfl) (by decide)), (zFr_g hF_s28 (zr (k := 13) (t2 := 76) hG ha rfl) (by decide))])
                        have g670 : s48 (gP G a 13) 1 = s7 (gP G a 13) 1 := (by rw [(zFr_g hF_s48 (zr (k := 13) (t2 := 76) hG ha rfl) (by decide)), (zFr_g hF_s36 (zr (k := 13) (t2 := 76) hG ha rfl) (by decide)), (zFr_g hF_s28 (zr (k := 13) (t2 := 76) hG ha rfl) (by decide))])
                        have g671 : s48 (gP G a 13) 2 = s7 (gP G a 13) 2 := (by rw [(zFr_g hF_s48 (zr (k := 13) (t2 := 76) hG ha rfl) (by decide)), (zFr_g hF_s36 (zr (k := 13) (t2 := 76) hG ha rfl) (by decide)), (zFr_g hF_s28 (zr (k := 13) (t2 := 76) hG ha rfl) (by decide))])
                        have f672 := zf hS_s48 ha (k := 22) rfl
                        have f673 := zf hS_s48 ha (k := 21) rfl
                        have f674 := zf hS_s48 ha (k := 23) rfl
                        have f675 := zf hS_s48 ha (k := 4) rfl
                        have f676 := zf hS_s48 ha (k := 5) rfl
                        have f677 := zf hS_s48 ha (k := 3) rfl
                        have f678 := zf hS_s48 ha (k := 0) rfl
                        have f679 := zf hS_s48 ha (k := 7) rfl
                        have f680 := zf hS_s48 ha (k := 24) rfl
                        have f681 := zf hS_s48 ha (k := 38) rfl
                        have f682 := zf hS_s48 ha (k := 51) rfl
                        have f683 := zf hS_s48 ha (k := 52) rfl
                        refine j_callV hx hG (c_X12_readClause hst a v422) lk_RX12_259 ha (by decide) rfl rfl rfl rfl [.int (zI v422)] ⟨rfl, hG, hS_s48, ha, (by omega), ((by rw [(zFr_g hF_s48 (zr (k := 10) (t2 := 73) hG ha rfl) (by decide)), (zFr_g hF_s36 (zr (k := 10) (t2 := 73) hG ha rfl) (by decide)), (zFr_g hF_s28 (zr (k := 10) (t2 := 73) hG ha rfl) (by decide))]; exact (zQi_k fA18 (by omega) (by omega)))), (by omega), (by omega), (by omega)⟩ rfl rfl ⟨by decide, by decide⟩ ⟨by decide, by decide⟩ (k2 := 0) (n2 := 0) rfl rfl (Nat.le_of_ble_eq_true rfl) dX12_table_148 (kVM (fun s49 hS_s49 hF_s49 q685 => ?_))
                        refine j_aload_n hx 1 dX12_table_151 rfl ?_
                        refine j_bipush hx dX12_table_152 rfl ?_
                        have f686 := zf hS_s49 ha (k := 4) rfl
                        have f687 := zf hS_s49 ha (k := 5) rfl
                        have f688 := zf hS_s49 ha (k := 3) rfl
                        have f689 := zf hS_s49 ha (k := 0) rfl
                        have f690 := zf hS_s49 ha (k := 7) rfl
                        have f691 := zf hS_s49 ha (k := 21) rfl
                        have f692 := zf hS_s49 ha (k := 22) rfl
                        have f693 := zf hS_s49 ha (k := 23) rfl
                        have f694 := zf hS_s49 ha (k := 24) rfl
                        have f695 := zf hS_s49 ha (k := 38) rfl
                        have f696 := zf hS_s49 ha (k := 51) rfl
                        have f697 := zf hS_s49 ha (k := 52) rfl
                        refine j_callV hx hG (c_X12_sign hst a 59) lk_RX12_262 ha (by decide) rfl rfl rfl rfl [.int (zI 59)] ⟨rfl, hG, hS_s49, ha, (by omega)⟩ rfl rfl ⟨by decide, by decide⟩ ⟨by decide, by decide⟩ (k2 := 0) (n2 := 0) rfl rfl (Nat.le_of_ble_eq_true rfl) dX12_table_154 (kVM (fun s50 hS_s50 hF_s50 q699 => ?_))
                        refine j_iincN hx 2 (fun v700 => [(2, .int (zI v700)), (3, .int (zI v422)), (0, .ref a)]) dX12_table_157 rfl (by decide) (fun _ => rfl) (fun v700 f701 f702 f703 => ?_)
                        refine j_goto hx 44 dX12_table_160 rfl ?_
                        have f704 := zf hS_s50 ha (k := 4) rfl
                        have f705 := zf hS_s50 ha (k := 5) rfl
                        have f706 := zf hS_s50 ha (k := 0) rfl
                        have f707 := zf hS_s50 ha (k := 3) rfl
                        have f708 := zf hS_s50 ha (k := 7) rfl
                        have f709 := zf hS_s50 ha (k := 24) rfl
                        have f710 := zf hS_s50 ha (k := 38) rfl
                        have f711 := zf hS_s50 ha (k := 51) rfl
                        have f712 := zf hS_s50 ha (k := 52) rfl
                        have g713 : s50 (gP G a 13) 0 = s49 (gP G a 13) 0 := (by rw [(zFr_g hF_s50 (zr (k := 13) (t2 := 76) hG ha rfl) (by decide))])
                        have g714 : s50 (gP G a 13) 1 = s49 (gP G a 13) 1 := (by rw [(zFr_g hF_s50 (zr (k := 13) (t2 := 76) hG ha rfl) (by decide))])
                        have g715 : s50 (gP G a 13) 2 = s49 (gP G a 13) 2 := (by rw [(zFr_g hF_s50 (zr (k := 13) (t2 := 76) hG ha rfl) (by decide))])
                        have f716 := zf hS_s50 ha (k := 22) rfl
                        exact j_sub [2, 0] [(0, .ref a), (2, .int (zI v700))] rfl (ih_c44_6 v700 s50 (by omega) (by omega) hS_s50 (zFr_t (zFr_t (zFr_t (zFr_t (zFr_t (zFr_t zFr_rf hF_s7 (by decide)) hF_s28 (by decide)) hF_s36 (by decide)) hF_s48 (by decide)) hF_s49 (by decide)) hF_s50 (by decide)) (by omega) (by omega) (by omega) (by omega) (by omega) (by omega) (by omega) (by rw [(zFr_g hF_s50 (zr (k := 10) (t2 := 73) hG ha rfl) (by decide))]; exact (zQi_k q685.2.2.1 (by omega) (by omega))) (by omega) (by omega))
                      · skip
                        refine j_goto hx 163 dX12_table_139 rfl ?_
                        refine j_aload_n hx 1 dX12_table_163 rfl ?_
                        refine j_callV hx hG (c_X12_fine hst a) lk_RX12_166 ha (by decide) rfl rfl rfl rfl [] ⟨rfl, hG, hS_s36, ha⟩ rfl rfl ⟨by decide, by decide⟩ ⟨by decide, by decide⟩ (k2 := 0) (n2 := 0) rfl rfl (Nat.le_of_ble_eq_true rfl) dX12_table_164 (kIP (fun v717 q718 => ?_))
                        refine j_if_eq hx 187 dX12_table_167 rfl (by omega) (fun h719 => ?_) (fun h719 => ?_)
                        · skip
                          refine j_aload_n hx 1 dX12_table_187 rfl ?_
                          refine j_aload_n hx 1 dX12_table_188 rfl ?_
                          have f720 := zf hS_s36 ha (k := 21) rfl
                          refine g13_21 hx hG ha kf_RX12_180 rfl dX12_table_189 ?_
                          have f721 := zf hS_s36 ha (k := 0) rfl
                          have f722 := zf hS_s36 ha (k := 3) rfl
                          have f723 := zf hS_s36 ha (k := 4) rfl
                          have f724 := zf hS_s36 ha (k := 5) rfl
                          have f725 := zf hS_s36 ha (k := 7) rfl
                          have f726 := zf hS_s36 ha (k := 22) rfl
                          have f727 := zf hS_s36 ha (k := 23) rfl
                          have f728 := zf hS_s36 ha (k := 24) rfl
                          have f729 := zf hS_s36 ha (k := 38) rfl
                          have f730 := zf hS_s36 ha (k := 51) rfl
                          have f731 := zf hS_s36 ha (k := 52) rfl
                          refine j_callV hx hG (c_X12_result hst a ((s36 a 21))) lk_RX12_265 ha (by decide) rfl rfl rfl rfl [.int (zI ((s36 a 21)))] ⟨rfl, hG, hS_s36, ha, (by omega)⟩ rfl rfl ⟨by decide, by decide⟩ ⟨by decide, by decide⟩ (k2 := 0) (n2 := 0) rfl rfl (Nat.le_of_ble_eq_true rfl) dX12_table_192 (kIM (fun v732 s51 hS_s51 hF_s51 q733 => ?_))
                          refine j_istore_n hx [(3, .int (zI v732)), (0, .ref a), (2, .int (zI v99))] dX12_table_195 (by decide) rfl ?_
                          refine j_aload_n hx 1 dX12_table_196 rfl ?_
                          have f734 := zf hS_s51 ha (k := 5) rfl
                          refine g13_5 hx hG ha kf_RX12_137 rfl dX12_table_197 ?_
                          refine j_iconst hx dX12_table_200 ?_
                          refine j_icmp_ne hx 208 dX12_table_201 rfl (by omega) ⟨by decide, by decide⟩ (fun h735 => ?_) (fun h735 => ?_)
                          · skip
                            refine j_iload_n hx 0 dX12_table_208 rfl ?_
                            have g736 : zc (s51 (gP G a 27)) = zc (s0 (gP G a 27)) := by rw [(zFr_g hF_s51 (zr (k := 27) (t2 := 84) hG ha rfl) (by decide)), (zFr_g hF_s36 (zr (k := 27) (t2 := 84) hG ha rfl) (by decide)), (zFr_g hF_s28 (zr (k := 27) (t2 := 84) hG ha rfl) (by decide)), (zFr_g hF_s7 (zr (k := 27) (t2 := 84) hG ha rfl) (by decide)), (zFr_g hF_s5 (zr (k := 27) (t2 := 84) hG ha rfl) (by decide)), (zFr_g hF_s4 (zr (k := 27) (t2 := 84) hG ha rfl) (by decide)), e_s1, zU_ne (zne (zr (k := 27) (t2 := 84) hG ha rfl) ha (by decide))]
                            have g737 : zc (s51 (gP G a 28)) = zc (s0 (gP G a 28)) := by rw [(zFr_g hF_s51 (zr (k := 28) (t2 := 85) hG ha rfl) (by decide)), (zFr_g hF_s36 (zr (k := 28) (t2 := 85) hG ha rfl) (by decide)), (zFr_g hF_s28 (zr (k := 28) (t2 := 85) hG ha rfl) (by decide)), (zFr_g hF_s7 (zr (k := 28) (t2 := 85) hG ha rfl) (by decide)), (zFr_g hF_s5 (zr (k := 28) (t2 := 85) hG ha rfl) (by decide)), (zFr_g hF_s4 (zr (k := 28) (t2 := 85) hG ha rfl) (by decide)), e_s1, zU_ne (zne (zr (k := 28) (t2 := 85) hG ha rfl) ha (by decide))]
                            have g738 : s51 (gP G a 27) 488 = s0 (gP G a 27) 488 := (by rw [(zFr_g hF_s51 (zr (k := 27) (t2 := 84) hG ha rfl) (by decide)), (zFr_g hF_s36 (zr (k := 27) (t2 := 84) hG ha rfl) (by decide)), (zFr_g hF_s28 (zr (k := 27) (t2 := 84) hG ha rfl) (by decide)), (zFr_g hF_s7 (zr (k := 27) (t2 := 84) hG ha rfl) (by decide)), (zFr_g hF_s5 (zr (k := 27) (t2 := 84) hG ha rfl) (by decide)), (zFr_g hF_s4 (zr (k := 27) (t2 := 84) hG ha rfl) (by decide)), e_s1, zU_at (Or.inl (zne ha (zr (k := 27) (t2 := 84) hG ha rfl) (by decide)))])
                            have g739 : s51 (gP G a 28) 488 = s0 (gP G a 28) 488 := (by rw [(zFr_g hF_s51 (zr (k := 28) (t2 := 85) hG ha rfl) (by decide)), (zFr_g hF_s36 (zr (k := 28) (t2 := 85) hG ha rfl) (by decide)), (zFr_g hF_s28 (zr (k := 28) (t2 := 85) hG ha rfl) (by decide)), (zFr_g hF_s7 (zr (k := 28) (t2 := 85) hG ha rfl) (by decide)), (zFr_g hF_s5 (zr (k := 28) (t2 := 85) hG ha rfl) (by decide)), (zFr_g hF_s4 (zr (k := 28) (t2 := 85) hG ha rfl) (by decide)), e_s1, zU_at (Or.inl (zne ha (zr (k := 28) (t2 := 85) hG ha rfl) (by decide)))])
                            have f740 := zf hS_s51 ha (k := 38) rfl
                            have f741 := zf hS_s51 ha (k := 51) rfl
                            have f742 := zf hS_s51 ha (k := 52) rfl
                            exact j_iret hx hq rfl (by decide) (by decide) dX12_table_209 ⟨v732, rfl, rfl, hS_s51, (zFr_t (zFr_t (zFr_t (zFr_t (zFr_t (zFr_t (zFr_u zFr_rf e_s1 ha (by decide)) hF_s4 (by decide)) hF_s5 (by decide)) hF_s7 (by decide)) hF_s28 (by decide)) hF_s36 (by decide)) hF_s51 (by decide)), ⟨(by omega), by omega, by omega, by omega, by omega, (by rw [(zFr_g hF_s51 (zr (k := 34) (t2 := 91) hG ha rfl) (by decide)), (zFr_g hF_s36 (zr (k := 34) (t2 := 91) hG ha rfl) (by decide)), (zFr_g hF_s28 (zr (k := 34) (t2 := 91) hG ha rfl) (by decide)), (zFr_g hF_s7 (zr (k := 34) (t2 := 91) hG ha rfl) (by decide)), (zFr_g hF_s5 (zr (k := 34) (t2 := 91) hG ha rfl) (by decide)), (zFr_g hF_s4 (zr (k := 34) (t2 := 91) hG ha rfl) (by decide)), e_s1, zU_ne (zne (zr (k := 34) (t2 := 91) hG ha rfl) ha (by decide)), (zFr_g hF_s51 (zr (k := 35) (t2 := 92) hG ha rfl) (by decide)), (zFr_g hF_s36 (zr (k := 35) (t2 := 92) hG ha rfl) (by decide)), (zFr_g hF_s28 (zr (k := 35) (t2 := 92) hG ha rfl) (by decide)), (zFr_g hF_s7 (zr (k := 35) (t2 := 92) hG ha rfl) (by decide)), (zFr_g hF_s5 (zr (k := 35) (t2 := 92) hG ha rfl) (by decide)), (zFr_g hF_s4 (zr (k := 35) (t2 := 92) hG ha rfl) (by decide)), e_s1, zU_ne (zne (zr (k := 35) (t2 := 92) hG ha rfl) ha (by decide)), (zFr_g hF_s51 (zr (k := 37) (t2 := 94) hG ha rfl) (by decide)), (zFr_g hF_s36 (zr (k := 37) (t2 := 94) hG ha rfl) (by decide)), (zFr_g hF_s28 (zr (k := 37) (t2 := 94) hG ha rfl) (by decide)), (zFr_g hF_s7 (zr (k := 37) (t2 := 94) hG ha rfl) (by decide)), (zFr_g hF_s5 (zr (k := 37) (t2 := 94) hG ha rfl) (by decide)), (zFr_g hF_s4 (zr (k := 37) (t2 := 94) hG ha rfl) (by decide)), e_s1, zU_ne (zne (zr (k := 37) (t2 := 94) hG ha rfl) ha (by decide))]; exact e2), (by rw [(zFr_g hF_s51 (zr (k := 17) (t2 := 80) hG ha rfl) (by decide)), (zFr_g hF_s36 (zr (k := 17) (t2 := 80) hG ha rfl) (by decide)), (zFr_g hF_s28 (zr (k := 17) (t2 := 80) hG ha rfl) (by decide)), (zFr_g hF_s7 (zr (k := 17) (t2 := 80) hG ha rfl) (by decide)), (zFr_g hF_s5 (zr (k := 17) (t2 := 80) hG ha rfl) (by decide)), (zFr_g hF_s4 (zr (k := 17) (t2 := 80) hG ha rfl) (by decide)), e_s1, zU_ne (zne (zr (k := 17) (t2 := 80) hG ha rfl) ha (by decide))]; exact (zQn_nn e3 (by omega))), by omega, by omega, by omega⟩⟩
                          · skip
                            refine j_aload_n hx 1 dX12_table_204 rfl ?_
                            have f743 := zf hS_s51 ha (k := 21) rfl
                            have hP744 : zQn (s51 (gP G a 10)) (s51 a 21) := ((by rw [(zFr_g hF_s51 (zr (k := 10) (t2 := 73) hG ha rfl) (by decide)), (zFr_g hF_s36 (zr (k := 10) (t2 := 73) hG ha rfl) (by decide)), (zFr_g hF_s28 (zr (k := 10) (t2 := 73) hG ha rfl) (by decide))]; exact (zQi_k fA18 (by omega) (by omega))) (by omega))
                            have g745 : s51 (gP G a 13) 0 = s7 (gP G a 13) 0 := (by rw [(zFr_g hF_s51 (zr (k := 13) (t2 := 76) hG ha rfl) (by decide)), (zFr_g hF_s36 (zr (k := 13) (t2 := 76) hG ha rfl) (by decide)), (zFr_g hF_s28 (zr (k := 13) (t2 := 76) hG ha rfl) (by decide))])
                            have g746 : s51 (gP G a 13) 1 = s7 (gP G a 13) 1 := (by rw [(zFr_g hF_s51 (zr (k := 13) (t2 := 76) hG ha rfl) (by decide)), (zFr_g hF_s36 (zr (k := 13) (t2 := 76) hG ha rfl) (by decide)), (zFr_g hF_s28 (zr (k := 13) (t2 := 76) hG ha rfl) (by decide))])
                            have g747 : s51 (gP G a 13) 2 = s7 (gP G a 13) 2 := (by rw [(zFr_g hF_s51 (zr (k := 13) (t2 := 76) hG ha rfl) (by decide)), (zFr_g hF_s36 (zr (k := 13) (t2 := 76) hG ha rfl) (by decide)), (zFr_g hF_s28 (zr (k := 13) (t2 := 76) hG ha rfl) (by decide))])
                            have f748 := zf hS_s51 ha (k := 0) rfl
                            have f749 := zf hS_s51 ha (k := 3) rfl
                            have f750 := zf hS_s51 ha (k := 4) rfl
                            have f751 := zf hS_s51 ha (k := 7) rfl
                            have f752 := zf hS_s51 ha (k := 22) rfl
                            have f753 := zf hS_s51 ha (k := 23) rfl
                            have f754 := zf hS_s51 ha (k := 38) rfl
                            have f755 := zf hS_s51 ha (k := 51) rfl
                            have f756 := zf hS_s51 ha (k := 52) rfl
                            refine j_callV hx hG (c_X12_sets hst a) lk_RX12_131 ha (by decide) rfl rfl rfl rfl [] ⟨rfl, hG, hS_s51, ha, (by omega), ((zQn_nn hP744 (by omega)))⟩ rfl rfl ⟨by decide, by decide⟩ ⟨by decide, by decide⟩ (k2 := 0) (n2 := 0) rfl rfl (Nat.le_of_ble_eq_true rfl) dX12_table_205 (kVM (fun s52 hS_s52 hF_s52 q758 => ?_))
                            refine j_iload_n hx 0 dX12_table_208 rfl ?_
                            have f759 := zf hS_s52 ha (k := 38) rfl
                            have f760 := zf hS_s52 ha (k := 51) rfl
                            have f761 := zf hS_s52 ha (k := 52) rfl
                            exact j_iret hx hq rfl (by decide) (by decide) dX12_table_209 ⟨v732, rfl, rfl, hS_s52, (zFr_t (zFr_t (zFr_t (zFr_t (zFr_t (zFr_t (zFr_t (zFr_u zFr_rf e_s1 ha (by decide)) hF_s4 (by decide)) hF_s5 (by decide)) hF_s7 (by decide)) hF_s28 (by decide)) hF_s36 (by decide)) hF_s51 (by decide)) hF_s52 (by decide)), ⟨(by omega), by omega, by omega, by omega, by omega, q758.2.2.2.2.2.1, (zQn_nn q758.2.2.2.2.1 (by omega)), by omega, by omega, by omega⟩⟩
                        · skip
                          refine j_aload_n hx 1 dX12_table_170 rfl ?_
                          have f762 := zf hS_s36 ha (k := 21) rfl
                          refine g13_21 hx hG ha kf_RX12_180 rfl dX12_table_171 ?_
                          refine j_iconst hx dX12_table_174 ?_
                          refine j_icmp_ge hx 187 dX12_table_175 rfl (by omega) ⟨by decide, by decide⟩ (fun h763 => ?_) (fun h763 => ?_)
                          · skip
                            refine j_aload_n hx 1 dX12_table_187 rfl ?_
                            refine j_aload_n hx 1 dX12_table_188 rfl ?_
                            refine g13_21 hx hG ha kf_RX12_180 rfl dX12_table_189 ?_
                            have f764 := zf hS_s36 ha (k := 0) rfl
                            have f765 := zf hS_s36 ha (k := 3) rfl
                            have f766 := zf hS_s36 ha (k := 4) rfl
                            have f767 := zf hS_s36 ha (k := 5) rfl
                            have f768 := zf hS_s36 ha (k := 7) rfl
                            have f769 := zf hS_s36 ha (k := 22) rfl
                            have f770 := zf hS_s36 ha (k := 23) rfl
                            have f771 := zf hS_s36 ha (k := 24) rfl
                            have f772 := zf hS_s36 ha (k := 38) rfl
                            have f773 := zf hS_s36 ha (k := 51) rfl
                            have f774 := zf hS_s36 ha (k := 52) rfl
                            refine j_callV hx hG (c_X12_result hst a ((s36 a 21))) lk_RX12_265 ha (by decide) rfl rfl rfl rfl [.int (zI ((s36 a 21)))] ⟨rfl, hG, hS_s36, ha, (by omega)⟩ rfl rfl ⟨by decide, by decide⟩ ⟨by decide, by decide⟩ (k2 := 0) (n2 := 0) rfl rfl (Nat.le_of_ble_eq_true rfl) dX12_table_192 (kIM (fun v775 s53 hS_s53 hF_s53 q776 => ?_))
                            refine j_istore_n hx [(3, .int (zI v775)), (0, .ref a), (2, .int (zI v99))] dX12_table_195 (by decide) rfl ?_
                            refine j_aload_n hx 1 dX12_table_196 rfl ?_
                            have f777 := zf hS_s53 ha (k := 5) rfl
                            refine g13_5 hx hG ha kf_RX12_137 rfl dX12_table_197 ?_
                            refine j_iconst hx dX12_table_200 ?_
                            refine j_icmp_ne hx 208 dX12_table_201 rfl (by omega) ⟨by decide, by decide⟩ (fun h778 => ?_) (fun h778 => ?_)
                            · skip
                              refine j_iload_n hx 0 dX12_table_208 rfl ?_
                              have g779 : zc (s53 (gP G a 27)) = zc (s0 (gP G a 27)) := by rw [(zFr_g hF_s53 (zr (k := 27) (t2 := 84) hG ha rfl) (by decide)), (zFr_g hF_s36 (zr (k := 27) (t2 := 84) hG ha rfl) (by decide)), (zFr_g hF_s28 (zr (k := 27) (t2 := 84) hG ha rfl) (by decide)), (zFr_g hF_s7 (zr (k := 27) (t2 := 84) hG ha rfl) (by decide)), (zFr_g hF_s5 (zr (k := 27) (t2 := 84) hG ha rfl) (by decide)), (zFr_g hF_s4 (zr (k := 27) (t2 := 84) hG ha rfl) (by decide)), e_s1, zU_ne (zne (zr (k := 27) (t2 := 84) hG ha rfl) ha (by decide))]
                              have g780 : zc (s53 (gP G a 28)) = zc (s0 (gP G a 28)) := by rw [(zFr_g hF_s53 (zr (k := 28) (t2 := 85) hG ha rfl) (by decide)), (zFr_g hF_s36 (zr (k := 28) (t2 := 85) hG ha rfl) (by decide)), (zFr_g hF_s28 (zr (k := 28) (t2 := 85) hG ha rfl) (by decide)), (zFr_g hF_s7 (zr (k := 28) (t2 := 85) hG ha rfl) (by decide)), (zFr_g hF_s5 (zr (k := 28) (t2 := 85) hG ha rfl) (by decide)), (zFr_g hF_s4 (zr (k := 28) (t2 := 85) hG ha rfl) (by decide)), e_s1, zU_ne (zne (zr (k := 28) (t2 := 85) hG ha rfl) ha (by decide))]
                              have g781 : s53 (gP G a 27) 488 = s0 (gP G a 27) 488 := (by rw [(zFr_g hF_s53 (zr (k := 27) (t2 := 84) hG ha rfl) (by decide)), (zFr_g hF_s36 (zr (k := 27) (t2 := 84) hG ha rfl) (by decide)), (zFr_g hF_s28 (zr (k := 27) (t2 := 84) hG ha rfl) (by decide)), (zFr_g hF_s7 (zr (k := 27) (t2 := 84) hG ha rfl) (by decide)), (zFr_g hF_s5 (zr (k := 27) (t2 := 84) hG ha rfl) (by decide)), (zFr_g hF_s4 (zr (k := 27) (t2 := 84) hG ha rfl) (by decide)), e_s1, zU_at (Or.inl (zne ha (zr (k := 27) (t2 := 84) hG ha rfl) (by decide)))])
                              have g782 : s53 (gP G a 28) 488 = s0 (gP G a 28) 488 := (by rw [(zFr_g hF_s53 (zr (k := 28) (t2 := 85) hG ha rfl) (by decide)), (zFr_g hF_s36 (zr (k := 28) (t2 := 85) hG ha rfl) (by decide)), (zFr_g hF_s28 (zr (k := 28) (t2 := 85) hG ha rfl) (by decide)), (zFr_g hF_s7 (zr (k := 28) (t2 := 85) hG ha rfl) (by decide)), (zFr_g hF_s5 (zr (k := 28) (t2 := 85) hG ha rfl) (by decide)), (zFr_g hF_s4 (zr (k := 28) (t2 := 85) hG ha rfl) (by decide)), e_s1, zU_at (Or.inl (zne ha (zr (k := 28) (t2 := 85) hG ha rfl) (by decide)))])
                              have f783 := zf hS_s53 ha (k := 38) rfl
                              have f784 := zf hS_s53 ha (k := 51) rfl
                              have f785 := zf hS_s53 ha (k := 52) rfl
                              exact j_iret hx hq rfl (by decide) (by decide) dX12_table_209 ⟨v775, rfl, rfl, hS_s53, (zFr_t (zFr_t (zFr_t (zFr_t (zFr_t (zFr_t (zFr_u zFr_rf e_s1 ha (by decide)) hF_s4 (by decide)) hF_s5 (by decide)) hF_s7 (by decide)) hF_s28 (by decide)) hF_s36 (by decide)) hF_s53 (by decide)), ⟨(by omega), by omega, by omega, by omega, by omega, (by rw [(zFr_g hF_s53 (zr (k := 34) (t2 := 91) hG ha rfl) (by decide)), (zFr_g hF_s36 (zr (k := 34) (t2 := 91) hG ha rfl) (by decide)), (zFr_g hF_s28 (zr (k := 34) (t2 := 91) hG ha rfl) (by decide)), (zFr_g hF_s7 (zr (k := 34) (t2 := 91) hG ha rfl) (by decide)), (zFr_g hF_s5 (zr (k := 34) (t2 := 91) hG ha rfl) (by decide)), (zFr_g hF_s4 (zr (k := 34) (t2 := 91) hG ha rfl) (by decide)), e_s1, zU_ne (zne (zr (k := 34) (t2 := 91) hG ha rfl) ha (by decide)), (zFr_g hF_s53 (zr (k := 35) (t2 := 92) hG ha rfl) (by decide)), (zFr_g hF_s36 (zr (k := 35) (t2 := 92) hG ha rfl) (by decide)), (zFr_g hF_s28 (zr (k := 35) (t2 := 92) hG ha rfl) (by decide)), (zFr_g hF_s7 (zr (k := 35) (t2 := 92) hG ha rfl) (by decide)), (zFr_g hF_s5 (zr (k := 35) (t2 := 92) hG ha rfl) (by decide)), (zFr_g hF_s4 (zr (k := 35) (t2 := 92) hG ha rfl) (by decide)), e_s1, zU_ne (zne (zr (k := 35) (t2 := 92) hG ha rfl) ha (by decide)), (zFr_g hF_s53 (zr (k := 37) (t2 := 94) hG ha rfl) (by decide)), (zFr_g hF_s36 (zr (k := 37) (t2 := 94) hG ha rfl) (by decide)), (zFr_g hF_s28 (zr (k := 37) (t2 := 94) hG ha rfl) (by decide)), (zFr_g hF_s7 (zr (k := 37) (t2 := 94) hG ha rfl) (by decide)), (zFr_g hF_s5 (zr (k := 37) (t2 := 94) hG ha rfl) (by decide)), (zFr_g hF_s4 (zr (k := 37) (t2 := 94) hG ha rfl) (by decide)), e_s1, zU_ne (zne (zr (k := 37) (t2 := 94) hG ha rfl) ha (by decide))]; exact e2), (by rw [(zFr_g hF_s53 (zr (k := 17) (t2 := 80) hG ha rfl) (by decide)), (zFr_g hF_s36 (zr (k := 17) (t2 := 80) hG ha rfl) (by decide)), (zFr_g hF_s28 (zr (k := 17) (t2 := 80) hG ha rfl) (by decide)), (zFr_g hF_s7 (zr (k := 17) (t2 := 80) hG ha rfl) (by decide)), (zFr_g hF_s5 (zr (k := 17) (t2 := 80) hG ha rfl) (by decide)), (zFr_g hF_s4 (zr (k := 17) (t2 := 80) hG ha rfl) (by decide)), e_s1, zU_ne (zne (zr (k := 17) (t2 := 80) hG ha rfl) ha (by decide))]; exact (zQn_nn e3 (by omega))), by omega, by omega, by omega⟩⟩
                            · skip
                              refine j_aload_n hx 1 dX12_table_204 rfl ?_
                              have f786 := zf hS_s53 ha (k := 21) rfl
                              have hP787 : zQn (s53 (gP G a 10)) (s53 a 21) := ((by rw [(zFr_g hF_s53 (zr (k := 10) (t2 := 73) hG ha rfl) (by decide)), (zFr_g hF_s36 (zr (k := 10) (t2 := 73) hG ha rfl) (by decide)), (zFr_g hF_s28 (zr (k := 10) (t2 := 73) hG ha rfl) (by decide))]; exact (zQi_k fA18 (by omega) (by omega))) (by omega))
                              have g788 : s53 (gP G a 13) 0 = s7 (gP G a 13) 0 := (by rw [(zFr_g hF_s53 (zr (k := 13) (t2 := 76) hG ha rfl) (by decide)), (zFr_g hF_s36 (zr (k := 13) (t2 := 76) hG ha rfl) (by decide)), (zFr_g hF_s28 (zr (k := 13) (t2 := 76) hG ha rfl) (by decide))])
                              have g789 : s53 (gP G a 13) 1 = s7 (gP G a 13) 1 := (by rw [(zFr_g hF_s53 (zr (k := 13) (t2 := 76) hG ha rfl) (by decide)), (zFr_g hF_s36 (zr (k := 13) (t2 := 76) hG ha rfl) (by decide)), (zFr_g hF_s28 (zr (k := 13) (t2 := 76) hG ha rfl) (by decide))])
                              have g790 : s53 (gP G a 13) 2 = s7 (gP G a 13) 2 := (by rw [(zFr_g hF_s53 (zr (k := 13) (t2 := 76) hG ha rfl) (by decide)), (zFr_g hF_s36 (zr (k := 13) (t2 := 76) hG ha rfl) (by decide)), (zFr_g hF_s28 (zr (k := 13) (t2 := 76) hG ha rfl) (by decide))])
                              have f791 := zf hS_s53 ha (k := 0) rfl
                              have f792 := zf hS_s53 ha (k := 3) rfl
                              have f793 := zf hS_s53 ha (k := 4) rfl
                              have f794 := zf hS_s53 ha (k := 7) rfl
                              have f795 := zf hS_s53 ha (k := 22) rfl
                              have f796 := zf hS_s53 ha (k := 23) rfl
                              have f797 := zf hS_s53 ha (k := 38) rfl
                              have f798 := zf hS_s53 ha (k := 51) rfl
                              have f799 := zf hS_s53 ha (k := 52) rfl
                              refine j_callV hx hG (c_X12_sets hst a) lk_RX12_131 ha (by decide) rfl rfl rfl rfl [] ⟨rfl, hG, hS_s53, ha, (by omega), ((zQn_nn hP787 (by omega)))⟩ rfl rfl ⟨by decide, by decide⟩ ⟨by decide, by decide⟩ (k2 := 0) (n2 := 0) rfl rfl (Nat.le_of_ble_eq_true rfl) dX12_table_205 (kVM (fun s54 hS_s54 hF_s54 q801 => ?_))
                              refine j_iload_n hx 0 dX12_table_208 rfl ?_
                              have f802 := zf hS_s54 ha (k := 38) rfl
                              have f803 := zf hS_s54 ha (k := 51) rfl
                              have f804 := zf hS_s54 ha (k := 52) rfl
                              exact j_iret hx hq rfl (by decide) (by decide) dX12_table_209 ⟨v775, rfl, rfl, hS_s54, (zFr_t (zFr_t (zFr_t (zFr_t (zFr_t (zFr_t (zFr_t (zFr_u zFr_rf e_s1 ha (by decide)) hF_s4 (by decide)) hF_s5 (by decide)) hF_s7 (by decide)) hF_s28 (by decide)) hF_s36 (by decide)) hF_s53 (by decide)) hF_s54 (by decide)), ⟨(by omega), by omega, by omega, by omega, by omega, q801.2.2.2.2.2.1, (zQn_nn q801.2.2.2.2.1 (by omega)), by omega, by omega, by omega⟩⟩
                          · skip
                            refine j_aload_n hx 1 dX12_table_178 rfl ?_
                            refine j_iconst hx dX12_table_179 ?_
                            refine j_aload_n hx 1 dX12_table_180 rfl ?_
                            have f805 := zf hS_s36 ha (k := 3) rfl
                            refine g13_3 hx hG ha kf_RX12_146 rfl dX12_table_181 ?_
                            have f806 := zf hS_s36 ha (k := 0) rfl
                            have f807 := zf hS_s36 ha (k := 4) rfl
                            have f808 := zf hS_s36 ha (k := 7) rfl
                            have f809 := zf hS_s36 ha (k := 22) rfl
                            have f810 := zf hS_s36 ha (k := 23) rfl
                            have f811 := zf hS_s36 ha (k := 24) rfl
                            have f812 := zf hS_s36 ha (k := 38) rfl
                            have f813 := zf hS_s36 ha (k := 51) rfl
                            have f814 := zf hS_s36 ha (k := 52) rfl
                            refine j_callV hx hG (c_X12_wrong hst a 4 ((s36 a 3))) lk_RX12_173 ha (by decide) rfl rfl rfl rfl [.int (zI 4), .int (zI ((s36 a 3)))] ⟨rfl, hG, hS_s36, ha, (by omega), (by omega)⟩ rfl rfl ⟨by decide, by decide⟩ ⟨by decide, by decide⟩ (k2 := 0) (n2 := 0) rfl rfl (Nat.le_of_ble_eq_true rfl) dX12_table_184 (kVM (fun s55 hS_s55 hF_s55 q816 => ?_))
                            refine j_aload_n hx 1 dX12_table_187 rfl ?_
                            refine j_aload_n hx 1 dX12_table_188 rfl ?_
                            have f817 := zf hS_s55 ha (k := 21) rfl
                            refine g13_21 hx hG ha kf_RX12_180 rfl dX12_table_189 ?_
                            have f818 := zf hS_s55 ha (k := 0) rfl
                            have f819 := zf hS_s55 ha (k := 3) rfl
                            have f820 := zf hS_s55 ha (k := 4) rfl
                            have f821 := zf hS_s55 ha (k := 5) rfl
                            have f822 := zf hS_s55 ha (k := 7) rfl
                            have f823 := zf hS_s55 ha (k := 22) rfl
                            have f824 := zf hS_s55 ha (k := 23) rfl
                            have f825 := zf hS_s55 ha (k := 24) rfl
                            have f826 := zf hS_s55 ha (k := 38) rfl
                            have f827 := zf hS_s55 ha (k := 51) rfl
                            have f828 := zf hS_s55 ha (k := 52) rfl
                            refine j_callV hx hG (c_X12_result hst a ((s55 a 21))) lk_RX12_265 ha (by decide) rfl rfl rfl rfl [.int (zI ((s55 a 21)))] ⟨rfl, hG, hS_s55, ha, (by omega)⟩ rfl rfl ⟨by decide, by decide⟩ ⟨by decide, by decide⟩ (k2 := 0) (n2 := 0) rfl rfl (Nat.le_of_ble_eq_true rfl) dX12_table_192 (kIM (fun v829 s56 hS_s56 hF_s56 q830 => ?_))
                            refine j_istore_n hx [(3, .int (zI v829)), (0, .ref a), (2, .int (zI v99))] dX12_table_195 (by decide) rfl ?_
                            refine j_aload_n hx 1 dX12_table_196 rfl ?_
                            have f831 := zf hS_s56 ha (k := 5) rfl
                            refine g13_5 hx hG ha kf_RX12_137 rfl dX12_table_197 ?_
                            refine j_iconst hx dX12_table_200 ?_
                            refine j_icmp_ne hx 208 dX12_table_201 rfl (by omega) ⟨by decide, by decide⟩ (fun h832 => ?_) (fun h832 => ?_)
                            · skip
                              refine j_iload_n hx 0 dX12_table_208 rfl ?_
                              have g833 : zc (s56 (gP G a 27)) = zc (s0 (gP G a 27)) := by rw [(zFr_g hF_s56 (zr (k := 27) (t2 := 84) hG ha rfl) (by decide)), (zFr_g hF_s55 (zr (k := 27) (t2 := 84) hG ha rfl) (by decide)), (zFr_g hF_s36 (zr (k := 27) (t2 := 84) hG ha rfl) (by decide)), (zFr_g hF_s28 (zr (k := 27) (t2 := 84) hG ha rfl) (by decide)), (zFr_g hF_s7 (zr (k := 27) (t2 := 84) hG ha rfl) (by decide)), (zFr_g hF_s5 (zr (k := 27) (t2 := 84) hG ha rfl) (by decide)), (zFr_g hF_s4 (zr (k := 27) (t2 := 84) hG ha rfl) (by decide)), e_s1, zU_ne (zne (zr (k := 27) (t2 := 84) hG ha rfl) ha (by decide))]
                              have g834 : zc (s56 (gP G a 28)) = zc (s0 (gP G a 28)) := by rw [(zFr_g hF_s56 (zr (k := 28) (t2 := 85) hG ha rfl) (by decide)), (zFr_g hF_s55 (zr (k := 28) (t2 := 85) hG ha rfl) (by decide)), (zFr_g hF_s36 (zr (k := 28) (t2 := 85) hG ha rfl) (by decide)), (zFr_g hF_s28 (zr (k := 28) (t2 := 85) hG ha rfl) (by decide)), (zFr_g hF_s7 (zr (k := 28) (t2 := 85) hG ha rfl) (by decide)), (zFr_g hF_s5 (zr (k := 28) (t2 := 85) hG ha rfl) (by decide)), (zFr_g hF_s4 (zr (k := 28) (t2 := 85) hG ha rfl) (by decide)), e_s1, zU_ne (zne (zr (k := 28) (t2 := 85) hG ha rfl) ha (by decide))]
                              have g835 : s56 (gP G a 27) 488 = s0 (gP G a 27) 488 := (by rw [(zFr_g hF_s56 (zr (k := 27) (t2 := 84) hG ha rfl) (by decide)), (zFr_g hF_s55 (zr (k := 27) (t2 := 84) hG ha rfl) (by decide)), (zFr_g hF_s36 (zr (k := 27) (t2 := 84) hG ha rfl) (by decide)), (zFr_g hF_s28 (zr (k := 27) (t2 := 84) hG ha rfl) (by decide)), (zFr_g hF_s7 (zr (k := 27) (t2 := 84) hG ha rfl) (by decide)), (zFr_g hF_s5 (zr (k := 27) (t2 := 84) hG ha rfl) (by decide)), (zFr_g hF_s4 (zr (k := 27) (t2 := 84) hG ha rfl) (by decide)), e_s1, zU_at (Or.inl (zne ha (zr (k := 27) (t2 := 84) hG ha rfl) (by decide)))])
                              have g836 : s56 (gP G a 28) 488 = s0 (gP G a 28) 488 := (by rw [(zFr_g hF_s56 (zr (k := 28) (t2 := 85) hG ha rfl) (by decide)), (zFr_g hF_s55 (zr (k := 28) (t2 := 85) hG ha rfl) (by decide)), (zFr_g hF_s36 (zr (k := 28) (t2 := 85) hG ha rfl) (by decide)), (zFr_g hF_s28 (zr (k := 28) (t2 := 85) hG ha rfl) (by decide)), (zFr_g hF_s7 (zr (k := 28) (t2 := 85) hG ha rfl) (by decide)), (zFr_g hF_s5 (zr (k := 28) (t2 := 85) hG ha rfl) (by decide)), (zFr_g hF_s4 (zr (k := 28) (t2 := 85) hG ha rfl) (by decide)), e_s1, zU_at (Or.inl (zne ha (zr (k := 28) (t2 := 85) hG ha rfl) (by decide)))])
                              have f837 := zf hS_s56 ha (k := 38) rfl
                              have f838 := zf hS_s56 ha (k := 51) rfl
                              have f839 := zf hS_s56 ha (k := 52) rfl
                              exact j_iret hx hq rfl (by decide) (by decide) dX12_table_209 ⟨v829, rfl, rfl, hS_s56, (zFr_t (zFr_t (zFr_t (zFr_t (zFr_t (zFr_t (zFr_t (zFr_u zFr_rf e_s1 ha (by decide)) hF_s4 (by decide)) hF_s5 (by decide)) hF_s7 (by decide)) hF_s28 (by decide)) hF_s36 (by decide)) hF_s55 (by decide)) hF_s56 (by decide)), ⟨(by omega), by omega, by omega, by omega, by omega, (by rw [(zFr_g hF_s56 (zr (k := 34) (t2 := 91) hG ha rfl) (by decide)), (zFr_g hF_s55 (zr (k := 34) (t2 := 91) hG ha rfl) (by decide)), (zFr_g hF_s36 (zr (k := 34) (t2 := 91) hG ha rfl) (by decide)), (zFr_g hF_s28 (zr (k := 34) (t2 := 91) hG ha rfl) (by decide)), (zFr_g hF_s7 (zr (k := 34) (t2 := 91) hG ha rfl) (by decide)), (zFr_g hF_s5 (zr (k := 34) (t2 := 91) hG ha rfl) (by decide)), (zFr_g hF_s4 (zr (k := 34) (t2 := 91) hG ha rfl) (by decide)), e_s1, zU_ne (zne (zr (k := 34) (t2 := 91) hG ha rfl) ha (by decide)), (zFr_g hF_s56 (zr (k := 35) (t2 := 92) hG ha rfl) (by decide)), (zFr_g hF_s55 (zr (k := 35) (t2 := 92) hG ha rfl) (by decide)), (zFr_g hF_s36 (zr (k := 35) (t2 := 92) hG ha rfl) (by decide)), (zFr_g hF_s28 (zr (k := 35) (t2 := 92) hG ha rfl) (by decide)), (zFr_g hF_s7 (zr (k := 35) (t2 := 92) hG ha rfl) (by decide)), (zFr_g hF_s5 (zr (k := 35) (t2 := 92) hG ha rfl) (by decide)), (zFr_g hF_s4 (zr (k := 35) (t2 := 92) hG ha rfl) (by decide)), e_s1, zU_ne (zne (zr (k := 35) (t2 := 92) hG ha rfl) ha (by decide)), (zFr_g hF_s56 (zr (k := 37) (t2 := 94) hG ha rfl) (by decide)), (zFr_g hF_s55 (zr (k := 37) (t2 := 94) hG ha rfl) (by decide)), (zFr_g hF_s36 (zr (k := 37) (t2 := 94) hG ha rfl) (by decide)), (zFr_g hF_s28 (zr (k := 37) (t2 := 94) hG ha rfl) (by decide)), (zFr_g hF_s7 (zr (k := 37) (t2 := 94) hG ha rfl) (by decide)), (zFr_g hF_s5 (zr (k := 37) (t2 := 94) hG ha rfl) (by decide)), (zFr_g hF_s4 (zr (k := 37) (t2 := 94) hG ha rfl) (by decide)), e_s1, zU_ne (zne (zr (k := 37) (t2 := 94) hG ha rfl) ha (by decide))]; exact e2), (by rw [(zFr_g hF_s56 (zr (k := 17) (t2 := 80) hG ha rfl) (by decide)), (zFr_g hF_s55 (zr (k := 17) (t2 := 80) hG ha rfl) (by decide)), (zFr_g hF_s36 (zr (k := 17) (t2 := 80) hG ha rfl) (by decide)), (zFr_g hF_s28 (zr (k := 17) (t2 := 80) hG ha rfl) (by decide)), (zFr_g hF_s7 (zr (k := 17) (t2 := 80) hG ha rfl) (by decide)), (zFr_g hF_s5 (zr (k := 17) (t2 := 80) hG ha rfl) (by decide)), (zFr_g hF_s4 (zr (k := 17) (t2 := 80) hG ha rfl) (by decide)), e_s1, zU_ne (zne (zr (k := 17) (t2 := 80) hG ha rfl) ha (by decide))]; exact (zQn_nn e3 (by omega))), by omega, by omega, by omega⟩⟩
                            · skip
                              refine j_aload_n hx 1 dX12_table_204 rfl ?_
                              have f840 := zf hS_s56 ha (k := 21) rfl
                              have hP841 : zQn (s56 (gP G a 10)) (s56 a 21) := ((by rw [(zFr_g hF_s56 (zr (k := 10) (t2 := 73) hG ha rfl) (by decide)), (zFr_g hF_s55 (zr (k := 10) (t2 := 73) hG ha rfl) (by decide)), (zFr_g hF_s36 (zr (k := 10) (t2 := 73) hG ha rfl) (by decide)), (zFr_g hF_s28 (zr (k := 10) (t2 := 73) hG ha rfl) (by decide))]; exact (zQi_k fA18 (by omega) (by omega))) (by omega))
                              have g842 : s56 (gP G a 13) 0 = s7 (gP G a 13) 0 := (by rw [(zFr_g hF_s56 (zr (k := 13) (t2 := 76) hG ha rfl) (by decide)), (zFr_g hF_s55 (zr (k := 13) (t2 := 76) hG ha rfl) (by decide)), (zFr_g hF_s36 (zr (k := 13) (t2 := 76) hG ha rfl) (by decide)), (zFr_g hF_s28 (zr (k := 13) (t2 := 76) hG ha rfl) (by decide))])
                              have g843 : s56 (gP G a 13) 1 = s7 (gP G a 13) 1 := (by rw [(zFr_g hF_s56 (zr (k := 13) (t2 := 76) hG ha rfl) (by decide)), (zFr_g hF_s55 (zr (k := 13) (t2 := 76) hG ha rfl) (by decide)), (zFr_g hF_s36 (zr (k := 13) (t2 := 76) hG ha rfl) (by decide)), (zFr_g hF_s28 (zr (k := 13) (t2 := 76) hG ha rfl) (by decide))])
                              have g844 : s56 (gP G a 13) 2 = s7 (gP G a 13) 2 := (by rw [(zFr_g hF_s56 (zr (k := 13) (t2 := 76) hG ha rfl) (by decide)), (zFr_g hF_s55 (zr (k := 13) (t2 := 76) hG ha rfl) (by decide)), (zFr_g hF_s36 (zr (k := 13) (t2 := 76) hG ha rfl) (by decide)), (zFr_g hF_s28 (zr (k := 13) (t2 := 76) hG ha rfl) (by decide))])
                              have f845 := zf hS_s56 ha (k := 0) rfl
                              have f846 := zf hS_s56 ha (k := 3) rfl
                              have f847 := zf hS_s56 ha (k := 4) rfl
                              have f848 := zf hS_s56 ha (k := 7) rfl
                              have f849 := zf hS_s56 ha (k := 22) rfl
                              have f850 := zf hS_s56 ha (k := 23) rfl
                              have f851 := zf hS_s56 ha (k := 38) rfl
                              have f852 := zf hS_s56 ha (k := 51) rfl
                              have f853 := zf hS_s56 ha (k := 52) rfl
                              refine j_callV hx hG (c_X12_sets hst a) lk_RX12_131 ha (by decide) rfl rfl rfl rfl [] ⟨rfl, hG, hS_s56, ha, (by omega), ((zQn_nn hP841 (by omega)))⟩ rfl rfl ⟨by decide, by decide⟩ ⟨by decide, by decide⟩ (k2 := 0) (n2 := 0) rfl rfl (Nat.le_of_ble_eq_true rfl) dX12_table_205 (kVM (fun s57 hS_s57 hF_s57 q855 => ?_))
                              refine j_iload_n hx 0 dX12_table_208 rfl ?_
                              have f856 := zf hS_s57 ha (k := 38) rfl
                              have f857 := zf hS_s57 ha (k := 51) rfl
                              have f858 := zf hS_s57 ha (k := 52) rfl
                              exact j_iret hx hq rfl (by decide) (by decide) dX12_table_209 ⟨v829, rfl, rfl, hS_s57, (zFr_t (zFr_t (zFr_t (zFr_t (zFr_t (zFr_t (zFr_t (zFr_t (zFr_u zFr_rf e_s1 ha (by decide)) hF_s4 (by decide)) hF_s5 (by decide)) hF_s7 (by decide)) hF_s28 (by decide)) hF_s36 (by decide)) hF_s55 (by decide)) hF_s56 (by decide)) hF_s57 (by decide)), ⟨(by omega), by omega, by omega, by omega, by omega, q855.2.2.2.2.2.1, (zQn_nn q855.2.2.2.2.1 (by omega)), by omega, by omega, by omega⟩⟩
                    · skip
                      refine j_aload_n hx 1 dX12_table_114 rfl ?_
                      have f859 := zf hS_s36 ha (k := 23) rfl
                      refine g13_23 hx hG ha kf_RX12_186 rfl dX12_table_115 ?_
                      refine j_bipush hx dX12_table_118 rfl ?_
                      refine j_icmp_ne hx 132 dX12_table_120 rfl (by omega) ⟨by decide, by decide⟩ (fun h860 => ?_) (fun h860 => ?_)
                      · skip
                        refine j_aload_n hx 1 dX12_table_132 rfl ?_
                        refine j_callV hx hG (c_X12_fine hst a) lk_RX12_166 ha (by decide) rfl rfl rfl rfl [] ⟨rfl, hG, hS_s36, ha⟩ rfl rfl ⟨by decide, by decide⟩ ⟨by decide, by decide⟩ (k2 := 0) (n2 := 0) rfl rfl (Nat.le_of_ble_eq_true rfl) dX12_table_133 (kIP (fun v861 q862 => ?_))
                        refine j_if_ne hx 142 dX12_table_136 rfl (by omega) (fun h863 => ?_) (fun h863 => ?_)
                        · skip
                          refine j_aload_n hx 1 dX12_table_142 rfl ?_
                          have f864 := zf hS_s36 ha (k := 4) rfl
                          have f865 := zf hS_s36 ha (k := 3) rfl
                          have g866 : s36 (gP G a 9) (s36 a 4).toNat = s0 (gP G a 9) (s36 a 4).toNat := (by rw [(zFr_g hF_s36 (zr (k := 9) (t2 := 72) hG ha rfl) (by decide)), (zFr_g hF_s28 (zr (k := 9) (t2 := 72) hG ha rfl) (by decide)), (zFr_g hF_s7 (zr (k := 9) (t2 := 72) hG ha rfl) (by decide)), (zFr_g hF_s5 (zr (k := 9) (t2 := 72) hG ha rfl) (by decide)), (zFr_g hF_s4 (zr (k := 9) (t2 := 72) hG ha rfl) (by decide)), e_s1, zU_at (Or.inl (zne ha (zr (k := 9) (t2 := 72) hG ha rfl) (by decide)))])
                          have f867 := zf hS_s36 ha (k := 0) rfl
                          have f868 := zf hS_s36 ha (k := 5) rfl
                          have f869 := zf hS_s36 ha (k := 7) rfl
                          have f870 := zf hS_s36 ha (k := 21) rfl
                          have f871 := zf hS_s36 ha (k := 22) rfl
                          have f872 := zf hS_s36 ha (k := 24) rfl
                          have f873 := zf hS_s36 ha (k := 38) rfl
                          have f874 := zf hS_s36 ha (k := 51) rfl
                          have f875 := zf hS_s36 ha (k := 52) rfl
                          refine j_callV hx hG (c_X12_pass hst a) lk_RX12_256 ha (by decide) rfl rfl rfl rfl [] ⟨rfl, hG, hS_s36, ha⟩ rfl rfl ⟨by decide, by decide⟩ ⟨by decide, by decide⟩ (k2 := 0) (n2 := 0) rfl rfl (Nat.le_of_ble_eq_true rfl) dX12_table_143 (kVM (fun s58 hS_s58 hF_s58 q877 => ?_))
                          refine j_aload_n hx 1 dX12_table_146 rfl ?_
                          refine j_iload_n hx 0 dX12_table_147 rfl ?_
                          have g878 : s58 (gP G a 13) 0 = s7 (gP G a 13) 0 := (by rw [(zFr_g hF_s58 (zr (k := 13) (t2 := 76) hG ha rfl) (by decide)), (zFr_g hF_s36 (zr (k := 13) (t2 := 76) hG ha rfl) (by decide)), (zFr_g hF_s28 (zr (k := 13) (t2 := 76) hG ha rfl) (by decide))])
                          have g879 : s58 (gP G a 13) 1 = s7 (gP G a 13) 1 := (by rw [(zFr_g hF_s58 (zr (k := 13) (t2 := 76) hG ha rfl) (by decide)), (zFr_g hF_s36 (zr (k := 13) (t2 := 76) hG ha rfl) (by decide)), (zFr_g hF_s28 (zr (k := 13) (t2 := 76) hG ha rfl) (by decide))])
                          have g880 : s58 (gP G a 13) 2 = s7 (gP G a 13) 2 := (by rw [(zFr_g hF_s58 (zr (k := 13) (t2 := 76) hG ha rfl) (by decide)), (zFr_g hF_s36 (zr (k := 13) (t2 := 76) hG ha rfl) (by decide)), (zFr_g hF_s28 (zr (k := 13) (t2 := 76) hG ha rfl) (by decide))])
                          have f881 := zf hS_s58 ha (k := 22) rfl
                          have f882 := zf hS_s58 ha (k := 21) rfl
                          have f883 := zf hS_s58 ha (k := 23) rfl
                          have f884 := zf hS_s58 ha (k := 4) rfl
                          have f885 := zf hS_s58 ha (k := 5) rfl
                          have f886 := zf hS_s58 ha (k := 3) rfl
                          have f887 := zf hS_s58 ha (k := 0) rfl
                          have f888 := zf hS_s58 ha (k := 7) rfl
                          have f889 := zf hS_s58 ha (k := 24) rfl
                          have f890 := zf hS_s58 ha (k := 38) rfl
                          have f891 := zf hS_s58 ha (k := 51) rfl
                          have f892 := zf hS_s58 ha (k := 52) rfl
                          refine j_callV hx hG (c_X12_readClause hst a v422) lk_RX12_259 ha (by decide) rfl rfl rfl rfl [.int (zI v422)] ⟨rfl, hG, hS_s58, ha, (by omega), ((by rw [(zFr_g hF_s58 (zr (k := 10) (t2 := 73) hG ha rfl) (by decide)), (zFr_g hF_s36 (zr (k := 10) (t2 := 73) hG ha rfl) (by decide)), (zFr_g hF_s28 (zr (k := 10) (t2 := 73) hG ha rfl) (by decide))]; exact (zQi_k fA18 (by omega) (by omega)))), (by omega), (by omega), (by omega)⟩ rfl rfl ⟨by decide, by decide⟩ ⟨by decide, by decide⟩ (k2 := 0) (n2 := 0) rfl rfl (Nat.le_of_ble_eq_true rfl) dX12_table_148 (kVM (fun s59 hS_s59 hF_s59 q894 => ?_))
                          refine j_aload_n hx 1 dX12_table_151 rfl ?_
                          refine j_bipush hx dX12_table_152 rfl ?_
                          have f895 := zf hS_s59 ha (k := 4) rfl
                          have f896 := zf hS_s59 ha (k := 5) rfl
                          have f897 := zf hS_s59 ha (k := 3) rfl
                          have f898 := zf hS_s59 ha (k := 0) rfl
                          have f899 := zf hS_s59 ha (k := 7) rfl
                          have f900 := zf hS_s59 ha (k := 21) rfl
                          have f901 := zf hS_s59 ha (k := 22) rfl
                          have f902 := zf hS_s59 ha (k := 23) rfl
                          have f903 := zf hS_s59 ha (k := 24) rfl
                          have f904 := zf hS_s59 ha (k := 38) rfl
                          have f905 := zf hS_s59 ha (k := 51) rfl
                          have f906 := zf hS_s59 ha (k := 52) rfl
                          refine j_callV hx hG (c_X12_sign hst a 59) lk_RX12_262 ha (by decide) rfl rfl rfl rfl [.int (zI 59)] ⟨rfl, hG, hS_s59, ha, (by omega)⟩ rfl rfl ⟨by decide, by decide⟩ ⟨by decide, by decide⟩ (k2 := 0) (n2 := 0) rfl rfl (Nat.le_of_ble_eq_true rfl) dX12_table_154 (kVM (fun s60 hS_s60 hF_s60 q908 => ?_))
                          refine j_iincN hx 2 (fun v909 => [(2, .int (zI v909)), (3, .int (zI v422)), (0, .ref a)]) dX12_table_157 rfl (by decide) (fun _ => rfl) (fun v909 f910 f911 f912 => ?_)
                          refine j_goto hx 44 dX12_table_160 rfl ?_
                          have f913 := zf hS_s60 ha (k := 4) rfl
                          have f914 := zf hS_s60 ha (k := 5) rfl
                          have f915 := zf hS_s60 ha (k := 0) rfl
                          have f916 := zf hS_s60 ha (k := 3) rfl
                          have f917 := zf hS_s60 ha (k := 7) rfl
                          have f918 := zf hS_s60 ha (k := 24) rfl
                          have f919 := zf hS_s60 ha (k := 38) rfl
                          have f920 := zf hS_s60 ha (k := 51) rfl
                          have f921 := zf hS_s60 ha (k := 52) rfl
                          have g922 : s60 (gP G a 13) 0 = s59 (gP G a 13) 0 := (by rw [(zFr_g hF_s60 (zr (k := 13) (t2 := 76) hG ha rfl) (by decide))])
                          have g923 : s60 (gP G a 13) 1 = s59 (gP G a 13) 1 := (by rw [(zFr_g hF_s60 (zr (k := 13) (t2 := 76) hG ha rfl) (by decide))])
                          have g924 : s60 (gP G a 13) 2 = s59 (gP G a 13) 2 := (by rw [(zFr_g hF_s60 (zr (k := 13) (t2 := 76) hG ha rfl) (by decide))])
                          have f925 := zf hS_s60 ha (k := 22) rfl
                          exact j_sub [2, 0] [(0, .ref a), (2, .int (zI v909))] rfl (ih_c44_6 v909 s60 (by omega) (by omega) hS_s60 (zFr_t (zFr_t (zFr_t (zFr_t (zFr_t (zFr_t zFr_rf hF_s7 (by decide)) hF_s28 (by decide)) hF_s36 (by decide)) hF_s58 (by decide)) hF_s59 (by decide)) hF_s60 (by decide)) (by omega) (by omega) (by omega) (by omega) (by omega) (by omega) (by omega) (by rw [(zFr_g hF_s60 (zr (k := 10) (t2 := 73) hG ha rfl) (by decide))]; exact (zQi_k q894.2.2.1 (by omega) (by omega))) (by omega) (by omega))
                        · skip
                          refine j_goto hx 163 dX12_table_139 rfl ?_
                          refine j_aload_n hx 1 dX12_table_163 rfl ?_
                          refine j_callV hx hG (c_X12_fine hst a) lk_RX12_166 ha (by decide) rfl rfl rfl rfl [] ⟨rfl, hG, hS_s36, ha⟩ rfl rfl ⟨by decide, by decide⟩ ⟨by decide, by decide⟩ (k2 := 0) (n2 := 0) rfl rfl (Nat.le_of_ble_eq_true rfl) dX12_table_164 (kIP (fun v926 q927 => ?_))
                          refine j_if_eq hx 187 dX12_table_167 rfl (by omega) (fun h928 => ?_) (fun h928 => ?_)
                          · skip
                            refine j_aload_n hx 1 dX12_table_187 rfl ?_
                            refine j_aload_n hx 1 dX12_table_188 rfl ?_
                            have f929 := zf hS_s36 ha (k := 21) rfl
                            refine g13_21 hx hG ha kf_RX12_180 rfl dX12_table_189 ?_
                            have f930 := zf hS_s36 ha (k := 0) rfl
                            have f931 := zf hS_s36 ha (k := 3) rfl
                            have f932 := zf hS_s36 ha (k := 4) rfl
                            have f933 := zf hS_s36 ha (k := 5) rfl
                            have f934 := zf hS_s36 ha (k := 7) rfl
                            have f935 := zf hS_s36 ha (k := 22) rfl
                            have f936 := zf hS_s36 ha (k := 24) rfl
                            have f937 := zf hS_s36 ha (k := 38) rfl
                            have f938 := zf hS_s36 ha (k := 51) rfl
                            have f939 := zf hS_s36 ha (k := 52) rfl
                            refine j_callV hx hG (c_X12_result hst a ((s36 a 21))) lk_RX12_265 ha (by decide) rfl rfl rfl rfl [.int (zI ((s36 a 21)))] ⟨rfl, hG, hS_s36, ha, (by omega)⟩ rfl rfl ⟨by decide, by decide⟩ ⟨by decide, by decide⟩ (k2 := 0) (n2 := 0) rfl rfl (Nat.le_of_ble_eq_true rfl) dX12_table_192 (kIM (fun v940 s61 hS_s61 hF_s61 q941 => ?_))
                            refine j_istore_n hx [(3, .int (zI v940)), (0, .ref a), (2, .int (zI v99))] dX12_table_195 (by decide) rfl ?_
                            refine j_aload_n hx 1 dX12_table_196 rfl ?_
                            have f942 := zf hS_s61 ha (k := 5) rfl
                            refine g13_5 hx hG ha kf_RX12_137 rfl dX12_table_197 ?_
                            refine j_iconst hx dX12_table_200 ?_
                            refine j_icmp_ne hx 208 dX12_table_201 rfl (by omega) ⟨by decide, by decide⟩ (fun h943 => ?_) (fun h943 => ?_)
                            · skip
                              refine j_iload_n hx 0 dX12_table_208 rfl ?_
                              have g944 : zc (s61 (gP G a 27)) = zc (s0 (gP G a 27)) := by rw [(zFr_g hF_s61 (zr (k := 27) (t2 := 84) hG ha rfl) (by decide)), (zFr_g hF_s36 (zr (k := 27) (t2 := 84) hG ha rfl) (by decide)), (zFr_g hF_s28 (zr (k := 27) (t2 := 84) hG ha rfl) (by decide)), (zFr_g hF_s7 (zr (k := 27) (t2 := 84) hG ha rfl) (by decide)), (zFr_g hF_s5 (zr (k := 27) (t2 := 84) hG ha rfl) (by decide)), (zFr_g hF_s4 (zr (k := 27) (t2 := 84) hG ha rfl) (by decide)), e_s1, zU_ne (zne (zr (k := 27) (t2 := 84) hG ha rfl) ha (by decide))]
                              have g945 : zc (s61 (gP G a 28)) = zc (s0 (gP G a 28)) := by rw [(zFr_g hF_s61 (zr (k := 28) (t2 := 85) hG ha rfl) (by decide)), (zFr_g hF_s36 (zr (k := 28) (t2 := 85) hG ha rfl) (by decide)), (zFr_g hF_s28 (zr (k := 28) (t2 := 85) hG ha rfl) (by decide)), (zFr_g hF_s7 (zr (k := 28) (t2 := 85) hG ha rfl) (by decide)), (zFr_g hF_s5 (zr (k := 28) (t2 := 85) hG ha rfl) (by decide)), (zFr_g hF_s4 (zr (k := 28) (t2 := 85) hG ha rfl) (by decide)), e_s1, zU_ne (zne (zr (k := 28) (t2 := 85) hG ha rfl) ha (by decide))]
                              have g946 : s61 (gP G a 27) 488 = s0 (gP G a 27) 488 := (by rw [(zFr_g hF_s61 (zr (k := 27) (t2 := 84) hG ha rfl) (by decide)), (zFr_g hF_s36 (zr (k := 27) (t2 := 84) hG ha rfl) (by decide)), (zFr_g hF_s28 (zr (k := 27) (t2 := 84) hG ha rfl) (by decide)), (zFr_g hF_s7 (zr (k := 27) (t2 := 84) hG ha rfl) (by decide)), (zFr_g hF_s5 (zr (k := 27) (t2 := 84) hG ha rfl) (by decide)), (zFr_g hF_s4 (zr (k := 27) (t2 := 84) hG ha rfl) (by decide)), e_s1, zU_at (Or.inl (zne ha (zr (k := 27) (t2 := 84) hG ha rfl) (by decide)))])
                              have g947 : s61 (gP G a 28) 488 = s0 (gP G a 28) 488 := (by rw [(zFr_g hF_s61 (zr (k := 28) (t2 := 85) hG ha rfl) (by decide)), (zFr_g hF_s36 (zr (k := 28) (t2 := 85) hG ha rfl) (by decide)), (zFr_g hF_s28 (zr (k := 28) (t2 := 85) hG ha rfl) (by decide)), (zFr_g hF_s7 (zr (k := 28) (t2 := 85) hG ha rfl) (by decide)), (zFr_g hF_s5 (zr (k := 28) (t2 := 85) hG ha rfl) (by decide)), (zFr_g hF_s4 (zr (k := 28) (t2 := 85) hG ha rfl) (by decide)), e_s1, zU_at (Or.inl (zne ha (zr (k := 28) (t2 := 85) hG ha rfl) (by decide)))])
                              have f948 := zf hS_s61 ha (k := 38) rfl
                              have f949 := zf hS_s61 ha (k := 51) rfl
                              have f950 := zf hS_s61 ha (k := 52) rfl
                              exact j_iret hx hq rfl (by decide) (by decide) dX12_table_209 ⟨v940, rfl, rfl, hS_s61, (zFr_t (zFr_t (zFr_t (zFr_t (zFr_t (zFr_t (zFr_u zFr_rf e_s1 ha (by decide)) hF_s4 (by decide)) hF_s5 (by decide)) hF_s7 (by decide)) hF_s28 (by decide)) hF_s36 (by decide)) hF_s61 (by decide)), ⟨(by omega), by omega, by omega, by omega, by omega, (by rw [(zFr_g hF_s61 (zr (k := 34) (t2 := 91) hG ha rfl) (by decide)), (zFr_g hF_s36 (zr (k := 34) (t2 := 91) hG ha rfl) (by decide)), (zFr_g hF_s28 (zr (k := 34) (t2 := 91) hG ha rfl) (by decide)), (zFr_g hF_s7 (zr (k := 34) (t2 := 91) hG ha rfl) (by decide)), (zFr_g hF_s5 (zr (k := 34) (t2 := 91) hG ha rfl) (by decide)), (zFr_g hF_s4 (zr (k := 34) (t2 := 91) hG ha rfl) (by decide)), e_s1, zU_ne (zne (zr (k := 34) (t2 := 91) hG ha rfl) ha (by decide)), (zFr_g hF_s61 (zr (k := 35) (t2 := 92) hG ha rfl) (by decide)), (zFr_g hF_s36 (zr (k := 35) (t2 := 92) hG ha rfl) (by decide)), (zFr_g hF_s28 (zr (k := 35) (t2 := 92) hG ha rfl) (by decide)), (zFr_g hF_s7 (zr (k := 35) (t2 := 92) hG ha rfl) (by decide)), (zFr_g hF_s5 (zr (k := 35) (t2 := 92) hG ha rfl) (by decide)), (zFr_g hF_s4 (zr (k := 35) (t2 := 92) hG ha rfl) (by decide)), e_s1, zU_ne (zne (zr (k := 35) (t2 := 92) hG ha rfl) ha (by decide)), (zFr_g hF_s61 (zr (k := 37) (t2 := 94) hG ha rfl) (by decide)), (zFr_g hF_s36 (zr (k := 37) (t2 := 94) hG ha rfl) (by decide)), (zFr_g hF_s28 (zr (k := 37) (t2 := 94) hG ha rfl) (by decide)), (zFr_g hF_s7 (zr (k := 37) (t2 := 94) hG ha rfl) (by decide)), (zFr_g hF_s5 (zr (k := 37) (t2 := 94) hG ha rfl) (by decide)), (zFr_g hF_s4 (zr (k := 37) (t2 := 94) hG ha rfl) (by decide)), e_s1, zU_ne (zne (zr (k := 37) (t2 := 94) hG ha rfl) ha (by decide))]; exact e2), (by rw [(zFr_g hF_s61 (zr (k := 17) (t2 := 80) hG ha rfl) (by decide)), (zFr_g hF_s36 (zr (k := 17) (t2 := 80) hG ha rfl) (by decide)), (zFr_g hF_s28 (zr (k := 17) (t2 := 80) hG ha rfl) (by decide)), (zFr_g hF_s7 (zr (k := 17) (t2 := 80) hG ha rfl) (by decide)), (zFr_g hF_s5 (zr (k := 17) (t2 := 80) hG ha rfl) (by decide)), (zFr_g hF_s4 (zr (k := 17) (t2 := 80) hG ha rfl) (by decide)), e_s1, zU_ne (zne (zr (k := 17) (t2 := 80) hG ha rfl) ha (by decide))]; exact (zQn_nn e3 (by omega))), by omega, by omega, by omega⟩⟩
                            · skip
                              refine j_aload_n hx 1 dX12_table_204 rfl ?_
                              have f951 := zf hS_s61 ha (k := 21) rfl
                              have hP952 : zQn (s61 (gP G a 10)) (s61 a 21) := ((by rw [(zFr_g hF_s61 (zr (k := 10) (t2 := 73) hG ha rfl) (by decide)), (zFr_g hF_s36 (zr (k := 10) (t2 := 73) hG ha rfl) (by decide)), (zFr_g hF_s28 (zr (k := 10) (t2 := 73) hG ha rfl) (by decide))]; exact (zQi_k fA18 (by omega) (by omega))) (by omega))
                              have g953 : s61 (gP G a 13) 0 = s7 (gP G a 13) 0 := (by rw [(zFr_g hF_s61 (zr (k := 13) (t2 := 76) hG ha rfl) (by decide)), (zFr_g hF_s36 (zr (k := 13) (t2 := 76) hG ha rfl) (by decide)), (zFr_g hF_s28 (zr (k := 13) (t2 := 76) hG ha rfl) (by decide))])
                              have g954 : s61 (gP G a 13) 1 = s7 (gP G a 13) 1 := (by rw [(zFr_g hF_s61 (zr (k := 13) (t2 := 76) hG ha rfl) (by decide)), (zFr_g hF_s36 (zr (k := 13) (t2 := 76) hG ha rfl) (by decide)), (zFr_g hF_s28 (zr (k := 13) (t2 := 76) hG ha rfl) (by decide))])
                              have g955 : s61 (gP G a 13) 2 = s7 (gP G a 13) 2 := (by rw [(zFr_g hF_s61 (zr (k := 13) (t2 := 76) hG ha rfl) (by decide)), (zFr_g hF_s36 (zr (k := 13) (t2 := 76) hG ha rfl) (by decide)), (zFr_g hF_s28 (zr (k := 13) (t2 := 76) hG ha rfl) (by decide))])
                              have f956 := zf hS_s61 ha (k := 0) rfl
                              have f957 := zf hS_s61 ha (k := 3) rfl
                              have f958 := zf hS_s61 ha (k := 4) rfl
                              have f959 := zf hS_s61 ha (k := 7) rfl
                              have f960 := zf hS_s61 ha (k := 22) rfl
                              have f961 := zf hS_s61 ha (k := 23) rfl
                              have f962 := zf hS_s61 ha (k := 38) rfl
                              have f963 := zf hS_s61 ha (k := 51) rfl
                              have f964 := zf hS_s61 ha (k := 52) rfl
                              refine j_callV hx hG (c_X12_sets hst a) lk_RX12_131 ha (by decide) rfl rfl rfl rfl [] ⟨rfl, hG, hS_s61, ha, (by omega), ((zQn_nn hP952 (by omega)))⟩ rfl rfl ⟨by decide, by decide⟩ ⟨by decide, by decide⟩ (k2 := 0) (n2 := 0) rfl rfl (Nat.le_of_ble_eq_true rfl) dX12_table_205 (kVM (fun s62 hS_s62 hF_s62 q966 => ?_))
                              refine j_iload_n hx 0 dX12_table_208 rfl ?_
                              have f967 := zf hS_s62 ha (k := 38) rfl
                              have f968 := zf hS_s62 ha (k := 51) rfl
                              have f969 := zf hS_s62 ha (k := 52) rfl
                              exact j_iret hx hq rfl (by decide) (by decide) dX12_table_209 ⟨v940, rfl, rfl, hS_s62, (zFr_t (zFr_t (zFr_t (zFr_t (zFr_t (zFr_t (zFr_t (zFr_u zFr_rf e_s1 ha (by decide)) hF_s4 (by decide)) hF_s5 (by decide)) hF_s7 (by decide)) hF_s28 (by decide)) hF_s36 (by decide)) hF_s61 (by decide)) hF_s62 (by decide)), ⟨(by omega), by omega, by omega, by omega, by omega, q966.2.2.2.2.2.1, (zQn_nn q966.2.2.2.2.1 (by omega)), by omega, by omega, by omega⟩⟩
                          · skip
                            refine j_aload_n hx 1 dX12_table_170 rfl ?_
                            have f970 := zf hS_s36 ha (k := 21) rfl
                            refine g13_21 hx hG ha kf_RX12_180 rfl dX12_table_171 ?_
                            refine j_iconst hx dX12_table_174 ?_
                            refine j_icmp_ge hx 187 dX12_table_175 rfl (by omega) ⟨by decide, by decide⟩ (fun h971 => ?_) (fun h971 => ?_)
                            · skip
                              refine j_aload_n hx 1 dX12_table_187 rfl ?_
                              refine j_aload_n hx 1 dX12_table_188 rfl ?_
                              refine g13_21 hx hG ha kf_RX12_180 rfl dX12_table_189 ?_
                              have f972 := zf hS_s36 ha (k := 0) rfl
                              have f973 := zf hS_s36 ha (k := 3) rfl
                              have f974 := zf hS_s36 ha (k := 4) rfl
                              have f975 := zf hS_s36 ha (k := 5) rfl
                              have f976 := zf hS_s36 ha (k := 7) rfl
                              have f977 := zf hS_s36 ha (k := 22) rfl
                              have f978 := zf hS_s36 ha (k := 24) rfl
                              have f979 := zf hS_s36 ha (k := 38) rfl
                              have f980 := zf hS_s36 ha (k := 51) rfl
                              have f981 := zf hS_s36 ha (k := 52) rfl
                              refine j_callV hx hG (c_X12_result hst a ((s36 a 21))) lk_RX12_265 ha (by decide) rfl rfl rfl rfl [.int (zI ((s36 a 21)))] ⟨rfl, hG, hS_s36, ha, (by omega)⟩ rfl rfl ⟨by decide, by decide⟩ ⟨by decide, by decide⟩ (k2 := 0) (n2 := 0) rfl rfl (Nat.le_of_ble_eq_true rfl) dX12_table_192 (kIM (fun v982 s63 hS_s63 hF_s63 q983 => ?_))
                              refine j_istore_n hx [(3, .int (zI v982)), (0, .ref a), (2, .int (zI v99))] dX12_table_195 (by decide) rfl ?_
                              refine j_aload_n hx 1 dX12_table_196 rfl ?_
                              have f984 := zf hS_s63 ha (k := 5) rfl
                              refine g13_5 hx hG ha kf_RX12_137 rfl dX12_table_197 ?_
                              refine j_iconst hx dX12_table_200 ?_
                              refine j_icmp_ne hx 208 dX12_table_201 rfl (by omega) ⟨by decide, by decide⟩ (fun h985 => ?_) (fun h985 => ?_)
                              · skip
                                refine j_iload_n hx 0 dX12_table_208 rfl ?_
                                have g986 : zc (s63 (gP G a 27)) = zc (s0 (gP G a 27)) := by rw [(zFr_g hF_s63 (zr (k := 27) (t2 := 84) hG ha rfl) (by decide)), (zFr_g hF_s36 (zr (k := 27) (t2 := 84) hG ha rfl) (by decide)), (zFr_g hF_s28 (zr (k := 27) (t2 := 84) hG ha rfl) (by decide)), (zFr_g hF_s7 (zr (k := 27) (t2 := 84) hG ha rfl) (by decide)), (zFr_g hF_s5 (zr (k := 27) (t2 := 84) hG ha rfl) (by decide)), (zFr_g hF_s4 (zr (k := 27) (t2 := 84) hG ha rfl) (by decide)), e_s1, zU_ne (zne (zr (k := 27) (t2 := 84) hG ha rfl) ha (by decide))]
                                have g987 : zc (s63 (gP G a 28)) = zc (s0 (gP G a 28)) := by rw [(zFr_g hF_s63 (zr (k := 28) (t2 := 85) hG ha rfl) (by decide)), (zFr_g hF_s36 (zr (k := 28) (t2 := 85) hG ha rfl) (by decide)), (zFr_g hF_s28 (zr (k := 28) (t2 := 85) hG ha rfl) (by decide)), (zFr_g hF_s7 (zr (k := 28) (t2 := 85) hG ha rfl) (by decide)), (zFr_g hF_s5 (zr (k := 28) (t2 := 85) hG ha rfl) (by decide)), (zFr_g hF_s4 (zr (k := 28) (t2 := 85) hG ha rfl) (by decide)), e_s1, zU_ne (zne (zr (k := 28) (t2 := 85) hG ha rfl) ha (by decide))]
                                have g988 : s63 (gP G a 27) 488 = s0 (gP G a 27) 488 := (by rw [(zFr_g hF_s63 (zr (k := 27) (t2 := 84) hG ha rfl) (by decide)), (zFr_g hF_s36 (zr (k := 27) (t2 := 84) hG ha rfl) (by decide)), (zFr_g hF_s28 (zr (k := 27) (t2 := 84) hG ha rfl) (by decide)), (zFr_g hF_s7 (zr (k := 27) (t2 := 84) hG ha rfl) (by decide)), (zFr_g hF_s5 (zr (k := 27) (t2 := 84) hG ha rfl) (by decide)), (zFr_g hF_s4 (zr (k := 27) (t2 := 84) hG ha rfl) (by decide)), e_s1, zU_at (Or.inl (zne ha (zr (k := 27) (t2 := 84) hG ha rfl) (by decide)))])
                                have g989 : s63 (gP G a 28) 488 = s0 (gP G a 28) 488 := (by rw [(zFr_g hF_s63 (zr (k := 28) (t2 := 85) hG ha rfl) (by decide)), (zFr_g hF_s36 (zr (k := 28) (t2 := 85) hG ha rfl) (by decide)), (zFr_g hF_s28 (zr (k := 28) (t2 := 85) hG ha rfl) (by decide)), (zFr_g hF_s7 (zr (k := 28) (t2 := 85) hG ha rfl) (by decide)), (zFr_g hF_s5 (zr (k := 28) (t2 := 85) hG ha rfl) (by decide)), (zFr_g hF_s4 (zr (k := 28) (t2 := 85) hG ha rfl) (by decide)), e_s1, zU_at (Or.inl (zne ha (zr (k := 28) (t2 := 85) hG ha rfl) (by decide)))])
                                have f990 := zf hS_s63 ha (k := 38) rfl
                                have f991 := zf hS_s63 ha (k := 51) rfl
                                have f992 := zf hS_s63 ha (k := 52) rfl
                                exact j_iret hx hq rfl (by decide) (by decide) dX12_table_209 ⟨v982, rfl, rfl, hS_s63, (zFr_t (zFr_t (zFr_t (zFr_t (zFr_t (zFr_t (zFr_u zFr_rf e_s1 ha (by decide)) hF_s4 (by decide)) hF_s5 (by decide)) hF_s7 (by decide)) hF_s28 (by decide)) hF_s36 (by decide)) hF_s63 (by decide)), ⟨(by omega), by omega, by omega, by omega, by omega, (by rw [(zFr_g hF_s63 (zr (k := 34) (t2 := 91) hG ha rfl) (by decide)), (zFr_g hF_s36 (zr (k := 34) (t2 := 91) hG ha rfl) (by decide)), (zFr_g hF_s28 (zr (k := 34) (t2 := 91) hG ha rfl) (by decide)), (zFr_g hF_s7 (zr (k := 34) (t2 := 91) hG ha rfl) (by decide)), (zFr_g hF_s5 (zr (k := 34) (t2 := 91) hG ha rfl) (by decide)), (zFr_g hF_s4 (zr (k := 34) (t2 := 91) hG ha rfl) (by decide)), e_s1, zU_ne (zne (zr (k := 34) (t2 := 91) hG ha rfl) ha (by decide)), (zFr_g hF_s63 (zr (k := 35) (t2 := 92) hG ha rfl) (by decide)), (zFr_g hF_s36 (zr (k := 35) (t2 := 92) hG ha rfl) (by decide)), (zFr_g hF_s28 (zr (k := 35) (t2 := 92) hG ha rfl) (by decide)), (zFr_g hF_s7 (zr (k := 35) (t2 := 92) hG ha rfl) (by decide)), (zFr_g hF_s5 (zr (k := 35) (t2 := 92) hG ha rfl) (by decide)), (zFr_g hF_s4 (zr (k := 35) (t2 := 92) hG ha rfl) (by decide)), e_s1, zU_ne (zne (zr (k := 35) (t2 := 92) hG ha rfl) ha (by decide)), (zFr_g hF_s63 (zr (k := 37) (t2 := 94) hG ha rfl) (by decide)), (zFr_g hF_s36 (zr (k := 37) (t2 := 94) hG ha rfl) (by decide)), (zFr_g hF_s28 (zr (k := 37) (t2 := 94) hG ha rfl) (by decide)), (zFr_g hF_s7 (zr (k := 37) (t2 := 94) hG ha rfl) (by decide)), (zFr_g hF_s5 (zr (k := 37) (t2 := 94) hG ha rfl) (by decide)), (zFr_g hF_s4 (zr (k := 37) (t2 := 94) hG ha rfl) (by decide)), e_s1, zU_ne (zne (zr (k := 37) (t2 := 94) hG ha rfl) ha (by decide))]; exact e2), (by rw [(zFr_g hF_s63 (zr (k := 17) (t2 := 80) hG ha rfl) (by decide)), (zFr_g hF_s36 (zr (k := 17) (t2 := 80) hG ha rfl) (by decide)), (zFr_g hF_s28 (zr (k := 17) (t2 := 80) hG ha rfl) (by decide)), (zFr_g hF_s7 (zr (k := 17) (t2 := 80) hG ha rfl) (by decide)), (zFr_g hF_s5 (zr (k := 17) (t2 := 80) hG ha rfl) (by decide)), (zFr_g hF_s4 (zr (k := 17) (t2 := 80) hG ha rfl) (by decide)), e_s1, zU_ne (zne (zr (k := 17) (t2 := 80) hG ha rfl) ha (by decide))]; exact (zQn_nn e3 (by omega))), by omega, by omega, by omega⟩⟩
                              · skip
                                refine j_aload_n hx 1 dX12_table_204 rfl ?_
                                have f993 := zf hS_s63 ha (k := 21) rfl
                                have hP994 : zQn (s63 (gP G a 10)) (s63 a 21) := ((by rw [(zFr_g hF_s63 (zr (k := 10) (t2 := 73) hG ha rfl) (by decide)), (zFr_g hF_s36 (zr (k := 10) (t2 := 73) hG ha rfl) (by decide)), (zFr_g hF_s28 (zr (k := 10) (t2 := 73) hG ha rfl) (by decide))]; exact (zQi_k fA18 (by omega) (by omega))) (by omega))
                                have g995 : s63 (gP G a 13) 0 = s7 (gP G a 13) 0 := (by rw [(zFr_g hF_s63 (zr (k := 13) (t2 := 76) hG ha rfl) (by decide)), (zFr_g hF_s36 (zr (k := 13) (t2 := 76) hG ha rfl) (by decide)), (zFr_g hF_s28 (zr (k := 13) (t2 := 76) hG ha rfl) (by decide))])
                                have g996 : s63 (gP G a 13) 1 = s7 (gP G a 13) 1 := (by rw [(zFr_g hF_s63 (zr (k := 13) (t2 := 76) hG ha rfl) (by decide)), (zFr_g hF_s36 (zr (k := 13) (t2 := 76) hG ha rfl) (by decide)), (zFr_g hF_s28 (zr (k := 13) (t2 := 76) hG ha rfl) (by decide))])
                                have g997 : s63 (gP G a 13) 2 = s7 (gP G a 13) 2 := (by rw [(zFr_g hF_s63 (zr (k := 13) (t2 := 76) hG ha rfl) (by decide)), (zFr_g hF_s36 (zr (k := 13) (t2 := 76) hG ha rfl) (by decide)), (zFr_g hF_s28 (zr (k := 13) (t2 := 76) hG ha rfl) (by decide))])
                                have f998 := zf hS_s63 ha (k := 0) rfl
                                have f999 := zf hS_s63 ha (k := 3) rfl
                                have f1000 := zf hS_s63 ha (k := 4) rfl
                                have f1001 := zf hS_s63 ha (k := 7) rfl
                                have f1002 := zf hS_s63 ha (k := 22) rfl
                                have f1003 := zf hS_s63 ha (k := 23) rfl
                                have f1004 := zf hS_s63 ha (k := 38) rfl
                                have f1005 := zf hS_s63 ha (k := 51) rfl
                                have f1006 := zf hS_s63 ha (k := 52) rfl
                                refine j_callV hx hG (c_X12_sets hst a) lk_RX12_131 ha (by decide) rfl rfl rfl rfl [] ⟨rfl, hG, hS_s63, ha, (by omega), ((zQn_nn hP994 (by omega)))⟩ rfl rfl ⟨by decide, by decide⟩ ⟨by decide, by decide⟩ (k2 := 0) (n2 := 0) rfl rfl (Nat.le_of_ble_eq_true rfl) dX12_table_205 (kVM (fun s64 hS_s64 hF_s64 q1008 => ?_))
                                refine j_iload_n hx 0 dX12_table_208 rfl ?_
                                have f1009 := zf hS_s64 ha (k := 38) rfl
                                have f1010 := zf hS_s64 ha (k := 51) rfl
                                have f1011 := zf hS_s64 ha (k := 52) rfl
                                exact j_iret hx hq rfl (by decide) (by decide) dX12_table_209 ⟨v982, rfl, rfl, hS_s64, (zFr_t (zFr_t (zFr_t (zFr_t (zFr_t (zFr_t (zFr_t (zFr_u zFr_rf e_s1 ha (by decide)) hF_s4 (by decide)) hF_s5 (by decide)) hF_s7 (by decide)) hF_s28 (by decide)) hF_s36 (by decide)) hF_s63 (by decide)) hF_s64 (by decide)), ⟨(by omega), by omega, by omega, by omega, by omega, q1008.2.2.2.2.2.1, (zQn_nn q1008.2.2.2.2.1 (by omega)), by omega, by omega, by omega⟩⟩
                            · skip
                              refine j_aload_n hx 1 dX12_table_178 rfl ?_
                              refine j_iconst hx dX12_table_179 ?_
                              refine j_aload_n hx 1 dX12_table_180 rfl ?_
                              have f1012 := zf hS_s36 ha (k := 3) rfl
                              refine g13_3 hx hG ha kf_RX12_146 rfl dX12_table_181 ?_
                              have f1013 := zf hS_s36 ha (k := 0) rfl
                              have f1014 := zf hS_s36 ha (k := 4) rfl
                              have f1015 := zf hS_s36 ha (k := 7) rfl
                              have f1016 := zf hS_s36 ha (k := 22) rfl
                              have f1017 := zf hS_s36 ha (k := 24) rfl
                              have f1018 := zf hS_s36 ha (k := 38) rfl
                              have f1019 := zf hS_s36 ha (k := 51) rfl
                              have f1020 := zf hS_s36 ha (k := 52) rfl
                              refine j_callV hx hG (c_X12_wrong hst a 4 ((s36 a 3))) lk_RX12_173 ha (by decide) rfl rfl rfl rfl [.int (zI 4), .int (zI ((s36 a 3)))] ⟨rfl, hG, hS_s36, ha, (by omega), (by omega)⟩ rfl rfl ⟨by decide, by decide⟩ ⟨by decide, by decide⟩ (k2 := 0) (n2 := 0) rfl rfl (Nat.le_of_ble_eq_true rfl) dX12_table_184 (kVM (fun s65 hS_s65 hF_s65 q1022 => ?_))
                              refine j_aload_n hx 1 dX12_table_187 rfl ?_
                              refine j_aload_n hx 1 dX12_table_188 rfl ?_
                              have f1023 := zf hS_s65 ha (k := 21) rfl
                              refine g13_21 hx hG ha kf_RX12_180 rfl dX12_table_189 ?_
                              have f1024 := zf hS_s65 ha (k := 0) rfl
                              have f1025 := zf hS_s65 ha (k := 3) rfl
                              have f1026 := zf hS_s65 ha (k := 4) rfl
                              have f1027 := zf hS_s65 ha (k := 5) rfl
                              have f1028 := zf hS_s65 ha (k := 7) rfl
                              have f1029 := zf hS_s65 ha (k := 22) rfl
                              have f1030 := zf hS_s65 ha (k := 23) rfl
                              have f1031 := zf hS_s65 ha (k := 24) rfl
                              have f1032 := zf hS_s65 ha (k := 38) rfl
                              have f1033 := zf hS_s65 ha (k := 51) rfl
                              have f1034 := zf hS_s65 ha (k := 52) rfl
                              refine j_callV hx hG (c_X12_result hst a ((s65 a 21))) lk_RX12_265 ha (by decide) rfl rfl rfl rfl [.int (zI ((s65 a 21)))] ⟨rfl, hG, hS_s65, ha, (by omega)⟩ rfl rfl ⟨by decide, by decide⟩ ⟨by decide, by decide⟩ (k2 := 0) (n2 := 0) rfl rfl (Nat.le_of_ble_eq_true rfl) dX12_table_192 (kIM (fun v1035 s66 hS_s66 hF_s66 q1036 => ?_))
                              refine j_istore_n hx [(3, .int (zI v1035)), (0, .ref a), (2, .int (zI v99))] dX12_table_195 (by decide) rfl ?_
                              refine j_aload_n hx 1 dX12_table_196 rfl ?_
                              have f1037 := zf hS_s66 ha (k := 5) rfl
                              refine g13_5 hx hG ha kf_RX12_137 rfl dX12_table_197 ?_
                              refine j_iconst hx dX12_table_200 ?_
                              refine j_icmp_ne hx 208 dX12_table_201 rfl (by omega) ⟨by decide, by decide⟩ (fun h1038 => ?_) (fun h1038 => ?_)
                              · skip
                                refine j_iload_n hx 0 dX12_table_208 rfl ?_
                                have g1039 : zc (s66 (gP G a 27)) = zc (s0 (gP G a 27)) := by rw [(zFr_g hF_s66 (zr (k := 27) (t2 := 84) hG ha rfl) (by decide)), (zFr_g hF_s65 (zr (k := 27) (t2 := 84) hG ha rfl) (by decide)), (zFr_g hF_s36 (zr (k := 27) (t2 := 84) hG ha rfl) (by decide)), (zFr_g hF_s28 (zr (k := 27) (t2 := 84) hG ha rfl) (by decide)), (zFr_g hF_s7 (zr (k := 27) (t2 := 84) hG ha rfl) (by decide)), (zFr_g hF_s5 (zr (k := 27) (t2 := 84) hG ha rfl) (by decide)), (zFr_g hF_s4 (zr (k := 27) (t2 := 84) hG ha rfl) (by decide)), e_s1, zU_ne (zne (zr (k := 27) (t2 := 84) hG ha rfl) ha (by decide))]
                                have g1040 : zc (s66 (gP G a 28)) = zc (s0 (gP G a 28)) := by rw [(zFr_g hF_s66 (zr (k := 28) (t2 := 85) hG ha rfl) (by decide)), (zFr_g hF_s65 (zr (k := 28) (t2 := 85) hG ha rfl) (by decide)), (zFr_g hF_s36 (zr (k := 28) (t2 := 85) hG ha rfl) (by decide)), (zFr_g hF_s28 (zr (k := 28) (t2 := 85) hG ha rfl) (by decide)), (zFr_g hF_s7 (zr (k := 28) (t2 := 85) hG ha rfl) (by decide)), (zFr_g hF_s5 (zr (k := 28) (t2 := 85) hG ha rfl) (by decide)), (zFr_g hF_s4 (zr (k := 28) (t2 := 85) hG ha rfl) (by decide)), e_s1, zU_ne (zne (zr (k := 28) (t2 := 85) hG ha rfl) ha (by decide))]
                                have g1041 : s66 (gP G a 27) 488 = s0 (gP G a 27) 488 := (by rw [(zFr_g hF_s66 (zr (k := 27) (t2 := 84) hG ha rfl) (by decide)), (zFr_g hF_s65 (zr (k := 27) (t2 := 84) hG ha rfl) (by decide)), (zFr_g hF_s36 (zr (k := 27) (t2 := 84) hG ha rfl) (by decide)), (zFr_g hF_s28 (zr (k := 27) (t2 := 84) hG ha rfl) (by decide)), (zFr_g hF_s7 (zr (k := 27) (t2 := 84) hG ha rfl) (by decide)), (zFr_g hF_s5 (zr (k := 27) (t2 := 84) hG ha rfl) (by decide)), (zFr_g hF_s4 (zr (k := 27) (t2 := 84) hG ha rfl) (by decide)), e_s1, zU_at (Or.inl (zne ha (zr (k := 27) (t2 := 84) hG ha rfl) (by decide)))])
                                have g1042 : s66 (gP G a 28) 488 = s0 (gP G a 28) 488 := (by rw [(zFr_g hF_s66 (zr (k := 28) (t2 := 85) hG ha rfl) (by decide)), (zFr_g hF_s65 (zr (k := 28) (t2 := 85) hG ha rfl) (by decide)), (zFr_g hF_s36 (zr (k := 28) (t2 := 85) hG ha rfl) (by decide)), (zFr_g hF_s28 (zr (k := 28) (t2 := 85) hG ha rfl) (by decide)), (zFr_g hF_s7 (zr (k := 28) (t2 := 85) hG ha rfl) (by decide)), (zFr_g hF_s5 (zr (k := 28) (t2 := 85) hG ha rfl) (by decide)), (zFr_g hF_s4 (zr (k := 28) (t2 := 85) hG ha rfl) (by decide)), e_s1, zU_at (Or.inl (zne ha (zr (k := 28) (t2 := 85) hG ha rfl) (by decide)))])
                                have f1043 := zf hS_s66 ha (k := 38) rfl
                                have f1044 := zf hS_s66 ha (k := 51) rfl
                                have f1045 := zf hS_s66 ha (k := 52) rfl
                                exact j_iret hx hq rfl (by decide) (by decide) dX12_table_209 ⟨v1035, rfl, rfl, hS_s66, (zFr_t (zFr_t (zFr_t (zFr_t (zFr_t (zFr_t (zFr_t (zFr_u zFr_rf e_s1 ha (by decide)) hF_s4 (by decide)) hF_s5 (by decide)) hF_s7 (by decide)) hF_s28 (by decide)) hF_s36 (by decide)) hF_s65 (by decide)) hF_s66 (by decide)), ⟨(by omega), by omega, by omega, by omega, by omega, (by rw [(zFr_g hF_s66 (zr (k := 34) (t2 := 91) hG ha rfl) (by decide)), (zFr_g hF_s65 (zr (k := 34) (t2 := 91) hG ha rfl) (by decide)), (zFr_g hF_s36 (zr (k := 34) (t2 := 91) hG ha rfl) (by decide)), (zFr_g hF_s28 (zr (k := 34) (t2 := 91) hG ha rfl) (by decide)), (zFr_g hF_s7 (zr (k := 34) (t2 := 91) hG ha rfl) (by decide)), (zFr_g hF_s5 (zr (k := 34) (t2 := 91) hG ha rfl) (by decide)), (zFr_g hF_s4 (zr (k := 34) (t2 := 91) hG ha rfl) (by decide)), e_s1, zU_ne (zne (zr (k := 34) (t2 := 91) hG ha rfl) ha (by decide)), (zFr_g hF_s66 (zr (k := 35) (t2 := 92) hG ha rfl) (by decide)), (zFr_g hF_s65 (zr (k := 35) (t2 := 92) hG ha rfl) (by decide)), (zFr_g hF_s36 (zr (k := 35) (t2 := 92) hG ha rfl) (by decide)), (zFr_g hF_s28 (zr (k := 35) (t2 := 92) hG ha rfl) (by decide)), (zFr_g hF_s7 (zr (k := 35) (t2 := 92) hG ha rfl) (by decide)), (zFr_g hF_s5 (zr (k := 35) (t2 := 92) hG ha rfl) (by decide)), (zFr_g hF_s4 (zr (k := 35) (t2 := 92) hG ha rfl) (by decide)), e_s1, zU_ne (zne (zr (k := 35) (t2 := 92) hG ha rfl) ha (by decide)), (zFr_g hF_s66 (zr (k := 37) (t2 := 94) hG ha rfl) (by decide)), (zFr_g hF_s65 (zr (k := 37) (t2 := 94) hG ha rfl) (by decide)), (zFr_g hF_s36 (zr (k := 37) (t2 := 94) hG ha rfl) (by decide)), (zFr_g hF_s28 (zr (k := 37) (t2 := 94) hG ha rfl) (by decide)), (zFr_g hF_s7 (zr (k := 37) (t2 := 94) hG ha rfl) (by decide)), (zFr_g hF_s5 (zr (k := 37) (t2 := 94) hG ha rfl) (by decide)), (zFr_g hF_s4 (zr (k := 37) (t2 := 94) hG ha rfl) (by decide)), e_s1, zU_ne (zne (zr (k := 37) (t2 := 94) hG ha rfl) ha (by decide))]; exact e2), (by rw [(zFr_g hF_s66 (zr (k := 17) (t2 := 80) hG ha rfl) (by decide)), (zFr_g hF_s65 (zr (k := 17) (t2 := 80) hG ha rfl) (by decide)), (zFr_g hF_s36 (zr (k := 17) (t2 := 80) hG ha rfl) (by decide)), (zFr_g hF_s28 (zr (k := 17) (t2 := 80) hG ha rfl) (by decide)), (zFr_g hF_s7 (zr (k := 17) (t2 := 80) hG ha rfl) (by decide)), (zFr_g hF_s5 (zr (k := 17) (t2 := 80) hG ha rfl) (by decide)), (zFr_g hF_s4 (zr (k := 17) (t2 := 80) hG ha rfl) (by decide)), e_s1, zU_ne (zne (zr (k := 17) (t2 := 80) hG ha rfl) ha (by decide))]; exact (zQn_nn e3 (by omega))), by omega, by omega, by omega⟩⟩
                              · skip
                                refine j_aload_n hx 1 dX12_table_204 rfl ?_
                                have f1046 := zf hS_s66 ha (k := 21) rfl
                                have hP1047 : zQn (s66 (gP G a 10)) (s66 a 21) := ((by rw [(zFr_g hF_s66 (zr (k := 10) (t2 := 73) hG ha rfl) (by decide)), (zFr_g hF_s65 (zr (k := 10) (t2 := 73) hG ha rfl) (by decide)), (zFr_g hF_s36 (zr (k := 10) (t2 := 73) hG ha rfl) (by decide)), (zFr_g hF_s28 (zr (k := 10) (t2 := 73) hG ha rfl) (by decide))]; exact (zQi_k fA18 (by omega) (by omega))) (by omega))
                                have g1048 : s66 (gP G a 13) 0 = s7 (gP G a 13) 0 := (by rw [(zFr_g hF_s66 (zr (k := 13) (t2 := 76) hG ha rfl) (by decide)), (zFr_g hF_s65 (zr (k := 13) (t2 := 76) hG ha rfl) (by decide)), (zFr_g hF_s36 (zr (k := 13) (t2 := 76) hG ha rfl) (by decide)), (zFr_g hF_s28 (zr (k := 13) (t2 := 76) hG ha rfl) (by decide))])
                                have g1049 : s66 (gP G a 13) 1 = s7 (gP G a 13) 1 := (by rw [(zFr_g hF_s66 (zr (k := 13) (t2 := 76) hG ha rfl) (by decide)), (zFr_g hF_s65 (zr (k := 13) (t2 := 76) hG ha rfl) (by decide)), (zFr_g hF_s36 (zr (k := 13) (t2 := 76) hG ha rfl) (by decide)), (zFr_g hF_s28 (zr (k := 13) (t2 := 76) hG ha rfl) (by decide))])
                                have g1050 : s66 (gP G a 13) 2 = s7 (gP G a 13) 2 := (by rw [(zFr_g hF_s66 (zr (k := 13) (t2 := 76) hG ha rfl) (by decide)), (zFr_g hF_s65 (zr (k := 13) (t2 := 76) hG ha rfl) (by decide)), (zFr_g hF_s36 (zr (k := 13) (t2 := 76) hG ha rfl) (by decide)), (zFr_g hF_s28 (zr (k := 13) (t2 := 76) hG ha rfl) (by decide))])
                                have f1051 := zf hS_s66 ha (k := 0) rfl
                                have f1052 := zf hS_s66 ha (k := 3) rfl
                                have f1053 := zf hS_s66 ha (k := 4) rfl
                                have f1054 := zf hS_s66 ha (k := 7) rfl
                                have f1055 := zf hS_s66 ha (k := 22) rfl
                                have f1056 := zf hS_s66 ha (k := 23) rfl
                                have f1057 := zf hS_s66 ha (k := 38) rfl
                                have f1058 := zf hS_s66 ha (k := 51) rfl
                                have f1059 := zf hS_s66 ha (k := 52) rfl
                                refine j_callV hx hG (c_X12_sets hst a) lk_RX12_131 ha (by decide) rfl rfl rfl rfl [] ⟨rfl, hG, hS_s66, ha, (by omega), ((zQn_nn hP1047 (by omega)))⟩ rfl rfl ⟨by decide, by decide⟩ ⟨by decide, by decide⟩ (k2 := 0) (n2 := 0) rfl rfl (Nat.le_of_ble_eq_true rfl) dX12_table_205 (kVM (fun s67 hS_s67 hF_s67 q1061 => ?_))
                                refine j_iload_n hx 0 dX12_table_208 rfl ?_
                                have f1062 := zf hS_s67 ha (k := 38) rfl
                                have f1063 := zf hS_s67 ha (k := 51) rfl
                                have f1064 := zf hS_s67 ha (k := 52) rfl
                                exact j_iret hx hq rfl (by decide) (by decide) dX12_table_209 ⟨v1035, rfl, rfl, hS_s67, (zFr_t (zFr_t (zFr_t (zFr_t (zFr_t (zFr_t (zFr_t (zFr_t (zFr_u zFr_rf e_s1 ha (by decide)) hF_s4 (by decide)) hF_s5 (by decide)) hF_s7 (by decide)) hF_s28 (by decide)) hF_s36 (by decide)) hF_s65 (by decide)) hF_s66 (by decide)) hF_s67 (by decide)), ⟨(by omega), by omega, by omega, by omega, by omega, q1061.2.2.2.2.2.1, (zQn_nn q1061.2.2.2.2.1 (by omega)), by omega, by omega, by omega⟩⟩
                      · skip
                        refine j_aload_n hx 1 dX12_table_123 rfl ?_
                        refine j_iconst hx dX12_table_124 ?_
                        refine j_aload_n hx 1 dX12_table_125 rfl ?_
                        have f1065 := zf hS_s36 ha (k := 4) rfl
                        refine g13_4 hx hG ha kf_RX12_143 rfl dX12_table_126 ?_
                        have f1066 := zf hS_s36 ha (k := 0) rfl
                        have f1067 := zf hS_s36 ha (k := 3) rfl
                        have f1068 := zf hS_s36 ha (k := 7) rfl
                        have f1069 := zf hS_s36 ha (k := 21) rfl
                        have f1070 := zf hS_s36 ha (k := 22) rfl
                        have f1071 := zf hS_s36 ha (k := 24) rfl
                        have f1072 := zf hS_s36 ha (k := 38) rfl
                        have f1073 := zf hS_s36 ha (k := 51) rfl
                        have f1074 := zf hS_s36 ha (k := 52) rfl
                        refine j_callV hx hG (c_X12_wrong hst a 3 ((s36 a 4))) lk_RX12_173 ha (by decide) rfl rfl rfl rfl [.int (zI 3), .int (zI ((s36 a 4)))] ⟨rfl, hG, hS_s36, ha, (by omega), (by omega)⟩ rfl rfl ⟨by decide, by decide⟩ ⟨by decide, by decide⟩ (k2 := 0) (n2 := 0) rfl rfl (Nat.le_of_ble_eq_true rfl) dX12_table_129 (kVM (fun s68 hS_s68 hF_s68 q1076 => ?_))
                        refine j_aload_n hx 1 dX12_table_132 rfl ?_
                        refine j_callV hx hG (c_X12_fine hst a) lk_RX12_166 ha (by decide) rfl rfl rfl rfl [] ⟨rfl, hG, hS_s68, ha⟩ rfl rfl ⟨by decide, by decide⟩ ⟨by decide, by decide⟩ (k2 := 0) (n2 := 0) rfl rfl (Nat.le_of_ble_eq_true rfl) dX12_table_133 (kIP (fun v1077 q1078 => ?_))
                        refine j_if_ne hx 142 dX12_table_136 rfl (by omega) (fun h1079 => ?_) (fun h1079 => ?_)
                        · skip
                          refine j_aload_n hx 1 dX12_table_142 rfl ?_
                          have f1080 := zf hS_s68 ha (k := 4) rfl
                          have f1081 := zf hS_s68 ha (k := 3) rfl
                          have g1082 : s68 (gP G a 9) (s68 a 4).toNat = s0 (gP G a 9) (s68 a 4).toNat := (by rw [(zFr_g hF_s68 (zr (k := 9) (t2 := 72) hG ha rfl) (by decide)), (zFr_g hF_s36 (zr (k := 9) (t2 := 72) hG ha rfl) (by decide)), (zFr_g hF_s28 (zr (k := 9) (t2 := 72) hG ha rfl) (by decide)), (zFr_g hF_s7 (zr (k := 9) (t2 := 72) hG ha rfl) (by decide)), (zFr_g hF_s5 (zr (k := 9) (t2 := 72) hG ha rfl) (by decide)), (zFr_g hF_s4 (zr (k := 9) (t2 := 72) hG ha rfl) (by decide)), e_s1, zU_at (Or.inl (zne ha (zr (k := 9) (t2 := 72) hG ha rfl) (by decide)))])
                          have f1083 := zf hS_s68 ha (k := 0) rfl
                          have f1084 := zf hS_s68 ha (k := 5) rfl
                          have f1085 := zf hS_s68 ha (k := 7) rfl
                          have f1086 := zf hS_s68 ha (k := 21) rfl
                          have f1087 := zf hS_s68 ha (k := 22) rfl
                          have f1088 := zf hS_s68 ha (k := 23) rfl
                          have f1089 := zf hS_s68 ha (k := 24) rfl
                          have f1090 := zf hS_s68 ha (k := 38) rfl
                          have f1091 := zf hS_s68 ha (k := 51) rfl
                          have f1092 := zf hS_s68 ha (k := 52) rfl
                          refine j_callV hx hG (c_X12_pass hst a) lk_RX12_256 ha (by decide) rfl rfl rfl rfl [] ⟨rfl, hG, hS_s68, ha⟩ rfl rfl ⟨by decide, by decide⟩ ⟨by decide, by decide⟩ (k2 := 0) (n2 := 0) rfl rfl (Nat.le_of_ble_eq_true rfl) dX12_table_143 (kVM (fun s69 hS_s69 hF_s69 q1094 => ?_))
                          refine j_aload_n hx 1 dX12_table_146 rfl ?_
                          refine j_iload_n hx 0 dX12_table_147 rfl ?_
                          have g1095 : s69 (gP G a 13) 0 = s7 (gP G a 13) 0 := (by rw [(zFr_g hF_s69 (zr (k := 13) (t2 := 76) hG ha rfl) (by decide)), (zFr_g hF_s68 (zr (k := 13) (t2 := 76) hG ha rfl) (by decide)), (zFr_g hF_s36 (zr (k := 13) (t2 := 76) hG ha rfl) (by decide)), (zFr_g hF_s28 (zr (k := 13) (t2 := 76) hG ha rfl) (by decide))])
                          have g1096 : s69 (gP G a 13) 1 = s7 (gP G a 13) 1 := (by rw [(zFr_g hF_s69 (zr (k := 13) (t2 := 76) hG ha rfl) (by decide)), (zFr_g hF_s68 (zr (k := 13) (t2 := 76) hG ha rfl) (by decide)), (zFr_g hF_s36 (zr (k := 13) (t2 := 76) hG ha rfl) (by decide)), (zFr_g hF_s28 (zr (k := 13) (t2 := 76) hG ha rfl) (by decide))])
                          have g1097 : s69 (gP G a 13) 2 = s7 (gP G a 13) 2 := (by rw [(zFr_g hF_s69 (zr (k := 13) (t2 := 76) hG ha rfl) (by decide)), (zFr_g hF_s68 (zr (k := 13) (t2 := 76) hG ha rfl) (by decide)), (zFr_g hF_s36 (zr (k := 13) (t2 := 76) hG ha rfl) (by decide)), (zFr_g hF_s28 (zr (k := 13) (t2 := 76) hG ha rfl) (by decide))])
                          have f1098 := zf hS_s69 ha (k := 22) rfl
                          have f1099 := zf hS_s69 ha (k := 21) rfl
                          have f1100 := zf hS_s69 ha (k := 23) rfl
                          have f1101 := zf hS_s69 ha (k := 4) rfl
                          have f1102 := zf hS_s69 ha (k := 5) rfl
                          have f1103 := zf hS_s69 ha (k := 3) rfl
                          have f1104 := zf hS_s69 ha (k := 0) rfl
                          have f1105 := zf hS_s69 ha (k := 7) rfl
                          have f1106 := zf hS_s69 ha (k := 24) rfl
                          have f1107 := zf hS_s69 ha (k := 38) rfl
                          have f1108 := zf hS_s69 ha (k := 51) rfl
                          have f1109 := zf hS_s69 ha (k := 52) rfl
                          refine j_callV hx hG (c_X12_readClause hst a v422) lk_RX12_259 ha (by decide) rfl rfl rfl rfl [.int (zI v422)] ⟨rfl, hG, hS_s69, ha, (by omega), ((by rw [(zFr_g hF_s69 (zr (k := 10) (t2 := 73) hG ha rfl) (by decide)), (zFr_g hF_s68 (zr (k := 10) (t2 := 73) hG ha rfl) (by decide)), (zFr_g hF_s36 (zr (k := 10) (t2 := 73) hG ha rfl) (by decide)), (zFr_g hF_s28 (zr (k := 10) (t2 := 73) hG ha rfl) (by decide))]; exact (zQi_k fA18 (by omega) (by omega)))), (by omega), (by omega), (by omega)⟩ rfl rfl ⟨by decide, by decide⟩ ⟨by decide, by decide⟩ (k2 := 0) (n2 := 0) rfl rfl (Nat.le_of_ble_eq_true rfl) dX12_table_148 (kVM (fun s70 hS_s70 hF_s70 q1111 => ?_))
                          refine j_aload_n hx 1 dX12_table_151 rfl ?_
                          refine j_bipush hx dX12_table_152 rfl ?_
                          have f1112 := zf hS_s70 ha (k := 4) rfl
                          have f1113 := zf hS_s70 ha (k := 5) rfl
                          have f1114 := zf hS_s70 ha (k := 3) rfl
                          have f1115 := zf hS_s70 ha (k := 0) rfl
                          have f1116 := zf hS_s70 ha (k := 7) rfl
                          have f1117 := zf hS_s70 ha (k := 21) rfl
                          have f1118 := zf hS_s70 ha (k := 22) rfl
                          have f1119 := zf hS_s70 ha (k := 23) rfl
                          have f1120 := zf hS_s70 ha (k := 24) rfl
                          have f1121 := zf hS_s70 ha (k := 38) rfl
                          have f1122 := zf hS_s70 ha (k := 51) rfl
                          have f1123 := zf hS_s70 ha (k := 52) rfl
                          refine j_callV hx hG (c_X12_sign hst a 59) lk_RX12_262 ha (by decide) rfl rfl rfl rfl [.int (zI 59)] ⟨rfl, hG, hS_s70, ha, (by omega)⟩ rfl rfl ⟨by decide, by decide⟩ ⟨by decide, by decide⟩ (k2 := 0) (n2 := 0) rfl rfl (Nat.le_of_ble_eq_true rfl) dX12_table_154 (kVM (fun s71 hS_s71 hF_s71 q1125 => ?_))
                          refine j_iincN hx 2 (fun v1126 => [(2, .int (zI v1126)), (3, .int (zI v422)), (0, .ref a)]) dX12_table_157 rfl (by decide) (fun _ => rfl) (fun v1126 f1127 f1128 f1129 => ?_)
                          refine j_goto hx 44 dX12_table_160 rfl ?_
                          have f1130 := zf hS_s71 ha (k := 4) rfl
                          have f1131 := zf hS_s71 ha (k := 5) rfl
                          have f1132 := zf hS_s71 ha (k := 0) rfl
                          have f1133 := zf hS_s71 ha (k := 3) rfl
                          have f1134 := zf hS_s71 ha (k := 7) rfl
                          have f1135 := zf hS_s71 ha (k := 24) rfl
                          have f1136 := zf hS_s71 ha (k := 38) rfl
                          have f1137 := zf hS_s71 ha (k := 51) rfl
                          have f1138 := zf hS_s71 ha (k := 52) rfl
                          have g1139 : s71 (gP G a 13) 0 = s70 (gP G a 13) 0 := (by rw [(zFr_g hF_s71 (zr (k := 13) (t2 := 76) hG ha rfl) (by decide))])
                          have g1140 : s71 (gP G a 13) 1 = s70 (gP G a 13) 1 := (by rw [(zFr_g hF_s71 (zr (k := 13) (t2 := 76) hG ha rfl) (by decide))])
                          have g1141 : s71 (gP G a 13) 2 = s70 (gP G a 13) 2 := (by rw [(zFr_g hF_s71 (zr (k := 13) (t2 := 76) hG ha rfl) (by decide))])
                          have f1142 := zf hS_s71 ha (k := 22) rfl
                          exact j_sub [2, 0] [(0, .ref a), (2, .int (zI v1126))] rfl (ih_c44_6 v1126 s71 (by omega) (by omega) hS_s71 (zFr_t (zFr_t (zFr_t (zFr_t (zFr_t (zFr_t (zFr_t zFr_rf hF_s7 (by decide)) hF_s28 (by decide)) hF_s36 (by decide)) hF_s68 (by decide)) hF_s69 (by decide)) hF_s70 (by decide)) hF_s71 (by decide)) (by omega) (by omega) (by omega) (by omega) (by omega) (by omega) (by omega) (by rw [(zFr_g hF_s71 (zr (k := 10) (t2 := 73) hG ha rfl) (by decide))]; exact (zQi_k q1111.2.2.1 (by omega) (by omega))) (by omega) (by omega))
                        · skip
                          refine j_goto hx 163 dX12_table_139 rfl ?_
                          refine j_aload_n hx 1 dX12_table_163 rfl ?_
                          refine j_callV hx hG (c_X12_fine hst a) lk_RX12_166 ha (by decide) rfl rfl rfl rfl [] ⟨rfl, hG, hS_s68, ha⟩ rfl rfl ⟨by decide, by decide⟩ ⟨by decide, by decide⟩ (k2 := 0) (n2 := 0) rfl rfl (Nat.le_of_ble_eq_true rfl) dX12_table_164 (kIP (fun v1143 q1144 => ?_))
                          refine j_if_eq hx 187 dX12_table_167 rfl (by omega) (fun h1145 => ?_) (fun h1145 => ?_)
                          · skip
                            refine j_aload_n hx 1 dX12_table_187 rfl ?_
                            refine j_aload_n hx 1 dX12_table_188 rfl ?_
                            have f1146 := zf hS_s68 ha (k := 21) rfl
                            refine g13_21 hx hG ha kf_RX12_180 rfl dX12_table_189 ?_
                            have f1147 := zf hS_s68 ha (k := 0) rfl
                            have f1148 := zf hS_s68 ha (k := 3) rfl
                            have f1149 := zf hS_s68 ha (k := 4) rfl
                            have f1150 := zf hS_s68 ha (k := 5) rfl
                            have f1151 := zf hS_s68 ha (k := 7) rfl
                            have f1152 := zf hS_s68 ha (k := 22) rfl
                            have f1153 := zf hS_s68 ha (k := 23) rfl
                            have f1154 := zf hS_s68 ha (k := 24) rfl
                            have f1155 := zf hS_s68 ha (k := 38) rfl
                            have f1156 := zf hS_s68 ha (k := 51) rfl
                            have f1157 := zf hS_s68 ha (k := 52) rfl
                            refine j_callV hx hG (c_X12_result hst a ((s68 a 21))) lk_RX12_265 ha (by decide) rfl rfl rfl rfl [.int (zI ((s68 a 21)))] ⟨rfl, hG, hS_s68, ha, (by omega)⟩ rfl rfl ⟨by decide, by decide⟩ ⟨by decide, by decide⟩ (k2 := 0) (n2 := 0) rfl rfl (Nat.le_of_ble_eq_true rfl) dX12_table_192 (kIM (fun v1158 s72 hS_s72 hF_s72 q1159 => ?_))
                            refine j_istore_n hx [(3, .int (zI v1158)), (0, .ref a), (2, .int (zI v99))] dX12_table_195 (by decide) rfl ?_
                            refine j_aload_n hx 1 dX12_table_196 rfl ?_
                            have f1160 := zf hS_s72 ha (k := 5) rfl
                            refine g13_5 hx hG ha kf_RX12_137 rfl dX12_table_197 ?_
                            refine j_iconst hx dX12_table_200 ?_
                            refine j_icmp_ne hx 208 dX12_table_201 rfl (by omega) ⟨by decide, by decide⟩ (fun h1161 => ?_) (fun h1161 => ?_)
                            · skip
                              refine j_iload_n hx 0 dX12_table_208 rfl ?_
                              have g1162 : zc (s72 (gP G a 27)) = zc (s0 (gP G a 27)) := by rw [(zFr_g hF_s72 (zr (k := 27) (t2 := 84) hG ha rfl) (by decide)), (zFr_g hF_s68 (zr (k := 27) (t2 := 84) hG ha rfl) (by decide)), (zFr_g hF_s36 (zr (k := 27) (t2 := 84) hG ha rfl) (by decide)), (zFr_g hF_s28 (zr (k := 27) (t2 := 84) hG ha rfl) (by decide)), (zFr_g hF_s7 (zr (k := 27) (t2 := 84) hG ha rfl) (by decide)), (zFr_g hF_s5 (zr (k := 27) (t2 := 84) hG ha rfl) (by decide)), (zFr_g hF_s4 (zr (k := 27) (t2 := 84) hG ha rfl) (by decide)), e_s1, zU_ne (zne (zr (k := 27) (t2 := 84) hG ha rfl) ha (by decide))]
                              have g1163 : zc (s72 (gP G a 28)) = zc (s0 (gP G a 28)) := by rw [(zFr_g hF_s72 (zr (k := 28) (t2 := 85) hG ha rfl) (by decide)), (zFr_g hF_s68 (zr (k := 28) (t2 := 85) hG ha rfl) (by decide)), (zFr_g hF_s36 (zr (k := 28) (t2 := 85) hG ha rfl) (by decide)), (zFr_g hF_s28 (zr (k := 28) (t2 := 85) hG ha rfl) (by decide)), (zFr_g hF_s7 (zr (k := 28) (t2 := 85) hG ha rfl) (by decide)), (zFr_g hF_s5 (zr (k := 28) (t2 := 85) hG ha rfl) (by decide)), (zFr_g hF_s4 (zr (k := 28) (t2 := 85) hG ha rfl) (by decide)), e_s1, zU_ne (zne (zr (k := 28) (t2 := 85) hG ha rfl) ha (by decide))]
                              have g1164 : s72 (gP G a 27) 488 = s0 (gP G a 27) 488 := (by rw [(zFr_g hF_s72 (zr (k := 27) (t2 := 84) hG ha rfl) (by decide)), (zFr_g hF_s68 (zr (k := 27) (t2 := 84) hG ha rfl) (by decide)), (zFr_g hF_s36 (zr (k := 27) (t2 := 84) hG ha rfl) (by decide)), (zFr_g hF_s28 (zr (k := 27) (t2 := 84) hG ha rfl) (by decide)), (zFr_g hF_s7 (zr (k := 27) (t2 := 84) hG ha rfl) (by decide)), (zFr_g hF_s5 (zr (k := 27) (t2 := 84) hG ha rfl) (by decide)), (zFr_g hF_s4 (zr (k := 27) (t2 := 84) hG ha rfl) (by decide)), e_s1, zU_at (Or.inl (zne ha (zr (k := 27) (t2 := 84) hG ha rfl) (by decide)))])
                              have g1165 : s72 (gP G a 28) 488 = s0 (gP G a 28) 488 := (by rw [(zFr_g hF_s72 (zr (k := 28) (t2 := 85) hG ha rfl) (by decide)), (zFr_g hF_s68 (zr (k := 28) (t2 := 85) hG ha rfl) (by decide)), (zFr_g hF_s36 (zr (k := 28) (t2 := 85) hG ha rfl) (by decide)), (zFr_g hF_s28 (zr (k := 28) (t2 := 85) hG ha rfl) (by decide)), (zFr_g hF_s7 (zr (k := 28) (t2 := 85) hG ha rfl) (by decide)), (zFr_g hF_s5 (zr (k := 28) (t2 := 85) hG ha rfl) (by decide)), (zFr_g hF_s4 (zr (k := 28) (t2 := 85) hG ha rfl) (by decide)), e_s1, zU_at (Or.inl (zne ha (zr (k := 28) (t2 := 85) hG ha rfl) (by decide)))])
                              have f1166 := zf hS_s72 ha (k := 38) rfl
                              have f1167 := zf hS_s72 ha (k := 51) rfl
                              have f1168 := zf hS_s72 ha (k := 52) rfl
                              exact j_iret hx hq rfl (by decide) (by decide) dX12_table_209 ⟨v1158, rfl, rfl, hS_s72, (zFr_t (zFr_t (zFr_t (zFr_t (zFr_t (zFr_t (zFr_t (zFr_u zFr_rf e_s1 ha (by decide)) hF_s4 (by decide)) hF_s5 (by decide)) hF_s7 (by decide)) hF_s28 (by decide)) hF_s36 (by decide)) hF_s68 (by decide)) hF_s72 (by decide)), ⟨(by omega), by omega, by omega, by omega, by omega, (by rw [(zFr_g hF_s72 (zr (k := 34) (t2 := 91) hG ha rfl) (by decide)), (zFr_g hF_s68 (zr (k := 34) (t2 := 91) hG ha rfl) (by decide)), (zFr_g hF_s36 (zr (k := 34) (t2 := 91) hG ha rfl) (by decide)), (zFr_g hF_s28 (zr (k := 34) (t2 := 91) hG ha rfl) (by decide)), (zFr_g hF_s7 (zr (k := 34) (t2 := 91) hG ha rfl) (by decide)), (zFr_g hF_s5 (zr (k := 34) (t2 := 91) hG ha rfl) (by decide)), (zFr_g hF_s4 (zr (k := 34) (t2 := 91) hG ha rfl) (by decide)), e_s1, zU_ne (zne (zr (k := 34) (t2 := 91) hG ha rfl) ha (by decide)), (zFr_g hF_s72 (zr (k := 35) (t2 := 92) hG ha rfl) (by decide)), (zFr_g hF_s68 (zr (k := 35) (t2 := 92) hG ha rfl) (by decide)), (zFr_g hF_s36 (zr (k := 35) (t2 := 92) hG ha rfl) (by decide)), (zFr_g hF_s28 (zr (k := 35) (t2 := 92) hG ha rfl) (by decide)), (zFr_g hF_s7 (zr (k := 35) (t2 := 92) hG ha rfl) (by decide)), (zFr_g hF_s5 (zr (k := 35) (t2 := 92) hG ha rfl) (by decide)), (zFr_g hF_s4 (zr (k := 35) (t2 := 92) hG ha rfl) (by decide)), e_s1, zU_ne (zne (zr (k := 35) (t2 := 92) hG ha rfl) ha (by decide)), (zFr_g hF_s72 (zr (k := 37) (t2 := 94) hG ha rfl) (by decide)), (zFr_g hF_s68 (zr (k := 37) (t2 := 94) hG ha rfl) (by decide)), (zFr_g hF_s36 (zr (k := 37) (t2 := 94) hG ha rfl) (by decide)), (zFr_g hF_s28 (zr (k := 37) (t2 := 94) hG ha rfl) (by decide)), (zFr_g hF_s7 (zr (k := 37) (t2 := 94) hG ha rfl) (by decide)), (zFr_g hF_s5 (zr (k := 37) (t2 := 94) hG ha rfl) (by decide)), (zFr_g hF_s4 (zr (k := 37) (t2 := 94) hG ha rfl) (by decide)), e_s1, zU_ne (zne (zr (k := 37) (t2 := 94) hG ha rfl) ha (by decide))]; exact e2), (by rw [(zFr_g hF_s72 (zr (k := 17) (t2 := 80) hG ha rfl) (by decide)), (zFr_g hF_s68 (zr (k := 17) (t2 := 80) hG ha rfl) (by decide)), (zFr_g hF_s36 (zr (k := 17) (t2 := 80) hG ha rfl) (by decide)), (zFr_g hF_s28 (zr (k := 17) (t2 := 80) hG ha rfl) (by decide)), (zFr_g hF_s7 (zr (k := 17) (t2 := 80) hG ha rfl) (by decide)), (zFr_g hF_s5 (zr (k := 17) (t2 := 80) hG ha rfl) (by decide)), (zFr_g hF_s4 (zr (k := 17) (t2 := 80) hG ha rfl) (by decide)), e_s1, zU_ne (zne (zr (k := 17) (t2 := 80) hG ha rfl) ha (by decide))]; exact (zQn_nn e3 (by omega))), by omega, by omega, by omega⟩⟩
                            · skip
                              refine j_aload_n hx 1 dX12_table_204 rfl ?_
                              have f1169 := zf hS_s72 ha (k := 21) rfl
                              have hP1170 : zQn (s72 (gP G a 10)) (s72 a 21) := ((by rw [(zFr_g hF_s72 (zr (k := 10) (t2 := 73) hG ha rfl) (by decide)), (zFr_g hF_s68 (zr (k := 10) (t2 := 73) hG ha rfl) (by decide)), (zFr_g hF_s36 (zr (k := 10) (t2 := 73) hG ha rfl) (by decide)), (zFr_g hF_s28 (zr (k := 10) (t2 := 73) hG ha rfl) (by decide))]; exact (zQi_k fA18 (by omega) (by omega))) (by omega))
                              have g1171 : s72 (gP G a 13) 0 = s7 (gP G a 13) 0 := (by rw [(zFr_g hF_s72 (zr (k := 13) (t2 := 76) hG ha rfl) (by decide)), (zFr_g hF_s68 (zr (k := 13) (t2 := 76) hG ha rfl) (by decide)), (zFr_g hF_s36 (zr (k := 13) (t2 := 76) hG ha rfl) (by decide)), (zFr_g hF_s28 (zr (k := 13) (t2 := 76) hG ha rfl) (by decide))])
                              have g1172 : s72 (gP G a 13) 1 = s7 (gP G a 13) 1 := (by rw [(zFr_g hF_s72 (zr (k := 13) (t2 := 76) hG ha rfl) (by decide)), (zFr_g hF_s68 (zr (k := 13) (t2 := 76) hG ha rfl) (by decide)), (zFr_g hF_s36 (zr (k := 13) (t2 := 76) hG ha rfl) (by decide)), (zFr_g hF_s28 (zr (k := 13) (t2 := 76) hG ha rfl) (by decide))])
                              have g1173 : s72 (gP G a 13) 2 = s7 (gP G a 13) 2 := (by rw [(zFr_g hF_s72 (zr (k := 13) (t2 := 76) hG ha rfl) (by decide)), (zFr_g hF_s68 (zr (k := 13) (t2 := 76) hG ha rfl) (by decide)), (zFr_g hF_s36 (zr (k := 13) (t2 := 76) hG ha rfl) (by decide)), (zFr_g hF_s28 (zr (k := 13) (t2 := 76) hG ha rfl) (by decide))])
                              have f1174 := zf hS_s72 ha (k := 0) rfl
                              have f1175 := zf hS_s72 ha (k := 3) rfl
                              have f1176 := zf hS_s72 ha (k := 4) rfl
                              have f1177 := zf hS_s72 ha (k := 7) rfl
                              have f1178 := zf hS_s72 ha (k := 22) rfl
                              have f1179 := zf hS_s72 ha (k := 23) rfl
                              have f1180 := zf hS_s72 ha (k := 38) rfl
                              have f1181 := zf hS_s72 ha (k := 51) rfl
                              have f1182 := zf hS_s72 ha (k := 52) rfl
                              refine j_callV hx hG (c_X12_sets hst a) lk_RX12_131 ha (by decide) rfl rfl rfl rfl [] ⟨rfl, hG, hS_s72, ha, (by omega), ((zQn_nn hP1170 (by omega)))⟩ rfl rfl ⟨by decide, by decide⟩ ⟨by decide, by decide⟩ (k2 := 0) (n2 := 0) rfl rfl (Nat.le_of_ble_eq_true rfl) dX12_table_205 (kVM (fun s73 hS_s73 hF_s73 q1184 => ?_))
                              refine j_iload_n hx 0 dX12_table_208 rfl ?_
                              have f1185 := zf hS_s73 ha (k := 38) rfl
                              have f1186 := zf hS_s73 ha (k := 51) rfl
                              have f1187 := zf hS_s73 ha (k := 52) rfl
                              exact j_iret hx hq rfl (by decide) (by decide) dX12_table_209 ⟨v1158, rfl, rfl, hS_s73, (zFr_t (zFr_t (zFr_t (zFr_t (zFr_t (zFr_t (zFr_t (zFr_t (zFr_u zFr_rf e_s1 ha (by decide)) hF_s4 (by decide)) hF_s5 (by decide)) hF_s7 (by decide)) hF_s28 (by decide)) hF_s36 (by decide)) hF_s68 (by decide)) hF_s72 (by decide)) hF_s73 (by decide)), ⟨(by omega), by omega, by omega, by omega, by omega, q1184.2.2.2.2.2.1, (zQn_nn q1184.2.2.2.2.1 (by omega)), by omega, by omega, by omega⟩⟩
                          · skip
                            refine j_aload_n hx 1 dX12_table_170 rfl ?_
                            have f1188 := zf hS_s68 ha (k := 21) rfl
                            refine g13_21 hx hG ha kf_RX12_180 rfl dX12_table_171 ?_
                            refine j_iconst hx dX12_table_174 ?_
                            refine j_icmp_ge hx 187 dX12_table_175 rfl (by omega) ⟨by decide, by decide⟩ (fun h1189 => ?_) (fun h1189 => ?_)
                            · skip
                              refine j_aload_n hx 1 dX12_table_187 rfl ?_
                              refine j_aload_n hx 1 dX12_table_188 rfl ?_
                              refine g13_21 hx hG ha kf_RX12_180 rfl dX12_table_189 ?_
                              have f1190 := zf hS_s68 ha (k := 0) rfl
                              have f1191 := zf hS_s68 ha (k := 3) rfl
                              have f1192 := zf hS_s68 ha (k := 4) rfl
                              have f1193 := zf hS_s68 ha (k := 5) rfl
                              have f1194 := zf hS_s68 ha (k := 7) rfl
                              have f1195 := zf hS_s68 ha (k := 22) rfl
                              have f1196 := zf hS_s68 ha (k := 23) rfl
                              have f1197 := zf hS_s68 ha (k := 24) rfl
                              have f1198 := zf hS_s68 ha (k := 38) rfl
                              have f1199 := zf hS_s68 ha (k := 51) rfl
                              have f1200 := zf hS_s68 ha (k := 52) rfl
                              refine j_callV hx hG (c_X12_result hst a ((s68 a 21))) lk_RX12_265 ha (by decide) rfl rfl rfl rfl [.int (zI ((s68 a 21)))] ⟨rfl, hG, hS_s68, ha, (by omega)⟩ rfl rfl ⟨by decide, by decide⟩ ⟨by decide, by decide⟩ (k2 := 0) (n2 := 0) rfl rfl (Nat.le_of_ble_eq_true rfl) dX12_table_192 (kIM (fun v1201 s74 hS_s74 hF_s74 q1202 => ?_))
                              refine j_istore_n hx [(3, .int (zI v1201)), (0, .ref a), (2, .int (zI v99))] dX12_table_195 (by decide) rfl ?_
                              refine j_aload_n hx 1 dX12_table_196 rfl ?_
                              have f1203 := zf hS_s74 ha (k := 5) rfl
                              refine g13_5 hx hG ha kf_RX12_137 rfl dX12_table_197 ?_
                              refine j_iconst hx dX12_table_200 ?_
                              refine j_icmp_ne hx 208 dX12_table_201 rfl (by omega) ⟨by decide, by decide⟩ (fun h1204 => ?_) (fun h1204 => ?_)
                              · skip
                                refine j_iload_n hx 0 dX12_table_208 rfl ?_
                                have g1205 : zc (s74 (gP G a 27)) = zc (s0 (gP G a 27)) := by rw [(zFr_g hF_s74 (zr (k := 27) (t2 := 84) hG ha rfl) (by decide)), (zFr_g hF_s68 (zr (k := 27) (t2 := 84) hG ha rfl) (by decide)), (zFr_g hF_s36 (zr (k := 27) (t2 := 84) hG ha rfl) (by decide)), (zFr_g hF_s28 (zr (k := 27) (t2 := 84) hG ha rfl) (by decide)), (zFr_g hF_s7 (zr (k := 27) (t2 := 84) hG ha rfl) (by decide)), (zFr_g hF_s5 (zr (k := 27) (t2 := 84) hG ha rfl) (by decide)), (zFr_g hF_s4 (zr (k := 27) (t2 := 84) hG ha rfl) (by decide)), e_s1, zU_ne (zne (zr (k := 27) (t2 := 84) hG ha rfl) ha (by decide))]
                                have g1206 : zc (s74 (gP G a 28)) = zc (s0 (gP G a 28)) := by rw [(zFr_g hF_s74 (zr (k := 28) (t2 := 85) hG ha rfl) (by decide)), (zFr_g hF_s68 (zr (k := 28) (t2 := 85) hG ha rfl) (by decide)), (zFr_g hF_s36 (zr (k := 28) (t2 := 85) hG ha rfl) (by decide)), (zFr_g hF_s28 (zr (k := 28) (t2 := 85) hG ha rfl) (by decide)), (zFr_g hF_s7 (zr (k := 28) (t2 := 85) hG ha rfl) (by decide)), (zFr_g hF_s5 (zr (k := 28) (t2 := 85) hG ha rfl) (by decide)), (zFr_g hF_s4 (zr (k := 28) (t2 := 85) hG ha rfl) (by decide)), e_s1, zU_ne (zne (zr (k := 28) (t2 := 85) hG ha rfl) ha (by decide))]
                                have g1207 : s74 (gP G a 27) 488 = s0 (gP G a 27) 488 := (by rw [(zFr_g hF_s74 (zr (k := 27) (t2 := 84) hG ha rfl) (by decide)), (zFr_g hF_s68 (zr (k := 27) (t2 := 84) hG ha rfl) (by decide)), (zFr_g hF_s36 (zr (k := 27) (t2 := 84) hG ha rfl) (by decide)), (zFr_g hF_s28 (zr (k := 27) (t2 := 84) hG ha rfl) (by decide)), (zFr_g hF_s7 (zr (k := 27) (t2 := 84) hG ha rfl) (by decide)), (zFr_g hF_s5 (zr (k := 27) (t2 := 84) hG ha rfl) (by decide)), (zFr_g hF_s4 (zr (k := 27) (t2 := 84) hG ha rfl) (by decide)), e_s1, zU_at (Or.inl (zne ha (zr (k := 27) (t2 := 84) hG ha rfl) (by decide)))])
                                have g1208 : s74 (gP G a 28) 488 = s0 (gP G a 28) 488 := (by rw [(zFr_g hF_s74 (zr (k := 28) (t2 := 85) hG ha rfl) (by decide)), (zFr_g hF_s68 (zr (k := 28) (t2 := 85) hG ha rfl) (by decide)), (zFr_g hF_s36 (zr (k := 28) (t2 := 85) hG ha rfl) (by decide)), (zFr_g hF_s28 (zr (k := 28) (t2 := 85) hG ha rfl) (by decide)), (zFr_g hF_s7 (zr (k := 28) (t2 := 85) hG ha rfl) (by decide)), (zFr_g hF_s5 (zr (k := 28) (t2 := 85) hG ha rfl) (by decide)), (zFr_g hF_s4 (zr (k := 28) (t2 := 85) hG ha rfl) (by decide)), e_s1, zU_at (Or.inl (zne ha (zr (k := 28) (t2 := 85) hG ha rfl) (by decide)))])
                                have f1209 := zf hS_s74 ha (k := 38) rfl
                                have f1210 := zf hS_s74 ha (k := 51) rfl
                                have f1211 := zf hS_s74 ha (k := 52) rfl
                                exact j_iret hx hq rfl (by decide) (by decide) dX12_table_209 ⟨v1201, rfl, rfl, hS_s74, (zFr_t (zFr_t (zFr_t (zFr_t (zFr_t (zFr_t (zFr_t (zFr_u zFr_rf e_s1 ha (by decide)) hF_s4 (by decide)) hF_s5 (by decide)) hF_s7 (by decide)) hF_s28 (by decide)) hF_s36 (by decide)) hF_s68 (by decide)) hF_s74 (by decide)), ⟨(by omega), by omega, by omega, by omega, by omega, (by rw [(zFr_g hF_s74 (zr (k := 34) (t2 := 91) hG ha rfl) (by decide)), (zFr_g hF_s68 (zr (k := 34) (t2 := 91) hG ha rfl) (by decide)), (zFr_g hF_s36 (zr (k := 34) (t2 := 91) hG ha rfl) (by decide)), (zFr_g hF_s28 (zr (k := 34) (t2 := 91) hG ha rfl) (by decide)), (zFr_g hF_s7 (zr (k := 34) (t2 := 91) hG ha rfl) (by decide)), (zFr_g hF_s5 (zr (k := 34) (t2 := 91) hG ha rfl) (by decide)), (zFr_g hF_s4 (zr (k := 34) (t2 := 91) hG ha rfl) (by decide)), e_s1, zU_ne (zne (zr (k := 34) (t2 := 91) hG ha rfl) ha (by decide)), (zFr_g hF_s74 (zr (k := 35) (t2 := 92) hG ha rfl) (by decide)), (zFr_g hF_s68 (zr (k := 35) (t2 := 92) hG ha rfl) (by decide)), (zFr_g hF_s36 (zr (k := 35) (t2 := 92) hG ha rfl) (by decide)), (zFr_g hF_s28 (zr (k := 35) (t2 := 92) hG ha rfl) (by decide)), (zFr_g hF_s7 (zr (k := 35) (t2 := 92) hG ha rfl) (by decide)), (zFr_g hF_s5 (zr (k := 35) (t2 := 92) hG ha rfl) (by decide)), (zFr_g hF_s4 (zr (k := 35) (t2 := 92) hG ha rfl) (by decide)), e_s1, zU_ne (zne (zr (k := 35) (t2 := 92) hG ha rfl) ha (by decide)), (zFr_g hF_s74 (zr (k := 37) (t2 := 94) hG ha rfl) (by decide)), (zFr_g hF_s68 (zr (k := 37) (t2 := 94) hG ha rfl) (by decide)), (zFr_g hF_s36 (zr (k := 37) (t2 := 94) hG ha rfl) (by decide)), (zFr_g hF_s28 (zr (k := 37) (t2 := 94) hG ha rfl) (by decide)), (zFr_g hF_s7 (zr (k := 37) (t2 := 94) hG ha rfl) (by decide)), (zFr_g hF_s5 (zr (k := 37) (t2 := 94) hG ha rfl) (by decide)), (zFr_g hF_s4 (zr (k := 37) (t2 := 94) hG ha rfl) (by decide)), e_s1, zU_ne (zne (zr (k := 37) (t2 := 94) hG ha rfl) ha (by decide))]; exact e2), (by rw [(zFr_g hF_s74 (zr (k := 17) (t2 := 80) hG ha rfl) (by decide)), (zFr_g hF_s68 (zr (k := 17) (t2 := 80) hG ha rfl) (by decide)), (zFr_g hF_s36 (zr (k := 17) (t2 := 80) hG ha rfl) (by decide)), (zFr_g hF_s28 (zr (k := 17) (t2 := 80) hG ha rfl) (by decide)), (zFr_g hF_s7 (zr (k := 17) (t2 := 80) hG ha rfl) (by decide)), (zFr_g hF_s5 (zr (k := 17) (t2 := 80) hG ha rfl) (by decide)), (zFr_g hF_s4 (zr (k := 17) (t2 := 80) hG ha rfl) (by decide)), e_s1, zU_ne (zne (zr (k := 17) (t2 := 80) hG ha rfl) ha (by decide))]; exact (zQn_nn e3 (by omega))), by omega, by omega, by omega⟩⟩
                              · skip
                                refine j_aload_n hx 1 dX12_table_204 rfl ?_
                                have f1212 := zf hS_s74 ha (k := 21) rfl
                                have hP1213 : zQn (s74 (gP G a 10)) (s74 a 21) := ((by rw [(zFr_g hF_s74 (zr (k := 10) (t2 := 73) hG ha rfl) (by decide)), (zFr_g hF_s68 (zr (k := 10) (t2 := 73) hG ha rfl) (by decide)), (zFr_g hF_s36 (zr (k := 10) (t2 := 73) hG ha rfl) (by decide)), (zFr_g hF_s28 (zr (k := 10) (t2 := 73) hG ha rfl) (by decide))]; exact (zQi_k fA18 (by omega) (by omega))) (by omega))
                                have g1214 : s74 (gP G a 13) 0 = s7 (gP G a 13) 0 := (by rw [(zFr_g hF_s74 (zr (k := 13) (t2 := 76) hG ha rfl) (by decide)), (zFr_g hF_s68 (zr (k := 13) (t2 := 76) hG ha rfl) (by decide)), (zFr_g hF_s36 (zr (k := 13) (t2 := 76) hG ha rfl) (by decide)), (zFr_g hF_s28 (zr (k := 13) (t2 := 76) hG ha rfl) (by decide))])
                                have g1215 : s74 (gP G a 13) 1 = s7 (gP G a 13) 1 := (by rw [(zFr_g hF_s74 (zr (k := 13) (t2 := 76) hG ha rfl) (by decide)), (zFr_g hF_s68 (zr (k := 13) (t2 := 76) hG ha rfl) (by decide)), (zFr_g hF_s36 (zr (k := 13) (t2 := 76) hG ha rfl) (by decide)), (zFr_g hF_s28 (zr (k := 13) (t2 := 76) hG ha rfl) (by decide))])
                                have g1216 : s74 (gP G a 13) 2 = s7 (gP G a 13) 2 := (by rw [(zFr_g hF_s74 (zr (k := 13) (t2 := 76) hG ha rfl) (by decide)), (zFr_g hF_s68 (zr (k := 13) (t2 := 76) hG ha rfl) (by decide)), (zFr_g hF_s36 (zr (k := 13) (t2 := 76) hG ha rfl) (by decide)), (zFr_g hF_s28 (zr (k := 13) (t2 := 76) hG ha rfl) (by decide))])
                                have f1217 := zf hS_s74 ha (k := 0) rfl
                                have f1218 := zf hS_s74 ha (k := 3) rfl
                                have f1219 := zf hS_s74 ha (k := 4) rfl
                                have f1220 := zf hS_s74 ha (k := 7) rfl
                                have f1221 := zf hS_s74 ha (k := 22) rfl
                                have f1222 := zf hS_s74 ha (k := 23) rfl
                                have f1223 := zf hS_s74 ha (k := 38) rfl
                                have f1224 := zf hS_s74 ha (k := 51) rfl
                                have f1225 := zf hS_s74 ha (k := 52) rfl
                                refine j_callV hx hG (c_X12_sets hst a) lk_RX12_131 ha (by decide) rfl rfl rfl rfl [] ⟨rfl, hG, hS_s74, ha, (by omega), ((zQn_nn hP1213 (by omega)))⟩ rfl rfl ⟨by decide, by decide⟩ ⟨by decide, by decide⟩ (k2 := 0) (n2 := 0) rfl rfl (Nat.le_of_ble_eq_true rfl) dX12_table_205 (kVM (fun s75 hS_s75 hF_s75 q1227 => ?_))
                                refine j_iload_n hx 0 dX12_table_208 rfl ?_
                                have f1228 := zf hS_s75 ha (k := 38) rfl
                                have f1229 := zf hS_s75 ha (k := 51) rfl
                                have f1230 := zf hS_s75 ha (k := 52) rfl
                                exact j_iret hx hq rfl (by decide) (by decide) dX12_table_209 ⟨v1201, rfl, rfl, hS_s75, (zFr_t (zFr_t (zFr_t (zFr_t (zFr_t (zFr_t (zFr_t (zFr_t (zFr_u zFr_rf e_s1 ha (by decide)) hF_s4 (by decide)) hF_s5 (by decide)) hF_s7 (by decide)) hF_s28 (by decide)) hF_s36 (by decide)) hF_s68 (by decide)) hF_s74 (by decide)) hF_s75 (by decide)), ⟨(by omega), by omega, by omega, by omega, by omega, q1227.2.2.2.2.2.1, (zQn_nn q1227.2.2.2.2.1 (by omega)), by omega, by omega, by omega⟩⟩
                            · skip
                              refine j_aload_n hx 1 dX12_table_178 rfl ?_
                              refine j_iconst hx dX12_table_179 ?_
                              refine j_aload_n hx 1 dX12_table_180 rfl ?_
                              have f1231 := zf hS_s68 ha (k := 3) rfl
                              refine g13_3 hx hG ha kf_RX12_146 rfl dX12_table_181 ?_
                              have f1232 := zf hS_s68 ha (k := 0) rfl
                              have f1233 := zf hS_s68 ha (k := 4) rfl
                              have f1234 := zf hS_s68 ha (k := 7) rfl
                              have f1235 := zf hS_s68 ha (k := 22) rfl
                              have f1236 := zf hS_s68 ha (k := 23) rfl
                              have f1237 := zf hS_s68 ha (k := 24) rfl
                              have f1238 := zf hS_s68 ha (k := 38) rfl
                              have f1239 := zf hS_s68 ha (k := 51) rfl
                              have f1240 := zf hS_s68 ha (k := 52) rfl
                              refine j_callV hx hG (c_X12_wrong hst a 4 ((s68 a 3))) lk_RX12_173 ha (by decide) rfl rfl rfl rfl [.int (zI 4), .int (zI ((s68 a 3)))] ⟨rfl, hG, hS_s68, ha, (by omega), (by omega)⟩ rfl rfl ⟨by decide, by decide⟩ ⟨by decide, by decide⟩ (k2 := 0) (n2 := 0) rfl rfl (Nat.le_of_ble_eq_true rfl) dX12_table_184 (kVM (fun s76 hS_s76 hF_s76 q1242 => ?_))
                              refine j_aload_n hx 1 dX12_table_187 rfl ?_
                              refine j_aload_n hx 1 dX12_table_188 rfl ?_
                              have f1243 := zf hS_s76 ha (k := 21) rfl
                              refine g13_21 hx hG ha kf_RX12_180 rfl dX12_table_189 ?_
                              have f1244 := zf hS_s76 ha (k := 0) rfl
                              have f1245 := zf hS_s76 ha (k := 3) rfl
                              have f1246 := zf hS_s76 ha (k := 4) rfl
                              have f1247 := zf hS_s76 ha (k := 5) rfl
                              have f1248 := zf hS_s76 ha (k := 7) rfl
                              have f1249 := zf hS_s76 ha (k := 22) rfl
                              have f1250 := zf hS_s76 ha (k := 23) rfl
                              have f1251 := zf hS_s76 ha (k := 24) rfl
                              have f1252 := zf hS_s76 ha (k := 38) rfl
                              have f1253 := zf hS_s76 ha (k := 51) rfl
                              have f1254 := zf hS_s76 ha (k := 52) rfl
                              refine j_callV hx hG (c_X12_result hst a ((s76 a 21))) lk_RX12_265 ha (by decide) rfl rfl rfl rfl [.int (zI ((s76 a 21)))] ⟨rfl, hG, hS_s76, ha, (by omega)⟩ rfl rfl ⟨by decide, by decide⟩ ⟨by decide, by decide⟩ (k2 := 0) (n2 := 0) rfl rfl (Nat.le_of_ble_eq_true rfl) dX12_table_192 (kIM (fun v1255 s77 hS_s77 hF_s77 q1256 => ?_))
                              refine j_istore_n hx [(3, .int (zI v1255)), (0, .ref a), (2, .int (zI v99))] dX12_table_195 (by decide) rfl ?_
                              refine j_aload_n hx 1 dX12_table_196 rfl ?_
                              have f1257 := zf hS_s77 ha (k := 5) rfl
                              refine g13_5 hx hG ha kf_RX12_137 rfl dX12_table_197 ?_
                              refine j_iconst hx dX12_table_200 ?_
                              refine j_icmp_ne hx 208 dX12_table_201 rfl (by omega) ⟨by decide, by decide⟩ (fun h1258 => ?_) (fun h1258 => ?_)
                              · skip
                                refine j_iload_n hx 0 dX12_table_208 rfl ?_
                                have g1259 : zc (s77 (gP G a 27)) = zc (s0 (gP G a 27)) := by rw [(zFr_g hF_s77 (zr (k := 27) (t2 := 84) hG ha rfl) (by decide)), (zFr_g hF_s76 (zr (k := 27) (t2 := 84) hG ha rfl) (by decide)), (zFr_g hF_s68 (zr (k := 27) (t2 := 84) hG ha rfl) (by decide)), (zFr_g hF_s36 (zr (k := 27) (t2 := 84) hG ha rfl) (by decide)), (zFr_g hF_s28 (zr (k := 27) (t2 := 84) hG ha rfl) (by decide)), (zFr_g hF_s7 (zr (k := 27) (t2 := 84) hG ha rfl) (by decide)), (zFr_g hF_s5 (zr (k := 27) (t2 := 84) hG ha rfl) (by decide)), (zFr_g hF_s4 (zr (k := 27) (t2 := 84) hG ha rfl) (by decide)), e_s1, zU_ne (zne (zr (k := 27) (t2 := 84) hG ha rfl) ha (by decide))]
                                have g1260 : zc (s77 (gP G a 28)) = zc (s0 (gP G a 28)) := by rw [(zFr_g hF_s77 (zr (k := 28) (t2 := 85) hG ha rfl) (by decide)), (zFr_g hF_s76 (zr (k := 28) (t2 := 85) hG ha rfl) (by decide)), (zFr_g hF_s68 (zr (k := 28) (t2 := 85) hG ha rfl) (by decide)), (zFr_g hF_s36 (zr (k := 28) (t2 := 85) hG ha rfl) (by decide)), (zFr_g hF_s28 (zr (k := 28) (t2 := 85) hG ha rfl) (by decide)), (zFr_g hF_s7 (zr (k := 28) (t2 := 85) hG ha rfl) (by decide)), (zFr_g hF_s5 (zr (k := 28) (t2 := 85) hG ha rfl) (by decide)), (zFr_g hF_s4 (zr (k := 28) (t2 := 85) hG ha rfl) (by decide)), e_s1, zU_ne (zne (zr (k := 28) (t2 := 85) hG ha rfl) ha (by decide))]
                                have g1261 : s77 (gP G a 27) 488 = s0 (gP G a 27) 488 := (by rw [(zFr_g hF_s77 (zr (k := 27) (t2 := 84) hG ha rfl) (by decide)), (zFr_g hF_s76 (zr (k := 27) (t2 := 84) hG ha rfl) (by decide)), (zFr_g hF_s68 (zr (k := 27) (t2 := 84) hG ha rfl) (by decide)), (zFr_g hF_s36 (zr (k := 27) (t2 := 84) hG ha rfl) (by decide)), (zFr_g hF_s28 (zr (k := 27) (t2 := 84) hG ha rfl) (by decide)), (zFr_g hF_s7 (zr (k := 27) (t2 := 84) hG ha rfl) (by decide)), (zFr_g hF_s5 (zr (k := 27) (t2 := 84) hG ha rfl) (by decide)), (zFr_g hF_s4 (zr (k := 27) (t2 := 84) hG ha rfl) (by decide)), e_s1, zU_at (Or.inl (zne ha (zr (k := 27) (t2 := 84) hG ha rfl) (by decide)))])
                                have g1262 : s77 (gP G a 28) 488 = s0 (gP G a 28) 488 := (by rw [(zFr_g hF_s77 (zr (k := 28) (t2 := 85) hG ha rfl) (by decide)), (zFr_g hF_s76 (zr (k := 28) (t2 := 85) hG ha rfl) (by decide)), (zFr_g hF_s68 (zr (k := 28) (t2 := 85) hG ha rfl) (by decide)), (zFr_g hF_s36 (zr (k := 28) (t2 := 85) hG ha rfl) (by decide)), (zFr_g hF_s28 (zr (k := 28) (t2 := 85) hG ha rfl) (by decide)), (zFr_g hF_s7 (zr (k := 28) (t2 := 85) hG ha rfl) (by decide)), (zFr_g hF_s5 (zr (k := 28) (t2 := 85) hG ha rfl) (by decide)), (zFr_g hF_s4 (zr (k := 28) (t2 := 85) hG ha rfl) (by decide)), e_s1, zU_at (Or.inl (zne ha (zr (k := 28) (t2 := 85) hG ha rfl) (by decide)))])
                                have f1263 := zf hS_s77 ha (k := 38) rfl
                                have f1264 := zf hS_s77 ha (k := 51) rfl
                                have f1265 := zf hS_s77 ha (k := 52) rfl
                                exact j_iret hx hq rfl (by decide) (by decide) dX12_table_209 ⟨v1255, rfl, rfl, hS_s77, (zFr_t (zFr_t (zFr_t (zFr_t (zFr_t (zFr_t (zFr_t (zFr_t (zFr_u zFr_rf e_s1 ha (by decide)) hF_s4 (by decide)) hF_s5 (by decide)) hF_s7 (by decide)) hF_s28 (by decide)) hF_s36 (by decide)) hF_s68 (by decide)) hF_s76 (by decide)) hF_s77 (by decide)), ⟨(by omega), by omega, by omega, by omega, by omega, (by rw [(zFr_g hF_s77 (zr (k := 34) (t2 := 91) hG ha rfl) (by decide)), (zFr_g hF_s76 (zr (k := 34) (t2 := 91) hG ha rfl) (by decide)), (zFr_g hF_s68 (zr (k := 34) (t2 := 91) hG ha rfl) (by decide)), (zFr_g hF_s36 (zr (k := 34) (t2 := 91) hG ha rfl) (by decide)), (zFr_g hF_s28 (zr (k := 34) (t2 := 91) hG ha rfl) (by decide)), (zFr_g hF_s7 (zr (k := 34) (t2 := 91) hG ha rfl) (by decide)), (zFr_g hF_s5 (zr (k := 34) (t2 := 91) hG ha rfl) (by decide)), (zFr_g hF_s4 (zr (k := 34) (t2 := 91) hG ha rfl) (by decide)), e_s1, zU_ne (zne (zr (k := 34) (t2 := 91) hG ha rfl) ha (by decide)), (zFr_g hF_s77 (zr (k := 35) (t2 := 92) hG ha rfl) (by decide)), (zFr_g hF_s76 (zr (k := 35) (t2 := 92) hG ha rfl) (by decide)), (zFr_g hF_s68 (zr (k := 35) (t2 := 92) hG ha rfl) (by decide)), (zFr_g hF_s36 (zr (k := 35) (t2 := 92) hG ha rfl) (by decide)), (zFr_g hF_s28 (zr (k := 35) (t2 := 92) hG ha rfl) (by decide)), (zFr_g hF_s7 (zr (k := 35) (t2 := 92) hG ha rfl) (by decide)), (zFr_g hF_s5 (zr (k := 35) (t2 := 92) hG ha rfl) (by decide)), (zFr_g hF_s4 (zr (k := 35) (t2 := 92) hG ha rfl) (by decide)), e_s1, zU_ne (zne (zr (k := 35) (t2 := 92) hG ha rfl) ha (by decide)), (zFr_g hF_s77 (zr (k := 37) (t2 := 94) hG ha rfl) (by decide)), (zFr_g hF_s76 (zr (k := 37) (t2 := 94) hG ha rfl) (by decide)), (zFr_g hF_s68 (zr (k := 37) (t2 := 94) hG ha rfl) (by decide)), (zFr_g hF_s36 (zr (k := 37) (t2 := 94) hG ha rfl) (by decide)), (zFr_g hF_s28 (zr (k := 37) (t2 := 94) hG ha rfl) (by decide)), (zFr_g hF_s7 (zr (k := 37) (t2 := 94) hG ha rfl) (by decide)), (zFr_g hF_s5 (zr (k := 37) (t2 := 94) hG ha rfl) (by decide)), (zFr_g hF_s4 (zr (k := 37) (t2 := 94) hG ha rfl) (by decide)), e_s1, zU_ne (zne (zr (k := 37) (t2 := 94) hG ha rfl) ha (by decide))]; exact e2), (by rw [(zFr_g hF_s77 (zr (k := 17) (t2 := 80) hG ha rfl) (by decide)), (zFr_g hF_s76 (zr (k := 17) (t2 := 80) hG ha rfl) (by decide)), (zFr_g hF_s68 (zr (k := 17) (t2 := 80) hG ha rfl) (by decide)), (zFr_g hF_s36 (zr (k := 17) (t2 := 80) hG ha rfl) (by decide)), (zFr_g hF_s28 (zr (k := 17) (t2 := 80) hG ha rfl) (by decide)), (zFr_g hF_s7 (zr (k := 17) (t2 := 80) hG ha rfl) (by decide)), (zFr_g hF_s5 (zr (k := 17) (t2 := 80) hG ha rfl) (by decide)), (zFr_g hF_s4 (zr (k := 17) (t2 := 80) hG ha rfl) (by decide)), e_s1, zU_ne (zne (zr (k := 17) (t2 := 80) hG ha rfl) ha (by decide))]; exact (zQn_nn e3 (by omega))), by omega, by omega, by omega⟩⟩
                              · skip
                                refine j_aload_n hx 1 dX12_table_204 rfl ?_
                                have f1266 := zf hS_s77 ha (k := 21) rfl
                                have hP1267 : zQn (s77 (gP G a 10)) (s77 a 21) := ((by rw [(zFr_g hF_s77 (zr (k := 10) (t2 := 73) hG ha rfl) (by decide)), (zFr_g hF_s76 (zr (k := 10) (t2 := 73) hG ha rfl) (by decide)), (zFr_g hF_s68 (zr (k := 10) (t2 := 73) hG ha rfl) (by decide)), (zFr_g hF_s36 (zr (k := 10) (t2 := 73) hG ha rfl) (by decide)), (zFr_g hF_s28 (zr (k := 10) (t2 := 73) hG ha rfl) (by decide))]; exact (zQi_k fA18 (by omega) (by omega))) (by omega))
                                have g1268 : s77 (gP G a 13) 0 = s7 (gP G a 13) 0 := (by rw [(zFr_g hF_s77 (zr (k := 13) (t2 := 76) hG ha rfl) (by decide)), (zFr_g hF_s76 (zr (k := 13) (t2 := 76) hG ha rfl) (by decide)), (zFr_g hF_s68 (zr (k := 13) (t2 := 76) hG ha rfl) (by decide)), (zFr_g hF_s36 (zr (k := 13) (t2 := 76) hG ha rfl) (by decide)), (zFr_g hF_s28 (zr (k := 13) (t2 := 76) hG ha rfl) (by decide))])
                                have g1269 : s77 (gP G a 13) 1 = s7 (gP G a 13) 1 := (by rw [(zFr_g hF_s77 (zr (k := 13) (t2 := 76) hG ha rfl) (by decide)), (zFr_g hF_s76 (zr (k := 13) (t2 := 76) hG ha rfl) (by decide)), (zFr_g hF_s68 (zr (k := 13) (t2 := 76) hG ha rfl) (by decide)), (zFr_g hF_s36 (zr (k := 13) (t2 := 76) hG ha rfl) (by decide)), (zFr_g hF_s28 (zr (k := 13) (t2 := 76) hG ha rfl) (by decide))])
                                have g1270 : s77 (gP G a 13) 2 = s7 (gP G a 13) 2 := (by rw [(zFr_g hF_s77 (zr (k := 13) (t2 := 76) hG ha rfl) (by decide)), (zFr_g hF_s76 (zr (k := 13) (t2 := 76) hG ha rfl) (by decide)), (zFr_g hF_s68 (zr (k := 13) (t2 := 76) hG ha rfl) (by decide)), (zFr_g hF_s36 (zr (k := 13) (t2 := 76) hG ha rfl) (by decide)), (zFr_g hF_s28 (zr (k := 13) (t2 := 76) hG ha rfl) (by decide))])
                                have f1271 := zf hS_s77 ha (k := 0) rfl
                                have f1272 := zf hS_s77 ha (k := 3) rfl
                                have f1273 := zf hS_s77 ha (k := 4) rfl
                                have f1274 := zf hS_s77 ha (k := 7) rfl
                                have f1275 := zf hS_s77 ha (k := 22) rfl
                                have f1276 := zf hS_s77 ha (k := 23) rfl
                                have f1277 := zf hS_s77 ha (k := 38) rfl
                                have f1278 := zf hS_s77 ha (k := 51) rfl
                                have f1279 := zf hS_s77 ha (k := 52) rfl
                                refine j_callV hx hG (c_X12_sets hst a) lk_RX12_131 ha (by decide) rfl rfl rfl rfl [] ⟨rfl, hG, hS_s77, ha, (by omega), ((zQn_nn hP1267 (by omega)))⟩ rfl rfl ⟨by decide, by decide⟩ ⟨by decide, by decide⟩ (k2 := 0) (n2 := 0) rfl rfl (Nat.le_of_ble_eq_true rfl) dX12_table_205 (kVM (fun s78 hS_s78 hF_s78 q1281 => ?_))
                                refine j_iload_n hx 0 dX12_table_208 rfl ?_
                                have f1282 := zf hS_s78 ha (k := 38) rfl
                                have f1283 := zf hS_s78 ha (k := 51) rfl
                                have f1284 := zf hS_s78 ha (k := 52) rfl
                                exact j_iret hx hq rfl (by decide) (by decide) dX12_table_209 ⟨v1255, rfl, rfl, hS_s78, (zFr_t (zFr_t (zFr_t (zFr_t (zFr_t (zFr_t (zFr_t (zFr_t (zFr_t (zFr_u zFr_rf e_s1 ha (by decide)) hF_s4 (by decide)) hF_s5 (by decide)) hF_s7 (by decide)) hF_s28 (by decide)) hF_s36 (by decide)) hF_s68 (by decide)) hF_s76 (by decide)) hF_s77 (by decide)) hF_s78 (by decide)), ⟨(by omega), by omega, by omega, by omega, by omega, q1281.2.2.2.2.2.1, (zQn_nn q1281.2.2.2.2.1 (by omega)), by omega, by omega, by omega⟩⟩
                  · skip
                    refine j_aload_n hx 1 dX12_table_97 rfl ?_
                    have f1285 := zf hS_s36 ha (k := 21) rfl
                    refine g13_21 hx hG ha kf_RX12_180 rfl dX12_table_98 ?_
                    refine j_iconst hx dX12_table_101 ?_
                    refine j_icmp_eq hx 123 dX12_table_102 rfl (by omega) ⟨by decide, by decide⟩ (fun h1286 => ?_) (fun h1286 => ?_)
                    · skip
                      refine j_aload_n hx 1 dX12_table_123 rfl ?_
                      refine j_iconst hx dX12_table_124 ?_
                      refine j_aload_n hx 1 dX12_table_125 rfl ?_
                      have f1287 := zf hS_s36 ha (k := 4) rfl
                      refine g13_4 hx hG ha kf_RX12_143 rfl dX12_table_126 ?_
                      have f1288 := zf hS_s36 ha (k := 0) rfl
                      have f1289 := zf hS_s36 ha (k := 3) rfl
                      have f1290 := zf hS_s36 ha (k := 7) rfl
                      have f1291 := zf hS_s36 ha (k := 22) rfl
                      have f1292 := zf hS_s36 ha (k := 23) rfl
                      have f1293 := zf hS_s36 ha (k := 24) rfl
                      have f1294 := zf hS_s36 ha (k := 38) rfl
                      have f1295 := zf hS_s36 ha (k := 51) rfl
                      have f1296 := zf hS_s36 ha (k := 52) rfl
                      refine j_callV hx hG (c_X12_wrong hst a 3 ((s36 a 4))) lk_RX12_173 ha (by decide) rfl rfl rfl rfl [.int (zI 3), .int (zI ((s36 a 4)))] ⟨rfl, hG, hS_s36, ha, (by omega), (by omega)⟩ rfl rfl ⟨by decide, by decide⟩ ⟨by decide, by decide⟩ (k2 := 0) (n2 := 0) rfl rfl (Nat.le_of_ble_eq_true rfl) dX12_table_129 (kVM (fun s79 hS_s79 hF_s79 q1298 => ?_))
                      refine j_aload_n hx 1 dX12_table_132 rfl ?_
                      refine j_callV hx hG (c_X12_fine hst a) lk_RX12_166 ha (by decide) rfl rfl rfl rfl [] ⟨rfl, hG, hS_s79, ha⟩ rfl rfl ⟨by decide, by decide⟩ ⟨by decide, by decide⟩ (k2 := 0) (n2 := 0) rfl rfl (Nat.le_of_ble_eq_true rfl) dX12_table_133 (kIP (fun v1299 q1300 => ?_))
                      refine j_if_ne hx 142 dX12_table_136 rfl (by omega) (fun h1301 => ?_) (fun h1301 => ?_)
                      · skip
                        refine j_aload_n hx 1 dX12_table_142 rfl ?_
                        have f1302 := zf hS_s79 ha (k := 4) rfl
                        have f1303 := zf hS_s79 ha (k := 3) rfl
                        have g1304 : s79 (gP G a 9) (s79 a 4).toNat = s0 (gP G a 9) (s79 a 4).toNat := (by rw [(zFr_g hF_s79 (zr (k := 9) (t2 := 72) hG ha rfl) (by decide)), (zFr_g hF_s36 (zr (k := 9) (t2 := 72) hG ha rfl) (by decide)), (zFr_g hF_s28 (zr (k := 9) (t2 := 72) hG ha rfl) (by decide)), (zFr_g hF_s7 (zr (k := 9) (t2 := 72) hG ha rfl) (by decide)), (zFr_g hF_s5 (zr (k := 9) (t2 := 72) hG ha rfl) (by decide)), (zFr_g hF_s4 (zr (k := 9) (t2 := 72) hG ha rfl) (by decide)), e_s1, zU_at (Or.inl (zne ha (zr (k := 9) (t2 := 72) hG ha rfl) (by decide)))])
                        have f1305 := zf hS_s79 ha (k := 0) rfl
                        have f1306 := zf hS_s79 ha (k := 5) rfl
                        have f1307 := zf hS_s79 ha (k := 7) rfl
                        have f1308 := zf hS_s79 ha (k := 21) rfl
                        have f1309 := zf hS_s79 ha (k := 22) rfl
                        have f1310 := zf hS_s79 ha (k := 23) rfl
                        have f1311 := zf hS_s79 ha (k := 24) rfl
                        have f1312 := zf hS_s79 ha (k := 38) rfl
                        have f1313 := zf hS_s79 ha (k := 51) rfl
                        have f1314 := zf hS_s79 ha (k := 52) rfl
                        refine j_callV hx hG (c_X12_pass hst a) lk_RX12_256 ha (by decide) rfl rfl rfl rfl [] ⟨rfl, hG, hS_s79, ha⟩ rfl rfl ⟨by decide, by decide⟩ ⟨by decide, by decide⟩ (k2 := 0) (n2 := 0) rfl rfl (Nat.le_of_ble_eq_true rfl) dX12_table_143 (kVM (fun s80 hS_s80 hF_s80 q1316 => ?_))
                        refine j_aload_n hx 1 dX12_table_146 rfl ?_
                        refine j_iload_n hx 0 dX12_table_147 rfl ?_
                        have g1317 : s80 (gP G a 13) 0 = s7 (gP G a 13) 0 := (by rw [(zFr_g hF_s80 (zr (k := 13) (t2 := 76) hG ha rfl) (by decide)), (zFr_g hF_s79 (zr (k := 13) (t2 := 76) hG ha rfl) (by decide)), (zFr_g hF_s36 (zr (k := 13) (t2 := 76) hG ha rfl) (by decide)), (zFr_g hF_s28 (zr (k := 13) (t2 := 76) hG ha rfl) (by decide))])
                        have g1318 : s80 (gP G a 13) 1 = s7 (gP G a 13) 1 := (by rw [(zFr_g hF_s80 (zr (k := 13) (t2 := 76) hG ha rfl) (by decide)), (zFr_g hF_s79 (zr (k := 13) (t2 := 76) hG ha rfl) (by decide)), (zFr_g hF_s36 (zr (k := 13) (t2 := 76) hG ha rfl) (by decide)), (zFr_g hF_s28 (zr (k := 13) (t2 := 76) hG ha rfl) (by decide))])
                        have g1319 : s80 (gP G a 13) 2 = s7 (gP G a 13) 2 := (by rw [(zFr_g hF_s80 (zr (k := 13) (t2 := 76) hG ha rfl) (by decide)), (zFr_g hF_s79 (zr (k := 13) (t2 := 76) hG ha rfl) (by decide)), (zFr_g hF_s36 (zr (k := 13) (t2 := 76) hG ha rfl) (by decide)), (zFr_g hF_s28 (zr (k := 13) (t2 := 76) hG ha rfl) (by decide))])
                        have f1320 := zf hS_s80 ha (k := 22) rfl
                        have f1321 := zf hS_s80 ha (k := 21) rfl
                        have f1322 := zf hS_s80 ha (k := 23) rfl
                        have f1323 := zf hS_s80 ha (k := 4) rfl
                        have f1324 := zf hS_s80 ha (k := 5) rfl
                        have f1325 := zf hS_s80 ha (k := 3) rfl
                        have f1326 := zf hS_s80 ha (k := 0) rfl
                        have f1327 := zf hS_s80 ha (k := 7) rfl
                        have f1328 := zf hS_s80 ha (k := 24) rfl
                        have f1329 := zf hS_s80 ha (k := 38) rfl
                        have f1330 := zf hS_s80 ha (k := 51) rfl
                        have f1331 := zf hS_s80 ha (k := 52) rfl
                        refine j_callV hx hG (c_X12_readClause hst a v422) lk_RX12_259 ha (by decide) rfl rfl rfl rfl [.int (zI v422)] ⟨rfl, hG, hS_s80, ha, (by omega), ((by rw [(zFr_g hF_s80 (zr (k := 10) (t2 := 73) hG ha rfl) (by decide)), (zFr_g hF_s79 (zr (k := 10) (t2 := 73) hG ha rfl) (by decide)), (zFr_g hF_s36 (zr (k := 10) (t2 := 73) hG ha rfl) (by decide)), (zFr_g hF_s28 (zr (k := 10) (t2 := 73) hG ha rfl) (by decide))]; exact (zQi_k fA18 (by omega) (by omega)))), (by omega), (by omega), (by omega)⟩ rfl rfl ⟨by decide, by decide⟩ ⟨by decide, by decide⟩ (k2 := 0) (n2 := 0) rfl rfl (Nat.le_of_ble_eq_true rfl) dX12_table_148 (kVM (fun s81 hS_s81 hF_s81 q1333 => ?_))
                        refine j_aload_n hx 1 dX12_table_151 rfl ?_
                        refine j_bipush hx dX12_table_152 rfl ?_
                        have f1334 := zf hS_s81 ha (k := 4) rfl
                        have f1335 := zf hS_s81 ha (k := 5) rfl
                        have f1336 := zf hS_s81 ha (k := 3) rfl
                        have f1337 := zf hS_s81 ha (k := 0) rfl
                        have f1338 := zf hS_s81 ha (k := 7) rfl
                        have f1339 := zf hS_s81 ha (k := 21) rfl
                        have f1340 := zf hS_s81 ha (k := 22) rfl
                        have f1341 := zf hS_s81 ha (k := 23) rfl
                        have f1342 := zf hS_s81 ha (k := 24) rfl
                        have f1343 := zf hS_s81 ha (k := 38) rfl
                        have f1344 := zf hS_s81 ha (k := 51) rfl
                        have f1345 := zf hS_s81 ha (k := 52) rfl
                        refine j_callV hx hG (c_X12_sign hst a 59) lk_RX12_262 ha (by decide) rfl rfl rfl rfl [.int (zI 59)] ⟨rfl, hG, hS_s81, ha, (by omega)⟩ rfl rfl ⟨by decide, by decide⟩ ⟨by decide, by decide⟩ (k2 := 0) (n2 := 0) rfl rfl (Nat.le_of_ble_eq_true rfl) dX12_table_154 (kVM (fun s82 hS_s82 hF_s82 q1347 => ?_))
                        refine j_iincN hx 2 (fun v1348 => [(2, .int (zI v1348)), (3, .int (zI v422)), (0, .ref a)]) dX12_table_157 rfl (by decide) (fun _ => rfl) (fun v1348 f1349 f1350 f1351 => ?_)
                        refine j_goto hx 44 dX12_table_160 rfl ?_
                        have f1352 := zf hS_s82 ha (k := 4) rfl
                        have f1353 := zf hS_s82 ha (k := 5) rfl
                        have f1354 := zf hS_s82 ha (k := 0) rfl
                        have f1355 := zf hS_s82 ha (k := 3) rfl
                        have f1356 := zf hS_s82 ha (k := 7) rfl
                        have f1357 := zf hS_s82 ha (k := 24) rfl
                        have f1358 := zf hS_s82 ha (k := 38) rfl
                        have f1359 := zf hS_s82 ha (k := 51) rfl
                        have f1360 := zf hS_s82 ha (k := 52) rfl
                        have g1361 : s82 (gP G a 13) 0 = s81 (gP G a 13) 0 := (by rw [(zFr_g hF_s82 (zr (k := 13) (t2 := 76) hG ha rfl) (by decide))])
                        have g1362 : s82 (gP G a 13) 1 = s81 (gP G a 13) 1 := (by rw [(zFr_g hF_s82 (zr (k := 13) (t2 := 76) hG ha rfl) (by decide))])
                        have g1363 : s82 (gP G a 13) 2 = s81 (gP G a 13) 2 := (by rw [(zFr_g hF_s82 (zr (k := 13) (t2 := 76) hG ha rfl) (by decide))])
                        have f1364 := zf hS_s82 ha (k := 22) rfl
                        exact j_sub [2, 0] [(0, .ref a), (2, .int (zI v1348))] rfl (ih_c44_6 v1348 s82 (by omega) (by omega) hS_s82 (zFr_t (zFr_t (zFr_t (zFr_t (zFr_t (zFr_t (zFr_t zFr_rf hF_s7 (by decide)) hF_s28 (by decide)) hF_s36 (by decide)) hF_s79 (by decide)) hF_s80 (by decide)) hF_s81 (by decide)) hF_s82 (by decide)) (by omega) (by omega) (by omega) (by omega) (by omega) (by omega) (by omega) (by rw [(zFr_g hF_s82 (zr (k := 10) (t2 := 73) hG ha rfl) (by decide))]; exact (zQi_k q1333.2.2.1 (by omega) (by omega))) (by omega) (by omega))
                      · skip
                        refine j_goto hx 163 dX12_table_139 rfl ?_
                        refine j_aload_n hx 1 dX12_table_163 rfl ?_
                        refine j_callV hx hG (c_X12_fine hst a) lk_RX12_166 ha (by decide) rfl rfl rfl rfl [] ⟨rfl, hG, hS_s79, ha⟩ rfl rfl ⟨by decide, by decide⟩ ⟨by decide, by decide⟩ (k2 := 0) (n2 := 0) rfl rfl (Nat.le_of_ble_eq_true rfl) dX12_table_164 (kIP (fun v1365 q1366 => ?_))
                        refine j_if_eq hx 187 dX12_table_167 rfl (by omega) (fun h1367 => ?_) (fun h1367 => ?_)
                        · skip
                          refine j_aload_n hx 1 dX12_table_187 rfl ?_
                          refine j_aload_n hx 1 dX12_table_188 rfl ?_
                          have f1368 := zf hS_s79 ha (k := 21) rfl
                          refine g13_21 hx hG ha kf_RX12_180 rfl dX12_table_189 ?_
                          have f1369 := zf hS_s79 ha (k := 0) rfl
                          have f1370 := zf hS_s79 ha (k := 3) rfl
                          have f1371 := zf hS_s79 ha (k := 4) rfl
                          have f1372 := zf hS_s79 ha (k := 5) rfl
                          have f1373 := zf hS_s79 ha (k := 7) rfl
                          have f1374 := zf hS_s79 ha (k := 22) rfl
                          have f1375 := zf hS_s79 ha (k := 23) rfl
                          have f1376 := zf hS_s79 ha (k := 24) rfl
                          have f1377 := zf hS_s79 ha (k := 38) rfl
                          have f1378 := zf hS_s79 ha (k := 51) rfl
                          have f1379 := zf hS_s79 ha (k := 52) rfl
                          refine j_callV hx hG (c_X12_result hst a ((s79 a 21))) lk_RX12_265 ha (by decide) rfl rfl rfl rfl [.int (zI ((s79 a 21)))] ⟨rfl, hG, hS_s79, ha, (by omega)⟩ rfl rfl ⟨by decide, by decide⟩ ⟨by decide, by decide⟩ (k2 := 0) (n2 := 0) rfl rfl (Nat.le_of_ble_eq_true rfl) dX12_table_192 (kIM (fun v1380 s83 hS_s83 hF_s83 q1381 => ?_))
                          refine j_istore_n hx [(3, .int (zI v1380)), (0, .ref a), (2, .int (zI v99))] dX12_table_195 (by decide) rfl ?_
                          refine j_aload_n hx 1 dX12_table_196 rfl ?_
                          have f1382 := zf hS_s83 ha (k := 5) rfl
                          refine g13_5 hx hG ha kf_RX12_137 rfl dX12_table_197 ?_
                          refine j_iconst hx dX12_table_200 ?_
                          refine j_icmp_ne hx 208 dX12_table_201 rfl (by omega) ⟨by decide, by decide⟩ (fun h1383 => ?_) (fun h1383 => ?_)
                          · skip
                            refine j_iload_n hx 0 dX12_table_208 rfl ?_
                            have g1384 : zc (s83 (gP G a 27)) = zc (s0 (gP G a 27)) := by rw [(zFr_g hF_s83 (zr (k := 27) (t2 := 84) hG ha rfl) (by decide)), (zFr_g hF_s79 (zr (k := 27) (t2 := 84) hG ha rfl) (by decide)), (zFr_g hF_s36 (zr (k := 27) (t2 := 84) hG ha rfl) (by decide)), (zFr_g hF_s28 (zr (k := 27) (t2 := 84) hG ha rfl) (by decide)), (zFr_g hF_s7 (zr (k := 27) (t2 := 84) hG ha rfl) (by decide)), (zFr_g hF_s5 (zr (k := 27) (t2 := 84) hG ha rfl) (by decide)), (zFr_g hF_s4 (zr (k := 27) (t2 := 84) hG ha rfl) (by decide)), e_s1, zU_ne (zne (zr (k := 27) (t2 := 84) hG ha rfl) ha (by decide))]
                            have g1385 : zc (s83 (gP G a 28)) = zc (s0 (gP G a 28)) := by rw [(zFr_g hF_s83 (zr (k := 28) (t2 := 85) hG ha rfl) (by decide)), (zFr_g hF_s79 (zr (k := 28) (t2 := 85) hG ha rfl) (by decide)), (zFr_g hF_s36 (zr (k := 28) (t2 := 85) hG ha rfl) (by decide)), (zFr_g hF_s28 (zr (k := 28) (t2 := 85) hG ha rfl) (by decide)), (zFr_g hF_s7 (zr (k := 28) (t2 := 85) hG ha rfl) (by decide)), (zFr_g hF_s5 (zr (k := 28) (t2 := 85) hG ha rfl) (by decide)), (zFr_g hF_s4 (zr (k := 28) (t2 := 85) hG ha rfl) (by decide)), e_s1, zU_ne (zne (zr (k := 28) (t2 := 85) hG ha rfl) ha (by decide))]
                            have g1386 : s83 (gP G a 27) 488 = s0 (gP G a 27) 488 := (by rw [(zFr_g hF_s83 (zr (k := 27) (t2 := 84) hG ha rfl) (by decide)), (zFr_g hF_s79 (zr (k := 27) (t2 := 84) hG ha rfl) (by decide)), (zFr_g hF_s36 (zr (k := 27) (t2 := 84) hG ha rfl) (by decide)), (zFr_g hF_s28 (zr (k := 27) (t2 := 84) hG ha rfl) (by decide)), (zFr_g hF_s7 (zr (k := 27) (t2 := 84) hG ha rfl) (by decide)), (zFr_g hF_s5 (zr (k := 27) (t2 := 84) hG ha rfl) (by decide)), (zFr_g hF_s4 (zr (k := 27) (t2 := 84) hG ha rfl) (by decide)), e_s1, zU_at (Or.inl (zne ha (zr (k := 27) (t2 := 84) hG ha rfl) (by decide)))])
                            have g1387 : s83 (gP G a 28) 488 = s0 (gP G a 28) 488 := (by rw [(zFr_g hF_s83 (zr (k := 28) (t2 := 85) hG ha rfl) (by decide)), (zFr_g hF_s79 (zr (k := 28) (t2 := 85) hG ha rfl) (by decide)), (zFr_g hF_s36 (zr (k := 28) (t2 := 85) hG ha rfl) (by decide)), (zFr_g hF_s28 (zr (k := 28) (t2 := 85) hG ha rfl) (by decide)), (zFr_g hF_s7 (zr (k := 28) (t2 := 85) hG ha rfl) (by decide)), (zFr_g hF_s5 (zr (k := 28) (t2 := 85) hG ha rfl) (by decide)), (zFr_g hF_s4 (zr (k := 28) (t2 := 85) hG ha rfl) (by decide)), e_s1, zU_at (Or.inl (zne ha (zr (k := 28) (t2 := 85) hG ha rfl) (by decide)))])
                            have f1388 := zf hS_s83 ha (k := 38) rfl
                            have f1389 := zf hS_s83 ha (k := 51) rfl
                            have f1390 := zf hS_s83 ha (k := 52) rfl
                            exact j_iret hx hq rfl (by decide) (by decide) dX12_table_209 ⟨v1380, rfl, rfl, hS_s83, (zFr_t (zFr_t (zFr_t (zFr_t (zFr_t (zFr_t (zFr_t (zFr_u zFr_rf e_s1 ha (by decide)) hF_s4 (by decide)) hF_s5 (by decide)) hF_s7 (by decide)) hF_s28 (by decide)) hF_s36 (by decide)) hF_s79 (by decide)) hF_s83 (by decide)), ⟨(by omega), by omega, by omega, by omega, by omega, (by rw [(zFr_g hF_s83 (zr (k := 34) (t2 := 91) hG ha rfl) (by decide)), (zFr_g hF_s79 (zr (k := 34) (t2 := 91) hG ha rfl) (by decide)), (zFr_g hF_s36 (zr (k := 34) (t2 := 91) hG ha rfl) (by decide)), (zFr_g hF_s28 (zr (k := 34) (t2 := 91) hG ha rfl) (by decide)), (zFr_g hF_s7 (zr (k := 34) (t2 := 91) hG ha rfl) (by decide)), (zFr_g hF_s5 (zr (k := 34) (t2 := 91) hG ha rfl) (by decide)), (zFr_g hF_s4 (zr (k := 34) (t2 := 91) hG ha rfl) (by decide)), e_s1, zU_ne (zne (zr (k := 34) (t2 := 91) hG ha rfl) ha (by decide)), (zFr_g hF_s83 (zr (k := 35) (t2 := 92) hG ha rfl) (by decide)), (zFr_g hF_s79 (zr (k := 35) (t2 := 92) hG ha rfl) (by decide)), (zFr_g hF_s36 (zr (k := 35) (t2 := 92) hG ha rfl) (by decide)), (zFr_g hF_s28 (zr (k := 35) (t2 := 92) hG ha rfl) (by decide)), (zFr_g hF_s7 (zr (k := 35) (t2 := 92) hG ha rfl) (by decide)), (zFr_g hF_s5 (zr (k := 35) (t2 := 92) hG ha rfl) (by decide)), (zFr_g hF_s4 (zr (k := 35) (t2 := 92) hG ha rfl) (by decide)), e_s1, zU_ne (zne (zr (k := 35) (t2 := 92) hG ha rfl) ha (by decide)), (zFr_g hF_s83 (zr (k := 37) (t2 := 94) hG ha rfl) (by decide)), (zFr_g hF_s79 (zr (k := 37) (t2 := 94) hG ha rfl) (by decide)), (zFr_g hF_s36 (zr (k := 37) (t2 := 94) hG ha rfl) (by decide)), (zFr_g hF_s28 (zr (k := 37) (t2 := 94) hG ha rfl) (by decide)), (zFr_g hF_s7 (zr (k := 37) (t2 := 94) hG ha rfl) (by decide)), (zFr_g hF_s5 (zr (k := 37) (t2 := 94) hG ha rfl) (by decide)), (zFr_g hF_s4 (zr (k := 37) (t2 := 94) hG ha rfl) (by decide)), e_s1, zU_ne (zne (zr (k := 37) (t2 := 94) hG ha rfl) ha (by decide))]; exact e2), (by rw [(zFr_g hF_s83 (zr (k := 17) (t2 := 80) hG ha rfl) (by decide)), (zFr_g hF_s79 (zr (k := 17) (t2 := 80) hG ha rfl) (by decide)), (zFr_g hF_s36 (zr (k := 17) (t2 := 80) hG ha rfl) (by decide)), (zFr_g hF_s28 (zr (k := 17) (t2 := 80) hG ha rfl) (by decide)), (zFr_g hF_s7 (zr (k := 17) (t2 := 80) hG ha rfl) (by decide)), (zFr_g hF_s5 (zr (k := 17) (t2 := 80) hG ha rfl) (by decide)), (zFr_g hF_s4 (zr (k := 17) (t2 := 80) hG ha rfl) (by decide)), e_s1, zU_ne (zne (zr (k := 17) (t2 := 80) hG ha rfl) ha (by decide))]; exact (zQn_nn e3 (by omega))), by omega, by omega, by omega⟩⟩
                          · skip
                            refine j_aload_n hx 1 dX12_table_204 rfl ?_
                            have f1391 := zf hS_s83 ha (k := 21) rfl
                            have hP1392 : zQn (s83 (gP G a 10)) (s83 a 21) := ((by rw [(zFr_g hF_s83 (zr (k := 10) (t2 := 73) hG ha rfl) (by decide)), (zFr_g hF_s79 (zr (k := 10) (t2 := 73) hG ha rfl) (by decide)), (zFr_g hF_s36 (zr (k := 10) (t2 := 73) hG ha rfl) (by decide)), (zFr_g hF_s28 (zr (k := 10) (t2 := 73) hG ha rfl) (by decide))]; exact (zQi_k fA18 (by omega) (by omega))) (by omega))
                            have g1393 : s83 (gP G a 13) 0 = s7 (gP G a 13) 0 := (by rw [(zFr_g hF_s83 (zr (k := 13) (t2 := 76) hG ha rfl) (by decide)), (zFr_g hF_s79 (zr (k := 13) (t2 := 76) hG ha rfl) (by decide)), (zFr_g hF_s36 (zr (k := 13) (t2 := 76) hG ha rfl) (by decide)), (zFr_g hF_s28 (zr (k := 13) (t2 := 76) hG ha rfl) (by decide))])
                            have g1394 : s83 (gP G a 13) 1 = s7 (gP G a 13) 1 := (by rw [(zFr_g hF_s83 (zr (k := 13) (t2 := 76) hG ha rfl) (by decide)), (zFr_g hF_s79 (zr (k := 13) (t2 := 76) hG ha rfl) (by decide)), (zFr_g hF_s36 (zr (k := 13) (t2 := 76) hG ha rfl) (by decide)), (zFr_g hF_s28 (zr (k := 13) (t2 := 76) hG ha rfl) (by decide))])
                            have g1395 : s83 (gP G a 13) 2 = s7 (gP G a 13) 2 := (by rw [(zFr_g hF_s83 (zr (k := 13) (t2 := 76) hG ha rfl) (by decide)), (zFr_g hF_s79 (zr (k := 13) (t2 := 76) hG ha rfl) (by decide)), (zFr_g hF_s36 (zr (k := 13) (t2 := 76) hG ha rfl) (by decide)), (zFr_g hF_s28 (zr (k := 13) (t2 := 76) hG ha rfl) (by decide))])
                            have f1396 := zf hS_s83 ha (k := 0) rfl
                            have f1397 := zf hS_s83 ha (k := 3) rfl
                            have f1398 := zf hS_s83 ha (k := 4) rfl
                            have f1399 := zf hS_s83 ha (k := 7) rfl
                            have f1400 := zf hS_s83 ha (k := 22) rfl
                            have f1401 := zf hS_s83 ha (k := 23) rfl
                            have f1402 := zf hS_s83 ha (k := 38) rfl
                            have f1403 := zf hS_s83 ha (k := 51) rfl
                            have f1404 := zf hS_s83 ha (k := 52) rfl
                            refine j_callV hx hG (c_X12_sets hst a) lk_RX12_131 ha (by decide) rfl rfl rfl rfl [] ⟨rfl, hG, hS_s83, ha, (by omega), ((zQn_nn hP1392 (by omega)))⟩ rfl rfl ⟨by decide, by decide⟩ ⟨by decide, by decide⟩ (k2 := 0) (n2 := 0) rfl rfl (Nat.le_of_ble_eq_true rfl) dX12_table_205 (kVM (fun s84 hS_s84 hF_s84 q1406 => ?_))
                            refine j_iload_n hx 0 dX12_table_208 rfl ?_
                            have f1407 := zf hS_s84 ha (k := 38) rfl
                            have f1408 := zf hS_s84 ha (k := 51) rfl
                            have f1409 := zf hS_s84 ha (k := 52) rfl
                            exact j_iret hx hq rfl (by decide) (by decide) dX12_table_209 ⟨v1380, rfl, rfl, hS_s84, (zFr_t (zFr_t (zFr_t (zFr_t (zFr_t (zFr_t (zFr_t (zFr_t (zFr_u zFr_rf e_s1 ha (by decide)) hF_s4 (by decide)) hF_s5 (by decide)) hF_s7 (by decide)) hF_s28 (by decide)) hF_s36 (by decide)) hF_s79 (by decide)) hF_s83 (by decide)) hF_s84 (by decide)), ⟨(by omega), by omega, by omega, by omega, by omega, q1406.2.2.2.2.2.1, (zQn_nn q1406.2.2.2.2.1 (by omega)), by omega, by omega, by omega⟩⟩
                        · skip
                          refine j_aload_n hx 1 dX12_table_170 rfl ?_
                          have f1410 := zf hS_s79 ha (k := 21) rfl
                          refine g13_21 hx hG ha kf_RX12_180 rfl dX12_table_171 ?_
                          refine j_iconst hx dX12_table_174 ?_
                          refine j_icmp_ge hx 187 dX12_table_175 rfl (by omega) ⟨by decide, by decide⟩ (fun h1411 => ?_) (fun h1411 => ?_)
                          · skip
                            refine j_aload_n hx 1 dX12_table_187 rfl ?_
                            refine j_aload_n hx 1 dX12_table_188 rfl ?_
                            refine g13_21 hx hG ha kf_RX12_180 rfl dX12_table_189 ?_
                            have f1412 := zf hS_s79 ha (k := 0) rfl
                            have f1413 := zf hS_s79 ha (k := 3) rfl
                            have f1414 := zf hS_s79 ha (k := 4) rfl
                            have f1415 := zf hS_s79 ha (k := 5) rfl
                            have f1416 := zf hS_s79 ha (k := 7) rfl
                            have f1417 := zf hS_s79 ha (k := 22) rfl
                            have f1418 := zf hS_s79 ha (k := 23) rfl
                            have f1419 := zf hS_s79 ha (k := 24) rfl
                            have f1420 := zf hS_s79 ha (k := 38) rfl
                            have f1421 := zf hS_s79 ha (k := 51) rfl
                            have f1422 := zf hS_s79 ha (k := 52) rfl
                            refine j_callV hx hG (c_X12_result hst a ((s79 a 21))) lk_RX12_265 ha (by decide) rfl rfl rfl rfl [.int (zI ((s79 a 21)))] ⟨rfl, hG, hS_s79, ha, (by omega)⟩ rfl rfl ⟨by decide, by decide⟩ ⟨by decide, by decide⟩ (k2 := 0) (n2 := 0) rfl rfl (Nat.le_of_ble_eq_true rfl) dX12_table_192 (kIM (fun v1423 s85 hS_s85 hF_s85 q1424 => ?_))
                            refine j_istore_n hx [(3, .int (zI v1423)), (0, .ref a), (2, .int (zI v99))] dX12_table_195 (by decide) rfl ?_
                            refine j_aload_n hx 1 dX12_table_196 rfl ?_
                            have f1425 := zf hS_s85 ha (k := 5) rfl
                            refine g13_5 hx hG ha kf_RX12_137 rfl dX12_table_197 ?_
                            refine j_iconst hx dX12_table_200 ?_
                            refine j_icmp_ne hx 208 dX12_table_201 rfl (by omega) ⟨by decide, by decide⟩ (fun h1426 => ?_) (fun h1426 => ?_)
                            · skip
                              refine j_iload_n hx 0 dX12_table_208 rfl ?_
                              have g1427 : zc (s85 (gP G a 27)) = zc (s0 (gP G a 27)) := by rw [(zFr_g hF_s85 (zr (k := 27) (t2 := 84) hG ha rfl) (by decide)), (zFr_g hF_s79 (zr (k := 27) (t2 := 84) hG ha rfl) (by decide)), (zFr_g hF_s36 (zr (k := 27) (t2 := 84) hG ha rfl) (by decide)), (zFr_g hF_s28 (zr (k := 27) (t2 := 84) hG ha rfl) (by decide)), (zFr_g hF_s7 (zr (k := 27) (t2 := 84) hG ha rfl) (by decide)), (zFr_g hF_s5 (zr (k := 27) (t2 := 84) hG ha rfl) (by decide)), (zFr_g hF_s4 (zr (k := 27) (t2 := 84) hG ha rfl) (by decide)), e_s1, zU_ne (zne (zr (k := 27) (t2 := 84) hG ha rfl) ha (by decide))]
                              have g1428 : zc (s85 (gP G a 28)) = zc (s0 (gP G a 28)) := by rw [(zFr_g hF_s85 (zr (k := 28) (t2 := 85) hG ha rfl) (by decide)), (zFr_g hF_s79 (zr (k := 28) (t2 := 85) hG ha rfl) (by decide)), (zFr_g hF_s36 (zr (k := 28) (t2 := 85) hG ha rfl) (by decide)), (zFr_g hF_s28 (zr (k := 28) (t2 := 85) hG ha rfl) (by decide)), (zFr_g hF_s7 (zr (k := 28) (t2 := 85) hG ha rfl) (by decide)), (zFr_g hF_s5 (zr (k := 28) (t2 := 85) hG ha rfl) (by decide)), (zFr_g hF_s4 (zr (k := 28) (t2 := 85) hG ha rfl) (by decide)), e_s1, zU_ne (zne (zr (k := 28) (t2 := 85) hG ha rfl) ha (by decide))]
                              have g1429 : s85 (gP G a 27) 488 = s0 (gP G a 27) 488 := (by rw [(zFr_g hF_s85 (zr (k := 27) (t2 := 84) hG ha rfl) (by decide)), (zFr_g hF_s79 (zr (k := 27) (t2 := 84) hG ha rfl) (by decide)), (zFr_g hF_s36 (zr (k := 27) (t2 := 84) hG ha rfl) (by decide)), (zFr_g hF_s28 (zr (k := 27) (t2 := 84) hG ha rfl) (by decide)), (zFr_g hF_s7 (zr (k := 27) (t2 := 84) hG ha rfl) (by decide)), (zFr_g hF_s5 (zr (k := 27) (t2 := 84) hG ha rfl) (by decide)), (zFr_g hF_s4 (zr (k := 27) (t2 := 84) hG ha rfl) (by decide)), e_s1, zU_at (Or.inl (zne ha (zr (k := 27) (t2 := 84) hG ha rfl) (by decide)))])
                              have g1430 : s85 (gP G a 28) 488 = s0 (gP G a 28) 488 := (by rw [(zFr_g hF_s85 (zr (k := 28) (t2 := 85) hG ha rfl) (by decide)), (zFr_g hF_s79 (zr (k := 28) (t2 := 85) hG ha rfl) (by decide)), (zFr_g hF_s36 (zr (k := 28) (t2 := 85) hG ha rfl) (by decide)), (zFr_g hF_s28 (zr (k := 28) (t2 := 85) hG ha rfl) (by decide)), (zFr_g hF_s7 (zr (k := 28) (t2 := 85) hG ha rfl) (by decide)), (zFr_g hF_s5 (zr (k := 28) (t2 := 85) hG ha rfl) (by decide)), (zFr_g hF_s4 (zr (k := 28) (t2 := 85) hG ha rfl) (by decide)), e_s1, zU_at (Or.inl (zne ha (zr (k := 28) (t2 := 85) hG ha rfl) (by decide)))])
                              have f1431 := zf hS_s85 ha (k := 38) rfl
                              have f1432 := zf hS_s85 ha (k := 51) rfl
                              have f1433 := zf hS_s85 ha (k := 52) rfl
                              exact j_iret hx hq rfl (by decide) (by decide) dX12_table_209 ⟨v1423, rfl, rfl, hS_s85, (zFr_t (zFr_t (zFr_t (zFr_t (zFr_t (zFr_t (zFr_t (zFr_u zFr_rf e_s1 ha (by decide)) hF_s4 (by decide)) hF_s5 (by decide)) hF_s7 (by decide)) hF_s28 (by decide)) hF_s36 (by decide)) hF_s79 (by decide)) hF_s85 (by decide)), ⟨(by omega), by omega, by omega, by omega, by omega, (by rw [(zFr_g hF_s85 (zr (k := 34) (t2 := 91) hG ha rfl) (by decide)), (zFr_g hF_s79 (zr (k := 34) (t2 := 91) hG ha rfl) (by decide)), (zFr_g hF_s36 (zr (k := 34) (t2 := 91) hG ha rfl) (by decide)), (zFr_g hF_s28 (zr (k := 34) (t2 := 91) hG ha rfl) (by decide)), (zFr_g hF_s7 (zr (k := 34) (t2 := 91) hG ha rfl) (by decide)), (zFr_g hF_s5 (zr (k := 34) (t2 := 91) hG ha rfl) (by decide)), (zFr_g hF_s4 (zr (k := 34) (t2 := 91) hG ha rfl) (by decide)), e_s1, zU_ne (zne (zr (k := 34) (t2 := 91) hG ha rfl) ha (by decide)), (zFr_g hF_s85 (zr (k := 35) (t2 := 92) hG ha rfl) (by decide)), (zFr_g hF_s79 (zr (k := 35) (t2 := 92) hG ha rfl) (by decide)), (zFr_g hF_s36 (zr (k := 35) (t2 := 92) hG ha rfl) (by decide)), (zFr_g hF_s28 (zr (k := 35) (t2 := 92) hG ha rfl) (by decide)), (zFr_g hF_s7 (zr (k := 35) (t2 := 92) hG ha rfl) (by decide)), (zFr_g hF_s5 (zr (k := 35) (t2 := 92) hG ha rfl) (by decide)), (zFr_g hF_s4 (zr (k := 35) (t2 := 92) hG ha rfl) (by decide)), e_s1, zU_ne (zne (zr (k := 35) (t2 := 92) hG ha rfl) ha (by decide)), (zFr_g hF_s85 (zr (k := 37) (t2 := 94) hG ha rfl) (by decide)), (zFr_g hF_s79 (zr (k := 37) (t2 := 94) hG ha rfl) (by decide)), (zFr_g hF_s36 (zr (k := 37) (t2 := 94) hG ha rfl) (by decide)), (zFr_g hF_s28 (zr (k := 37) (t2 := 94) hG ha rfl) (by decide)), (zFr_g hF_s7 (zr (k := 37) (t2 := 94) hG ha rfl) (by decide)), (zFr_g hF_s5 (zr (k := 37) (t2 := 94) hG ha rfl) (by decide)), (zFr_g hF_s4 (zr (k := 37) (t2 := 94) hG ha rfl) (by decide)), e_s1, zU_ne (zne (zr (k := 37) (t2 := 94) hG ha rfl) ha (by decide))]; exact e2), (by rw [(zFr_g hF_s85 (zr (k := 17) (t2 := 80) hG ha rfl) (by decide)), (zFr_g hF_s79 (zr (k := 17) (t2 := 80) hG ha rfl) (by decide)), (zFr_g hF_s36 (zr (k := 17) (t2 := 80) hG ha rfl) (by decide)), (zFr_g hF_s28 (zr (k := 17) (t2 := 80) hG ha rfl) (by decide)), (zFr_g hF_s7 (zr (k := 17) (t2 := 80) hG ha rfl) (by decide)), (zFr_g hF_s5 (zr (k := 17) (t2 := 80) hG ha rfl) (by decide)), (zFr_g hF_s4 (zr (k := 17) (t2 := 80) hG ha rfl) (by decide)), e_s1, zU_ne (zne (zr (k := 17) (t2 := 80) hG ha rfl) ha (by decide))]; exact (zQn_nn e3 (by omega))), by omega, by omega, by omega⟩⟩
                            · skip
                              refine j_aload_n hx 1 dX12_table_204 rfl ?_
                              have f1434 := zf hS_s85 ha (k := 21) rfl
                              have hP1435 : zQn (s85 (gP G a 10)) (s85 a 21) := ((by rw [(zFr_g hF_s85 (zr (k := 10) (t2 := 73) hG ha rfl) (by decide)), (zFr_g hF_s79 (zr (k := 10) (t2 := 73) hG ha rfl) (by decide)), (zFr_g hF_s36 (zr (k := 10) (t2 := 73) hG ha rfl) (by decide)), (zFr_g hF_s28 (zr (k := 10) (t2 := 73) hG ha rfl) (by decide))]; exact (zQi_k fA18 (by omega) (by omega))) (by omega))
                              have g1436 : s85 (gP G a 13) 0 = s7 (gP G a 13) 0 := (by rw [(zFr_g hF_s85 (zr (k := 13) (t2 := 76) hG ha rfl) (by decide)), (zFr_g hF_s79 (zr (k := 13) (t2 := 76) hG ha rfl) (by decide)), (zFr_g hF_s36 (zr (k := 13) (t2 := 76) hG ha rfl) (by decide)), (zFr_g hF_s28 (zr (k := 13) (t2 := 76) hG ha rfl) (by decide))])
                              have g1437 : s85 (gP G a 13) 1 = s7 (gP G a 13) 1 := (by rw [(zFr_g hF_s85 (zr (k := 13) (t2 := 76) hG ha rfl) (by decide)), (zFr_g hF_s79 (zr (k := 13) (t2 := 76) hG ha rfl) (by decide)), (zFr_g hF_s36 (zr (k := 13) (t2 := 76) hG ha rfl) (by decide)), (zFr_g hF_s28 (zr (k := 13) (t2 := 76) hG ha rfl) (by decide))])
                              have g1438 : s85 (gP G a 13) 2 = s7 (gP G a 13) 2 := (by rw [(zFr_g hF_s85 (zr (k := 13) (t2 := 76) hG ha rfl) (by decide)), (zFr_g hF_s79 (zr (k := 13) (t2 := 76) hG ha rfl) (by decide)), (zFr_g hF_s36 (zr (k := 13) (t2 := 76) hG ha rfl) (by decide)), (zFr_g hF_s28 (zr (k := 13) (t2 := 76) hG ha rfl) (by decide))])
                              have f1439 := zf hS_s85 ha (k := 0) rfl
                              have f1440 := zf hS_s85 ha (k := 3) rfl
                              have f1441 := zf hS_s85 ha (k := 4) rfl
                              have f1442 := zf hS_s85 ha (k := 7) rfl
                              have f1443 := zf hS_s85 ha (k := 22) rfl
                              have f1444 := zf hS_s85 ha (k := 23) rfl
                              have f1445 := zf hS_s85 ha (k := 38) rfl
                              have f1446 := zf hS_s85 ha (k := 51) rfl
                              have f1447 := zf hS_s85 ha (k := 52) rfl
                              refine j_callV hx hG (c_X12_sets hst a) lk_RX12_131 ha (by decide) rfl rfl rfl rfl [] ⟨rfl, hG, hS_s85, ha, (by omega), ((zQn_nn hP1435 (by omega)))⟩ rfl rfl ⟨by decide, by decide⟩ ⟨by decide, by decide⟩ (k2 := 0) (n2 := 0) rfl rfl (Nat.le_of_ble_eq_true rfl) dX12_table_205 (kVM (fun s86 hS_s86 hF_s86 q1449 => ?_))
                              refine j_iload_n hx 0 dX12_table_208 rfl ?_
                              have f1450 := zf hS_s86 ha (k := 38) rfl
                              have f1451 := zf hS_s86 ha (k := 51) rfl
                              have f1452 := zf hS_s86 ha (k := 52) rfl
                              exact j_iret hx hq rfl (by decide) (by decide) dX12_table_209 ⟨v1423, rfl, rfl, hS_s86, (zFr_t (zFr_t (zFr_t (zFr_t (zFr_t (zFr_t (zFr_t (zFr_t (zFr_u zFr_rf e_s1 ha (by decide)) hF_s4 (by decide)) hF_s5 (by decide)) hF_s7 (by decide)) hF_s28 (by decide)) hF_s36 (by decide)) hF_s79 (by decide)) hF_s85 (by decide)) hF_s86 (by decide)), ⟨(by omega), by omega, by omega, by omega, by omega, q1449.2.2.2.2.2.1, (zQn_nn q1449.2.2.2.2.1 (by omega)), by omega, by omega, by omega⟩⟩
                          · skip
                            refine j_aload_n hx 1 dX12_table_178 rfl ?_
                            refine j_iconst hx dX12_table_179 ?_
                            refine j_aload_n hx 1 dX12_table_180 rfl ?_
                            have f1453 := zf hS_s79 ha (k := 3) rfl
                            refine g13_3 hx hG ha kf_RX12_146 rfl dX12_table_181 ?_
                            have f1454 := zf hS_s79 ha (k := 0) rfl
                            have f1455 := zf hS_s79 ha (k := 4) rfl
                            have f1456 := zf hS_s79 ha (k := 7) rfl
                            have f1457 := zf hS_s79 ha (k := 22) rfl
                            have f1458 := zf hS_s79 ha (k := 23) rfl
                            have f1459 := zf hS_s79 ha (k := 24) rfl
                            have f1460 := zf hS_s79 ha (k := 38) rfl
                            have f1461 := zf hS_s79 ha (k := 51) rfl
                            have f1462 := zf hS_s79 ha (k := 52) rfl
                            refine j_callV hx hG (c_X12_wrong hst a 4 ((s79 a 3))) lk_RX12_173 ha (by decide) rfl rfl rfl rfl [.int (zI 4), .int (zI ((s79 a 3)))] ⟨rfl, hG, hS_s79, ha, (by omega), (by omega)⟩ rfl rfl ⟨by decide, by decide⟩ ⟨by decide, by decide⟩ (k2 := 0) (n2 := 0) rfl rfl (Nat.le_of_ble_eq_true rfl) dX12_table_184 (kVM (fun s87 hS_s87 hF_s87 q1464 => ?_))
                            refine j_aload_n hx 1 dX12_table_187 rfl ?_
                            refine j_aload_n hx 1 dX12_table_188 rfl ?_
                            have f1465 := zf hS_s87 ha (k := 21) rfl
                            refine g13_21 hx hG ha kf_RX12_180 rfl dX12_table_189 ?_
                            have f1466 := zf hS_s87 ha (k := 0) rfl
                            have f1467 := zf hS_s87 ha (k := 3) rfl
                            have f1468 := zf hS_s87 ha (k := 4) rfl
                            have f1469 := zf hS_s87 ha (k := 5) rfl
                            have f1470 := zf hS_s87 ha (k := 7) rfl
                            have f1471 := zf hS_s87 ha (k := 22) rfl
                            have f1472 := zf hS_s87 ha (k := 23) rfl
                            have f1473 := zf hS_s87 ha (k := 24) rfl
                            have f1474 := zf hS_s87 ha (k := 38) rfl
                            have f1475 := zf hS_s87 ha (k := 51) rfl
                            have f1476 := zf hS_s87 ha (k := 52) rfl
                            refine j_callV hx hG (c_X12_result hst a ((s87 a 21))) lk_RX12_265 ha (by decide) rfl rfl rfl rfl [.int (zI ((s87 a 21)))] ⟨rfl, hG, hS_s87, ha, (by omega)⟩ rfl rfl ⟨by decide, by decide⟩ ⟨by decide, by decide⟩ (k2 := 0) (n2 := 0) rfl rfl (Nat.le_of_ble_eq_true rfl) dX12_table_192 (kIM (fun v1477 s88 hS_s88 hF_s88 q1478 => ?_))
                            refine j_istore_n hx [(3, .int (zI v1477)), (0, .ref a), (2, .int (zI v99))] dX12_table_195 (by decide) rfl ?_
                            refine j_aload_n hx 1 dX12_table_196 rfl ?_
                            have f1479 := zf hS_s88 ha (k := 5) rfl
                            refine g13_5 hx hG ha kf_RX12_137 rfl dX12_table_197 ?_
                            refine j_iconst hx dX12_table_200 ?_
                            refine j_icmp_ne hx 208 dX12_table_201 rfl (by omega) ⟨by decide, by decide⟩ (fun h1480 => ?_) (fun h1480 => ?_)
                            · skip
                              refine j_iload_n hx 0 dX12_table_208 rfl ?_
                              have g1481 : zc (s88 (gP G a 27)) = zc (s0 (gP G a 27)) := by rw [(zFr_g hF_s88 (zr (k := 27) (t2 := 84) hG ha rfl) (by decide)), (zFr_g hF_s87 (zr (k := 27) (t2 := 84) hG ha rfl) (by decide)), (zFr_g hF_s79 (zr (k := 27) (t2 := 84) hG ha rfl) (by decide)), (zFr_g hF_s36 (zr (k := 27) (t2 := 84) hG ha rfl) (by decide)), (zFr_g hF_s28 (zr (k := 27) (t2 := 84) hG ha rfl) (by decide)), (zFr_g hF_s7 (zr (k := 27) (t2 := 84) hG ha rfl) (by decide)), (zFr_g hF_s5 (zr (k := 27) (t2 := 84) hG ha rfl) (by decide)), (zFr_g hF_s4 (zr (k := 27) (t2 := 84) hG ha rfl) (by decide)), e_s1, zU_ne (zne (zr (k := 27) (t2 := 84) hG ha rfl) ha (by decide))]
                              have g1482 : zc (s88 (gP G a 28)) = zc (s0 (gP G a 28)) := by rw [(zFr_g hF_s88 (zr (k := 28) (t2 := 85) hG ha rfl) (by decide)), (zFr_g hF_s87 (zr (k := 28) (t2 := 85) hG ha rfl) (by decide)), (zFr_g hF_s79 (zr (k := 28) (t2 := 85) hG ha rfl) (by decide)), (zFr_g hF_s36 (zr (k := 28) (t2 := 85) hG ha rfl) (by decide)), (zFr_g hF_s28 (zr (k := 28) (t2 := 85) hG ha rfl) (by decide)), (zFr_g hF_s7 (zr (k := 28) (t2 := 85) hG ha rfl) (by decide)), (zFr_g hF_s5 (zr (k := 28) (t2 := 85) hG ha rfl) (by decide)), (zFr_g hF_s4 (zr (k := 28) (t2 := 85) hG ha rfl) (by decide)), e_s1, zU_ne (zne (zr (k := 28) (t2 := 85) hG ha rfl) ha (by decide))]
                              have g1483 : s88 (gP G a 27) 488 = s0 (gP G a 27) 488 := (by rw [(zFr_g hF_s88 (zr (k := 27) (t2 := 84) hG ha rfl) (by decide)), (zFr_g hF_s87 (zr (k := 27) (t2 := 84) hG ha rfl) (by decide)), (zFr_g hF_s79 (zr (k := 27) (t2 := 84) hG ha rfl) (by decide)), (zFr_g hF_s36 (zr (k := 27) (t2 := 84) hG ha rfl) (by decide)), (zFr_g hF_s28 (zr (k := 27) (t2 := 84) hG ha rfl) (by decide)), (zFr_g hF_s7 (zr (k := 27) (t2 := 84) hG ha rfl) (by decide)), (zFr_g hF_s5 (zr (k := 27) (t2 := 84) hG ha rfl) (by decide)), (zFr_g hF_s4 (zr (k := 27) (t2 := 84) hG ha rfl) (by decide)), e_s1, zU_at (Or.inl (zne ha (zr (k := 27) (t2 := 84) hG ha rfl) (by decide)))])
                              have g1484 : s88 (gP G a 28) 488 = s0 (gP G a 28) 488 := (by rw [(zFr_g hF_s88 (zr (k := 28) (t2 := 85) hG ha rfl) (by decide)), (zFr_g hF_s87 (zr (k := 28) (t2 := 85) hG ha rfl) (by decide)), (zFr_g hF_s79 (zr (k := 28) (t2 := 85) hG ha rfl) (by decide)), (zFr_g hF_s36 (zr (k := 28) (t2 := 85) hG ha rfl) (by decide)), (zFr_g hF_s28 (zr (k := 28) (t2 := 85) hG ha rfl) (by decide)), (zFr_g hF_s7 (zr (k := 28) (t2 := 85) hG ha rfl) (by decide)), (zFr_g hF_s5 (zr (k := 28) (t2 := 85) hG ha rfl) (by decide)), (zFr_g hF_s4 (zr (k := 28) (t2 := 85) hG ha rfl) (by decide)), e_s1, zU_at (Or.inl (zne ha (zr (k := 28) (t2 := 85) hG ha rfl) (by decide)))])
                              have f1485 := zf hS_s88 ha (k := 38) rfl
                              have f1486 := zf hS_s88 ha (k := 51) rfl
                              have f1487 := zf hS_s88 ha (k := 52) rfl
                              exact j_iret hx hq rfl (by decide) (by decide) dX12_table_209 ⟨v1477, rfl, rfl, hS_s88, (zFr_t (zFr_t (zFr_t (zFr_t (zFr_t (zFr_t (zFr_t (zFr_t (zFr_u zFr_rf e_s1 ha (by decide)) hF_s4 (by decide)) hF_s5 (by decide)) hF_s7 (by decide)) hF_s28 (by decide)) hF_s36 (by decide)) hF_s79 (by decide)) hF_s87 (by decide)) hF_s88 (by decide)), ⟨(by omega), by omega, by omega, by omega, by omega, (by rw [(zFr_g hF_s88 (zr (k := 34) (t2 := 91) hG ha rfl) (by decide)), (zFr_g hF_s87 (zr (k := 34) (t2 := 91) hG ha rfl) (by decide)), (zFr_g hF_s79 (zr (k := 34) (t2 := 91) hG ha rfl) (by decide)), (zFr_g hF_s36 (zr (k := 34) (t2 := 91) hG ha rfl) (by decide)), (zFr_g hF_s28 (zr (k := 34) (t2 := 91) hG ha rfl) (by decide)), (zFr_g hF_s7 (zr (k := 34) (t2 := 91) hG ha rfl) (by decide)), (zFr_g hF_s5 (zr (k := 34) (t2 := 91) hG ha rfl) (by decide)), (zFr_g hF_s4 (zr (k := 34) (t2 := 91) hG ha rfl) (by decide)), e_s1, zU_ne (zne (zr (k := 34) (t2 := 91) hG ha rfl) ha (by decide)), (zFr_g hF_s88 (zr (k := 35) (t2 := 92) hG ha rfl) (by decide)), (zFr_g hF_s87 (zr (k := 35) (t2 := 92) hG ha rfl) (by decide)), (zFr_g hF_s79 (zr (k := 35) (t2 := 92) hG ha rfl) (by decide)), (zFr_g hF_s36 (zr (k := 35) (t2 := 92) hG ha rfl) (by decide)), (zFr_g hF_s28 (zr (k := 35) (t2 := 92) hG ha rfl) (by decide)), (zFr_g hF_s7 (zr (k := 35) (t2 := 92) hG ha rfl) (by decide)), (zFr_g hF_s5 (zr (k := 35) (t2 := 92) hG ha rfl) (by decide)), (zFr_g hF_s4 (zr (k := 35) (t2 := 92) hG ha rfl) (by decide)), e_s1, zU_ne (zne (zr (k := 35) (t2 := 92) hG ha rfl) ha (by decide)), (zFr_g hF_s88 (zr (k := 37) (t2 := 94) hG ha rfl) (by decide)), (zFr_g hF_s87 (zr (k := 37) (t2 := 94) hG ha rfl) (by decide)), (zFr_g hF_s79 (zr (k := 37) (t2 := 94) hG ha rfl) (by decide)), (zFr_g hF_s36 (zr (k := 37) (t2 := 94) hG ha rfl) (by decide)), (zFr_g hF_s28 (zr (k := 37) (t2 := 94) hG ha rfl) (by decide)), (zFr_g hF_s7 (zr (k := 37) (t2 := 94) hG ha rfl) (by decide)), (zFr_g hF_s5 (zr (k := 37) (t2 := 94) hG ha rfl) (by decide)), (zFr_g hF_s4 (zr (k := 37) (t2 := 94) hG ha rfl) (by decide)), e_s1, zU_ne (zne (zr (k := 37) (t2 := 94) hG ha rfl) ha (by decide))]; exact e2), (by rw [(zFr_g hF_s88 (zr (k := 17) (t2 := 80) hG ha rfl) (by decide)), (zFr_g hF_s87 (zr (k := 17) (t2 := 80) hG ha rfl) (by decide)), (zFr_g hF_s79 (zr (k := 17) (t2 := 80) hG ha rfl) (by decide)), (zFr_g hF_s36 (zr (k := 17) (t2 := 80) hG ha rfl) (by decide)), (zFr_g hF_s28 (zr (k := 17) (t2 := 80) hG ha rfl) (by decide)), (zFr_g hF_s7 (zr (k := 17) (t2 := 80) hG ha rfl) (by decide)), (zFr_g hF_s5 (zr (k := 17) (t2 := 80) hG ha rfl) (by decide)), (zFr_g hF_s4 (zr (k := 17) (t2 := 80) hG ha rfl) (by decide)), e_s1, zU_ne (zne (zr (k := 17) (t2 := 80) hG ha rfl) ha (by decide))]; exact (zQn_nn e3 (by omega))), by omega, by omega, by omega⟩⟩
                            · skip
                              refine j_aload_n hx 1 dX12_table_204 rfl ?_
                              have f1488 := zf hS_s88 ha (k := 21) rfl
                              have hP1489 : zQn (s88 (gP G a 10)) (s88 a 21) := ((by rw [(zFr_g hF_s88 (zr (k := 10) (t2 := 73) hG ha rfl) (by decide)), (zFr_g hF_s87 (zr (k := 10) (t2 := 73) hG ha rfl) (by decide)), (zFr_g hF_s79 (zr (k := 10) (t2 := 73) hG ha rfl) (by decide)), (zFr_g hF_s36 (zr (k := 10) (t2 := 73) hG ha rfl) (by decide)), (zFr_g hF_s28 (zr (k := 10) (t2 := 73) hG ha rfl) (by decide))]; exact (zQi_k fA18 (by omega) (by omega))) (by omega))
                              have g1490 : s88 (gP G a 13) 0 = s7 (gP G a 13) 0 := (by rw [(zFr_g hF_s88 (zr (k := 13) (t2 := 76) hG ha rfl) (by decide)), (zFr_g hF_s87 (zr (k := 13) (t2 := 76) hG ha rfl) (by decide)), (zFr_g hF_s79 (zr (k := 13) (t2 := 76) hG ha rfl) (by decide)), (zFr_g hF_s36 (zr (k := 13) (t2 := 76) hG ha rfl) (by decide)), (zFr_g hF_s28 (zr (k := 13) (t2 := 76) hG ha rfl) (by decide))])
                              have g1491 : s88 (gP G a 13) 1 = s7 (gP G a 13) 1 := (by rw [(zFr_g hF_s88 (zr (k := 13) (t2 := 76) hG ha rfl) (by decide)), (zFr_g hF_s87 (zr (k := 13) (t2 := 76) hG ha rfl) (by decide)), (zFr_g hF_s79 (zr (k := 13) (t2 := 76) hG ha rfl) (by decide)), (zFr_g hF_s36 (zr (k := 13) (t2 := 76) hG ha rfl) (by decide)), (zFr_g hF_s28 (zr (k := 13) (t2 := 76) hG ha rfl) (by decide))])
                              have g1492 : s88 (gP G a 13) 2 = s7 (gP G a 13) 2 := (by rw [(zFr_g hF_s88 (zr (k := 13) (t2 := 76) hG ha rfl) (by decide)), (zFr_g hF_s87 (zr (k := 13) (t2 := 76) hG ha rfl) (by decide)), (zFr_g hF_s79 (zr (k := 13) (t2 := 76) hG ha rfl) (by decide)), (zFr_g hF_s36 (zr (k := 13) (t2 := 76) hG ha rfl) (by decide)), (zFr_g hF_s28 (zr (k := 13) (t2 := 76) hG ha rfl) (by decide))])
                              have f1493 := zf hS_s88 ha (k := 0) rfl
                              have f1494 := zf hS_s88 ha (k := 3) rfl
                              have f1495 := zf hS_s88 ha (k := 4) rfl
                              have f1496 := zf hS_s88 ha (k := 7) rfl
                              have f1497 := zf hS_s88 ha (k := 22) rfl
                              have f1498 := zf hS_s88 ha (k := 23) rfl
                              have f1499 := zf hS_s88 ha (k := 38) rfl
                              have f1500 := zf hS_s88 ha (k := 51) rfl
                              have f1501 := zf hS_s88 ha (k := 52) rfl
                              refine j_callV hx hG (c_X12_sets hst a) lk_RX12_131 ha (by decide) rfl rfl rfl rfl [] ⟨rfl, hG, hS_s88, ha, (by omega), ((zQn_nn hP1489 (by omega)))⟩ rfl rfl ⟨by decide, by decide⟩ ⟨by decide, by decide⟩ (k2 := 0) (n2 := 0) rfl rfl (Nat.le_of_ble_eq_true rfl) dX12_table_205 (kVM (fun s89 hS_s89 hF_s89 q1503 => ?_))
                              refine j_iload_n hx 0 dX12_table_208 rfl ?_
                              have f1504 := zf hS_s89 ha (k := 38) rfl
                              have f1505 := zf hS_s89 ha (k := 51) rfl
                              have f1506 := zf hS_s89 ha (k := 52) rfl
                              exact j_iret hx hq rfl (by decide) (by decide) dX12_table_209 ⟨v1477, rfl, rfl, hS_s89, (zFr_t (zFr_t (zFr_t (zFr_t (zFr_t (zFr_t (zFr_t (zFr_t (zFr_t (zFr_u zFr_rf e_s1 ha (by decide)) hF_s4 (by decide)) hF_s5 (by decide)) hF_s7 (by decide)) hF_s28 (by decide)) hF_s36 (by decide)) hF_s79 (by decide)) hF_s87 (by decide)) hF_s88 (by decide)) hF_s89 (by decide)), ⟨(by omega), by omega, by omega, by omega, by omega, q1503.2.2.2.2.2.1, (zQn_nn q1503.2.2.2.2.1 (by omega)), by omega, by omega, by omega⟩⟩
                    · skip
                      refine j_iload_n hx 0 dX12_table_105 rfl ?_
                      refine j_ldcT hx (i := 1) 27 (by decide) rfl rfl rfl dX12_table_106 ?_
                      refine j_callS hx (c_X12_of hst 1) lk_RX12_215 [.ref (zTa E 1)] ⟨rfl, hG, hS_s36, (by decide)⟩ rfl rfl ⟨by decide, by decide⟩ ⟨by decide, by decide⟩ (k2 := 0) (n2 := 0) rfl rfl (Nat.le_of_ble_eq_true rfl) dX12_table_108 (kIP (fun v1507 q1508 => ?_))
                      refine j_icmp_ne hx 132 dX12_table_111 rfl (by omega) (by omega) (fun h1509 => ?_) (fun h1509 => ?_)
                      · skip
                        refine j_aload_n hx 1 dX12_table_132 rfl ?_
                        refine j_callV hx hG (c_X12_fine hst a) lk_RX12_166 ha (by decide) rfl rfl rfl rfl [] ⟨rfl, hG, hS_s36, ha⟩ rfl rfl ⟨by decide, by decide⟩ ⟨by decide, by decide⟩ (k2 := 0) (n2 := 0) rfl rfl (Nat.le_of_ble_eq_true rfl) dX12_table_133 (kIP (fun v1510 q1511 => ?_))
                        refine j_if_ne hx 142 dX12_table_136 rfl (by omega) (fun h1512 => ?_) (fun h1512 => ?_)
                        · skip
                          refine j_aload_n hx 1 dX12_table_142 rfl ?_
                          have f1513 := zf hS_s36 ha (k := 4) rfl
                          have f1514 := zf hS_s36 ha (k := 3) rfl
                          have g1515 : s36 (gP G a 9) (s36 a 4).toNat = s0 (gP G a 9) (s36 a 4).toNat := (by rw [(zFr_g hF_s36 (zr (k := 9) (t2 := 72) hG ha rfl) (by decide)), (zFr_g hF_s28 (zr (k := 9) (t2 := 72) hG ha rfl) (by decide)), (zFr_g hF_s7 (zr (k := 9) (t2 := 72) hG ha rfl) (by decide)), (zFr_g hF_s5 (zr (k := 9) (t2 := 72) hG ha rfl) (by decide)), (zFr_g hF_s4 (zr (k := 9) (t2 := 72) hG ha rfl) (by decide)), e_s1, zU_at (Or.inl (zne ha (zr (k := 9) (t2 := 72) hG ha rfl) (by decide)))])
                          have f1516 := zf hS_s36 ha (k := 0) rfl
                          have f1517 := zf hS_s36 ha (k := 5) rfl
                          have f1518 := zf hS_s36 ha (k := 7) rfl
                          have f1519 := zf hS_s36 ha (k := 22) rfl
                          have f1520 := zf hS_s36 ha (k := 23) rfl
                          have f1521 := zf hS_s36 ha (k := 24) rfl
                          have f1522 := zf hS_s36 ha (k := 38) rfl
                          have f1523 := zf hS_s36 ha (k := 51) rfl
                          have f1524 := zf hS_s36 ha (k := 52) rfl
                          refine j_callV hx hG (c_X12_pass hst a) lk_RX12_256 ha (by decide) rfl rfl rfl rfl [] ⟨rfl, hG, hS_s36, ha⟩ rfl rfl ⟨by decide, by decide⟩ ⟨by decide, by decide⟩ (k2 := 0) (n2 := 0) rfl rfl (Nat.le_of_ble_eq_true rfl) dX12_table_143 (kVM (fun s90 hS_s90 hF_s90 q1526 => ?_))
                          refine j_aload_n hx 1 dX12_table_146 rfl ?_
                          refine j_iload_n hx 0 dX12_table_147 rfl ?_
                          have g1527 : s90 (gP G a 13) 0 = s7 (gP G a 13) 0 := (by rw [(zFr_g hF_s90 (zr (k := 13) (t2 := 76) hG ha rfl) (by decide)), (zFr_g hF_s36 (zr (k := 13) (t2 := 76) hG ha rfl) (by decide)), (zFr_g hF_s28 (zr (k := 13) (t2 := 76) hG ha rfl) (by decide))])
                          have g1528 : s90 (gP G a 13) 1 = s7 (gP G a 13) 1 := (by rw [(zFr_g hF_s90 (zr (k := 13) (t2 := 76) hG ha rfl) (by decide)), (zFr_g hF_s36 (zr (k := 13) (t2 := 76) hG ha rfl) (by decide)), (zFr_g hF_s28 (zr (k := 13) (t2 := 76) hG ha rfl) (by decide))])
                          have g1529 : s90 (gP G a 13) 2 = s7 (gP G a 13) 2 := (by rw [(zFr_g hF_s90 (zr (k := 13) (t2 := 76) hG ha rfl) (by decide)), (zFr_g hF_s36 (zr (k := 13) (t2 := 76) hG ha rfl) (by decide)), (zFr_g hF_s28 (zr (k := 13) (t2 := 76) hG ha rfl) (by decide))])
                          have f1530 := zf hS_s90 ha (k := 22) rfl
                          have f1531 := zf hS_s90 ha (k := 21) rfl
                          have f1532 := zf hS_s90 ha (k := 23) rfl
                          have f1533 := zf hS_s90 ha (k := 4) rfl
                          have f1534 := zf hS_s90 ha (k := 5) rfl
                          have f1535 := zf hS_s90 ha (k := 3) rfl
                          have f1536 := zf hS_s90 ha (k := 0) rfl
                          have f1537 := zf hS_s90 ha (k := 7) rfl
                          have f1538 := zf hS_s90 ha (k := 24) rfl
                          have f1539 := zf hS_s90 ha (k := 38) rfl
                          have f1540 := zf hS_s90 ha (k := 51) rfl
                          have f1541 := zf hS_s90 ha (k := 52) rfl
                          refine j_callV hx hG (c_X12_readClause hst a v422) lk_RX12_259 ha (by decide) rfl rfl rfl rfl [.int (zI v422)] ⟨rfl, hG, hS_s90, ha, (by omega), ((by rw [(zFr_g hF_s90 (zr (k := 10) (t2 := 73) hG ha rfl) (by decide)), (zFr_g hF_s36 (zr (k := 10) (t2 := 73) hG ha rfl) (by decide)), (zFr_g hF_s28 (zr (k := 10) (t2 := 73) hG ha rfl) (by decide))]; exact (zQi_k fA18 (by omega) (by omega)))), (by omega), (by omega), (by omega)⟩ rfl rfl ⟨by decide, by decide⟩ ⟨by decide, by decide⟩ (k2 := 0) (n2 := 0) rfl rfl (Nat.le_of_ble_eq_true rfl) dX12_table_148 (kVM (fun s91 hS_s91 hF_s91 q1543 => ?_))
                          refine j_aload_n hx 1 dX12_table_151 rfl ?_
                          refine j_bipush hx dX12_table_152 rfl ?_
                          have f1544 := zf hS_s91 ha (k := 4) rfl
                          have f1545 := zf hS_s91 ha (k := 5) rfl
                          have f1546 := zf hS_s91 ha (k := 3) rfl
                          have f1547 := zf hS_s91 ha (k := 0) rfl
                          have f1548 := zf hS_s91 ha (k := 7) rfl
                          have f1549 := zf hS_s91 ha (k := 21) rfl
                          have f1550 := zf hS_s91 ha (k := 22) rfl
                          have f1551 := zf hS_s91 ha (k := 23) rfl
                          have f1552 := zf hS_s91 ha (k := 24) rfl
                          have f1553 := zf hS_s91 ha (k := 38) rfl
                          have f1554 := zf hS_s91 ha (k := 51) rfl
                          have f1555 := zf hS_s91 ha (k := 52) rfl
                          refine j_callV hx hG (c_X12_sign hst a 59) lk_RX12_262 ha (by decide) rfl rfl rfl rfl [.int (zI 59)] ⟨rfl, hG, hS_s91, ha, (by omega)⟩ rfl rfl ⟨by decide, by decide⟩ ⟨by decide, by decide⟩ (k2 := 0) (n2 := 0) rfl rfl (Nat.le_of_ble_eq_true rfl) dX12_table_154 (kVM (fun s92 hS_s92 hF_s92 q1557 => ?_))
                          refine j_iincN hx 2 (fun v1558 => [(2, .int (zI v1558)), (3, .int (zI v422)), (0, .ref a)]) dX12_table_157 rfl (by decide) (fun _ => rfl) (fun v1558 f1559 f1560 f1561 => ?_)
                          refine j_goto hx 44 dX12_table_160 rfl ?_
                          have f1562 := zf hS_s92 ha (k := 4) rfl
                          have f1563 := zf hS_s92 ha (k := 5) rfl
                          have f1564 := zf hS_s92 ha (k := 0) rfl
                          have f1565 := zf hS_s92 ha (k := 3) rfl
                          have f1566 := zf hS_s92 ha (k := 7) rfl
                          have f1567 := zf hS_s92 ha (k := 24) rfl
                          have f1568 := zf hS_s92 ha (k := 38) rfl
                          have f1569 := zf hS_s92 ha (k := 51) rfl
                          have f1570 := zf hS_s92 ha (k := 52) rfl
                          have g1571 : s92 (gP G a 13) 0 = s91 (gP G a 13) 0 := (by rw [(zFr_g hF_s92 (zr (k := 13) (t2 := 76) hG ha rfl) (by decide))])
                          have g1572 : s92 (gP G a 13) 1 = s91 (gP G a 13) 1 := (by rw [(zFr_g hF_s92 (zr (k := 13) (t2 := 76) hG ha rfl) (by decide))])
                          have g1573 : s92 (gP G a 13) 2 = s91 (gP G a 13) 2 := (by rw [(zFr_g hF_s92 (zr (k := 13) (t2 := 76) hG ha rfl) (by decide))])
                          have f1574 := zf hS_s92 ha (k := 22) rfl
                          exact j_sub [2, 0] [(0, .ref a), (2, .int (zI v1558))] rfl (ih_c44_6 v1558 s92 (by omega) (by omega) hS_s92 (zFr_t (zFr_t (zFr_t (zFr_t (zFr_t (zFr_t zFr_rf hF_s7 (by decide)) hF_s28 (by decide)) hF_s36 (by decide)) hF_s90 (by decide)) hF_s91 (by decide)) hF_s92 (by decide)) (by omega) (by omega) (by omega) (by omega) (by omega) (by omega) (by omega) (by rw [(zFr_g hF_s92 (zr (k := 10) (t2 := 73) hG ha rfl) (by decide))]; exact (zQi_k q1543.2.2.1 (by omega) (by omega))) (by omega) (by omega))
                        · skip
                          refine j_goto hx 163 dX12_table_139 rfl ?_
                          refine j_aload_n hx 1 dX12_table_163 rfl ?_
                          refine j_callV hx hG (c_X12_fine hst a) lk_RX12_166 ha (by decide) rfl rfl rfl rfl [] ⟨rfl, hG, hS_s36, ha⟩ rfl rfl ⟨by decide, by decide⟩ ⟨by decide, by decide⟩ (k2 := 0) (n2 := 0) rfl rfl (Nat.le_of_ble_eq_true rfl) dX12_table_164 (kIP (fun v1575 q1576 => ?_))
                          refine j_if_eq hx 187 dX12_table_167 rfl (by omega) (fun h1577 => ?_) (fun h1577 => ?_)
                          · skip
                            refine j_aload_n hx 1 dX12_table_187 rfl ?_
                            refine j_aload_n hx 1 dX12_table_188 rfl ?_
                            refine g13_21 hx hG ha kf_RX12_180 rfl dX12_table_189 ?_
                            have f1578 := zf hS_s36 ha (k := 0) rfl
                            have f1579 := zf hS_s36 ha (k := 3) rfl
                            have f1580 := zf hS_s36 ha (k := 4) rfl
                            have f1581 := zf hS_s36 ha (k := 5) rfl
                            have f1582 := zf hS_s36 ha (k := 7) rfl
                            have f1583 := zf hS_s36 ha (k := 22) rfl
                            have f1584 := zf hS_s36 ha (k := 23) rfl
                            have f1585 := zf hS_s36 ha (k := 24) rfl
                            have f1586 := zf hS_s36 ha (k := 38) rfl
                            have f1587 := zf hS_s36 ha (k := 51) rfl
                            have f1588 := zf hS_s36 ha (k := 52) rfl
                            refine j_callV hx hG (c_X12_result hst a ((s36 a 21))) lk_RX12_265 ha (by decide) rfl rfl rfl rfl [.int (zI ((s36 a 21)))] ⟨rfl, hG, hS_s36, ha, (by omega)⟩ rfl rfl ⟨by decide, by decide⟩ ⟨by decide, by decide⟩ (k2 := 0) (n2 := 0) rfl rfl (Nat.le_of_ble_eq_true rfl) dX12_table_192 (kIM (fun v1589 s93 hS_s93 hF_s93 q1590 => ?_))
                            refine j_istore_n hx [(3, .int (zI v1589)), (0, .ref a), (2, .int (zI v99))] dX12_table_195 (by decide) rfl ?_
                            refine j_aload_n hx 1 dX12_table_196 rfl ?_
                            have f1591 := zf hS_s93 ha (k := 5) rfl
                            refine g13_5 hx hG ha kf_RX12_137 rfl dX12_table_197 ?_
                            refine j_iconst hx dX12_table_200 ?_
                            refine j_icmp_ne hx 208 dX12_table_201 rfl (by omega) ⟨by decide, by decide⟩ (fun h1592 => ?_) (fun h1592 => ?_)
                            · skip
                              refine j_iload_n hx 0 dX12_table_208 rfl ?_
                              have g1593 : zc (s93 (gP G a 27)) = zc (s0 (gP G a 27)) := by rw [(zFr_g hF_s93 (zr (k := 27) (t2 := 84) hG ha rfl) (by decide)), (zFr_g hF_s36 (zr (k := 27) (t2 := 84) hG ha rfl) (by decide)), (zFr_g hF_s28 (zr (k := 27) (t2 := 84) hG ha rfl) (by decide)), (zFr_g hF_s7 (zr (k := 27) (t2 := 84) hG ha rfl) (by decide)), (zFr_g hF_s5 (zr (k := 27) (t2 := 84) hG ha rfl) (by decide)), (zFr_g hF_s4 (zr (k := 27) (t2 := 84) hG ha rfl) (by decide)), e_s1, zU_ne (zne (zr (k := 27) (t2 := 84) hG ha rfl) ha (by decide))]
                              have g1594 : zc (s93 (gP G a 28)) = zc (s0 (gP G a 28)) := by rw [(zFr_g hF_s93 (zr (k := 28) (t2 := 85) hG ha rfl) (by decide)), (zFr_g hF_s36 (zr (k := 28) (t2 := 85) hG ha rfl) (by decide)), (zFr_g hF_s28 (zr (k := 28) (t2 := 85) hG ha rfl) (by decide)), (zFr_g hF_s7 (zr (k := 28) (t2 := 85) hG ha rfl) (by decide)), (zFr_g hF_s5 (zr (k := 28) (t2 := 85) hG ha rfl) (by decide)), (zFr_g hF_s4 (zr (k := 28) (t2 := 85) hG ha rfl) (by decide)), e_s1, zU_ne (zne (zr (k := 28) (t2 := 85) hG ha rfl) ha (by decide))]
                              have g1595 : s93 (gP G a 27) 488 = s0 (gP G a 27) 488 := (by rw [(zFr_g hF_s93 (zr (k := 27) (t2 := 84) hG ha rfl) (by decide)), (zFr_g hF_s36 (zr (k := 27) (t2 := 84) hG ha rfl) (by decide)), (zFr_g hF_s28 (zr (k := 27) (t2 := 84) hG ha rfl) (by decide)), (zFr_g hF_s7 (zr (k := 27) (t2 := 84) hG ha rfl) (by decide)), (zFr_g hF_s5 (zr (k := 27) (t2 := 84) hG ha rfl) (by decide)), (zFr_g hF_s4 (zr (k := 27) (t2 := 84) hG ha rfl) (by decide)), e_s1, zU_at (Or.inl (zne ha (zr (k := 27) (t2 := 84) hG ha rfl) (by decide)))])
                              have g1596 : s93 (gP G a 28) 488 = s0 (gP G a 28) 488 := (by rw [(zFr_g hF_s93 (zr (k := 28) (t2 := 85) hG ha rfl) (by decide)), (zFr_g hF_s36 (zr (k := 28) (t2 := 85) hG ha rfl) (by decide)), (zFr_g hF_s28 (zr (k := 28) (t2 := 85) hG ha rfl) (by decide)), (zFr_g hF_s7 (zr (k := 28) (t2 := 85) hG ha rfl) (by decide)), (zFr_g hF_s5 (zr (k := 28) (t2 := 85) hG ha rfl) (by decide)), (zFr_g hF_s4 (zr (k := 28) (t2 := 85) hG ha rfl) (by decide)), e_s1, zU_at (Or.inl (zne ha (zr (k := 28) (t2 := 85) hG ha rfl) (by decide)))])
                              have f1597 := zf hS_s93 ha (k := 38) rfl
                              have f1598 := zf hS_s93 ha (k := 51) rfl
                              have f1599 := zf hS_s93 ha (k := 52) rfl
                              exact j_iret hx hq rfl (by decide) (by decide) dX12_table_209 ⟨v1589, rfl, rfl, hS_s93, (zFr_t (zFr_t (zFr_t (zFr_t (zFr_t (zFr_t (zFr_u zFr_rf e_s1 ha (by decide)) hF_s4 (by decide)) hF_s5 (by decide)) hF_s7 (by decide)) hF_s28 (by decide)) hF_s36 (by decide)) hF_s93 (by decide)), ⟨(by omega), by omega, by omega, by omega, by omega, (by rw [(zFr_g hF_s93 (zr (k := 34) (t2 := 91) hG ha rfl) (by decide)), (zFr_g hF_s36 (zr (k := 34) (t2 := 91) hG ha rfl) (by decide)), (zFr_g hF_s28 (zr (k := 34) (t2 := 91) hG ha rfl) (by decide)), (zFr_g hF_s7 (zr (k := 34) (t2 := 91) hG ha rfl) (by decide)), (zFr_g hF_s5 (zr (k := 34) (t2 := 91) hG ha rfl) (by decide)), (zFr_g hF_s4 (zr (k := 34) (t2 := 91) hG ha rfl) (by decide)), e_s1, zU_ne (zne (zr (k := 34) (t2 := 91) hG ha rfl) ha (by decide)), (zFr_g hF_s93 (zr (k := 35) (t2 := 92) hG ha rfl) (by decide)), (zFr_g hF_s36 (zr (k := 35) (t2 := 92) hG ha rfl) (by decide)), (zFr_g hF_s28 (zr (k := 35) (t2 := 92) hG ha rfl) (by decide)), (zFr_g hF_s7 (zr (k := 35) (t2 := 92) hG ha rfl) (by decide)), (zFr_g hF_s5 (zr (k := 35) (t2 := 92) hG ha rfl) (by decide)), (zFr_g hF_s4 (zr (k := 35) (t2 := 92) hG ha rfl) (by decide)), e_s1, zU_ne (zne (zr (k := 35) (t2 := 92) hG ha rfl) ha (by decide)), (zFr_g hF_s93 (zr (k := 37) (t2 := 94) hG ha rfl) (by decide)), (zFr_g hF_s36 (zr (k := 37) (t2 := 94) hG ha rfl) (by decide)), (zFr_g hF_s28 (zr (k := 37) (t2 := 94) hG ha rfl) (by decide)), (zFr_g hF_s7 (zr (k := 37) (t2 := 94) hG ha rfl) (by decide)), (zFr_g hF_s5 (zr (k := 37) (t2 := 94) hG ha rfl) (by decide)), (zFr_g hF_s4 (zr (k := 37) (t2 := 94) hG ha rfl) (by decide)), e_s1, zU_ne (zne (zr (k := 37) (t2 := 94) hG ha rfl) ha (by decide))]; exact e2), (by rw [(zFr_g hF_s93 (zr (k := 17) (t2 := 80) hG ha rfl) (by decide)), (zFr_g hF_s36 (zr (k := 17) (t2 := 80) hG ha rfl) (by decide)), (zFr_g hF_s28 (zr (k := 17) (t2 := 80) hG ha rfl) (by decide)), (zFr_g hF_s7 (zr (k := 17) (t2 := 80) hG ha rfl) (by decide)), (zFr_g hF_s5 (zr (k := 17) (t2 := 80) hG ha rfl) (by decide)), (zFr_g hF_s4 (zr (k := 17) (t2 := 80) hG ha rfl) (by decide)), e_s1, zU_ne (zne (zr (k := 17) (t2 := 80) hG ha rfl) ha (by decide))]; exact (zQn_nn e3 (by omega))), by omega, by omega, by omega⟩⟩
                            · skip
                              refine j_aload_n hx 1 dX12_table_204 rfl ?_
                              have f1600 := zf hS_s93 ha (k := 21) rfl
                              have hP1601 : zQn (s93 (gP G a 10)) (s93 a 21) := ((by rw [(zFr_g hF_s93 (zr (k := 10) (t2 := 73) hG ha rfl) (by decide)), (zFr_g hF_s36 (zr (k := 10) (t2 := 73) hG ha rfl) (by decide)), (zFr_g hF_s28 (zr (k := 10) (t2 := 73) hG ha rfl) (by decide))]; exact (zQi_k fA18 (by omega) (by omega))) (by omega))
                              have g1602 : s93 (gP G a 13) 0 = s7 (gP G a 13) 0 := (by rw [(zFr_g hF_s93 (zr (k := 13) (t2 := 76) hG ha rfl) (by decide)), (zFr_g hF_s36 (zr (k := 13) (t2 := 76) hG ha rfl) (by decide)), (zFr_g hF_s28 (zr (k := 13) (t2 := 76) hG ha rfl) (by decide))])
                              have g1603 : s93 (gP G a 13) 1 = s7 (gP G a 13) 1 := (by rw [(zFr_g hF_s93 (zr (k := 13) (t2 := 76) hG ha rfl) (by decide)), (zFr_g hF_s36 (zr (k := 13) (t2 := 76) hG ha rfl) (by decide)), (zFr_g hF_s28 (zr (k := 13) (t2 := 76) hG ha rfl) (by decide))])
                              have g1604 : s93 (gP G a 13) 2 = s7 (gP G a 13) 2 := (by rw [(zFr_g hF_s93 (zr (k := 13) (t2 := 76) hG ha rfl) (by decide)), (zFr_g hF_s36 (zr (k := 13) (t2 := 76) hG ha rfl) (by decide)), (zFr_g hF_s28 (zr (k := 13) (t2 := 76) hG ha rfl) (by decide))])
                              have f1605 := zf hS_s93 ha (k := 0) rfl
                              have f1606 := zf hS_s93 ha (k := 3) rfl
                              have f1607 := zf hS_s93 ha (k := 4) rfl
                              have f1608 := zf hS_s93 ha (k := 7) rfl
                              have f1609 := zf hS_s93 ha (k := 22) rfl
                              have f1610 := zf hS_s93 ha (k := 23) rfl
                              have f1611 := zf hS_s93 ha (k := 38) rfl
                              have f1612 := zf hS_s93 ha (k := 51) rfl
                              have f1613 := zf hS_s93 ha (k := 52) rfl
                              refine j_callV hx hG (c_X12_sets hst a) lk_RX12_131 ha (by decide) rfl rfl rfl rfl [] ⟨rfl, hG, hS_s93, ha, (by omega), ((zQn_nn hP1601 (by omega)))⟩ rfl rfl ⟨by decide, by decide⟩ ⟨by decide, by decide⟩ (k2 := 0) (n2 := 0) rfl rfl (Nat.le_of_ble_eq_true rfl) dX12_table_205 (kVM (fun s94 hS_s94 hF_s94 q1615 => ?_))
                              refine j_iload_n hx 0 dX12_table_208 rfl ?_
                              have f1616 := zf hS_s94 ha (k := 38) rfl
                              have f1617 := zf hS_s94 ha (k := 51) rfl
                              have f1618 := zf hS_s94 ha (k := 52) rfl
                              exact j_iret hx hq rfl (by decide) (by decide) dX12_table_209 ⟨v1589, rfl, rfl, hS_s94, (zFr_t (zFr_t (zFr_t (zFr_t (zFr_t (zFr_t (zFr_t (zFr_u zFr_rf e_s1 ha (by decide)) hF_s4 (by decide)) hF_s5 (by decide)) hF_s7 (by decide)) hF_s28 (by decide)) hF_s36 (by decide)) hF_s93 (by decide)) hF_s94 (by decide)), ⟨(by omega), by omega, by omega, by omega, by omega, q1615.2.2.2.2.2.1, (zQn_nn q1615.2.2.2.2.1 (by omega)), by omega, by omega, by omega⟩⟩
                          · skip
                            refine j_aload_n hx 1 dX12_table_170 rfl ?_
                            refine g13_21 hx hG ha kf_RX12_180 rfl dX12_table_171 ?_
                            refine j_iconst hx dX12_table_174 ?_
                            refine j_icmp_ge hx 187 dX12_table_175 rfl (by omega) ⟨by decide, by decide⟩ (fun h1619 => ?_) (fun h1619 => ?_)
                            · skip
                              refine j_aload_n hx 1 dX12_table_187 rfl ?_
                              refine j_aload_n hx 1 dX12_table_188 rfl ?_
                              refine g13_21 hx hG ha kf_RX12_180 rfl dX12_table_189 ?_
                              have f1620 := zf hS_s36 ha (k := 0) rfl
                              have f1621 := zf hS_s36 ha (k := 3) rfl
                              have f1622 := zf hS_s36 ha (k := 4) rfl
                              have f1623 := zf hS_s36 ha (k := 5) rfl
                              have f1624 := zf hS_s36 ha (k := 7) rfl
                              have f1625 := zf hS_s36 ha (k := 22) rfl
                              have f1626 := zf hS_s36 ha (k := 23) rfl
                              have f1627 := zf hS_s36 ha (k := 24) rfl
                              have f1628 := zf hS_s36 ha (k := 38) rfl
                              have f1629 := zf hS_s36 ha (k := 51) rfl
                              have f1630 := zf hS_s36 ha (k := 52) rfl
                              refine j_callV hx hG (c_X12_result hst a ((s36 a 21))) lk_RX12_265 ha (by decide) rfl rfl rfl rfl [.int (zI ((s36 a 21)))] ⟨rfl, hG, hS_s36, ha, (by omega)⟩ rfl rfl ⟨by decide, by decide⟩ ⟨by decide, by decide⟩ (k2 := 0) (n2 := 0) rfl rfl (Nat.le_of_ble_eq_true rfl) dX12_table_192 (kIM (fun v1631 s95 hS_s95 hF_s95 q1632 => ?_))
                              refine j_istore_n hx [(3, .int (zI v1631)), (0, .ref a), (2, .int (zI v99))] dX12_table_195 (by decide) rfl ?_
                              refine j_aload_n hx 1 dX12_table_196 rfl ?_
                              have f1633 := zf hS_s95 ha (k := 5) rfl
                              refine g13_5 hx hG ha kf_RX12_137 rfl dX12_table_197 ?_
                              refine j_iconst hx dX12_table_200 ?_
                              refine j_icmp_ne hx 208 dX12_table_201 rfl (by omega) ⟨by decide, by decide⟩ (fun h1634 => ?_) (fun h1634 => ?_)
                              · skip
                                refine j_iload_n hx 0 dX12_table_208 rfl ?_
                                have g1635 : zc (s95 (gP G a 27)) = zc (s0 (gP G a 27)) := by rw [(zFr_g hF_s95 (zr (k := 27) (t2 := 84) hG ha rfl) (by decide)), (zFr_g hF_s36 (zr (k := 27) (t2 := 84) hG ha rfl) (by decide)), (zFr_g hF_s28 (zr (k := 27) (t2 := 84) hG ha rfl) (by decide)), (zFr_g hF_s7 (zr (k := 27) (t2 := 84) hG ha rfl) (by decide)), (zFr_g hF_s5 (zr (k := 27) (t2 := 84) hG ha rfl) (by decide)), (zFr_g hF_s4 (zr (k := 27) (t2 := 84) hG ha rfl) (by decide)), e_s1, zU_ne (zne (zr (k := 27) (t2 := 84) hG ha rfl) ha (by decide))]
                                have g1636 : zc (s95 (gP G a 28)) = zc (s0 (gP G a 28)) := by rw [(zFr_g hF_s95 (zr (k := 28) (t2 := 85) hG ha rfl) (by decide)), (zFr_g hF_s36 (zr (k := 28) (t2 := 85) hG ha rfl) (by decide)), (zFr_g hF_s28 (zr (k := 28) (t2 := 85) hG ha rfl) (by decide)), (zFr_g hF_s7 (zr (k := 28) (t2 := 85) hG ha rfl) (by decide)), (zFr_g hF_s5 (zr (k := 28) (t2 := 85) hG ha rfl) (by decide)), (zFr_g hF_s4 (zr (k := 28) (t2 := 85) hG ha rfl) (by decide)), e_s1, zU_ne (zne (zr (k := 28) (t2 := 85) hG ha rfl) ha (by decide))]
                                have g1637 : s95 (gP G a 27) 488 = s0 (gP G a 27) 488 := (by rw [(zFr_g hF_s95 (zr (k := 27) (t2 := 84) hG ha rfl) (by decide)), (zFr_g hF_s36 (zr (k := 27) (t2 := 84) hG ha rfl) (by decide)), (zFr_g hF_s28 (zr (k := 27) (t2 := 84) hG ha rfl) (by decide)), (zFr_g hF_s7 (zr (k := 27) (t2 := 84) hG ha rfl) (by decide)), (zFr_g hF_s5 (zr (k := 27) (t2 := 84) hG ha rfl) (by decide)), (zFr_g hF_s4 (zr (k := 27) (t2 := 84) hG ha rfl) (by decide)), e_s1, zU_at (Or.inl (zne ha (zr (k := 27) (t2 := 84) hG ha rfl) (by decide)))])
                                have g1638 : s95 (gP G a 28) 488 = s0 (gP G a 28) 488 := (by rw [(zFr_g hF_s95 (zr (k := 28) (t2 := 85) hG ha rfl) (by decide)), (zFr_g hF_s36 (zr (k := 28) (t2 := 85) hG ha rfl) (by decide)), (zFr_g hF_s28 (zr (k := 28) (t2 := 85) hG ha rfl) (by decide)), (zFr_g hF_s7 (zr (k := 28) (t2 := 85) hG ha rfl) (by decide)), (zFr_g hF_s5 (zr (k := 28) (t2 := 85) hG ha rfl) (by decide)), (zFr_g hF_s4 (zr (k := 28) (t2 := 85) hG ha rfl) (by decide)), e_s1, zU_at (Or.inl (zne ha (zr (k := 28) (t2 := 85) hG ha rfl) (by decide)))])
                                have f1639 := zf hS_s95 ha (k := 38) rfl
                                have f1640 := zf hS_s95 ha (k := 51) rfl
                                have f1641 := zf hS_s95 ha (k := 52) rfl
                                exact j_iret hx hq rfl (by decide) (by decide) dX12_table_209 ⟨v1631, rfl, rfl, hS_s95, (zFr_t (zFr_t (zFr_t (zFr_t (zFr_t (zFr_t (zFr_u zFr_rf e_s1 ha (by decide)) hF_s4 (by decide)) hF_s5 (by decide)) hF_s7 (by decide)) hF_s28 (by decide)) hF_s36 (by decide)) hF_s95 (by decide)), ⟨(by omega), by omega, by omega, by omega, by omega, (by rw [(zFr_g hF_s95 (zr (k := 34) (t2 := 91) hG ha rfl) (by decide)), (zFr_g hF_s36 (zr (k := 34) (t2 := 91) hG ha rfl) (by decide)), (zFr_g hF_s28 (zr (k := 34) (t2 := 91) hG ha rfl) (by decide)), (zFr_g hF_s7 (zr (k := 34) (t2 := 91) hG ha rfl) (by decide)), (zFr_g hF_s5 (zr (k := 34) (t2 := 91) hG ha rfl) (by decide)), (zFr_g hF_s4 (zr (k := 34) (t2 := 91) hG ha rfl) (by decide)), e_s1, zU_ne (zne (zr (k := 34) (t2 := 91) hG ha rfl) ha (by decide)), (zFr_g hF_s95 (zr (k := 35) (t2 := 92) hG ha rfl) (by decide)), (zFr_g hF_s36 (zr (k := 35) (t2 := 92) hG ha rfl) (by decide)), (zFr_g hF_s28 (zr (k := 35) (t2 := 92) hG ha rfl) (by decide)), (zFr_g hF_s7 (zr (k := 35) (t2 := 92) hG ha rfl) (by decide)), (zFr_g hF_s5 (zr (k := 35) (t2 := 92) hG ha rfl) (by decide)), (zFr_g hF_s4 (zr (k := 35) (t2 := 92) hG ha rfl) (by decide)), e_s1, zU_ne (zne (zr (k := 35) (t2 := 92) hG ha rfl) ha (by decide)), (zFr_g hF_s95 (zr (k := 37) (t2 := 94) hG ha rfl) (by decide)), (zFr_g hF_s36 (zr (k := 37) (t2 := 94) hG ha rfl) (by decide)), (zFr_g hF_s28 (zr (k := 37) (t2 := 94) hG ha rfl) (by decide)), (zFr_g hF_s7 (zr (k := 37) (t2 := 94) hG ha rfl) (by decide)), (zFr_g hF_s5 (zr (k := 37) (t2 := 94) hG ha rfl) (by decide)), (zFr_g hF_s4 (zr (k := 37) (t2 := 94) hG ha rfl) (by decide)), e_s1, zU_ne (zne (zr (k := 37) (t2 := 94) hG ha rfl) ha (by decide))]; exact e2), (by rw [(zFr_g hF_s95 (zr (k := 17) (t2 := 80) hG ha rfl) (by decide)), (zFr_g hF_s36 (zr (k := 17) (t2 := 80) hG ha rfl) (by decide)), (zFr_g hF_s28 (zr (k := 17) (t2 := 80) hG ha rfl) (by decide)), (zFr_g hF_s7 (zr (k := 17) (t2 := 80) hG ha rfl) (by decide)), (zFr_g hF_s5 (zr (k := 17) (t2 := 80) hG ha rfl) (by decide)), (zFr_g hF_s4 (zr (k := 17) (t2 := 80) hG ha rfl) (by decide)), e_s1, zU_ne (zne (zr (k := 17) (t2 := 80) hG ha rfl) ha (by decide))]; exact (zQn_nn e3 (by omega))), by omega, by omega, by omega⟩⟩
                              · skip
                                refine j_aload_n hx 1 dX12_table_204 rfl ?_
                                have f1642 := zf hS_s95 ha (k := 21) rfl
                                have hP1643 : zQn (s95 (gP G a 10)) (s95 a 21) := ((by rw [(zFr_g hF_s95 (zr (k := 10) (t2 := 73) hG ha rfl) (by decide)), (zFr_g hF_s36 (zr (k := 10) (t2 := 73) hG ha rfl) (by decide)), (zFr_g hF_s28 (zr (k := 10) (t2 := 73) hG ha rfl) (by decide))]; exact (zQi_k fA18 (by omega) (by omega))) (by omega))
                                have g1644 : s95 (gP G a 13) 0 = s7 (gP G a 13) 0 := (by rw [(zFr_g hF_s95 (zr (k := 13) (t2 := 76) hG ha rfl) (by decide)), (zFr_g hF_s36 (zr (k := 13) (t2 := 76) hG ha rfl) (by decide)), (zFr_g hF_s28 (zr (k := 13) (t2 := 76) hG ha rfl) (by decide))])
                                have g1645 : s95 (gP G a 13) 1 = s7 (gP G a 13) 1 := (by rw [(zFr_g hF_s95 (zr (k := 13) (t2 := 76) hG ha rfl) (by decide)), (zFr_g hF_s36 (zr (k := 13) (t2 := 76) hG ha rfl) (by decide)), (zFr_g hF_s28 (zr (k := 13) (t2 := 76) hG ha rfl) (by decide))])
                                have g1646 : s95 (gP G a 13) 2 = s7 (gP G a 13) 2 := (by rw [(zFr_g hF_s95 (zr (k := 13) (t2 := 76) hG ha rfl) (by decide)), (zFr_g hF_s36 (zr (k := 13) (t2 := 76) hG ha rfl) (by decide)), (zFr_g hF_s28 (zr (k := 13) (t2 := 76) hG ha rfl) (by decide))])
                                have f1647 := zf hS_s95 ha (k := 0) rfl
                                have f1648 := zf hS_s95 ha (k := 3) rfl
                                have f1649 := zf hS_s95 ha (k := 4) rfl
                                have f1650 := zf hS_s95 ha (k := 7) rfl
                                have f1651 := zf hS_s95 ha (k := 22) rfl
                                have f1652 := zf hS_s95 ha (k := 23) rfl
                                have f1653 := zf hS_s95 ha (k := 38) rfl
                                have f1654 := zf hS_s95 ha (k := 51) rfl
                                have f1655 := zf hS_s95 ha (k := 52) rfl
                                refine j_callV hx hG (c_X12_sets hst a) lk_RX12_131 ha (by decide) rfl rfl rfl rfl [] ⟨rfl, hG, hS_s95, ha, (by omega), ((zQn_nn hP1643 (by omega)))⟩ rfl rfl ⟨by decide, by decide⟩ ⟨by decide, by decide⟩ (k2 := 0) (n2 := 0) rfl rfl (Nat.le_of_ble_eq_true rfl) dX12_table_205 (kVM (fun s96 hS_s96 hF_s96 q1657 => ?_))
                                refine j_iload_n hx 0 dX12_table_208 rfl ?_
                                have f1658 := zf hS_s96 ha (k := 38) rfl
                                have f1659 := zf hS_s96 ha (k := 51) rfl
                                have f1660 := zf hS_s96 ha (k := 52) rfl
                                exact j_iret hx hq rfl (by decide) (by decide) dX12_table_209 ⟨v1631, rfl, rfl, hS_s96, (zFr_t (zFr_t (zFr_t (zFr_t (zFr_t (zFr_t (zFr_t (zFr_u zFr_rf e_s1 ha (by decide)) hF_s4 (by decide)) hF_s5 (by decide)) hF_s7 (by decide)) hF_s28 (by decide)) hF_s36 (by decide)) hF_s95 (by decide)) hF_s96 (by decide)), ⟨(by omega), by omega, by omega, by omega, by omega, q1657.2.2.2.2.2.1, (zQn_nn q1657.2.2.2.2.1 (by omega)), by omega, by omega, by omega⟩⟩
                            · skip
                              refine j_aload_n hx 1 dX12_table_178 rfl ?_
                              refine j_iconst hx dX12_table_179 ?_
                              refine j_aload_n hx 1 dX12_table_180 rfl ?_
                              have f1661 := zf hS_s36 ha (k := 3) rfl
                              refine g13_3 hx hG ha kf_RX12_146 rfl dX12_table_181 ?_
                              have f1662 := zf hS_s36 ha (k := 0) rfl
                              have f1663 := zf hS_s36 ha (k := 4) rfl
                              have f1664 := zf hS_s36 ha (k := 7) rfl
                              have f1665 := zf hS_s36 ha (k := 22) rfl
                              have f1666 := zf hS_s36 ha (k := 23) rfl
                              have f1667 := zf hS_s36 ha (k := 24) rfl
                              have f1668 := zf hS_s36 ha (k := 38) rfl
                              have f1669 := zf hS_s36 ha (k := 51) rfl
                              have f1670 := zf hS_s36 ha (k := 52) rfl
                              refine j_callV hx hG (c_X12_wrong hst a 4 ((s36 a 3))) lk_RX12_173 ha (by decide) rfl rfl rfl rfl [.int (zI 4), .int (zI ((s36 a 3)))] ⟨rfl, hG, hS_s36, ha, (by omega), (by omega)⟩ rfl rfl ⟨by decide, by decide⟩ ⟨by decide, by decide⟩ (k2 := 0) (n2 := 0) rfl rfl (Nat.le_of_ble_eq_true rfl) dX12_table_184 (kVM (fun s97 hS_s97 hF_s97 q1672 => ?_))
                              refine j_aload_n hx 1 dX12_table_187 rfl ?_
                              refine j_aload_n hx 1 dX12_table_188 rfl ?_
                              have f1673 := zf hS_s97 ha (k := 21) rfl
                              refine g13_21 hx hG ha kf_RX12_180 rfl dX12_table_189 ?_
                              have f1674 := zf hS_s97 ha (k := 0) rfl
                              have f1675 := zf hS_s97 ha (k := 3) rfl
                              have f1676 := zf hS_s97 ha (k := 4) rfl
                              have f1677 := zf hS_s97 ha (k := 5) rfl
                              have f1678 := zf hS_s97 ha (k := 7) rfl
                              have f1679 := zf hS_s97 ha (k := 22) rfl
                              have f1680 := zf hS_s97 ha (k := 23) rfl
                              have f1681 := zf hS_s97 ha (k := 24) rfl
                              have f1682 := zf hS_s97 ha (k := 38) rfl
                              have f1683 := zf hS_s97 ha (k := 51) rfl
                              have f1684 := zf hS_s97 ha (k := 52) rfl
                              refine j_callV hx hG (c_X12_result hst a ((s97 a 21))) lk_RX12_265 ha (by decide) rfl rfl rfl rfl [.int (zI ((s97 a 21)))] ⟨rfl, hG, hS_s97, ha, (by omega)⟩ rfl rfl ⟨by decide, by decide⟩ ⟨by decide, by decide⟩ (k2 := 0) (n2 := 0) rfl rfl (Nat.le_of_ble_eq_true rfl) dX12_table_192 (kIM (fun v1685 s98 hS_s98 hF_s98 q1686 => ?_))
                              refine j_istore_n hx [(3, .int (zI v1685)), (0, .ref a), (2, .int (zI v99))] dX12_table_195 (by decide) rfl ?_
                              refine j_aload_n hx 1 dX12_table_196 rfl ?_
                              have f1687 := zf hS_s98 ha (k := 5) rfl
                              refine g13_5 hx hG ha kf_RX12_137 rfl dX12_table_197 ?_
                              refine j_iconst hx dX12_table_200 ?_
                              refine j_icmp_ne hx 208 dX12_table_201 rfl (by omega) ⟨by decide, by decide⟩ (fun h1688 => ?_) (fun h1688 => ?_)
                              · skip
                                refine j_iload_n hx 0 dX12_table_208 rfl ?_
                                have g1689 : zc (s98 (gP G a 27)) = zc (s0 (gP G a 27)) := by rw [(zFr_g hF_s98 (zr (k := 27) (t2 := 84) hG ha rfl) (by decide)), (zFr_g hF_s97 (zr (k := 27) (t2 := 84) hG ha rfl) (by decide)), (zFr_g hF_s36 (zr (k := 27) (t2 := 84) hG ha rfl) (by decide)), (zFr_g hF_s28 (zr (k := 27) (t2 := 84) hG ha rfl) (by decide)), (zFr_g hF_s7 (zr (k := 27) (t2 := 84) hG ha rfl) (by decide)), (zFr_g hF_s5 (zr (k := 27) (t2 := 84) hG ha rfl) (by decide)), (zFr_g hF_s4 (zr (k := 27) (t2 := 84) hG ha rfl) (by decide)), e_s1, zU_ne (zne (zr (k := 27) (t2 := 84) hG ha rfl) ha (by decide))]
                                have g1690 : zc (s98 (gP G a 28)) = zc (s0 (gP G a 28)) := by rw [(zFr_g hF_s98 (zr (k := 28) (t2 := 85) hG ha rfl) (by decide)), (zFr_g hF_s97 (zr (k := 28) (t2 := 85) hG ha rfl) (by decide)), (zFr_g hF_s36 (zr (k := 28) (t2 := 85) hG ha rfl) (by decide)), (zFr_g hF_s28 (zr (k := 28) (t2 := 85) hG ha rfl) (by decide)), (zFr_g hF_s7 (zr (k := 28) (t2 := 85) hG ha rfl) (by decide)), (zFr_g hF_s5 (zr (k := 28) (t2 := 85) hG ha rfl) (by decide)), (zFr_g hF_s4 (zr (k := 28) (t2 := 85) hG ha rfl) (by decide)), e_s1, zU_ne (zne (zr (k := 28) (t2 := 85) hG ha rfl) ha (by decide))]
                                have g1691 : s98 (gP G a 27) 488 = s0 (gP G a 27) 488 := (by rw [(zFr_g hF_s98 (zr (k := 27) (t2 := 84) hG ha rfl) (by decide)), (zFr_g hF_s97 (zr (k := 27) (t2 := 84) hG ha rfl) (by decide)), (zFr_g hF_s36 (zr (k := 27) (t2 := 84) hG ha rfl) (by decide)), (zFr_g hF_s28 (zr (k := 27) (t2 := 84) hG ha rfl) (by decide)), (zFr_g hF_s7 (zr (k := 27) (t2 := 84) hG ha rfl) (by decide)), (zFr_g hF_s5 (zr (k := 27) (t2 := 84) hG ha rfl) (by decide)), (zFr_g hF_s4 (zr (k := 27) (t2 := 84) hG ha rfl) (by decide)), e_s1, zU_at (Or.inl (zne ha (zr (k := 27) (t2 := 84) hG ha rfl) (by decide)))])
                                have g1692 : s98 (gP G a 28) 488 = s0 (gP G a 28) 488 := (by rw [(zFr_g hF_s98 (zr (k := 28) (t2 := 85) hG ha rfl) (by decide)), (zFr_g hF_s97 (zr (k := 28) (t2 := 85) hG ha rfl) (by decide)), (zFr_g hF_s36 (zr (k := 28) (t2 := 85) hG ha rfl) (by decide)), (zFr_g hF_s28 (zr (k := 28) (t2 := 85) hG ha rfl) (by decide)), (zFr_g hF_s7 (zr (k := 28) (t2 := 85) hG ha rfl) (by decide)), (zFr_g hF_s5 (zr (k := 28) (t2 := 85) hG ha rfl) (by decide)), (zFr_g hF_s4 (zr (k := 28) (t2 := 85) hG ha rfl) (by decide)), e_s1, zU_at (Or.inl (zne ha (zr (k := 28) (t2 := 85) hG ha rfl) (by decide)))])
                                have f1693 := zf hS_s98 ha (k := 38) rfl
                                have f1694 := zf hS_s98 ha (k := 51) rfl
                                have f1695 := zf hS_s98 ha (k := 52) rfl
                                exact j_iret hx hq rfl (by decide) (by decide) dX12_table_209 ⟨v1685, rfl, rfl, hS_s98, (zFr_t (zFr_t (zFr_t (zFr_t (zFr_t (zFr_t (zFr_t (zFr_u zFr_rf e_s1 ha (by decide)) hF_s4 (by decide)) hF_s5 (by decide)) hF_s7 (by decide)) hF_s28 (by decide)) hF_s36 (by decide)) hF_s97 (by decide)) hF_s98 (by decide)), ⟨(by omega), by omega, by omega, by omega, by omega, (by rw [(zFr_g hF_s98 (zr (k := 34) (t2 := 91) hG ha rfl) (by decide)), (zFr_g hF_s97 (zr (k := 34) (t2 := 91) hG ha rfl) (by decide)), (zFr_g hF_s36 (zr (k := 34) (t2 := 91) hG ha rfl) (by decide)), (zFr_g hF_s28 (zr (k := 34) (t2 := 91) hG ha rfl) (by decide)), (zFr_g hF_s7 (zr (k := 34) (t2 := 91) hG ha rfl) (by decide)), (zFr_g hF_s5 (zr (k := 34) (t2 := 91) hG ha rfl) (by decide)), (zFr_g hF_s4 (zr (k := 34) (t2 := 91) hG ha rfl) (by decide)), e_s1, zU_ne (zne (zr (k := 34) (t2 := 91) hG ha rfl) ha (by decide)), (zFr_g hF_s98 (zr (k := 35) (t2 := 92) hG ha rfl) (by decide)), (zFr_g hF_s97 (zr (k := 35) (t2 := 92) hG ha rfl) (by decide)), (zFr_g hF_s36 (zr (k := 35) (t2 := 92) hG ha rfl) (by decide)), (zFr_g hF_s28 (zr (k := 35) (t2 := 92) hG ha rfl) (by decide)), (zFr_g hF_s7 (zr (k := 35) (t2 := 92) hG ha rfl) (by decide)), (zFr_g hF_s5 (zr (k := 35) (t2 := 92) hG ha rfl) (by decide)), (zFr_g hF_s4 (zr (k := 35) (t2 := 92) hG ha rfl) (by decide)), e_s1, zU_ne (zne (zr (k := 35) (t2 := 92) hG ha rfl) ha (by decide)), (zFr_g hF_s98 (zr (k := 37) (t2 := 94) hG ha rfl) (by decide)), (zFr_g hF_s97 (zr (k := 37) (t2 := 94) hG ha rfl) (by decide)), (zFr_g hF_s36 (zr (k := 37) (t2 := 94) hG ha rfl) (by decide)), (zFr_g hF_s28 (zr (k := 37) (t2 := 94) hG ha rfl) (by decide)), (zFr_g hF_s7 (zr (k := 37) (t2 := 94) hG ha rfl) (by decide)), (zFr_g hF_s5 (zr (k := 37) (t2 := 94) hG ha rfl) (by decide)), (zFr_g hF_s4 (zr (k := 37) (t2 := 94) hG ha rfl) (by decide)), e_s1, zU_ne (zne (zr (k := 37) (t2 := 94) hG ha rfl) ha (by decide))]; exact e2), (by rw [(zFr_g hF_s98 (zr (k := 17) (t2 := 80) hG ha rfl) (by decide)), (zFr_g hF_s97 (zr (k := 17) (t2 := 80) hG ha rfl) (by decide)), (zFr_g hF_s36 (zr (k := 17) (t2 := 80) hG ha rfl) (by decide)), (zFr_g hF_s28 (zr (k := 17) (t2 := 80) hG ha rfl) (by decide)), (zFr_g hF_s7 (zr (k := 17) (t2 := 80) hG ha rfl) (by decide)), (zFr_g hF_s5 (zr (k := 17) (t2 := 80) hG ha rfl) (by decide)), (zFr_g hF_s4 (zr (k := 17) (t2 := 80) hG ha rfl) (by decide)), e_s1, zU_ne (zne (zr (k := 17) (t2 := 80) hG ha rfl) ha (by decide))]; exact (zQn_nn e3 (by omega))), by omega, by omega, by omega⟩⟩
                              · skip
                                refine j_aload_n hx 1 dX12_table_204 rfl ?_
                                have f1696 := zf hS_s98 ha (k := 21) rfl
                                have hP1697 : zQn (s98 (gP G a 10)) (s98 a 21) := ((by rw [(zFr_g hF_s98 (zr (k := 10) (t2 := 73) hG ha rfl) (by decide)), (zFr_g hF_s97 (zr (k := 10) (t2 := 73) hG ha rfl) (by decide)), (zFr_g hF_s36 (zr (k := 10) (t2 := 73) hG ha rfl) (by decide)), (zFr_g hF_s28 (zr (k := 10) (t2 := 73) hG ha rfl) (by decide))]; exact (zQi_k fA18 (by omega) (by omega))) (by omega))
                                have g1698 : s98 (gP G a 13) 0 = s7 (gP G a 13) 0 := (by rw [(zFr_g hF_s98 (zr (k := 13) (t2 := 76) hG ha rfl) (by decide)), (zFr_g hF_s97 (zr (k := 13) (t2 := 76) hG ha rfl) (by decide)), (zFr_g hF_s36 (zr (k := 13) (t2 := 76) hG ha rfl) (by decide)), (zFr_g hF_s28 (zr (k := 13) (t2 := 76) hG ha rfl) (by decide))])
                                have g1699 : s98 (gP G a 13) 1 = s7 (gP G a 13) 1 := (by rw [(zFr_g hF_s98 (zr (k := 13) (t2 := 76) hG ha rfl) (by decide)), (zFr_g hF_s97 (zr (k := 13) (t2 := 76) hG ha rfl) (by decide)), (zFr_g hF_s36 (zr (k := 13) (t2 := 76) hG ha rfl) (by decide)), (zFr_g hF_s28 (zr (k := 13) (t2 := 76) hG ha rfl) (by decide))])
                                have g1700 : s98 (gP G a 13) 2 = s7 (gP G a 13) 2 := (by rw [(zFr_g hF_s98 (zr (k := 13) (t2 := 76) hG ha rfl) (by decide)), (zFr_g hF_s97 (zr (k := 13) (t2 := 76) hG ha rfl) (by decide)), (zFr_g hF_s36 (zr (k := 13) (t2 := 76) hG ha rfl) (by decide)), (zFr_g hF_s28 (zr (k := 13) (t2 := 76) hG ha rfl) (by decide))])
                                have f1701 := zf hS_s98 ha (k := 0) rfl
                                have f1702 := zf hS_s98 ha (k := 3) rfl
                                have f1703 := zf hS_s98 ha (k := 4) rfl
                                have f1704 := zf hS_s98 ha (k := 7) rfl
                                have f1705 := zf hS_s98 ha (k := 22) rfl
                                have f1706 := zf hS_s98 ha (k := 23) rfl
                                have f1707 := zf hS_s98 ha (k := 38) rfl
                                have f1708 := zf hS_s98 ha (k := 51) rfl
                                have f1709 := zf hS_s98 ha (k := 52) rfl
                                refine j_callV hx hG (c_X12_sets hst a) lk_RX12_131 ha (by decide) rfl rfl rfl rfl [] ⟨rfl, hG, hS_s98, ha, (by omega), ((zQn_nn hP1697 (by omega)))⟩ rfl rfl ⟨by decide, by decide⟩ ⟨by decide, by decide⟩ (k2 := 0) (n2 := 0) rfl rfl (Nat.le_of_ble_eq_true rfl) dX12_table_205 (kVM (fun s99 hS_s99 hF_s99 q1711 => ?_))
                                refine j_iload_n hx 0 dX12_table_208 rfl ?_
                                have f1712 := zf hS_s99 ha (k := 38) rfl
                                have f1713 := zf hS_s99 ha (k := 51) rfl
                                have f1714 := zf hS_s99 ha (k := 52) rfl
                                exact j_iret hx hq rfl (by decide) (by decide) dX12_table_209 ⟨v1685, rfl, rfl, hS_s99, (zFr_t (zFr_t (zFr_t (zFr_t (zFr_t (zFr_t (zFr_t (zFr_t (zFr_u zFr_rf e_s1 ha (by decide)) hF_s4 (by decide)) hF_s5 (by decide)) hF_s7 (by decide)) hF_s28 (by decide)) hF_s36 (by decide)) hF_s97 (by decide)) hF_s98 (by decide)) hF_s99 (by decide)), ⟨(by omega), by omega, by omega, by omega, by omega, q1711.2.2.2.2.2.1, (zQn_nn q1711.2.2.2.2.1 (by omega)), by omega, by omega, by omega⟩⟩
                      · skip
                        refine j_aload_n hx 1 dX12_table_114 rfl ?_
                        have f1715 := zf hS_s36 ha (k := 23) rfl
                        refine g13_23 hx hG ha kf_RX12_186 rfl dX12_table_115 ?_
                        refine j_bipush hx dX12_table_118 rfl ?_
                        refine j_icmp_ne hx 132 dX12_table_120 rfl (by omega) ⟨by decide, by decide⟩ (fun h1716 => ?_) (fun h1716 => ?_)
                        · skip
                          refine j_aload_n hx 1 dX12_table_132 rfl ?_
                          refine j_callV hx hG (c_X12_fine hst a) lk_RX12_166 ha (by decide) rfl rfl rfl rfl [] ⟨rfl, hG, hS_s36, ha⟩ rfl rfl ⟨by decide, by decide⟩ ⟨by decide, by decide⟩ (k2 := 0) (n2 := 0) rfl rfl (Nat.le_of_ble_eq_true rfl) dX12_table_133 (kIP (fun v1717 q1718 => ?_))
                          refine j_if_ne hx 142 dX12_table_136 rfl (by omega) (fun h1719 => ?_) (fun h1719 => ?_)
                          · skip
                            refine j_aload_n hx 1 dX12_table_142 rfl ?_
                            have f1720 := zf hS_s36 ha (k := 4) rfl
                            have f1721 := zf hS_s36 ha (k := 3) rfl
                            have g1722 : s36 (gP G a 9) (s36 a 4).toNat = s0 (gP G a 9) (s36 a 4).toNat := (by rw [(zFr_g hF_s36 (zr (k := 9) (t2 := 72) hG ha rfl) (by decide)), (zFr_g hF_s28 (zr (k := 9) (t2 := 72) hG ha rfl) (by decide)), (zFr_g hF_s7 (zr (k := 9) (t2 := 72) hG ha rfl) (by decide)), (zFr_g hF_s5 (zr (k := 9) (t2 := 72) hG ha rfl) (by decide)), (zFr_g hF_s4 (zr (k := 9) (t2 := 72) hG ha rfl) (by decide)), e_s1, zU_at (Or.inl (zne ha (zr (k := 9) (t2 := 72) hG ha rfl) (by decide)))])
                            have f1723 := zf hS_s36 ha (k := 0) rfl
                            have f1724 := zf hS_s36 ha (k := 5) rfl
                            have f1725 := zf hS_s36 ha (k := 7) rfl
                            have f1726 := zf hS_s36 ha (k := 22) rfl
                            have f1727 := zf hS_s36 ha (k := 24) rfl
                            have f1728 := zf hS_s36 ha (k := 38) rfl
                            have f1729 := zf hS_s36 ha (k := 51) rfl
                            have f1730 := zf hS_s36 ha (k := 52) rfl
                            refine j_callV hx hG (c_X12_pass hst a) lk_RX12_256 ha (by decide) rfl rfl rfl rfl [] ⟨rfl, hG, hS_s36, ha⟩ rfl rfl ⟨by decide, by decide⟩ ⟨by decide, by decide⟩ (k2 := 0) (n2 := 0) rfl rfl (Nat.le_of_ble_eq_true rfl) dX12_table_143 (kVM (fun s100 hS_s100 hF_s100 q1732 => ?_))
                            refine j_aload_n hx 1 dX12_table_146 rfl ?_
                            refine j_iload_n hx 0 dX12_table_147 rfl ?_
                            have g1733 : s100 (gP G a 13) 0 = s7 (gP G a 13) 0 := (by rw [(zFr_g hF_s100 (zr (k := 13) (t2 := 76) hG ha rfl) (by decide)), (zFr_g hF_s36 (zr (k := 13) (t2 := 76) hG ha rfl) (by decide)), (zFr_g hF_s28 (zr (k := 13) (t2 := 76) hG ha rfl) (by decide))])
                            have g1734 : s100 (gP G a 13) 1 = s7 (gP G a 13) 1 := (by rw [(zFr_g hF_s100 (zr (k := 13) (t2 := 76) hG ha rfl) (by decide)), (zFr_g hF_s36 (zr (k := 13) (t2 := 76) hG ha rfl) (by decide)), (zFr_g hF_s28 (zr (k := 13) (t2 := 76) hG ha rfl) (by decide))])
                            have g1735 : s100 (gP G a 13) 2 = s7 (gP G a 13) 2 := (by rw [(zFr_g hF_s100 (zr (k := 13) (t2 := 76) hG ha rfl) (by decide)), (zFr_g hF_s36 (zr (k := 13) (t2 := 76) hG ha rfl) (by decide)), (zFr_g hF_s28 (zr (k := 13) (t2 := 76) hG ha rfl) (by decide))])
                            have f1736 := zf hS_s100 ha (k := 22) rfl
                            have f1737 := zf hS_s100 ha (k := 21) rfl
                            have f1738 := zf hS_s100 ha (k := 23) rfl
                            have f1739 := zf hS_s100 ha (k := 4) rfl
                            have f1740 := zf hS_s100 ha (k := 5) rfl
                            have f1741 := zf hS_s100 ha (k := 3) rfl
                            have f1742 := zf hS_s100 ha (k := 0) rfl
                            have f1743 := zf hS_s100 ha (k := 7) rfl
                            have f1744 := zf hS_s100 ha (k := 24) rfl
                            have f1745 := zf hS_s100 ha (k := 38) rfl
                            have f1746 := zf hS_s100 ha (k := 51) rfl
                            have f1747 := zf hS_s100 ha (k := 52) rfl
                            refine j_callV hx hG (c_X12_readClause hst a v422) lk_RX12_259 ha (by decide) rfl rfl rfl rfl [.int (zI v422)] ⟨rfl, hG, hS_s100, ha, (by omega), ((by rw [(zFr_g hF_s100 (zr (k := 10) (t2 := 73) hG ha rfl) (by decide)), (zFr_g hF_s36 (zr (k := 10) (t2 := 73) hG ha rfl) (by decide)), (zFr_g hF_s28 (zr (k := 10) (t2 := 73) hG ha rfl) (by decide))]; exact (zQi_k fA18 (by omega) (by omega)))), (by omega), (by omega), (by omega)⟩ rfl rfl ⟨by decide, by decide⟩ ⟨by decide, by decide⟩ (k2 := 0) (n2 := 0) rfl rfl (Nat.le_of_ble_eq_true rfl) dX12_table_148 (kVM (fun s101 hS_s101 hF_s101 q1749 => ?_))
                            refine j_aload_n hx 1 dX12_table_151 rfl ?_
                            refine j_bipush hx dX12_table_152 rfl ?_
                            have f1750 := zf hS_s101 ha (k := 4) rfl
                            have f1751 := zf hS_s101 ha (k := 5) rfl
                            have f1752 := zf hS_s101 ha (k := 3) rfl
                            have f1753 := zf hS_s101 ha (k := 0) rfl
                            have f1754 := zf hS_s101 ha (k := 7) rfl
                            have f1755 := zf hS_s101 ha (k := 21) rfl
                            have f1756 := zf hS_s101 ha (k := 22) rfl
                            have f1757 := zf hS_s101 ha (k := 23) rfl
                            have f1758 := zf hS_s101 ha (k := 24) rfl
                            have f1759 := zf hS_s101 ha (k := 38) rfl
                            have f1760 := zf hS_s101 ha (k := 51) rfl
                            have f1761 := zf hS_s101 ha (k := 52) rfl
                            refine j_callV hx hG (c_X12_sign hst a 59) lk_RX12_262 ha (by decide) rfl rfl rfl rfl [.int (zI 59)] ⟨rfl, hG, hS_s101, ha, (by omega)⟩ rfl rfl ⟨by decide, by decide⟩ ⟨by decide, by decide⟩ (k2 := 0) (n2 := 0) rfl rfl (Nat.le_of_ble_eq_true rfl) dX12_table_154 (kVM (fun s102 hS_s102 hF_s102 q1763 => ?_))
                            refine j_iincN hx 2 (fun v1764 => [(2, .int (zI v1764)), (3, .int (zI v422)), (0, .ref a)]) dX12_table_157 rfl (by decide) (fun _ => rfl) (fun v1764 f1765 f1766 f1767 => ?_)
                            refine j_goto hx 44 dX12_table_160 rfl ?_
                            have f1768 := zf hS_s102 ha (k := 4) rfl
                            have f1769 := zf hS_s102 ha (k := 5) rfl
                            have f1770 := zf hS_s102 ha (k := 0) rfl
                            have f1771 := zf hS_s102 ha (k := 3) rfl
                            have f1772 := zf hS_s102 ha (k := 7) rfl
                            have f1773 := zf hS_s102 ha (k := 24) rfl
                            have f1774 := zf hS_s102 ha (k := 38) rfl
                            have f1775 := zf hS_s102 ha (k := 51) rfl
                            have f1776 := zf hS_s102 ha (k := 52) rfl
                            have g1777 : s102 (gP G a 13) 0 = s101 (gP G a 13) 0 := (by rw [(zFr_g hF_s102 (zr (k := 13) (t2 := 76) hG ha rfl) (by decide))])
                            have g1778 : s102 (gP G a 13) 1 = s101 (gP G a 13) 1 := (by rw [(zFr_g hF_s102 (zr (k := 13) (t2 := 76) hG ha rfl) (by decide))])
                            have g1779 : s102 (gP G a 13) 2 = s101 (gP G a 13) 2 := (by rw [(zFr_g hF_s102 (zr (k := 13) (t2 := 76) hG ha rfl) (by decide))])
                            have f1780 := zf hS_s102 ha (k := 22) rfl
                            exact j_sub [2, 0] [(0, .ref a), (2, .int (zI v1764))] rfl (ih_c44_6 v1764 s102 (by omega) (by omega) hS_s102 (zFr_t (zFr_t (zFr_t (zFr_t (zFr_t (zFr_t zFr_rf hF_s7 (by decide)) hF_s28 (by decide)) hF_s36 (by decide)) hF_s100 (by decide)) hF_s101 (by decide)) hF_s102 (by decide)) (by omega) (by omega) (by omega) (by omega) (by omega) (by omega) (by omega) (by rw [(zFr_g hF_s102 (zr (k := 10) (t2 := 73) hG ha rfl) (by decide))]; exact (zQi_k q1749.2.2.1 (by omega) (by omega))) (by omega) (by omega))
                          · skip
                            refine j_goto hx 163 dX12_table_139 rfl ?_
                            refine j_aload_n hx 1 dX12_table_163 rfl ?_
                            refine j_callV hx hG (c_X12_fine hst a) lk_RX12_166 ha (by decide) rfl rfl rfl rfl [] ⟨rfl, hG, hS_s36, ha⟩ rfl rfl ⟨by decide, by decide⟩ ⟨by decide, by decide⟩ (k2 := 0) (n2 := 0) rfl rfl (Nat.le_of_ble_eq_true rfl) dX12_table_164 (kIP (fun v1781 q1782 => ?_))
                            refine j_if_eq hx 187 dX12_table_167 rfl (by omega) (fun h1783 => ?_) (fun h1783 => ?_)
                            · skip
                              refine j_aload_n hx 1 dX12_table_187 rfl ?_
                              refine j_aload_n hx 1 dX12_table_188 rfl ?_
                              refine g13_21 hx hG ha kf_RX12_180 rfl dX12_table_189 ?_
                              have f1784 := zf hS_s36 ha (k := 0) rfl
                              have f1785 := zf hS_s36 ha (k := 3) rfl
                              have f1786 := zf hS_s36 ha (k := 4) rfl
                              have f1787 := zf hS_s36 ha (k := 5) rfl
                              have f1788 := zf hS_s36 ha (k := 7) rfl
                              have f1789 := zf hS_s36 ha (k := 22) rfl
                              have f1790 := zf hS_s36 ha (k := 24) rfl
                              have f1791 := zf hS_s36 ha (k := 38) rfl
                              have f1792 := zf hS_s36 ha (k := 51) rfl
                              have f1793 := zf hS_s36 ha (k := 52) rfl
                              refine j_callV hx hG (c_X12_result hst a ((s36 a 21))) lk_RX12_265 ha (by decide) rfl rfl rfl rfl [.int (zI ((s36 a 21)))] ⟨rfl, hG, hS_s36, ha, (by omega)⟩ rfl rfl ⟨by decide, by decide⟩ ⟨by decide, by decide⟩ (k2 := 0) (n2 := 0) rfl rfl (Nat.le_of_ble_eq_true rfl) dX12_table_192 (kIM (fun v1794 s103 hS_s103 hF_s103 q1795 => ?_))
                              refine j_istore_n hx [(3, .int (zI v1794)), (0, .ref a), (2, .int (zI v99))] dX12_table_195 (by decide) rfl ?_
                              refine j_aload_n hx 1 dX12_table_196 rfl ?_
                              have f1796 := zf hS_s103 ha (k := 5) rfl
                              refine g13_5 hx hG ha kf_RX12_137 rfl dX12_table_197 ?_
                              refine j_iconst hx dX12_table_200 ?_
                              refine j_icmp_ne hx 208 dX12_table_201 rfl (by omega) ⟨by decide, by decide⟩ (fun h1797 => ?_) (fun h1797 => ?_)
                              · skip
                                refine j_iload_n hx 0 dX12_table_208 rfl ?_
                                have g1798 : zc (s103 (gP G a 27)) = zc (s0 (gP G a 27)) := by rw [(zFr_g hF_s103 (zr (k := 27) (t2 := 84) hG ha rfl) (by decide)), (zFr_g hF_s36 (zr (k := 27) (t2 := 84) hG ha rfl) (by decide)), (zFr_g hF_s28 (zr (k := 27) (t2 := 84) hG ha rfl) (by decide)), (zFr_g hF_s7 (zr (k := 27) (t2 := 84) hG ha rfl) (by decide)), (zFr_g hF_s5 (zr (k := 27) (t2 := 84) hG ha rfl) (by decide)), (zFr_g hF_s4 (zr (k := 27) (t2 := 84) hG ha rfl) (by decide)), e_s1, zU_ne (zne (zr (k := 27) (t2 := 84) hG ha rfl) ha (by decide))]
                                have g1799 : zc (s103 (gP G a 28)) = zc (s0 (gP G a 28)) := by rw [(zFr_g hF_s103 (zr (k := 28) (t2 := 85) hG ha rfl) (by decide)), (zFr_g hF_s36 (zr (k := 28) (t2 := 85) hG ha rfl) (by decide)), (zFr_g hF_s28 (zr (k := 28) (t2 := 85) hG ha rfl) (by decide)), (zFr_g hF_s7 (zr (k := 28) (t2 := 85) hG ha rfl) (by decide)), (zFr_g hF_s5 (zr (k := 28) (t2 := 85) hG ha rfl) (by decide)), (zFr_g hF_s4 (zr (k := 28) (t2 := 85) hG ha rfl) (by decide)), e_s1, zU_ne (zne (zr (k := 28) (t2 := 85) hG ha rfl) ha (by decide))]
                                have g1800 : s103 (gP G a 27) 488 = s0 (gP G a 27) 488 := (by rw [(zFr_g hF_s103 (zr (k := 27) (t2 := 84) hG ha rfl) (by decide)), (zFr_g hF_s36 (zr (k := 27) (t2 := 84) hG ha rfl) (by decide)), (zFr_g hF_s28 (zr (k := 27) (t2 := 84) hG ha rfl) (by decide)), (zFr_g hF_s7 (zr (k := 27) (t2 := 84) hG ha rfl) (by decide)), (zFr_g hF_s5 (zr (k := 27) (t2 := 84) hG ha rfl) (by decide)), (zFr_g hF_s4 (zr (k := 27) (t2 := 84) hG ha rfl) (by decide)), e_s1, zU_at (Or.inl (zne ha (zr (k := 27) (t2 := 84) hG ha rfl) (by decide)))])
                                have g1801 : s103 (gP G a 28) 488 = s0 (gP G a 28) 488 := (by rw [(zFr_g hF_s103 (zr (k := 28) (t2 := 85) hG ha rfl) (by decide)), (zFr_g hF_s36 (zr (k := 28) (t2 := 85) hG ha rfl) (by decide)), (zFr_g hF_s28 (zr (k := 28) (t2 := 85) hG ha rfl) (by decide)), (zFr_g hF_s7 (zr (k := 28) (t2 := 85) hG ha rfl) (by decide)), (zFr_g hF_s5 (zr (k := 28) (t2 := 85) hG ha rfl) (by decide)), (zFr_g hF_s4 (zr (k := 28) (t2 := 85) hG ha rfl) (by decide)), e_s1, zU_at (Or.inl (zne ha (zr (k := 28) (t2 := 85) hG ha rfl) (by decide)))])
                                have f1802 := zf hS_s103 ha (k := 38) rfl
                                have f1803 := zf hS_s103 ha (k := 51) rfl
                                have f1804 := zf hS_s103 ha (k := 52) rfl
                                exact j_iret hx hq rfl (by decide) (by decide) dX12_table_209 ⟨v1794, rfl, rfl, hS_s103, (zFr_t (zFr_t (zFr_t (zFr_t (zFr_t (zFr_t (zFr_u zFr_rf e_s1 ha (by decide)) hF_s4 (by decide)) hF_s5 (by decide)) hF_s7 (by decide)) hF_s28 (by decide)) hF_s36 (by decide)) hF_s103 (by decide)), ⟨(by omega), by omega, by omega, by omega, by omega, (by rw [(zFr_g hF_s103 (zr (k := 34) (t2 := 91) hG ha rfl) (by decide)), (zFr_g hF_s36 (zr (k := 34) (t2 := 91) hG ha rfl) (by decide)), (zFr_g hF_s28 (zr (k := 34) (t2 := 91) hG ha rfl) (by decide)), (zFr_g hF_s7 (zr (k := 34) (t2 := 91) hG ha rfl) (by decide)), (zFr_g hF_s5 (zr (k := 34) (t2 := 91) hG ha rfl) (by decide)), (zFr_g hF_s4 (zr (k := 34) (t2 := 91) hG ha rfl) (by decide)), e_s1, zU_ne (zne (zr (k := 34) (t2 := 91) hG ha rfl) ha (by decide)), (zFr_g hF_s103 (zr (k := 35) (t2 := 92) hG ha rfl) (by decide)), (zFr_g hF_s36 (zr (k := 35) (t2 := 92) hG ha rfl) (by decide)), (zFr_g hF_s28 (zr (k := 35) (t2 := 92) hG ha rfl) (by decide)), (zFr_g hF_s7 (zr (k := 35) (t2 := 92) hG ha rfl) (by decide)), (zFr_g hF_s5 (zr (k := 35) (t2 := 92) hG ha rfl) (by decide)), (zFr_g hF_s4 (zr (k := 35) (t2 := 92) hG ha rfl) (by decide)), e_s1, zU_ne (zne (zr (k := 35) (t2 := 92) hG ha rfl) ha (by decide)), (zFr_g hF_s103 (zr (k := 37) (t2 := 94) hG ha rfl) (by decide)), (zFr_g hF_s36 (zr (k := 37) (t2 := 94) hG ha rfl) (by decide)), (zFr_g hF_s28 (zr (k := 37) (t2 := 94) hG ha rfl) (by decide)), (zFr_g hF_s7 (zr (k := 37) (t2 := 94) hG ha rfl) (by decide)), (zFr_g hF_s5 (zr (k := 37) (t2 := 94) hG ha rfl) (by decide)), (zFr_g hF_s4 (zr (k := 37) (t2 := 94) hG ha rfl) (by decide)), e_s1, zU_ne (zne (zr (k := 37) (t2 := 94) hG ha rfl) ha (by decide))]; exact e2), (by rw [(zFr_g hF_s103 (zr (k := 17) (t2 := 80) hG ha rfl) (by decide)), (zFr_g hF_s36 (zr (k := 17) (t2 := 80) hG ha rfl) (by decide)), (zFr_g hF_s28 (zr (k := 17) (t2 := 80) hG ha rfl) (by decide)), (zFr_g hF_s7 (zr (k := 17) (t2 := 80) hG ha rfl) (by decide)), (zFr_g hF_s5 (zr (k := 17) (t2 := 80) hG ha rfl) (by decide)), (zFr_g hF_s4 (zr (k := 17) (t2 := 80) hG ha rfl) (by decide)), e_s1, zU_ne (zne (zr (k := 17) (t2 := 80) hG ha rfl) ha (by decide))]; exact (zQn_nn e3 (by omega))), by omega, by omega, by omega⟩⟩
                              · skip
                                refine j_aload_n hx 1 dX12_table_204 rfl ?_
                                have f1805 := zf hS_s103 ha (k := 21) rfl
                                have hP1806 : zQn (s103 (gP G a 10)) (s103 a 21) := ((by rw [(zFr_g hF_s103 (zr (k := 10) (t2 := 73) hG ha rfl) (by decide)), (zFr_g hF_s36 (zr (k := 10) (t2 := 73) hG ha rfl) (by decide)), (zFr_g hF_s28 (zr (k := 10) (t2 := 73) hG ha rfl) (by decide))]; exact (zQi_k fA18 (by omega) (by omega))) (by omega))
                                have g1807 : s103 (gP G a 13) 0 = s7 (gP G a 13) 0 := (by rw [(zFr_g hF_s103 (zr (k := 13) (t2 := 76) hG ha rfl) (by decide)), (zFr_g hF_s36 (zr (k := 13) (t2 := 76) hG ha rfl) (by decide)), (zFr_g hF_s28 (zr (k := 13) (t2 := 76) hG ha rfl) (by decide))])
                                have g1808 : s103 (gP G a 13) 1 = s7 (gP G a 13) 1 := (by rw [(zFr_g hF_s103 (zr (k := 13) (t2 := 76) hG ha rfl) (by decide)), (zFr_g hF_s36 (zr (k := 13) (t2 := 76) hG ha rfl) (by decide)), (zFr_g hF_s28 (zr (k := 13) (t2 := 76) hG ha rfl) (by decide))])
                                have g1809 : s103 (gP G a 13) 2 = s7 (gP G a 13) 2 := (by rw [(zFr_g hF_s103 (zr (k := 13) (t2 := 76) hG ha rfl) (by decide)), (zFr_g hF_s36 (zr (k := 13) (t2 := 76) hG ha rfl) (by decide)), (zFr_g hF_s28 (zr (k := 13) (t2 := 76) hG ha rfl) (by decide))])
                                have f1810 := zf hS_s103 ha (k := 0) rfl
                                have f1811 := zf hS_s103 ha (k := 3) rfl
                                have f1812 := zf hS_s103 ha (k := 4) rfl
                                have f1813 := zf hS_s103 ha (k := 7) rfl
                                have f1814 := zf hS_s103 ha (k := 22) rfl
                                have f1815 := zf hS_s103 ha (k := 23) rfl
                                have f1816 := zf hS_s103 ha (k := 38) rfl
                                have f1817 := zf hS_s103 ha (k := 51) rfl
                                have f1818 := zf hS_s103 ha (k := 52) rfl
                                refine j_callV hx hG (c_X12_sets hst a) lk_RX12_131 ha (by decide) rfl rfl rfl rfl [] ⟨rfl, hG, hS_s103, ha, (by omega), ((zQn_nn hP1806 (by omega)))⟩ rfl rfl ⟨by decide, by decide⟩ ⟨by decide, by decide⟩ (k2 := 0) (n2 := 0) rfl rfl (Nat.le_of_ble_eq_true rfl) dX12_table_205 (kVM (fun s104 hS_s104 hF_s104 q1820 => ?_))
                                refine j_iload_n hx 0 dX12_table_208 rfl ?_
                                have f1821 := zf hS_s104 ha (k := 38) rfl
                                have f1822 := zf hS_s104 ha (k := 51) rfl
                                have f1823 := zf hS_s104 ha (k := 52) rfl
                                exact j_iret hx hq rfl (by decide) (by decide) dX12_table_209 ⟨v1794, rfl, rfl, hS_s104, (zFr_t (zFr_t (zFr_t (zFr_t (zFr_t (zFr_t (zFr_t (zFr_u zFr_rf e_s1 ha (by decide)) hF_s4 (by decide)) hF_s5 (by decide)) hF_s7 (by decide)) hF_s28 (by decide)) hF_s36 (by decide)) hF_s103 (by decide)) hF_s104 (by decide)), ⟨(by omega), by omega, by omega, by omega, by omega, q1820.2.2.2.2.2.1, (zQn_nn q1820.2.2.2.2.1 (by omega)), by omega, by omega, by omega⟩⟩
                            · skip
                              refine j_aload_n hx 1 dX12_table_170 rfl ?_
                              refine g13_21 hx hG ha kf_RX12_180 rfl dX12_table_171 ?_
                              refine j_iconst hx dX12_table_174 ?_
                              refine j_icmp_ge hx 187 dX12_table_175 rfl (by omega) ⟨by decide, by decide⟩ (fun h1824 => ?_) (fun h1824 => ?_)
                              · skip
                                refine j_aload_n hx 1 dX12_table_187 rfl ?_
                                refine j_aload_n hx 1 dX12_table_188 rfl ?_
                                refine g13_21 hx hG ha kf_RX12_180 rfl dX12_table_189 ?_
                                have f1825 := zf hS_s36 ha (k := 0) rfl
                                have f1826 := zf hS_s36 ha (k := 3) rfl
                                have f1827 := zf hS_s36 ha (k := 4) rfl
                                have f1828 := zf hS_s36 ha (k := 5) rfl
                                have f1829 := zf hS_s36 ha (k := 7) rfl
                                have f1830 := zf hS_s36 ha (k := 22) rfl
                                have f1831 := zf hS_s36 ha (k := 24) rfl
                                have f1832 := zf hS_s36 ha (k := 38) rfl
                                have f1833 := zf hS_s36 ha (k := 51) rfl
                                have f1834 := zf hS_s36 ha (k := 52) rfl
                                refine j_callV hx hG (c_X12_result hst a ((s36 a 21))) lk_RX12_265 ha (by decide) rfl rfl rfl rfl [.int (zI ((s36 a 21)))] ⟨rfl, hG, hS_s36, ha, (by omega)⟩ rfl rfl ⟨by decide, by decide⟩ ⟨by decide, by decide⟩ (k2 := 0) (n2 := 0) rfl rfl (Nat.le_of_ble_eq_true rfl) dX12_table_192 (kIM (fun v1835 s105 hS_s105 hF_s105 q1836 => ?_))
                                refine j_istore_n hx [(3, .int (zI v1835)), (0, .ref a), (2, .int (zI v99))] dX12_table_195 (by decide) rfl ?_
                                refine j_aload_n hx 1 dX12_table_196 rfl ?_
                                have f1837 := zf hS_s105 ha (k := 5) rfl
                                refine g13_5 hx hG ha kf_RX12_137 rfl dX12_table_197 ?_
                                refine j_iconst hx dX12_table_200 ?_
                                refine j_icmp_ne hx 208 dX12_table_201 rfl (by omega) ⟨by decide, by decide⟩ (fun h1838 => ?_) (fun h1838 => ?_)
                                · skip
                                  refine j_iload_n hx 0 dX12_table_208 rfl ?_
                                  have g1839 : zc (s105 (gP G a 27)) = zc (s0 (gP G a 27)) := by rw [(zFr_g hF_s105 (zr (k := 27) (t2 := 84) hG ha rfl) (by decide)), (zFr_g hF_s36 (zr (k := 27) (t2 := 84) hG ha rfl) (by decide)), (zFr_g hF_s28 (zr (k := 27) (t2 := 84) hG ha rfl) (by decide)), (zFr_g hF_s7 (zr (k := 27) (t2 := 84) hG ha rfl) (by decide)), (zFr_g hF_s5 (zr (k := 27) (t2 := 84) hG ha rfl) (by decide)), (zFr_g hF_s4 (zr (k := 27) (t2 := 84) hG ha rfl) (by decide)), e_s1, zU_ne (zne (zr (k := 27) (t2 := 84) hG ha rfl) ha (by decide))]
                                  have g1840 : zc (s105 (gP G a 28)) = zc (s0 (gP G a 28)) := by rw [(zFr_g hF_s105 (zr (k := 28) (t2 := 85) hG ha rfl) (by decide)), (zFr_g hF_s36 (zr (k := 28) (t2 := 85) hG ha rfl) (by decide)), (zFr_g hF_s28 (zr (k := 28) (t2 := 85) hG ha rfl) (by decide)), (zFr_g hF_s7 (zr (k := 28) (t2 := 85) hG ha rfl) (by decide)), (zFr_g hF_s5 (zr (k := 28) (t2 := 85) hG ha rfl) (by decide)), (zFr_g hF_s4 (zr (k := 28) (t2 := 85) hG ha rfl) (by decide)), e_s1, zU_ne (zne (zr (k := 28) (t2 := 85) hG ha rfl) ha (by decide))]
                                  have g1841 : s105 (gP G a 27) 488 = s0 (gP G a 27) 488 := (by rw [(zFr_g hF_s105 (zr (k := 27) (t2 := 84) hG ha rfl) (by decide)), (zFr_g hF_s36 (zr (k := 27) (t2 := 84) hG ha rfl) (by decide)), (zFr_g hF_s28 (zr (k := 27) (t2 := 84) hG ha rfl) (by decide)), (zFr_g hF_s7 (zr (k := 27) (t2 := 84) hG ha rfl) (by decide)), (zFr_g hF_s5 (zr (k := 27) (t2 := 84) hG ha rfl) (by decide)), (zFr_g hF_s4 (zr (k := 27) (t2 := 84) hG ha rfl) (by decide)), e_s1, zU_at (Or.inl (zne ha (zr (k := 27) (t2 := 84) hG ha rfl) (by decide)))])
                                  have g1842 : s105 (gP G a 28) 488 = s0 (gP G a 28) 488 := (by rw [(zFr_g hF_s105 (zr (k := 28) (t2 := 85) hG ha rfl) (by decide)), (zFr_g hF_s36 (zr (k := 28) (t2 := 85) hG ha rfl) (by decide)), (zFr_g hF_s28 (zr (k := 28) (t2 := 85) hG ha rfl) (by decide)), (zFr_g hF_s7 (zr (k := 28) (t2 := 85) hG ha rfl) (by decide)), (zFr_g hF_s5 (zr (k := 28) (t2 := 85) hG ha rfl) (by decide)), (zFr_g hF_s4 (zr (k := 28) (t2 := 85) hG ha rfl) (by decide)), e_s1, zU_at (Or.inl (zne ha (zr (k := 28) (t2 := 85) hG ha rfl) (by decide)))])
                                  have f1843 := zf hS_s105 ha (k := 38) rfl
                                  have f1844 := zf hS_s105 ha (k := 51) rfl
                                  have f1845 := zf hS_s105 ha (k := 52) rfl
                                  exact j_iret hx hq rfl (by decide) (by decide) dX12_table_209 ⟨v1835, rfl, rfl, hS_s105, (zFr_t (zFr_t (zFr_t (zFr_t (zFr_t (zFr_t (zFr_u zFr_rf e_s1 ha (by decide)) hF_s4 (by decide)) hF_s5 (by decide)) hF_s7 (by decide)) hF_s28 (by decide)) hF_s36 (by decide)) hF_s105 (by decide)), ⟨(by omega), by omega, by omega, by omega, by omega, (by rw [(zFr_g hF_s105 (zr (k := 34) (t2 := 91) hG ha rfl) (by decide)), (zFr_g hF_s36 (zr (k := 34) (t2 := 91) hG ha rfl) (by decide)), (zFr_g hF_s28 (zr (k := 34) (t2 := 91) hG ha rfl) (by decide)), (zFr_g hF_s7 (zr (k := 34) (t2 := 91) hG ha rfl) (by decide)), (zFr_g hF_s5 (zr (k := 34) (t2 := 91) hG ha rfl) (by decide)), (zFr_g hF_s4 (zr (k := 34) (t2 := 91) hG ha rfl) (by decide)), e_s1, zU_ne (zne (zr (k := 34) (t2 := 91) hG ha rfl) ha (by decide)), (zFr_g hF_s105 (zr (k := 35) (t2 := 92) hG ha rfl) (by decide)), (zFr_g hF_s36 (zr (k := 35) (t2 := 92) hG ha rfl) (by decide)), (zFr_g hF_s28 (zr (k := 35) (t2 := 92) hG ha rfl) (by decide)), (zFr_g hF_s7 (zr (k := 35) (t2 := 92) hG ha rfl) (by decide)), (zFr_g hF_s5 (zr (k := 35) (t2 := 92) hG ha rfl) (by decide)), (zFr_g hF_s4 (zr (k := 35) (t2 := 92) hG ha rfl) (by decide)), e_s1, zU_ne (zne (zr (k := 35) (t2 := 92) hG ha rfl) ha (by decide)), (zFr_g hF_s105 (zr (k := 37) (t2 := 94) hG ha rfl) (by decide)), (zFr_g hF_s36 (zr (k := 37) (t2 := 94) hG ha rfl) (by decide)), (zFr_g hF_s28 (zr (k := 37) (t2 := 94) hG ha rfl) (by decide)), (zFr_g hF_s7 (zr (k := 37) (t2 := 94) hG ha rfl) (by decide)), (zFr_g hF_s5 (zr (k := 37) (t2 := 94) hG ha rfl) (by decide)), (zFr_g hF_s4 (zr (k := 37) (t2 := 94) hG ha rfl) (by decide)), e_s1, zU_ne (zne (zr (k := 37) (t2 := 94) hG ha rfl) ha (by decide))]; exact e2), (by rw [(zFr_g hF_s105 (zr (k := 17) (t2 := 80) hG ha rfl) (by decide)), (zFr_g hF_s36 (zr (k := 17) (t2 := 80) hG ha rfl) (by decide)), (zFr_g hF_s28 (zr (k := 17) (t2 := 80) hG ha rfl) (by decide)), (zFr_g hF_s7 (zr (k := 17) (t2 := 80) hG ha rfl) (by decide)), (zFr_g hF_s5 (zr (k := 17) (t2 := 80) hG ha rfl) (by decide)), (zFr_g hF_s4 (zr (k := 17) (t2 := 80) hG ha rfl) (by decide)), e_s1, zU_ne (zne (zr (k := 17) (t2 := 80) hG ha rfl) ha (by decide))]; exact (zQn_nn e3 (by omega))), by omega, by omega, by omega⟩⟩
                                · skip
                                  refine j_aload_n hx 1 dX12_table_204 rfl ?_
                                  have f1846 := zf hS_s105 ha (k := 21) rfl
                                  have hP1847 : zQn (s105 (gP G a 10)) (s105 a 21) := ((by rw [(zFr_g hF_s105 (zr (k := 10) (t2 := 73) hG ha rfl) (by decide)), (zFr_g hF_s36 (zr (k := 10) (t2 := 73) hG ha rfl) (by decide)), (zFr_g hF_s28 (zr (k := 10) (t2 := 73) hG ha rfl) (by decide))]; exact (zQi_k fA18 (by omega) (by omega))) (by omega))
                                  have g1848 : s105 (gP G a 13) 0 = s7 (gP G a 13) 0 := (by rw [(zFr_g hF_s105 (zr (k := 13) (t2 := 76) hG ha rfl) (by decide)), (zFr_g hF_s36 (zr (k := 13) (t2 := 76) hG ha rfl) (by decide)), (zFr_g hF_s28 (zr (k := 13) (t2 := 76) hG ha rfl) (by decide))])
                                  have g1849 : s105 (gP G a 13) 1 = s7 (gP G a 13) 1 := (by rw [(zFr_g hF_s105 (zr (k := 13) (t2 := 76) hG ha rfl) (by decide)), (zFr_g hF_s36 (zr (k := 13) (t2 := 76) hG ha rfl) (by decide)), (zFr_g hF_s28 (zr (k := 13) (t2 := 76) hG ha rfl) (by decide))])
                                  have g1850 : s105 (gP G a 13) 2 = s7 (gP G a 13) 2 := (by rw [(zFr_g hF_s105 (zr (k := 13) (t2 := 76) hG ha rfl) (by decide)), (zFr_g hF_s36 (zr (k := 13) (t2 := 76) hG ha rfl) (by decide)), (zFr_g hF_s28 (zr (k := 13) (t2 := 76) hG ha rfl) (by decide))])
                                  have f1851 := zf hS_s105 ha (k := 0) rfl
                                  have f1852 := zf hS_s105 ha (k := 3) rfl
                                  have f1853 := zf hS_s105 ha (k := 4) rfl
                                  have f1854 := zf hS_s105 ha (k := 7) rfl
                                  have f1855 := zf hS_s105 ha (k := 22) rfl
                                  have f1856 := zf hS_s105 ha (k := 23) rfl
                                  have f1857 := zf hS_s105 ha (k := 38) rfl
                                  have f1858 := zf hS_s105 ha (k := 51) rfl
                                  have f1859 := zf hS_s105 ha (k := 52) rfl
                                  refine j_callV hx hG (c_X12_sets hst a) lk_RX12_131 ha (by decide) rfl rfl rfl rfl [] ⟨rfl, hG, hS_s105, ha, (by omega), ((zQn_nn hP1847 (by omega)))⟩ rfl rfl ⟨by decide, by decide⟩ ⟨by decide, by decide⟩ (k2 := 0) (n2 := 0) rfl rfl (Nat.le_of_ble_eq_true rfl) dX12_table_205 (kVM (fun s106 hS_s106 hF_s106 q1861 => ?_))
                                  refine j_iload_n hx 0 dX12_table_208 rfl ?_
                                  have f1862 := zf hS_s106 ha (k := 38) rfl
                                  have f1863 := zf hS_s106 ha (k := 51) rfl
                                  have f1864 := zf hS_s106 ha (k := 52) rfl
                                  exact j_iret hx hq rfl (by decide) (by decide) dX12_table_209 ⟨v1835, rfl, rfl, hS_s106, (zFr_t (zFr_t (zFr_t (zFr_t (zFr_t (zFr_t (zFr_t (zFr_u zFr_rf e_s1 ha (by decide)) hF_s4 (by decide)) hF_s5 (by decide)) hF_s7 (by decide)) hF_s28 (by decide)) hF_s36 (by decide)) hF_s105 (by decide)) hF_s106 (by decide)), ⟨(by omega), by omega, by omega, by omega, by omega, q1861.2.2.2.2.2.1, (zQn_nn q1861.2.2.2.2.1 (by omega)), by omega, by omega, by omega⟩⟩
                              · skip
                                refine j_aload_n hx 1 dX12_table_178 rfl ?_
                                refine j_iconst hx dX12_table_179 ?_
                                refine j_aload_n hx 1 dX12_table_180 rfl ?_
                                have f1865 := zf hS_s36 ha (k := 3) rfl
                                refine g13_3 hx hG ha kf_RX12_146 rfl dX12_table_181 ?_
                                have f1866 := zf hS_s36 ha (k := 0) rfl
                                have f1867 := zf hS_s36 ha (k := 4) rfl
                                have f1868 := zf hS_s36 ha (k := 7) rfl
                                have f1869 := zf hS_s36 ha (k := 22) rfl
                                have f1870 := zf hS_s36 ha (k := 24) rfl
                                have f1871 := zf hS_s36 ha (k := 38) rfl
                                have f1872 := zf hS_s36 ha (k := 51) rfl
                                have f1873 := zf hS_s36 ha (k := 52) rfl
                                refine j_callV hx hG (c_X12_wrong hst a 4 ((s36 a 3))) lk_RX12_173 ha (by decide) rfl rfl rfl rfl [.int (zI 4), .int (zI ((s36 a 3)))] ⟨rfl, hG, hS_s36, ha, (by omega), (by omega)⟩ rfl rfl ⟨by decide, by decide⟩ ⟨by decide, by decide⟩ (k2 := 0) (n2 := 0) rfl rfl (Nat.le_of_ble_eq_true rfl) dX12_table_184 (kVM (fun s107 hS_s107 hF_s107 q1875 => ?_))
                                refine j_aload_n hx 1 dX12_table_187 rfl ?_
                                refine j_aload_n hx 1 dX12_table_188 rfl ?_
                                have f1876 := zf hS_s107 ha (k := 21) rfl
                                refine g13_21 hx hG ha kf_RX12_180 rfl dX12_table_189 ?_
                                have f1877 := zf hS_s107 ha (k := 0) rfl
                                have f1878 := zf hS_s107 ha (k := 3) rfl
                                have f1879 := zf hS_s107 ha (k := 4) rfl
                                have f1880 := zf hS_s107 ha (k := 5) rfl
                                have f1881 := zf hS_s107 ha (k := 7) rfl
                                have f1882 := zf hS_s107 ha (k := 22) rfl
                                have f1883 := zf hS_s107 ha (k := 23) rfl
                                have f1884 := zf hS_s107 ha (k := 24) rfl
                                have f1885 := zf hS_s107 ha (k := 38) rfl
                                have f1886 := zf hS_s107 ha (k := 51) rfl
                                have f1887 := zf hS_s107 ha (k := 52) rfl
                                refine j_callV hx hG (c_X12_result hst a ((s107 a 21))) lk_RX12_265 ha (by decide) rfl rfl rfl rfl [.int (zI ((s107 a 21)))] ⟨rfl, hG, hS_s107, ha, (by omega)⟩ rfl rfl ⟨by decide, by decide⟩ ⟨by decide, by decide⟩ (k2 := 0) (n2 := 0) rfl rfl (Nat.le_of_ble_eq_true rfl) dX12_table_192 (kIM (fun v1888 s108 hS_s108 hF_s108 q1889 => ?_))
                                refine j_istore_n hx [(3, .int (zI v1888)), (0, .ref a), (2, .int (zI v99))] dX12_table_195 (by decide) rfl ?_
                                refine j_aload_n hx 1 dX12_table_196 rfl ?_
                                have f1890 := zf hS_s108 ha (k := 5) rfl
                                refine g13_5 hx hG ha kf_RX12_137 rfl dX12_table_197 ?_
                                refine j_iconst hx dX12_table_200 ?_
                                refine j_icmp_ne hx 208 dX12_table_201 rfl (by omega) ⟨by decide, by decide⟩ (fun h1891 => ?_) (fun h1891 => ?_)
                                · skip
                                  refine j_iload_n hx 0 dX12_table_208 rfl ?_
                                  have g1892 : zc (s108 (gP G a 27)) = zc (s0 (gP G a 27)) := by rw [(zFr_g hF_s108 (zr (k := 27) (t2 := 84) hG ha rfl) (by decide)), (zFr_g hF_s107 (zr (k := 27) (t2 := 84) hG ha rfl) (by decide)), (zFr_g hF_s36 (zr (k := 27) (t2 := 84) hG ha rfl) (by decide)), (zFr_g hF_s28 (zr (k := 27) (t2 := 84) hG ha rfl) (by decide)), (zFr_g hF_s7 (zr (k := 27) (t2 := 84) hG ha rfl) (by decide)), (zFr_g hF_s5 (zr (k := 27) (t2 := 84) hG ha rfl) (by decide)), (zFr_g hF_s4 (zr (k := 27) (t2 := 84) hG ha rfl) (by decide)), e_s1, zU_ne (zne (zr (k := 27) (t2 := 84) hG ha rfl) ha (by decide))]
                                  have g1893 : zc (s108 (gP G a 28)) = zc (s0 (gP G a 28)) := by rw [(zFr_g hF_s108 (zr (k := 28) (t2 := 85) hG ha rfl) (by decide)), (zFr_g hF_s107 (zr (k := 28) (t2 := 85) hG ha rfl) (by decide)), (zFr_g hF_s36 (zr (k := 28) (t2 := 85) hG ha rfl) (by decide)), (zFr_g hF_s28 (zr (k := 28) (t2 := 85) hG ha rfl) (by decide)), (zFr_g hF_s7 (zr (k := 28) (t2 := 85) hG ha rfl) (by decide)), (zFr_g hF_s5 (zr (k := 28) (t2 := 85) hG ha rfl) (by decide)), (zFr_g hF_s4 (zr (k := 28) (t2 := 85) hG ha rfl) (by decide)), e_s1, zU_ne (zne (zr (k := 28) (t2 := 85) hG ha rfl) ha (by decide))]
                                  have g1894 : s108 (gP G a 27) 488 = s0 (gP G a 27) 488 := (by rw [(zFr_g hF_s108 (zr (k := 27) (t2 := 84) hG ha rfl) (by decide)), (zFr_g hF_s107 (zr (k := 27) (t2 := 84) hG ha rfl) (by decide)), (zFr_g hF_s36 (zr (k := 27) (t2 := 84) hG ha rfl) (by decide)), (zFr_g hF_s28 (zr (k := 27) (t2 := 84) hG ha rfl) (by decide)), (zFr_g hF_s7 (zr (k := 27) (t2 := 84) hG ha rfl) (by decide)), (zFr_g hF_s5 (zr (k := 27) (t2 := 84) hG ha rfl) (by decide)), (zFr_g hF_s4 (zr (k := 27) (t2 := 84) hG ha rfl) (by decide)), e_s1, zU_at (Or.inl (zne ha (zr (k := 27) (t2 := 84) hG ha rfl) (by decide)))])
                                  have g1895 : s108 (gP G a 28) 488 = s0 (gP G a 28) 488 := (by rw [(zFr_g hF_s108 (zr (k := 28) (t2 := 85) hG ha rfl) (by decide)), (zFr_g hF_s107 (zr (k := 28) (t2 := 85) hG ha rfl) (by decide)), (zFr_g hF_s36 (zr (k := 28) (t2 := 85) hG ha rfl) (by decide)), (zFr_g hF_s28 (zr (k := 28) (t2 := 85) hG ha rfl) (by decide)), (zFr_g hF_s7 (zr (k := 28) (t2 := 85) hG ha rfl) (by decide)), (zFr_g hF_s5 (zr (k := 28) (t2 := 85) hG ha rfl) (by decide)), (zFr_g hF_s4 (zr (k := 28) (t2 := 85) hG ha rfl) (by decide)), e_s1, zU_at (Or.inl (zne ha (zr (k := 28) (t2 := 85) hG ha rfl) (by decide)))])
                                  have f1896 := zf hS_s108 ha (k := 38) rfl
                                  have f1897 := zf hS_s108 ha (k := 51) rfl
                                  have f1898 := zf hS_s108 ha (k := 52) rfl
                                  exact j_iret hx hq rfl (by decide) (by decide) dX12_table_209 ⟨v1888, rfl, rfl, hS_s108, (zFr_t (zFr_t (zFr_t (zFr_t (zFr_t (zFr_t (zFr_t (zFr_u zFr_rf e_s1 ha (by decide)) hF_s4 (by decide)) hF_s5 (by decide)) hF_s7 (by decide)) hF_s28 (by decide)) hF_s36 (by decide)) hF_s107 (by decide)) hF_s108 (by decide)), ⟨(by omega), by omega, by omega, by omega, by omega, (by rw [(zFr_g hF_s108 (zr (k := 34) (t2 := 91) hG ha rfl) (by decide)), (zFr_g hF_s107 (zr (k := 34) (t2 := 91) hG ha rfl) (by decide)), (zFr_g hF_s36 (zr (k := 34) (t2 := 91) hG ha rfl) (by decide)), (zFr_g hF_s28 (zr (k := 34) (t2 := 91) hG ha rfl) (by decide)), (zFr_g hF_s7 (zr (k := 34) (t2 := 91) hG ha rfl) (by decide)), (zFr_g hF_s5 (zr (k := 34) (t2 := 91) hG ha rfl) (by decide)), (zFr_g hF_s4 (zr (k := 34) (t2 := 91) hG ha rfl) (by decide)), e_s1, zU_ne (zne (zr (k := 34) (t2 := 91) hG ha rfl) ha (by decide)), (zFr_g hF_s108 (zr (k := 35) (t2 := 92) hG ha rfl) (by decide)), (zFr_g hF_s107 (zr (k := 35) (t2 := 92) hG ha rfl) (by decide)), (zFr_g hF_s36 (zr (k := 35) (t2 := 92) hG ha rfl) (by decide)), (zFr_g hF_s28 (zr (k := 35) (t2 := 92) hG ha rfl) (by decide)), (zFr_g hF_s7 (zr (k := 35) (t2 := 92) hG ha rfl) (by decide)), (zFr_g hF_s5 (zr (k := 35) (t2 := 92) hG ha rfl) (by decide)), (zFr_g hF_s4 (zr (k := 35) (t2 := 92) hG ha rfl) (by decide)), e_s1, zU_ne (zne (zr (k := 35) (t2 := 92) hG ha rfl) ha (by decide)), (zFr_g hF_s108 (zr (k := 37) (t2 := 94) hG ha rfl) (by decide)), (zFr_g hF_s107 (zr (k := 37) (t2 := 94) hG ha rfl) (by decide)), (zFr_g hF_s36 (zr (k := 37) (t2 := 94) hG ha rfl) (by decide)), (zFr_g hF_s28 (zr (k := 37) (t2 := 94) hG ha rfl) (by decide)), (zFr_g hF_s7 (zr (k := 37) (t2 := 94) hG ha rfl) (by decide)), (zFr_g hF_s5 (zr (k := 37) (t2 := 94) hG ha rfl) (by decide)), (zFr_g hF_s4 (zr (k := 37) (t2 := 94) hG ha rfl) (by decide)), e_s1, zU_ne (zne (zr (k := 37) (t2 := 94) hG ha rfl) ha (by decide))]; exact e2), (by rw [(zFr_g hF_s108 (zr (k := 17) (t2 := 80) hG ha rfl) (by decide)), (zFr_g hF_s107 (zr (k := 17) (t2 := 80) hG ha rfl) (by decide)), (zFr_g hF_s36 (zr (k := 17) (t2 := 80) hG ha rfl) (by decide)), (zFr_g hF_s28 (zr (k := 17) (t2 := 80) hG ha rfl) (by decide)), (zFr_g hF_s7 (zr (k := 17) (t2 := 80) hG ha rfl) (by decide)), (zFr_g hF_s5 (zr (k := 17) (t2 := 80) hG ha rfl) (by decide)), (zFr_g hF_s4 (zr (k := 17) (t2 := 80) hG ha rfl) (by decide)), e_s1, zU_ne (zne (zr (k := 17) (t2 := 80) hG ha rfl) ha (by decide))]; exact (zQn_nn e3 (by omega))), by omega, by omega, by omega⟩⟩
                                · skip
                                  refine j_aload_n hx 1 dX12_table_204 rfl ?_
                                  have f1899 := zf hS_s108 ha (k := 21) rfl
                                  have hP1900 : zQn (s108 (gP G a 10)) (s108 a 21) := ((by rw [(zFr_g hF_s108 (zr (k := 10) (t2 := 73) hG ha rfl) (by decide)), (zFr_g hF_s107 (zr (k := 10) (t2 := 73) hG ha rfl) (by decide)), (zFr_g hF_s36 (zr (k := 10) (t2 := 73) hG ha rfl) (by decide)), (zFr_g hF_s28 (zr (k := 10) (t2 := 73) hG ha rfl) (by decide))]; exact (zQi_k fA18 (by omega) (by omega))) (by omega))
                                  have g1901 : s108 (gP G a 13) 0 = s7 (gP G a 13) 0 := (by rw [(zFr_g hF_s108 (zr (k := 13) (t2 := 76) hG ha rfl) (by decide)), (zFr_g hF_s107 (zr (k := 13) (t2 := 76) hG ha rfl) (by decide)), (zFr_g hF_s36 (zr (k := 13) (t2 := 76) hG ha rfl) (by decide)), (zFr_g hF_s28 (zr (k := 13) (t2 := 76) hG ha rfl) (by decide))])
                                  have g1902 : s108 (gP G a 13) 1 = s7 (gP G a 13) 1 := (by rw [(zFr_g hF_s108 (zr (k := 13) (t2 := 76) hG ha rfl) (by decide)), (zFr_g hF_s107 (zr (k := 13) (t2 := 76) hG ha rfl) (by decide)), (zFr_g hF_s36 (zr (k := 13) (t2 := 76) hG ha rfl) (by decide)), (zFr_g hF_s28 (zr (k := 13) (t2 := 76) hG ha rfl) (by decide))])
                                  have g1903 : s108 (gP G a 13) 2 = s7 (gP G a 13) 2 := (by rw [(zFr_g hF_s108 (zr (k := 13) (t2 := 76) hG ha rfl) (by decide)), (zFr_g hF_s107 (zr (k := 13) (t2 := 76) hG ha rfl) (by decide)), (zFr_g hF_s36 (zr (k := 13) (t2 := 76) hG ha rfl) (by decide)), (zFr_g hF_s28 (zr (k := 13) (t2 := 76) hG ha rfl) (by decide))])
                                  have f1904 := zf hS_s108 ha (k := 0) rfl
                                  have f1905 := zf hS_s108 ha (k := 3) rfl
                                  have f1906 := zf hS_s108 ha (k := 4) rfl
                                  have f1907 := zf hS_s108 ha (k := 7) rfl
                                  have f1908 := zf hS_s108 ha (k := 22) rfl
                                  have f1909 := zf hS_s108 ha (k := 23) rfl
                                  have f1910 := zf hS_s108 ha (k := 38) rfl
                                  have f1911 := zf hS_s108 ha (k := 51) rfl
                                  have f1912 := zf hS_s108 ha (k := 52) rfl
                                  refine j_callV hx hG (c_X12_sets hst a) lk_RX12_131 ha (by decide) rfl rfl rfl rfl [] ⟨rfl, hG, hS_s108, ha, (by omega), ((zQn_nn hP1900 (by omega)))⟩ rfl rfl ⟨by decide, by decide⟩ ⟨by decide, by decide⟩ (k2 := 0) (n2 := 0) rfl rfl (Nat.le_of_ble_eq_true rfl) dX12_table_205 (kVM (fun s109 hS_s109 hF_s109 q1914 => ?_))
                                  refine j_iload_n hx 0 dX12_table_208 rfl ?_
                                  have f1915 := zf hS_s109 ha (k := 38) rfl
                                  have f1916 := zf hS_s109 ha (k := 51) rfl
                                  have f1917 := zf hS_s109 ha (k := 52) rfl
                                  exact j_iret hx hq rfl (by decide) (by decide) dX12_table_209 ⟨v1888, rfl, rfl, hS_s109, (zFr_t (zFr_t (zFr_t (zFr_t (zFr_t (zFr_t (zFr_t (zFr_t (zFr_u zFr_rf e_s1 ha (by decide)) hF_s4 (by decide)) hF_s5 (by decide)) hF_s7 (by decide)) hF_s28 (by decide)) hF_s36 (by decide)) hF_s107 (by decide)) hF_s108 (by decide)) hF_s109 (by decide)), ⟨(by omega), by omega, by omega, by omega, by omega, q1914.2.2.2.2.2.1, (zQn_nn q1914.2.2.2.2.1 (by omega)), by omega, by omega, by omega⟩⟩
                        · skip
                          refine j_aload_n hx 1 dX12_table_123 rfl ?_
                          refine j_iconst hx dX12_table_124 ?_
                          refine j_aload_n hx 1 dX12_table_125 rfl ?_
                          have f1918 := zf hS_s36 ha (k := 4) rfl
                          refine g13_4 hx hG ha kf_RX12_143 rfl dX12_table_126 ?_
                          have f1919 := zf hS_s36 ha (k := 0) rfl
                          have f1920 := zf hS_s36 ha (k := 3) rfl
                          have f1921 := zf hS_s36 ha (k := 7) rfl
                          have f1922 := zf hS_s36 ha (k := 22) rfl
                          have f1923 := zf hS_s36 ha (k := 24) rfl
                          have f1924 := zf hS_s36 ha (k := 38) rfl
                          have f1925 := zf hS_s36 ha (k := 51) rfl
                          have f1926 := zf hS_s36 ha (k := 52) rfl
                          refine j_callV hx hG (c_X12_wrong hst a 3 ((s36 a 4))) lk_RX12_173 ha (by decide) rfl rfl rfl rfl [.int (zI 3), .int (zI ((s36 a 4)))] ⟨rfl, hG, hS_s36, ha, (by omega), (by omega)⟩ rfl rfl ⟨by decide, by decide⟩ ⟨by decide, by decide⟩ (k2 := 0) (n2 := 0) rfl rfl (Nat.le_of_ble_eq_true rfl) dX12_table_129 (kVM (fun s110 hS_s110 hF_s110 q1928 => ?_))
                          refine j_aload_n hx 1 dX12_table_132 rfl ?_
                          refine j_callV hx hG (c_X12_fine hst a) lk_RX12_166 ha (by decide) rfl rfl rfl rfl [] ⟨rfl, hG, hS_s110, ha⟩ rfl rfl ⟨by decide, by decide⟩ ⟨by decide, by decide⟩ (k2 := 0) (n2 := 0) rfl rfl (Nat.le_of_ble_eq_true rfl) dX12_table_133 (kIP (fun v1929 q1930 => ?_))
                          refine j_if_ne hx 142 dX12_table_136 rfl (by omega) (fun h1931 => ?_) (fun h1931 => ?_)
                          · skip
                            refine j_aload_n hx 1 dX12_table_142 rfl ?_
                            have f1932 := zf hS_s110 ha (k := 4) rfl
                            have f1933 := zf hS_s110 ha (k := 3) rfl
                            have g1934 : s110 (gP G a 9) (s110 a 4).toNat = s0 (gP G a 9) (s110 a 4).toNat := (by rw [(zFr_g hF_s110 (zr (k := 9) (t2 := 72) hG ha rfl) (by decide)), (zFr_g hF_s36 (zr (k := 9) (t2 := 72) hG ha rfl) (by decide)), (zFr_g hF_s28 (zr (k := 9) (t2 := 72) hG ha rfl) (by decide)), (zFr_g hF_s7 (zr (k := 9) (t2 := 72) hG ha rfl) (by decide)), (zFr_g hF_s5 (zr (k := 9) (t2 := 72) hG ha rfl) (by decide)), (zFr_g hF_s4 (zr (k := 9) (t2 := 72) hG ha rfl) (by decide)), e_s1, zU_at (Or.inl (zne ha (zr (k := 9) (t2 := 72) hG ha rfl) (by decide)))])
                            have f1935 := zf hS_s110 ha (k := 0) rfl
                            have f1936 := zf hS_s110 ha (k := 5) rfl
                            have f1937 := zf hS_s110 ha (k := 7) rfl
                            have f1938 := zf hS_s110 ha (k := 21) rfl
                            have f1939 := zf hS_s110 ha (k := 22) rfl
                            have f1940 := zf hS_s110 ha (k := 23) rfl
                            have f1941 := zf hS_s110 ha (k := 24) rfl
                            have f1942 := zf hS_s110 ha (k := 38) rfl
                            have f1943 := zf hS_s110 ha (k := 51) rfl
                            have f1944 := zf hS_s110 ha (k := 52) rfl
                            refine j_callV hx hG (c_X12_pass hst a) lk_RX12_256 ha (by decide) rfl rfl rfl rfl [] ⟨rfl, hG, hS_s110, ha⟩ rfl rfl ⟨by decide, by decide⟩ ⟨by decide, by decide⟩ (k2 := 0) (n2 := 0) rfl rfl (Nat.le_of_ble_eq_true rfl) dX12_table_143 (kVM (fun s111 hS_s111 hF_s111 q1946 => ?_))
                            refine j_aload_n hx 1 dX12_table_146 rfl ?_
                            refine j_iload_n hx 0 dX12_table_147 rfl ?_
                            have g1947 : s111 (gP G a 13) 0 = s7 (gP G a 13) 0 := (by rw [(zFr_g hF_s111 (zr (k := 13) (t2 := 76) hG ha rfl) (by decide)), (zFr_g hF_s110 (zr (k := 13) (t2 := 76) hG ha rfl) (by decide)), (zFr_g hF_s36 (zr (k := 13) (t2 := 76) hG ha rfl) (by decide)), (zFr_g hF_s28 (zr (k := 13) (t2 := 76) hG ha rfl) (by decide))])
                            have g1948 : s111 (gP G a 13) 1 = s7 (gP G a 13) 1 := (by rw [(zFr_g hF_s111 (zr (k := 13) (t2 := 76) hG ha rfl) (by decide)), (zFr_g hF_s110 (zr (k := 13) (t2 := 76) hG ha rfl) (by decide)), (zFr_g hF_s36 (zr (k := 13) (t2 := 76) hG ha rfl) (by decide)), (zFr_g hF_s28 (zr (k := 13) (t2 := 76) hG ha rfl) (by decide))])
                            have g1949 : s111 (gP G a 13) 2 = s7 (gP G a 13) 2 := (by rw [(zFr_g hF_s111 (zr (k := 13) (t2 := 76) hG ha rfl) (by decide)), (zFr_g hF_s110 (zr (k := 13) (t2 := 76) hG ha rfl) (by decide)), (zFr_g hF_s36 (zr (k := 13) (t2 := 76) hG ha rfl) (by decide)), (zFr_g hF_s28 (zr (k := 13) (t2 := 76) hG ha rfl) (by decide))])
                            have f1950 := zf hS_s111 ha (k := 22) rfl
                            have f1951 := zf hS_s111 ha (k := 21) rfl
                            have f1952 := zf hS_s111 ha (k := 23) rfl
                            have f1953 := zf hS_s111 ha (k := 4) rfl
                            have f1954 := zf hS_s111 ha (k := 5) rfl
                            have f1955 := zf hS_s111 ha (k := 3) rfl
                            have f1956 := zf hS_s111 ha (k := 0) rfl
                            have f1957 := zf hS_s111 ha (k := 7) rfl
                            have f1958 := zf hS_s111 ha (k := 24) rfl
                            have f1959 := zf hS_s111 ha (k := 38) rfl
                            have f1960 := zf hS_s111 ha (k := 51) rfl
                            have f1961 := zf hS_s111 ha (k := 52) rfl
                            refine j_callV hx hG (c_X12_readClause hst a v422) lk_RX12_259 ha (by decide) rfl rfl rfl rfl [.int (zI v422)] ⟨rfl, hG, hS_s111, ha, (by omega), ((by rw [(zFr_g hF_s111 (zr (k := 10) (t2 := 73) hG ha rfl) (by decide)), (zFr_g hF_s110 (zr (k := 10) (t2 := 73) hG ha rfl) (by decide)), (zFr_g hF_s36 (zr (k := 10) (t2 := 73) hG ha rfl) (by decide)), (zFr_g hF_s28 (zr (k := 10) (t2 := 73) hG ha rfl) (by decide))]; exact (zQi_k fA18 (by omega) (by omega)))), (by omega), (by omega), (by omega)⟩ rfl rfl ⟨by decide, by decide⟩ ⟨by decide, by decide⟩ (k2 := 0) (n2 := 0) rfl rfl (Nat.le_of_ble_eq_true rfl) dX12_table_148 (kVM (fun s112 hS_s112 hF_s112 q1963 => ?_))
                            refine j_aload_n hx 1 dX12_table_151 rfl ?_
                            refine j_bipush hx dX12_table_152 rfl ?_
                            have f1964 := zf hS_s112 ha (k := 4) rfl
                            have f1965 := zf hS_s112 ha (k := 5) rfl
                            have f1966 := zf hS_s112 ha (k := 3) rfl
                            have f1967 := zf hS_s112 ha (k := 0) rfl
                            have f1968 := zf hS_s112 ha (k := 7) rfl
                            have f1969 := zf hS_s112 ha (k := 21) rfl
                            have f1970 := zf hS_s112 ha (k := 22) rfl
                            have f1971 := zf hS_s112 ha (k := 23) rfl
                            have f1972 := zf hS_s112 ha (k := 24) rfl
                            have f1973 := zf hS_s112 ha (k := 38) rfl
                            have f1974 := zf hS_s112 ha (k := 51) rfl
                            have f1975 := zf hS_s112 ha (k := 52) rfl
                            refine j_callV hx hG (c_X12_sign hst a 59) lk_RX12_262 ha (by decide) rfl rfl rfl rfl [.int (zI 59)] ⟨rfl, hG, hS_s112, ha, (by omega)⟩ rfl rfl ⟨by decide, by decide⟩ ⟨by decide, by decide⟩ (k2 := 0) (n2 := 0) rfl rfl (Nat.le_of_ble_eq_true rfl) dX12_table_154 (kVM (fun s113 hS_s113 hF_s113 q1977 => ?_))
                            refine j_iincN hx 2 (fun v1978 => [(2, .int (zI v1978)), (3, .int (zI v422)), (0, .ref a)]) dX12_table_157 rfl (by decide) (fun _ => rfl) (fun v1978 f1979 f1980 f1981 => ?_)
                            refine j_goto hx 44 dX12_table_160 rfl ?_
                            have f1982 := zf hS_s113 ha (k := 4) rfl
                            have f1983 := zf hS_s113 ha (k := 5) rfl
                            have f1984 := zf hS_s113 ha (k := 0) rfl
                            have f1985 := zf hS_s113 ha (k := 3) rfl
                            have f1986 := zf hS_s113 ha (k := 7) rfl
                            have f1987 := zf hS_s113 ha (k := 24) rfl
                            have f1988 := zf hS_s113 ha (k := 38) rfl
                            have f1989 := zf hS_s113 ha (k := 51) rfl
                            have f1990 := zf hS_s113 ha (k := 52) rfl
                            have g1991 : s113 (gP G a 13) 0 = s112 (gP G a 13) 0 := (by rw [(zFr_g hF_s113 (zr (k := 13) (t2 := 76) hG ha rfl) (by decide))])
                            have g1992 : s113 (gP G a 13) 1 = s112 (gP G a 13) 1 := (by rw [(zFr_g hF_s113 (zr (k := 13) (t2 := 76) hG ha rfl) (by decide))])
                            have g1993 : s113 (gP G a 13) 2 = s112 (gP G a 13) 2 := (by rw [(zFr_g hF_s113 (zr (k := 13) (t2 := 76) hG ha rfl) (by decide))])
                            have f1994 := zf hS_s113 ha (k := 22) rfl
                            exact j_sub [2, 0] [(0, .ref a), (2, .int (zI v1978))] rfl (ih_c44_6 v1978 s113 (by omega) (by omega) hS_s113 (zFr_t (zFr_t (zFr_t (zFr_t (zFr_t (zFr_t (zFr_t zFr_rf hF_s7 (by decide)) hF_s28 (by decide)) hF_s36 (by decide)) hF_s110 (by decide)) hF_s111 (by decide)) hF_s112 (by decide)) hF_s113 (by decide)) (by omega) (by omega) (by omega) (by omega) (by omega) (by omega) (by omega) (by rw [(zFr_g hF_s113 (zr (k := 10) (t2 := 73) hG ha rfl) (by decide))]; exact (zQi_k q1963.2.2.1 (by omega) (by omega))) (by omega) (by omega))
                          · skip
                            refine j_goto hx 163 dX12_table_139 rfl ?_
                            refine j_aload_n hx 1 dX12_table_163 rfl ?_
                            refine j_callV hx hG (c_X12_fine hst a) lk_RX12_166 ha (by decide) rfl rfl rfl rfl [] ⟨rfl, hG, hS_s110, ha⟩ rfl rfl ⟨by decide, by decide⟩ ⟨by decide, by decide⟩ (k2 := 0) (n2 := 0) rfl rfl (Nat.le_of_ble_eq_true rfl) dX12_table_164 (kIP (fun v1995 q1996 => ?_))
                            refine j_if_eq hx 187 dX12_table_167 rfl (by omega) (fun h1997 => ?_) (fun h1997 => ?_)
                            · skip
                              refine j_aload_n hx 1 dX12_table_187 rfl ?_
                              refine j_aload_n hx 1 dX12_table_188 rfl ?_
                              have f1998 := zf hS_s110 ha (k := 21) rfl
                              refine g13_21 hx hG ha kf_RX12_180 rfl dX12_table_189 ?_
                              have f1999 := zf hS_s110 ha (k := 0) rfl
                              have f2000 := zf hS_s110 ha (k := 3) rfl
                              have f2001 := zf hS_s110 ha (k := 4) rfl
                              have f2002 := zf hS_s110 ha (k := 5) rfl
                              have f2003 := zf hS_s110 ha (k := 7) rfl
                              have f2004 := zf hS_s110 ha (k := 22) rfl
                              have f2005 := zf hS_s110 ha (k := 23) rfl
                              have f2006 := zf hS_s110 ha (k := 24) rfl
                              have f2007 := zf hS_s110 ha (k := 38) rfl
                              have f2008 := zf hS_s110 ha (k := 51) rfl
                              have f2009 := zf hS_s110 ha (k := 52) rfl
                              refine j_callV hx hG (c_X12_result hst a ((s110 a 21))) lk_RX12_265 ha (by decide) rfl rfl rfl rfl [.int (zI ((s110 a 21)))] ⟨rfl, hG, hS_s110, ha, (by omega)⟩ rfl rfl ⟨by decide, by decide⟩ ⟨by decide, by decide⟩ (k2 := 0) (n2 := 0) rfl rfl (Nat.le_of_ble_eq_true rfl) dX12_table_192 (kIM (fun v2010 s114 hS_s114 hF_s114 q2011 => ?_))
                              refine j_istore_n hx [(3, .int (zI v2010)), (0, .ref a), (2, .int (zI v99))] dX12_table_195 (by decide) rfl ?_
                              refine j_aload_n hx 1 dX12_table_196 rfl ?_
                              have f2012 := zf hS_s114 ha (k := 5) rfl
                              refine g13_5 hx hG ha kf_RX12_137 rfl dX12_table_197 ?_
                              refine j_iconst hx dX12_table_200 ?_
                              refine j_icmp_ne hx 208 dX12_table_201 rfl (by omega) ⟨by decide, by decide⟩ (fun h2013 => ?_) (fun h2013 => ?_)
                              · skip
                                refine j_iload_n hx 0 dX12_table_208 rfl ?_
                                have g2014 : zc (s114 (gP G a 27)) = zc (s0 (gP G a 27)) := by rw [(zFr_g hF_s114 (zr (k := 27) (t2 := 84) hG ha rfl) (by decide)), (zFr_g hF_s110 (zr (k := 27) (t2 := 84) hG ha rfl) (by decide)), (zFr_g hF_s36 (zr (k := 27) (t2 := 84) hG ha rfl) (by decide)), (zFr_g hF_s28 (zr (k := 27) (t2 := 84) hG ha rfl) (by decide)), (zFr_g hF_s7 (zr (k := 27) (t2 := 84) hG ha rfl) (by decide)), (zFr_g hF_s5 (zr (k := 27) (t2 := 84) hG ha rfl) (by decide)), (zFr_g hF_s4 (zr (k := 27) (t2 := 84) hG ha rfl) (by decide)), e_s1, zU_ne (zne (zr (k := 27) (t2 := 84) hG ha rfl) ha (by decide))]
                                have g2015 : zc (s114 (gP G a 28)) = zc (s0 (gP G a 28)) := by rw [(zFr_g hF_s114 (zr (k := 28) (t2 := 85) hG ha rfl) (by decide)), (zFr_g hF_s110 (zr (k := 28) (t2 := 85) hG ha rfl) (by decide)), (zFr_g hF_s36 (zr (k := 28) (t2 := 85) hG ha rfl) (by decide)), (zFr_g hF_s28 (zr (k := 28) (t2 := 85) hG ha rfl) (by decide)), (zFr_g hF_s7 (zr (k := 28) (t2 := 85) hG ha rfl) (by decide)), (zFr_g hF_s5 (zr (k := 28) (t2 := 85) hG ha rfl) (by decide)), (zFr_g hF_s4 (zr (k := 28) (t2 := 85) hG ha rfl) (by decide)), e_s1, zU_ne (zne (zr (k := 28) (t2 := 85) hG ha rfl) ha (by decide))]
                                have g2016 : s114 (gP G a 27) 488 = s0 (gP G a 27) 488 := (by rw [(zFr_g hF_s114 (zr (k := 27) (t2 := 84) hG ha rfl) (by decide)), (zFr_g hF_s110 (zr (k := 27) (t2 := 84) hG ha rfl) (by decide)), (zFr_g hF_s36 (zr (k := 27) (t2 := 84) hG ha rfl) (by decide)), (zFr_g hF_s28 (zr (k := 27) (t2 := 84) hG ha rfl) (by decide)), (zFr_g hF_s7 (zr (k := 27) (t2 := 84) hG ha rfl) (by decide)), (zFr_g hF_s5 (zr (k := 27) (t2 := 84) hG ha rfl) (by decide)), (zFr_g hF_s4 (zr (k := 27) (t2 := 84) hG ha rfl) (by decide)), e_s1, zU_at (Or.inl (zne ha (zr (k := 27) (t2 := 84) hG ha rfl) (by decide)))])
                                have g2017 : s114 (gP G a 28) 488 = s0 (gP G a 28) 488 := (by rw [(zFr_g hF_s114 (zr (k := 28) (t2 := 85) hG ha rfl) (by decide)), (zFr_g hF_s110 (zr (k := 28) (t2 := 85) hG ha rfl) (by decide)), (zFr_g hF_s36 (zr (k := 28) (t2 := 85) hG ha rfl) (by decide)), (zFr_g hF_s28 (zr (k := 28) (t2 := 85) hG ha rfl) (by decide)), (zFr_g hF_s7 (zr (k := 28) (t2 := 85) hG ha rfl) (by decide)), (zFr_g hF_s5 (zr (k := 28) (t2 := 85) hG ha rfl) (by decide)), (zFr_g hF_s4 (zr (k := 28) (t2 := 85) hG ha rfl) (by decide)), e_s1, zU_at (Or.inl (zne ha (zr (k := 28) (t2 := 85) hG ha rfl) (by decide)))])
                                have f2018 := zf hS_s114 ha (k := 38) rfl
                                have f2019 := zf hS_s114 ha (k := 51) rfl
                                have f2020 := zf hS_s114 ha (k := 52) rfl
                                exact j_iret hx hq rfl (by decide) (by decide) dX12_table_209 ⟨v2010, rfl, rfl, hS_s114, (zFr_t (zFr_t (zFr_t (zFr_t (zFr_t (zFr_t (zFr_t (zFr_u zFr_rf e_s1 ha (by decide)) hF_s4 (by decide)) hF_s5 (by decide)) hF_s7 (by decide)) hF_s28 (by decide)) hF_s36 (by decide)) hF_s110 (by decide)) hF_s114 (by decide)), ⟨(by omega), by omega, by omega, by omega, by omega, (by rw [(zFr_g hF_s114 (zr (k := 34) (t2 := 91) hG ha rfl) (by decide)), (zFr_g hF_s110 (zr (k := 34) (t2 := 91) hG ha rfl) (by decide)), (zFr_g hF_s36 (zr (k := 34) (t2 := 91) hG ha rfl) (by decide)), (zFr_g hF_s28 (zr (k := 34) (t2 := 91) hG ha rfl) (by decide)), (zFr_g hF_s7 (zr (k := 34) (t2 := 91) hG ha rfl) (by decide)), (zFr_g hF_s5 (zr (k := 34) (t2 := 91) hG ha rfl) (by decide)), (zFr_g hF_s4 (zr (k := 34) (t2 := 91) hG ha rfl) (by decide)), e_s1, zU_ne (zne (zr (k := 34) (t2 := 91) hG ha rfl) ha (by decide)), (zFr_g hF_s114 (zr (k := 35) (t2 := 92) hG ha rfl) (by decide)), (zFr_g hF_s110 (zr (k := 35) (t2 := 92) hG ha rfl) (by decide)), (zFr_g hF_s36 (zr (k := 35) (t2 := 92) hG ha rfl) (by decide)), (zFr_g hF_s28 (zr (k := 35) (t2 := 92) hG ha rfl) (by decide)), (zFr_g hF_s7 (zr (k := 35) (t2 := 92) hG ha rfl) (by decide)), (zFr_g hF_s5 (zr (k := 35) (t2 := 92) hG ha rfl) (by decide)), (zFr_g hF_s4 (zr (k := 35) (t2 := 92) hG ha rfl) (by decide)), e_s1, zU_ne (zne (zr (k := 35) (t2 := 92) hG ha rfl) ha (by decide)), (zFr_g hF_s114 (zr (k := 37) (t2 := 94) hG ha rfl) (by decide)), (zFr_g hF_s110 (zr (k := 37) (t2 := 94) hG ha rfl) (by decide)), (zFr_g hF_s36 (zr (k := 37) (t2 := 94) hG ha rfl) (by decide)), (zFr_g hF_s28 (zr (k := 37) (t2 := 94) hG ha rfl) (by decide)), (zFr_g hF_s7 (zr (k := 37) (t2 := 94) hG ha rfl) (by decide)), (zFr_g hF_s5 (zr (k := 37) (t2 := 94) hG ha rfl) (by decide)), (zFr_g hF_s4 (zr (k := 37) (t2 := 94) hG ha rfl) (by decide)), e_s1, zU_ne (zne (zr (k := 37) (t2 := 94) hG ha rfl) ha (by decide))]; exact e2), (by rw [(zFr_g hF_s114 (zr (k := 17) (t2 := 80) hG ha rfl) (by decide)), (zFr_g hF_s110 (zr (k := 17) (t2 := 80) hG ha rfl) (by decide)), (zFr_g hF_s36 (zr (k := 17) (t2 := 80) hG ha rfl) (by decide)), (zFr_g hF_s28 (zr (k := 17) (t2 := 80) hG ha rfl) (by decide)), (zFr_g hF_s7 (zr (k := 17) (t2 := 80) hG ha rfl) (by decide)), (zFr_g hF_s5 (zr (k := 17) (t2 := 80) hG ha rfl) (by decide)), (zFr_g hF_s4 (zr (k := 17) (t2 := 80) hG ha rfl) (by decide)), e_s1, zU_ne (zne (zr (k := 17) (t2 := 80) hG ha rfl) ha (by decide))]; exact (zQn_nn e3 (by omega))), by omega, by omega, by omega⟩⟩
                              · skip
                                refine j_aload_n hx 1 dX12_table_204 rfl ?_
                                have f2021 := zf hS_s114 ha (k := 21) rfl
                                have hP2022 : zQn (s114 (gP G a 10)) (s114 a 21) := ((by rw [(zFr_g hF_s114 (zr (k := 10) (t2 := 73) hG ha rfl) (by decide)), (zFr_g hF_s110 (zr (k := 10) (t2 := 73) hG ha rfl) (by decide)), (zFr_g hF_s36 (zr (k := 10) (t2 := 73) hG ha rfl) (by decide)), (zFr_g hF_s28 (zr (k := 10) (t2 := 73) hG ha rfl) (by decide))]; exact (zQi_k fA18 (by omega) (by omega))) (by omega))
                                have g2023 : s114 (gP G a 13) 0 = s7 (gP G a 13) 0 := (by rw [(zFr_g hF_s114 (zr (k := 13) (t2 := 76) hG ha rfl) (by decide)), (zFr_g hF_s110 (zr (k := 13) (t2 := 76) hG ha rfl) (by decide)), (zFr_g hF_s36 (zr (k := 13) (t2 := 76) hG ha rfl) (by decide)), (zFr_g hF_s28 (zr (k := 13) (t2 := 76) hG ha rfl) (by decide))])
                                have g2024 : s114 (gP G a 13) 1 = s7 (gP G a 13) 1 := (by rw [(zFr_g hF_s114 (zr (k := 13) (t2 := 76) hG ha rfl) (by decide)), (zFr_g hF_s110 (zr (k := 13) (t2 := 76) hG ha rfl) (by decide)), (zFr_g hF_s36 (zr (k := 13) (t2 := 76) hG ha rfl) (by decide)), (zFr_g hF_s28 (zr (k := 13) (t2 := 76) hG ha rfl) (by decide))])
                                have g2025 : s114 (gP G a 13) 2 = s7 (gP G a 13) 2 := (by rw [(zFr_g hF_s114 (zr (k := 13) (t2 := 76) hG ha rfl) (by decide)), (zFr_g hF_s110 (zr (k := 13) (t2 := 76) hG ha rfl) (by decide)), (zFr_g hF_s36 (zr (k := 13) (t2 := 76) hG ha rfl) (by decide)), (zFr_g hF_s28 (zr (k := 13) (t2 := 76) hG ha rfl) (by decide))])
                                have f2026 := zf hS_s114 ha (k := 0) rfl
                                have f2027 := zf hS_s114 ha (k := 3) rfl
                                have f2028 := zf hS_s114 ha (k := 4) rfl
                                have f2029 := zf hS_s114 ha (k := 7) rfl
                                have f2030 := zf hS_s114 ha (k := 22) rfl
                                have f2031 := zf hS_s114 ha (k := 23) rfl
                                have f2032 := zf hS_s114 ha (k := 38) rfl
                                have f2033 := zf hS_s114 ha (k := 51) rfl
                                have f2034 := zf hS_s114 ha (k := 52) rfl
                                refine j_callV hx hG (c_X12_sets hst a) lk_RX12_131 ha (by decide) rfl rfl rfl rfl [] ⟨rfl, hG, hS_s114, ha, (by omega), ((zQn_nn hP2022 (by omega)))⟩ rfl rfl ⟨by decide, by decide⟩ ⟨by decide, by decide⟩ (k2 := 0) (n2 := 0) rfl rfl (Nat.le_of_ble_eq_true rfl) dX12_table_205 (kVM (fun s115 hS_s115 hF_s115 q2036 => ?_))
                                refine j_iload_n hx 0 dX12_table_208 rfl ?_
                                have f2037 := zf hS_s115 ha (k := 38) rfl
                                have f2038 := zf hS_s115 ha (k := 51) rfl
                                have f2039 := zf hS_s115 ha (k := 52) rfl
                                exact j_iret hx hq rfl (by decide) (by decide) dX12_table_209 ⟨v2010, rfl, rfl, hS_s115, (zFr_t (zFr_t (zFr_t (zFr_t (zFr_t (zFr_t (zFr_t (zFr_t (zFr_u zFr_rf e_s1 ha (by decide)) hF_s4 (by decide)) hF_s5 (by decide)) hF_s7 (by decide)) hF_s28 (by decide)) hF_s36 (by decide)) hF_s110 (by decide)) hF_s114 (by decide)) hF_s115 (by decide)), ⟨(by omega), by omega, by omega, by omega, by omega, q2036.2.2.2.2.2.1, (zQn_nn q2036.2.2.2.2.1 (by omega)), by omega, by omega, by omega⟩⟩
                            · skip
                              refine j_aload_n hx 1 dX12_table_170 rfl ?_
                              have f2040 := zf hS_s110 ha (k := 21) rfl
                              refine g13_21 hx hG ha kf_RX12_180 rfl dX12_table_171 ?_
                              refine j_iconst hx dX12_table_174 ?_
                              refine j_icmp_ge hx 187 dX12_table_175 rfl (by omega) ⟨by decide, by decide⟩ (fun h2041 => ?_) (fun h2041 => ?_)
                              · skip
                                refine j_aload_n hx 1 dX12_table_187 rfl ?_
                                refine j_aload_n hx 1 dX12_table_188 rfl ?_
                                refine g13_21 hx hG ha kf_RX12_180 rfl dX12_table_189 ?_
                                have f2042 := zf hS_s110 ha (k := 0) rfl
                                have f2043 := zf hS_s110 ha (k := 3) rfl
                                have f2044 := zf hS_s110 ha (k := 4) rfl
                                have f2045 := zf hS_s110 ha (k := 5) rfl
                                have f2046 := zf hS_s110 ha (k := 7) rfl
                                have f2047 := zf hS_s110 ha (k := 22) rfl
                                have f2048 := zf hS_s110 ha (k := 23) rfl
                                have f2049 := zf hS_s110 ha (k := 24) rfl
                                have f2050 := zf hS_s110 ha (k := 38) rfl
                                have f2051 := zf hS_s110 ha (k := 51) rfl
                                have f2052 := zf hS_s110 ha (k := 52) rfl
                                refine j_callV hx hG (c_X12_result hst a ((s110 a 21))) lk_RX12_265 ha (by decide) rfl rfl rfl rfl [.int (zI ((s110 a 21)))] ⟨rfl, hG, hS_s110, ha, (by omega)⟩ rfl rfl ⟨by decide, by decide⟩ ⟨by decide, by decide⟩ (k2 := 0) (n2 := 0) rfl rfl (Nat.le_of_ble_eq_true rfl) dX12_table_192 (kIM (fun v2053 s116 hS_s116 hF_s116 q2054 => ?_))
                                refine j_istore_n hx [(3, .int (zI v2053)), (0, .ref a), (2, .int (zI v99))] dX12_table_195 (by decide) rfl ?_
                                refine j_aload_n hx 1 dX12_table_196 rfl ?_
                                have f2055 := zf hS_s116 ha (k := 5) rfl
                                refine g13_5 hx hG ha kf_RX12_137 rfl dX12_table_197 ?_
                                refine j_iconst hx dX12_table_200 ?_
                                refine j_icmp_ne hx 208 dX12_table_201 rfl (by omega) ⟨by decide, by decide⟩ (fun h2056 => ?_) (fun h2056 => ?_)
                                · skip
                                  refine j_iload_n hx 0 dX12_table_208 rfl ?_
                                  have g2057 : zc (s116 (gP G a 27)) = zc (s0 (gP G a 27)) := by rw [(zFr_g hF_s116 (zr (k := 27) (t2 := 84) hG ha rfl) (by decide)), (zFr_g hF_s110 (zr (k := 27) (t2 := 84) hG ha rfl) (by decide)), (zFr_g hF_s36 (zr (k := 27) (t2 := 84) hG ha rfl) (by decide)), (zFr_g hF_s28 (zr (k := 27) (t2 := 84) hG ha rfl) (by decide)), (zFr_g hF_s7 (zr (k := 27) (t2 := 84) hG ha rfl) (by decide)), (zFr_g hF_s5 (zr (k := 27) (t2 := 84) hG ha rfl) (by decide)), (zFr_g hF_s4 (zr (k := 27) (t2 := 84) hG ha rfl) (by decide)), e_s1, zU_ne (zne (zr (k := 27) (t2 := 84) hG ha rfl) ha (by decide))]
                                  have g2058 : zc (s116 (gP G a 28)) = zc (s0 (gP G a 28)) := by rw [(zFr_g hF_s116 (zr (k := 28) (t2 := 85) hG ha rfl) (by decide)), (zFr_g hF_s110 (zr (k := 28) (t2 := 85) hG ha rfl) (by decide)), (zFr_g hF_s36 (zr (k := 28) (t2 := 85) hG ha rfl) (by decide)), (zFr_g hF_s28 (zr (k := 28) (t2 := 85) hG ha rfl) (by decide)), (zFr_g hF_s7 (zr (k := 28) (t2 := 85) hG ha rfl) (by decide)), (zFr_g hF_s5 (zr (k := 28) (t2 := 85) hG ha rfl) (by decide)), (zFr_g hF_s4 (zr (k := 28) (t2 := 85) hG ha rfl) (by decide)), e_s1, zU_ne (zne (zr (k := 28) (t2 := 85) hG ha rfl) ha (by decide))]
                                  have g2059 : s116 (gP G a 27) 488 = s0 (gP G a 27) 488 := (by rw [(zFr_g hF_s116 (zr (k := 27) (t2 := 84) hG ha rfl) (by decide)), (zFr_g hF_s110 (zr (k := 27) (t2 := 84) hG ha rfl) (by decide)), (zFr_g hF_s36 (zr (k := 27) (t2 := 84) hG ha rfl) (by decide)), (zFr_g hF_s28 (zr (k := 27) (t2 := 84) hG ha rfl) (by decide)), (zFr_g hF_s7 (zr (k := 27) (t2 := 84) hG ha rfl) (by decide)), (zFr_g hF_s5 (zr (k := 27) (t2 := 84) hG ha rfl) (by decide)), (zFr_g hF_s4 (zr (k := 27) (t2 := 84) hG ha rfl) (by decide)), e_s1, zU_at (Or.inl (zne ha (zr (k := 27) (t2 := 84) hG ha rfl) (by decide)))])
                                  have g2060 : s116 (gP G a 28) 488 = s0 (gP G a 28) 488 := (by rw [(zFr_g hF_s116 (zr (k := 28) (t2 := 85) hG ha rfl) (by decide)), (zFr_g hF_s110 (zr (k := 28) (t2 := 85) hG ha rfl) (by decide)), (zFr_g hF_s36 (zr (k := 28) (t2 := 85) hG ha rfl) (by decide)), (zFr_g hF_s28 (zr (k := 28) (t2 := 85) hG ha rfl) (by decide)), (zFr_g hF_s7 (zr (k := 28) (t2 := 85) hG ha rfl) (by decide)), (zFr_g hF_s5 (zr (k := 28) (t2 := 85) hG ha rfl) (by decide)), (zFr_g hF_s4 (zr (k := 28) (t2 := 85) hG ha rfl) (by decide)), e_s1, zU_at (Or.inl (zne ha (zr (k := 28) (t2 := 85) hG ha rfl) (by decide)))])
                                  have f2061 := zf hS_s116 ha (k := 38) rfl
                                  have f2062 := zf hS_s116 ha (k := 51) rfl
                                  have f2063 := zf hS_s116 ha (k := 52) rfl
                                  exact j_iret hx hq rfl (by decide) (by decide) dX12_table_209 ⟨v2053, rfl, rfl, hS_s116, (zFr_t (zFr_t (zFr_t (zFr_t (zFr_t (zFr_t (zFr_t (zFr_u zFr_rf e_s1 ha (by decide)) hF_s4 (by decide)) hF_s5 (by decide)) hF_s7 (by decide)) hF_s28 (by decide)) hF_s36 (by decide)) hF_s110 (by decide)) hF_s116 (by decide)), ⟨(by omega), by omega, by omega, by omega, by omega, (by rw [(zFr_g hF_s116 (zr (k := 34) (t2 := 91) hG ha rfl) (by decide)), (zFr_g hF_s110 (zr (k := 34) (t2 := 91) hG ha rfl) (by decide)), (zFr_g hF_s36 (zr (k := 34) (t2 := 91) hG ha rfl) (by decide)), (zFr_g hF_s28 (zr (k := 34) (t2 := 91) hG ha rfl) (by decide)), (zFr_g hF_s7 (zr (k := 34) (t2 := 91) hG ha rfl) (by decide)), (zFr_g hF_s5 (zr (k := 34) (t2 := 91) hG ha rfl) (by decide)), (zFr_g hF_s4 (zr (k := 34) (t2 := 91) hG ha rfl) (by decide)), e_s1, zU_ne (zne (zr (k := 34) (t2 := 91) hG ha rfl) ha (by decide)), (zFr_g hF_s116 (zr (k := 35) (t2 := 92) hG ha rfl) (by decide)), (zFr_g hF_s110 (zr (k := 35) (t2 := 92) hG ha rfl) (by decide)), (zFr_g hF_s36 (zr (k := 35) (t2 := 92) hG ha rfl) (by decide)), (zFr_g hF_s28 (zr (k := 35) (t2 := 92) hG ha rfl) (by decide)), (zFr_g hF_s7 (zr (k := 35) (t2 := 92) hG ha rfl) (by decide)), (zFr_g hF_s5 (zr (k := 35) (t2 := 92) hG ha rfl) (by decide)), (zFr_g hF_s4 (zr (k := 35) (t2 := 92) hG ha rfl) (by decide)), e_s1, zU_ne (zne (zr (k := 35) (t2 := 92) hG ha rfl) ha (by decide)), (zFr_g hF_s116 (zr (k := 37) (t2 := 94) hG ha rfl) (by decide)), (zFr_g hF_s110 (zr (k := 37) (t2 := 94) hG ha rfl) (by decide)), (zFr_g hF_s36 (zr (k := 37) (t2 := 94) hG ha rfl) (by decide)), (zFr_g hF_s28 (zr (k := 37) (t2 := 94) hG ha rfl) (by decide)), (zFr_g hF_s7 (zr (k := 37) (t2 := 94) hG ha rfl) (by decide)), (zFr_g hF_s5 (zr (k := 37) (t2 := 94) hG ha rfl) (by decide)), (zFr_g hF_s4 (zr (k := 37) (t2 := 94) hG ha rfl) (by decide)), e_s1, zU_ne (zne (zr (k := 37) (t2 := 94) hG ha rfl) ha (by decide))]; exact e2), (by rw [(zFr_g hF_s116 (zr (k := 17) (t2 := 80) hG ha rfl) (by decide)), (zFr_g hF_s110 (zr (k := 17) (t2 := 80) hG ha rfl) (by decide)), (zFr_g hF_s36 (zr (k := 17) (t2 := 80) hG ha rfl) (by decide)), (zFr_g hF_s28 (zr (k := 17) (t2 := 80) hG ha rfl) (by decide)), (zFr_g hF_s7 (zr (k := 17) (t2 := 80) hG ha rfl) (by decide)), (zFr_g hF_s5 (zr (k := 17) (t2 := 80) hG ha rfl) (by decide)), (zFr_g hF_s4 (zr (k := 17) (t2 := 80) hG ha rfl) (by decide)), e_s1, zU_ne (zne (zr (k := 17) (t2 := 80) hG ha rfl) ha (by decide))]; exact (zQn_nn e3 (by omega))), by omega, by omega, by omega⟩⟩
                                · skip
                                  refine j_aload_n hx 1 dX12_table_204 rfl ?_
                                  have f2064 := zf hS_s116 ha (k := 21) rfl
                                  have hP2065 : zQn (s116 (gP G a 10)) (s116 a 21) := ((by rw [(zFr_g hF_s116 (zr (k := 10) (t2 := 73) hG ha rfl) (by decide)), (zFr_g hF_s110 (zr (k := 10) (t2 := 73) hG ha rfl) (by decide)), (zFr_g hF_s36 (zr (k := 10) (t2 := 73) hG ha rfl) (by decide)), (zFr_g hF_s28 (zr (k := 10) (t2 := 73) hG ha rfl) (by decide))]; exact (zQi_k fA18 (by omega) (by omega))) (by omega))
                                  have g2066 : s116 (gP G a 13) 0 = s7 (gP G a 13) 0 := (by rw [(zFr_g hF_s116 (zr (k := 13) (t2 := 76) hG ha rfl) (by decide)), (zFr_g hF_s110 (zr (k := 13) (t2 := 76) hG ha rfl) (by decide)), (zFr_g hF_s36 (zr (k := 13) (t2 := 76) hG ha rfl) (by decide)), (zFr_g hF_s28 (zr (k := 13) (t2 := 76) hG ha rfl) (by decide))])
                                  have g2067 : s116 (gP G a 13) 1 = s7 (gP G a 13) 1 := (by rw [(zFr_g hF_s116 (zr (k := 13) (t2 := 76) hG ha rfl) (by decide)), (zFr_g hF_s110 (zr (k := 13) (t2 := 76) hG ha rfl) (by decide)), (zFr_g hF_s36 (zr (k := 13) (t2 := 76) hG ha rfl) (by decide)), (zFr_g hF_s28 (zr (k := 13) (t2 := 76) hG ha rfl) (by decide))])
                                  have g2068 : s116 (gP G a 13) 2 = s7 (gP G a 13) 2 := (by rw [(zFr_g hF_s116 (zr (k := 13) (t2 := 76) hG ha rfl) (by decide)), (zFr_g hF_s110 (zr (k := 13) (t2 := 76) hG ha rfl) (by decide)), (zFr_g hF_s36 (zr (k := 13) (t2 := 76) hG ha rfl) (by decide)), (zFr_g hF_s28 (zr (k := 13) (t2 := 76) hG ha rfl) (by decide))])
                                  have f2069 := zf hS_s116 ha (k := 0) rfl
                                  have f2070 := zf hS_s116 ha (k := 3) rfl
                                  have f2071 := zf hS_s116 ha (k := 4) rfl
                                  have f2072 := zf hS_s116 ha (k := 7) rfl
                                  have f2073 := zf hS_s116 ha (k := 22) rfl
                                  have f2074 := zf hS_s116 ha (k := 23) rfl
                                  have f2075 := zf hS_s116 ha (k := 38) rfl
                                  have f2076 := zf hS_s116 ha (k := 51) rfl
                                  have f2077 := zf hS_s116 ha (k := 52) rfl
                                  refine j_callV hx hG (c_X12_sets hst a) lk_RX12_131 ha (by decide) rfl rfl rfl rfl [] ⟨rfl, hG, hS_s116, ha, (by omega), ((zQn_nn hP2065 (by omega)))⟩ rfl rfl ⟨by decide, by decide⟩ ⟨by decide, by decide⟩ (k2 := 0) (n2 := 0) rfl rfl (Nat.le_of_ble_eq_true rfl) dX12_table_205 (kVM (fun s117 hS_s117 hF_s117 q2079 => ?_))
                                  refine j_iload_n hx 0 dX12_table_208 rfl ?_
                                  have f2080 := zf hS_s117 ha (k := 38) rfl
                                  have f2081 := zf hS_s117 ha (k := 51) rfl
                                  have f2082 := zf hS_s117 ha (k := 52) rfl
                                  exact j_iret hx hq rfl (by decide) (by decide) dX12_table_209 ⟨v2053, rfl, rfl, hS_s117, (zFr_t (zFr_t (zFr_t (zFr_t (zFr_t (zFr_t (zFr_t (zFr_t (zFr_u zFr_rf e_s1 ha (by decide)) hF_s4 (by decide)) hF_s5 (by decide)) hF_s7 (by decide)) hF_s28 (by decide)) hF_s36 (by decide)) hF_s110 (by decide)) hF_s116 (by decide)) hF_s117 (by decide)), ⟨(by omega), by omega, by omega, by omega, by omega, q2079.2.2.2.2.2.1, (zQn_nn q2079.2.2.2.2.1 (by omega)), by omega, by omega, by omega⟩⟩
                              · skip
                                refine j_aload_n hx 1 dX12_table_178 rfl ?_
                                refine j_iconst hx dX12_table_179 ?_
                                refine j_aload_n hx 1 dX12_table_180 rfl ?_
                                have f2083 := zf hS_s110 ha (k := 3) rfl
                                refine g13_3 hx hG ha kf_RX12_146 rfl dX12_table_181 ?_
                                have f2084 := zf hS_s110 ha (k := 0) rfl
                                have f2085 := zf hS_s110 ha (k := 4) rfl
                                have f2086 := zf hS_s110 ha (k := 7) rfl
                                have f2087 := zf hS_s110 ha (k := 22) rfl
                                have f2088 := zf hS_s110 ha (k := 23) rfl
                                have f2089 := zf hS_s110 ha (k := 24) rfl
                                have f2090 := zf hS_s110 ha (k := 38) rfl
                                have f2091 := zf hS_s110 ha (k := 51) rfl
                                have f2092 := zf hS_s110 ha (k := 52) rfl
                                refine j_callV hx hG (c_X12_wrong hst a 4 ((s110 a 3))) lk_RX12_173 ha (by decide) rfl rfl rfl rfl [.int (zI 4), .int (zI ((s110 a 3)))] ⟨rfl, hG, hS_s110, ha, (by omega), (by omega)⟩ rfl rfl ⟨by decide, by decide⟩ ⟨by decide, by decide⟩ (k2 := 0) (n2 := 0) rfl rfl (Nat.le_of_ble_eq_true rfl) dX12_table_184 (kVM (fun s118 hS_s118 hF_s118 q2094 => ?_))
                                refine j_aload_n hx 1 dX12_table_187 rfl ?_
                                refine j_aload_n hx 1 dX12_table_188 rfl ?_
                                have f2095 := zf hS_s118 ha (k := 21) rfl
                                refine g13_21 hx hG ha kf_RX12_180 rfl dX12_table_189 ?_
                                have f2096 := zf hS_s118 ha (k := 0) rfl
                                have f2097 := zf hS_s118 ha (k := 3) rfl
                                have f2098 := zf hS_s118 ha (k := 4) rfl
                                have f2099 := zf hS_s118 ha (k := 5) rfl
                                have f2100 := zf hS_s118 ha (k := 7) rfl
                                have f2101 := zf hS_s118 ha (k := 22) rfl
                                have f2102 := zf hS_s118 ha (k := 23) rfl
                                have f2103 := zf hS_s118 ha (k := 24) rfl
                                have f2104 := zf hS_s118 ha (k := 38) rfl
                                have f2105 := zf hS_s118 ha (k := 51) rfl
                                have f2106 := zf hS_s118 ha (k := 52) rfl
                                refine j_callV hx hG (c_X12_result hst a ((s118 a 21))) lk_RX12_265 ha (by decide) rfl rfl rfl rfl [.int (zI ((s118 a 21)))] ⟨rfl, hG, hS_s118, ha, (by omega)⟩ rfl rfl ⟨by decide, by decide⟩ ⟨by decide, by decide⟩ (k2 := 0) (n2 := 0) rfl rfl (Nat.le_of_ble_eq_true rfl) dX12_table_192 (kIM (fun v2107 s119 hS_s119 hF_s119 q2108 => ?_))
                                refine j_istore_n hx [(3, .int (zI v2107)), (0, .ref a), (2, .int (zI v99))] dX12_table_195 (by decide) rfl ?_
                                refine j_aload_n hx 1 dX12_table_196 rfl ?_
                                have f2109 := zf hS_s119 ha (k := 5) rfl
                                refine g13_5 hx hG ha kf_RX12_137 rfl dX12_table_197 ?_
                                refine j_iconst hx dX12_table_200 ?_
                                refine j_icmp_ne hx 208 dX12_table_201 rfl (by omega) ⟨by decide, by decide⟩ (fun h2110 => ?_) (fun h2110 => ?_)
                                · skip
                                  refine j_iload_n hx 0 dX12_table_208 rfl ?_
                                  have g2111 : zc (s119 (gP G a 27)) = zc (s0 (gP G a 27)) := by rw [(zFr_g hF_s119 (zr (k := 27) (t2 := 84) hG ha rfl) (by decide)), (zFr_g hF_s118 (zr (k := 27) (t2 := 84) hG ha rfl) (by decide)), (zFr_g hF_s110 (zr (k := 27) (t2 := 84) hG ha rfl) (by decide)), (zFr_g hF_s36 (zr (k := 27) (t2 := 84) hG ha rfl) (by decide)), (zFr_g hF_s28 (zr (k := 27) (t2 := 84) hG ha rfl) (by decide)), (zFr_g hF_s7 (zr (k := 27) (t2 := 84) hG ha rfl) (by decide)), (zFr_g hF_s5 (zr (k := 27) (t2 := 84) hG ha rfl) (by decide)), (zFr_g hF_s4 (zr (k := 27) (t2 := 84) hG ha rfl) (by decide)), e_s1, zU_ne (zne (zr (k := 27) (t2 := 84) hG ha rfl) ha (by decide))]
                                  have g2112 : zc (s119 (gP G a 28)) = zc (s0 (gP G a 28)) := by rw [(zFr_g hF_s119 (zr (k := 28) (t2 := 85) hG ha rfl) (by decide)), (zFr_g hF_s118 (zr (k := 28) (t2 := 85) hG ha rfl) (by decide)), (zFr_g hF_s110 (zr (k := 28) (t2 := 85) hG ha rfl) (by decide)), (zFr_g hF_s36 (zr (k := 28) (t2 := 85) hG ha rfl) (by decide)), (zFr_g hF_s28 (zr (k := 28) (t2 := 85) hG ha rfl) (by decide)), (zFr_g hF_s7 (zr (k := 28) (t2 := 85) hG ha rfl) (by decide)), (zFr_g hF_s5 (zr (k := 28) (t2 := 85) hG ha rfl) (by decide)), (zFr_g hF_s4 (zr (k := 28) (t2 := 85) hG ha rfl) (by decide)), e_s1, zU_ne (zne (zr (k := 28) (t2 := 85) hG ha rfl) ha (by decide))]
                                  have g2113 : s119 (gP G a 27) 488 = s0 (gP G a 27) 488 := (by rw [(zFr_g hF_s119 (zr (k := 27) (t2 := 84) hG ha rfl) (by decide)), (zFr_g hF_s118 (zr (k := 27) (t2 := 84) hG ha rfl) (by decide)), (zFr_g hF_s110 (zr (k := 27) (t2 := 84) hG ha rfl) (by decide)), (zFr_g hF_s36 (zr (k := 27) (t2 := 84) hG ha rfl) (by decide)), (zFr_g hF_s28 (zr (k := 27) (t2 := 84) hG ha rfl) (by decide)), (zFr_g hF_s7 (zr (k := 27) (t2 := 84) hG ha rfl) (by decide)), (zFr_g hF_s5 (zr (k := 27) (t2 := 84) hG ha rfl) (by decide)), (zFr_g hF_s4 (zr (k := 27) (t2 := 84) hG ha rfl) (by decide)), e_s1, zU_at (Or.inl (zne ha (zr (k := 27) (t2 := 84) hG ha rfl) (by decide)))])
                                  have g2114 : s119 (gP G a 28) 488 = s0 (gP G a 28) 488 := (by rw [(zFr_g hF_s119 (zr (k := 28) (t2 := 85) hG ha rfl) (by decide)), (zFr_g hF_s118 (zr (k := 28) (t2 := 85) hG ha rfl) (by decide)), (zFr_g hF_s110 (zr (k := 28) (t2 := 85) hG ha rfl) (by decide)), (zFr_g hF_s36 (zr (k := 28) (t2 := 85) hG ha rfl) (by decide)), (zFr_g hF_s28 (zr (k := 28) (t2 := 85) hG ha rfl) (by decide)), (zFr_g hF_s7 (zr (k := 28) (t2 := 85) hG ha rfl) (by decide)), (zFr_g hF_s5 (zr (k := 28) (t2 := 85) hG ha rfl) (by decide)), (zFr_g hF_s4 (zr (k := 28) (t2 := 85) hG ha rfl) (by decide)), e_s1, zU_at (Or.inl (zne ha (zr (k := 28) (t2 := 85) hG ha rfl) (by decide)))])
                                  have f2115 := zf hS_s119 ha (k := 38) rfl
                                  have f2116 := zf hS_s119 ha (k := 51) rfl
                                  have f2117 := zf hS_s119 ha (k := 52) rfl
                                  exact j_iret hx hq rfl (by decide) (by decide) dX12_table_209 ⟨v2107, rfl, rfl, hS_s119, (zFr_t (zFr_t (zFr_t (zFr_t (zFr_t (zFr_t (zFr_t (zFr_t (zFr_u zFr_rf e_s1 ha (by decide)) hF_s4 (by decide)) hF_s5 (by decide)) hF_s7 (by decide)) hF_s28 (by decide)) hF_s36 (by decide)) hF_s110 (by decide)) hF_s118 (by decide)) hF_s119 (by decide)), ⟨(by omega), by omega, by omega, by omega, by omega, (by rw [(zFr_g hF_s119 (zr (k := 34) (t2 := 91) hG ha rfl) (by decide)), (zFr_g hF_s118 (zr (k := 34) (t2 := 91) hG ha rfl) (by decide)), (zFr_g hF_s110 (zr (k := 34) (t2 := 91) hG ha rfl) (by decide)), (zFr_g hF_s36 (zr (k := 34) (t2 := 91) hG ha rfl) (by decide)), (zFr_g hF_s28 (zr (k := 34) (t2 := 91) hG ha rfl) (by decide)), (zFr_g hF_s7 (zr (k := 34) (t2 := 91) hG ha rfl) (by decide)), (zFr_g hF_s5 (zr (k := 34) (t2 := 91) hG ha rfl) (by decide)), (zFr_g hF_s4 (zr (k := 34) (t2 := 91) hG ha rfl) (by decide)), e_s1, zU_ne (zne (zr (k := 34) (t2 := 91) hG ha rfl) ha (by decide)), (zFr_g hF_s119 (zr (k := 35) (t2 := 92) hG ha rfl) (by decide)), (zFr_g hF_s118 (zr (k := 35) (t2 := 92) hG ha rfl) (by decide)), (zFr_g hF_s110 (zr (k := 35) (t2 := 92) hG ha rfl) (by decide)), (zFr_g hF_s36 (zr (k := 35) (t2 := 92) hG ha rfl) (by decide)), (zFr_g hF_s28 (zr (k := 35) (t2 := 92) hG ha rfl) (by decide)), (zFr_g hF_s7 (zr (k := 35) (t2 := 92) hG ha rfl) (by decide)), (zFr_g hF_s5 (zr (k := 35) (t2 := 92) hG ha rfl) (by decide)), (zFr_g hF_s4 (zr (k := 35) (t2 := 92) hG ha rfl) (by decide)), e_s1, zU_ne (zne (zr (k := 35) (t2 := 92) hG ha rfl) ha (by decide)), (zFr_g hF_s119 (zr (k := 37) (t2 := 94) hG ha rfl) (by decide)), (zFr_g hF_s118 (zr (k := 37) (t2 := 94) hG ha rfl) (by decide)), (zFr_g hF_s110 (zr (k := 37) (t2 := 94) hG ha rfl) (by decide)), (zFr_g hF_s36 (zr (k := 37) (t2 := 94) hG ha rfl) (by decide)), (zFr_g hF_s28 (zr (k := 37) (t2 := 94) hG ha rfl) (by decide)), (zFr_g hF_s7 (zr (k := 37) (t2 := 94) hG ha rfl) (by decide)), (zFr_g hF_s5 (zr (k := 37) (t2 := 94) hG ha rfl) (by decide)), (zFr_g hF_s4 (zr (k := 37) (t2 := 94) hG ha rfl) (by decide)), e_s1, zU_ne (zne (zr (k := 37) (t2 := 94) hG ha rfl) ha (by decide))]; exact e2), (by rw [(zFr_g hF_s119 (zr (k := 17) (t2 := 80) hG ha rfl) (by decide)), (zFr_g hF_s118 (zr (k := 17) (t2 := 80) hG ha rfl) (by decide)), (zFr_g hF_s110 (zr (k := 17) (t2 := 80) hG ha rfl) (by decide)), (zFr_g hF_s36 (zr (k := 17) (t2 := 80) hG ha rfl) (by decide)), (zFr_g hF_s28 (zr (k := 17) (t2 := 80) hG ha rfl) (by decide)), (zFr_g hF_s7 (zr (k := 17) (t2 := 80) hG ha rfl) (by decide)), (zFr_g hF_s5 (zr (k := 17) (t2 := 80) hG ha rfl) (by decide)), (zFr_g hF_s4 (zr (k := 17) (t2 := 80) hG ha rfl) (by decide)), e_s1, zU_ne (zne (zr (k := 17) (t2 := 80) hG ha rfl) ha (by decide))]; exact (zQn_nn e3 (by omega))), by omega, by omega, by omega⟩⟩
                                · skip
                                  refine j_aload_n hx 1 dX12_table_204 rfl ?_
                                  have f2118 := zf hS_s119 ha (k := 21) rfl
                                  have hP2119 : zQn (s119 (gP G a 10)) (s119 a 21) := ((by rw [(zFr_g hF_s119 (zr (k := 10) (t2 := 73) hG ha rfl) (by decide)), (zFr_g hF_s118 (zr (k := 10) (t2 := 73) hG ha rfl) (by decide)), (zFr_g hF_s110 (zr (k := 10) (t2 := 73) hG ha rfl) (by decide)), (zFr_g hF_s36 (zr (k := 10) (t2 := 73) hG ha rfl) (by decide)), (zFr_g hF_s28 (zr (k := 10) (t2 := 73) hG ha rfl) (by decide))]; exact (zQi_k fA18 (by omega) (by omega))) (by omega))
                                  have g2120 : s119 (gP G a 13) 0 = s7 (gP G a 13) 0 := (by rw [(zFr_g hF_s119 (zr (k := 13) (t2 := 76) hG ha rfl) (by decide)), (zFr_g hF_s118 (zr (k := 13) (t2 := 76) hG ha rfl) (by decide)), (zFr_g hF_s110 (zr (k := 13) (t2 := 76) hG ha rfl) (by decide)), (zFr_g hF_s36 (zr (k := 13) (t2 := 76) hG ha rfl) (by decide)), (zFr_g hF_s28 (zr (k := 13) (t2 := 76) hG ha rfl) (by decide))])
                                  have g2121 : s119 (gP G a 13) 1 = s7 (gP G a 13) 1 := (by rw [(zFr_g hF_s119 (zr (k := 13) (t2 := 76) hG ha rfl) (by decide)), (zFr_g hF_s118 (zr (k := 13) (t2 := 76) hG ha rfl) (by decide)), (zFr_g hF_s110 (zr (k := 13) (t2 := 76) hG ha rfl) (by decide)), (zFr_g hF_s36 (zr (k := 13) (t2 := 76) hG ha rfl) (by decide)), (zFr_g hF_s28 (zr (k := 13) (t2 := 76) hG ha rfl) (by decide))])
                                  have g2122 : s119 (gP G a 13) 2 = s7 (gP G a 13) 2 := (by rw [(zFr_g hF_s119 (zr (k := 13) (t2 := 76) hG ha rfl) (by decide)), (zFr_g hF_s118 (zr (k := 13) (t2 := 76) hG ha rfl) (by decide)), (zFr_g hF_s110 (zr (k := 13) (t2 := 76) hG ha rfl) (by decide)), (zFr_g hF_s36 (zr (k := 13) (t2 := 76) hG ha rfl) (by decide)), (zFr_g hF_s28 (zr (k := 13) (t2 := 76) hG ha rfl) (by decide))])
                                  have f2123 := zf hS_s119 ha (k := 0) rfl
                                  have f2124 := zf hS_s119 ha (k := 3) rfl
                                  have f2125 := zf hS_s119 ha (k := 4) rfl
                                  have f2126 := zf hS_s119 ha (k := 7) rfl
                                  have f2127 := zf hS_s119 ha (k := 22) rfl
                                  have f2128 := zf hS_s119 ha (k := 23) rfl
                                  have f2129 := zf hS_s119 ha (k := 38) rfl
                                  have f2130 := zf hS_s119 ha (k := 51) rfl
                                  have f2131 := zf hS_s119 ha (k := 52) rfl
                                  refine j_callV hx hG (c_X12_sets hst a) lk_RX12_131 ha (by decide) rfl rfl rfl rfl [] ⟨rfl, hG, hS_s119, ha, (by omega), ((zQn_nn hP2119 (by omega)))⟩ rfl rfl ⟨by decide, by decide⟩ ⟨by decide, by decide⟩ (k2 := 0) (n2 := 0) rfl rfl (Nat.le_of_ble_eq_true rfl) dX12_table_205 (kVM (fun s120 hS_s120 hF_s120 q2133 => ?_))
                                  refine j_iload_n hx 0 dX12_table_208 rfl ?_
                                  have f2134 := zf hS_s120 ha (k := 38) rfl
                                  have f2135 := zf hS_s120 ha (k := 51) rfl
                                  have f2136 := zf hS_s120 ha (k := 52) rfl
                                  exact j_iret hx hq rfl (by decide) (by decide) dX12_table_209 ⟨v2107, rfl, rfl, hS_s120, (zFr_t (zFr_t (zFr_t (zFr_t (zFr_t (zFr_t (zFr_t (zFr_t (zFr_t (zFr_u zFr_rf e_s1 ha (by decide)) hF_s4 (by decide)) hF_s5 (by decide)) hF_s7 (by decide)) hF_s28 (by decide)) hF_s36 (by decide)) hF_s110 (by decide)) hF_s118 (by decide)) hF_s119 (by decide)) hF_s120 (by decide)), ⟨(by omega), by omega, by omega, by omega, by omega, q2133.2.2.2.2.2.1, (zQn_nn q2133.2.2.2.2.1 (by omega)), by omega, by omega, by omega⟩⟩
              · skip
                refine j_aload_n hx 1 dX12_table_70 rfl ?_
                refine j_iconst hx dX12_table_71 ?_
                refine j_aload_n hx 1 dX12_table_72 rfl ?_
                have f2137 := zf hS_s36 ha (k := 4) rfl
                refine g13_4 hx hG ha kf_RX12_143 rfl dX12_table_73 ?_
                have f2138 := zf hS_s36 ha (k := 0) rfl
                have f2139 := zf hS_s36 ha (k := 3) rfl
                have f2140 := zf hS_s36 ha (k := 7) rfl
                have f2141 := zf hS_s36 ha (k := 21) rfl
                have f2142 := zf hS_s36 ha (k := 22) rfl
                have f2143 := zf hS_s36 ha (k := 23) rfl
                have f2144 := zf hS_s36 ha (k := 24) rfl
                have f2145 := zf hS_s36 ha (k := 38) rfl
                have f2146 := zf hS_s36 ha (k := 51) rfl
                have f2147 := zf hS_s36 ha (k := 52) rfl
                refine j_callV hx hG (c_X12_wrong hst a 1 ((s36 a 4))) lk_RX12_173 ha (by decide) rfl rfl rfl rfl [.int (zI 1), .int (zI ((s36 a 4)))] ⟨rfl, hG, hS_s36, ha, (by omega), (by omega)⟩ rfl rfl ⟨by decide, by decide⟩ ⟨by decide, by decide⟩ (k2 := 0) (n2 := 0) rfl rfl (Nat.le_of_ble_eq_true rfl) dX12_table_76 (kVM (fun s121 hS_s121 hF_s121 q2149 => ?_))
                refine j_goto hx 132 dX12_table_79 rfl ?_
                refine j_aload_n hx 1 dX12_table_132 rfl ?_
                refine j_callV hx hG (c_X12_fine hst a) lk_RX12_166 ha (by decide) rfl rfl rfl rfl [] ⟨rfl, hG, hS_s121, ha⟩ rfl rfl ⟨by decide, by decide⟩ ⟨by decide, by decide⟩ (k2 := 0) (n2 := 0) rfl rfl (Nat.le_of_ble_eq_true rfl) dX12_table_133 (kIP (fun v2150 q2151 => ?_))
                refine j_if_ne hx 142 dX12_table_136 rfl (by omega) (fun h2152 => ?_) (fun h2152 => ?_)
                · skip
                  refine j_aload_n hx 1 dX12_table_142 rfl ?_
                  have f2153 := zf hS_s121 ha (k := 4) rfl
                  have f2154 := zf hS_s121 ha (k := 3) rfl
                  have g2155 : s121 (gP G a 9) (s121 a 4).toNat = s0 (gP G a 9) (s121 a 4).toNat := (by rw [(zFr_g hF_s121 (zr (k := 9) (t2 := 72) hG ha rfl) (by decide)), (zFr_g hF_s36 (zr (k := 9) (t2 := 72) hG ha rfl) (by decide)), (zFr_g hF_s28 (zr (k := 9) (t2 := 72) hG ha rfl) (by decide)), (zFr_g hF_s7 (zr (k := 9) (t2 := 72) hG ha rfl) (by decide)), (zFr_g hF_s5 (zr (k := 9) (t2 := 72) hG ha rfl) (by decide)), (zFr_g hF_s4 (zr (k := 9) (t2 := 72) hG ha rfl) (by decide)), e_s1, zU_at (Or.inl (zne ha (zr (k := 9) (t2 := 72) hG ha rfl) (by decide)))])
                  have f2156 := zf hS_s121 ha (k := 0) rfl
                  have f2157 := zf hS_s121 ha (k := 5) rfl
                  have f2158 := zf hS_s121 ha (k := 7) rfl
                  have f2159 := zf hS_s121 ha (k := 21) rfl
                  have f2160 := zf hS_s121 ha (k := 22) rfl
                  have f2161 := zf hS_s121 ha (k := 23) rfl
                  have f2162 := zf hS_s121 ha (k := 24) rfl
                  have f2163 := zf hS_s121 ha (k := 38) rfl
                  have f2164 := zf hS_s121 ha (k := 51) rfl
                  have f2165 := zf hS_s121 ha (k := 52) rfl
                  refine j_callV hx hG (c_X12_pass hst a) lk_RX12_256 ha (by decide) rfl rfl rfl rfl [] ⟨rfl, hG, hS_s121, ha⟩ rfl rfl ⟨by decide, by decide⟩ ⟨by decide, by decide⟩ (k2 := 0) (n2 := 0) rfl rfl (Nat.le_of_ble_eq_true rfl) dX12_table_143 (kVM (fun s122 hS_s122 hF_s122 q2167 => ?_))
                  refine j_aload_n hx 1 dX12_table_146 rfl ?_
                  refine j_iload_n hx 0 dX12_table_147 rfl ?_
                  have g2168 : s122 (gP G a 13) 0 = s7 (gP G a 13) 0 := (by rw [(zFr_g hF_s122 (zr (k := 13) (t2 := 76) hG ha rfl) (by decide)), (zFr_g hF_s121 (zr (k := 13) (t2 := 76) hG ha rfl) (by decide)), (zFr_g hF_s36 (zr (k := 13) (t2 := 76) hG ha rfl) (by decide)), (zFr_g hF_s28 (zr (k := 13) (t2 := 76) hG ha rfl) (by decide))])
                  have g2169 : s122 (gP G a 13) 1 = s7 (gP G a 13) 1 := (by rw [(zFr_g hF_s122 (zr (k := 13) (t2 := 76) hG ha rfl) (by decide)), (zFr_g hF_s121 (zr (k := 13) (t2 := 76) hG ha rfl) (by decide)), (zFr_g hF_s36 (zr (k := 13) (t2 := 76) hG ha rfl) (by decide)), (zFr_g hF_s28 (zr (k := 13) (t2 := 76) hG ha rfl) (by decide))])
                  have g2170 : s122 (gP G a 13) 2 = s7 (gP G a 13) 2 := (by rw [(zFr_g hF_s122 (zr (k := 13) (t2 := 76) hG ha rfl) (by decide)), (zFr_g hF_s121 (zr (k := 13) (t2 := 76) hG ha rfl) (by decide)), (zFr_g hF_s36 (zr (k := 13) (t2 := 76) hG ha rfl) (by decide)), (zFr_g hF_s28 (zr (k := 13) (t2 := 76) hG ha rfl) (by decide))])
                  have f2171 := zf hS_s122 ha (k := 22) rfl
                  have f2172 := zf hS_s122 ha (k := 21) rfl
                  have f2173 := zf hS_s122 ha (k := 23) rfl
                  have f2174 := zf hS_s122 ha (k := 4) rfl
                  have f2175 := zf hS_s122 ha (k := 5) rfl
                  have f2176 := zf hS_s122 ha (k := 3) rfl
                  have f2177 := zf hS_s122 ha (k := 0) rfl
                  have f2178 := zf hS_s122 ha (k := 7) rfl
                  have f2179 := zf hS_s122 ha (k := 24) rfl
                  have f2180 := zf hS_s122 ha (k := 38) rfl
                  have f2181 := zf hS_s122 ha (k := 51) rfl
                  have f2182 := zf hS_s122 ha (k := 52) rfl
                  refine j_callV hx hG (c_X12_readClause hst a v422) lk_RX12_259 ha (by decide) rfl rfl rfl rfl [.int (zI v422)] ⟨rfl, hG, hS_s122, ha, (by omega), ((by rw [(zFr_g hF_s122 (zr (k := 10) (t2 := 73) hG ha rfl) (by decide)), (zFr_g hF_s121 (zr (k := 10) (t2 := 73) hG ha rfl) (by decide)), (zFr_g hF_s36 (zr (k := 10) (t2 := 73) hG ha rfl) (by decide)), (zFr_g hF_s28 (zr (k := 10) (t2 := 73) hG ha rfl) (by decide))]; exact (zQi_k fA18 (by omega) (by omega)))), (by omega), (by omega), (by omega)⟩ rfl rfl ⟨by decide, by decide⟩ ⟨by decide, by decide⟩ (k2 := 0) (n2 := 0) rfl rfl (Nat.le_of_ble_eq_true rfl) dX12_table_148 (kVM (fun s123 hS_s123 hF_s123 q2184 => ?_))
                  refine j_aload_n hx 1 dX12_table_151 rfl ?_
                  refine j_bipush hx dX12_table_152 rfl ?_
                  have f2185 := zf hS_s123 ha (k := 4) rfl
                  have f2186 := zf hS_s123 ha (k := 5) rfl
                  have f2187 := zf hS_s123 ha (k := 3) rfl
                  have f2188 := zf hS_s123 ha (k := 0) rfl
                  have f2189 := zf hS_s123 ha (k := 7) rfl
                  have f2190 := zf hS_s123 ha (k := 21) rfl
                  have f2191 := zf hS_s123 ha (k := 22) rfl
                  have f2192 := zf hS_s123 ha (k := 23) rfl
                  have f2193 := zf hS_s123 ha (k := 24) rfl
                  have f2194 := zf hS_s123 ha (k := 38) rfl
                  have f2195 := zf hS_s123 ha (k := 51) rfl
                  have f2196 := zf hS_s123 ha (k := 52) rfl
                  refine j_callV hx hG (c_X12_sign hst a 59) lk_RX12_262 ha (by decide) rfl rfl rfl rfl [.int (zI 59)] ⟨rfl, hG, hS_s123, ha, (by omega)⟩ rfl rfl ⟨by decide, by decide⟩ ⟨by decide, by decide⟩ (k2 := 0) (n2 := 0) rfl rfl (Nat.le_of_ble_eq_true rfl) dX12_table_154 (kVM (fun s124 hS_s124 hF_s124 q2198 => ?_))
                  refine j_iincN hx 2 (fun v2199 => [(2, .int (zI v2199)), (3, .int (zI v422)), (0, .ref a)]) dX12_table_157 rfl (by decide) (fun _ => rfl) (fun v2199 f2200 f2201 f2202 => ?_)
                  refine j_goto hx 44 dX12_table_160 rfl ?_
                  have f2203 := zf hS_s124 ha (k := 4) rfl
                  have f2204 := zf hS_s124 ha (k := 5) rfl
                  have f2205 := zf hS_s124 ha (k := 0) rfl
                  have f2206 := zf hS_s124 ha (k := 3) rfl
                  have f2207 := zf hS_s124 ha (k := 7) rfl
                  have f2208 := zf hS_s124 ha (k := 24) rfl
                  have f2209 := zf hS_s124 ha (k := 38) rfl
                  have f2210 := zf hS_s124 ha (k := 51) rfl
                  have f2211 := zf hS_s124 ha (k := 52) rfl
                  have g2212 : s124 (gP G a 13) 0 = s123 (gP G a 13) 0 := (by rw [(zFr_g hF_s124 (zr (k := 13) (t2 := 76) hG ha rfl) (by decide))])
                  have g2213 : s124 (gP G a 13) 1 = s123 (gP G a 13) 1 := (by rw [(zFr_g hF_s124 (zr (k := 13) (t2 := 76) hG ha rfl) (by decide))])
                  have g2214 : s124 (gP G a 13) 2 = s123 (gP G a 13) 2 := (by rw [(zFr_g hF_s124 (zr (k := 13) (t2 := 76) hG ha rfl) (by decide))])
                  have f2215 := zf hS_s124 ha (k := 22) rfl
                  exact j_sub [2, 0] [(0, .ref a), (2, .int (zI v2199))] rfl (ih_c44_6 v2199 s124 (by omega) (by omega) hS_s124 (zFr_t (zFr_t (zFr_t (zFr_t (zFr_t (zFr_t (zFr_t zFr_rf hF_s7 (by decide)) hF_s28 (by decide)) hF_s36 (by decide)) hF_s121 (by decide)) hF_s122 (by decide)) hF_s123 (by decide)) hF_s124 (by decide)) (by omega) (by omega) (by omega) (by omega) (by omega) (by omega) (by omega) (by rw [(zFr_g hF_s124 (zr (k := 10) (t2 := 73) hG ha rfl) (by decide))]; exact (zQi_k q2184.2.2.1 (by omega) (by omega))) (by omega) (by omega))
                · skip
                  refine j_goto hx 163 dX12_table_139 rfl ?_
                  refine j_aload_n hx 1 dX12_table_163 rfl ?_
                  refine j_callV hx hG (c_X12_fine hst a) lk_RX12_166 ha (by decide) rfl rfl rfl rfl [] ⟨rfl, hG, hS_s121, ha⟩ rfl rfl ⟨by decide, by decide⟩ ⟨by decide, by decide⟩ (k2 := 0) (n2 := 0) rfl rfl (Nat.le_of_ble_eq_true rfl) dX12_table_164 (kIP (fun v2216 q2217 => ?_))
                  refine j_if_eq hx 187 dX12_table_167 rfl (by omega) (fun h2218 => ?_) (fun h2218 => ?_)
                  · skip
                    refine j_aload_n hx 1 dX12_table_187 rfl ?_
                    refine j_aload_n hx 1 dX12_table_188 rfl ?_
                    have f2219 := zf hS_s121 ha (k := 21) rfl
                    refine g13_21 hx hG ha kf_RX12_180 rfl dX12_table_189 ?_
                    have f2220 := zf hS_s121 ha (k := 0) rfl
                    have f2221 := zf hS_s121 ha (k := 3) rfl
                    have f2222 := zf hS_s121 ha (k := 4) rfl
                    have f2223 := zf hS_s121 ha (k := 5) rfl
                    have f2224 := zf hS_s121 ha (k := 7) rfl
                    have f2225 := zf hS_s121 ha (k := 22) rfl
                    have f2226 := zf hS_s121 ha (k := 23) rfl
                    have f2227 := zf hS_s121 ha (k := 24) rfl
                    have f2228 := zf hS_s121 ha (k := 38) rfl
                    have f2229 := zf hS_s121 ha (k := 51) rfl
                    have f2230 := zf hS_s121 ha (k := 52) rfl
                    refine j_callV hx hG (c_X12_result hst a ((s121 a 21))) lk_RX12_265 ha (by decide) rfl rfl rfl rfl [.int (zI ((s121 a 21)))] ⟨rfl, hG, hS_s121, ha, (by omega)⟩ rfl rfl ⟨by decide, by decide⟩ ⟨by decide, by decide⟩ (k2 := 0) (n2 := 0) rfl rfl (Nat.le_of_ble_eq_true rfl) dX12_table_192 (kIM (fun v2231 s125 hS_s125 hF_s125 q2232 => ?_))
                    refine j_istore_n hx [(3, .int (zI v2231)), (0, .ref a), (2, .int (zI v99))] dX12_table_195 (by decide) rfl ?_
                    refine j_aload_n hx 1 dX12_table_196 rfl ?_
                    have f2233 := zf hS_s125 ha (k := 5) rfl
                    refine g13_5 hx hG ha kf_RX12_137 rfl dX12_table_197 ?_
                    refine j_iconst hx dX12_table_200 ?_
                    refine j_icmp_ne hx 208 dX12_table_201 rfl (by omega) ⟨by decide, by decide⟩ (fun h2234 => ?_) (fun h2234 => ?_)
                    · skip
                      refine j_iload_n hx 0 dX12_table_208 rfl ?_
                      have g2235 : zc (s125 (gP G a 27)) = zc (s0 (gP G a 27)) := by rw [(zFr_g hF_s125 (zr (k := 27) (t2 := 84) hG ha rfl) (by decide)), (zFr_g hF_s121 (zr (k := 27) (t2 := 84) hG ha rfl) (by decide)), (zFr_g hF_s36 (zr (k := 27) (t2 := 84) hG ha rfl) (by decide)), (zFr_g hF_s28 (zr (k := 27) (t2 := 84) hG ha rfl) (by decide)), (zFr_g hF_s7 (zr (k := 27) (t2 := 84) hG ha rfl) (by decide)), (zFr_g hF_s5 (zr (k := 27) (t2 := 84) hG ha rfl) (by decide)), (zFr_g hF_s4 (zr (k := 27) (t2 := 84) hG ha rfl) (by decide)), e_s1, zU_ne (zne (zr (k := 27) (t2 := 84) hG ha rfl) ha (by decide))]
                      have g2236 : zc (s125 (gP G a 28)) = zc (s0 (gP G a 28)) := by rw [(zFr_g hF_s125 (zr (k := 28) (t2 := 85) hG ha rfl) (by decide)), (zFr_g hF_s121 (zr (k := 28) (t2 := 85) hG ha rfl) (by decide)), (zFr_g hF_s36 (zr (k := 28) (t2 := 85) hG ha rfl) (by decide)), (zFr_g hF_s28 (zr (k := 28) (t2 := 85) hG ha rfl) (by decide)), (zFr_g hF_s7 (zr (k := 28) (t2 := 85) hG ha rfl) (by decide)), (zFr_g hF_s5 (zr (k := 28) (t2 := 85) hG ha rfl) (by decide)), (zFr_g hF_s4 (zr (k := 28) (t2 := 85) hG ha rfl) (by decide)), e_s1, zU_ne (zne (zr (k := 28) (t2 := 85) hG ha rfl) ha (by decide))]
                      have g2237 : s125 (gP G a 27) 488 = s0 (gP G a 27) 488 := (by rw [(zFr_g hF_s125 (zr (k := 27) (t2 := 84) hG ha rfl) (by decide)), (zFr_g hF_s121 (zr (k := 27) (t2 := 84) hG ha rfl) (by decide)), (zFr_g hF_s36 (zr (k := 27) (t2 := 84) hG ha rfl) (by decide)), (zFr_g hF_s28 (zr (k := 27) (t2 := 84) hG ha rfl) (by decide)), (zFr_g hF_s7 (zr (k := 27) (t2 := 84) hG ha rfl) (by decide)), (zFr_g hF_s5 (zr (k := 27) (t2 := 84) hG ha rfl) (by decide)), (zFr_g hF_s4 (zr (k := 27) (t2 := 84) hG ha rfl) (by decide)), e_s1, zU_at (Or.inl (zne ha (zr (k := 27) (t2 := 84) hG ha rfl) (by decide)))])
                      have g2238 : s125 (gP G a 28) 488 = s0 (gP G a 28) 488 := (by rw [(zFr_g hF_s125 (zr (k := 28) (t2 := 85) hG ha rfl) (by decide)), (zFr_g hF_s121 (zr (k := 28) (t2 := 85) hG ha rfl) (by decide)), (zFr_g hF_s36 (zr (k := 28) (t2 := 85) hG ha rfl) (by decide)), (zFr_g hF_s28 (zr (k := 28) (t2 := 85) hG ha rfl) (by decide)), (zFr_g hF_s7 (zr (k := 28) (t2 := 85) hG ha rfl) (by decide)), (zFr_g hF_s5 (zr (k := 28) (t2 := 85) hG ha rfl) (by decide)), (zFr_g hF_s4 (zr (k := 28) (t2 := 85) hG ha rfl) (by decide)), e_s1, zU_at (Or.inl (zne ha (zr (k := 28) (t2 := 85) hG ha rfl) (by decide)))])
                      have f2239 := zf hS_s125 ha (k := 38) rfl
                      have f2240 := zf hS_s125 ha (k := 51) rfl
                      have f2241 := zf hS_s125 ha (k := 52) rfl
                      exact j_iret hx hq rfl (by decide) (by decide) dX12_table_209 ⟨v2231, rfl, rfl, hS_s125, (zFr_t (zFr_t (zFr_t (zFr_t (zFr_t (zFr_t (zFr_t (zFr_u zFr_rf e_s1 ha (by decide)) hF_s4 (by decide)) hF_s5 (by decide)) hF_s7 (by decide)) hF_s28 (by decide)) hF_s36 (by decide)) hF_s121 (by decide)) hF_s125 (by decide)), ⟨(by omega), by omega, by omega, by omega, by omega, (by rw [(zFr_g hF_s125 (zr (k := 34) (t2 := 91) hG ha rfl) (by decide)), (zFr_g hF_s121 (zr (k := 34) (t2 := 91) hG ha rfl) (by decide)), (zFr_g hF_s36 (zr (k := 34) (t2 := 91) hG ha rfl) (by decide)), (zFr_g hF_s28 (zr (k := 34) (t2 := 91) hG ha rfl) (by decide)), (zFr_g hF_s7 (zr (k := 34) (t2 := 91) hG ha rfl) (by decide)), (zFr_g hF_s5 (zr (k := 34) (t2 := 91) hG ha rfl) (by decide)), (zFr_g hF_s4 (zr (k := 34) (t2 := 91) hG ha rfl) (by decide)), e_s1, zU_ne (zne (zr (k := 34) (t2 := 91) hG ha rfl) ha (by decide)), (zFr_g hF_s125 (zr (k := 35) (t2 := 92) hG ha rfl) (by decide)), (zFr_g hF_s121 (zr (k := 35) (t2 := 92) hG ha rfl) (by decide)), (zFr_g hF_s36 (zr (k := 35) (t2 := 92) hG ha rfl) (by decide)), (zFr_g hF_s28 (zr (k := 35) (t2 := 92) hG ha rfl) (by decide)), (zFr_g hF_s7 (zr (k := 35) (t2 := 92) hG ha rfl) (by decide)), (zFr_g hF_s5 (zr (k := 35) (t2 := 92) hG ha rfl) (by decide)), (zFr_g hF_s4 (zr (k := 35) (t2 := 92) hG ha rfl) (by decide)), e_s1, zU_ne (zne (zr (k := 35) (t2 := 92) hG ha rfl) ha (by decide)), (zFr_g hF_s125 (zr (k := 37) (t2 := 94) hG ha rfl) (by decide)), (zFr_g hF_s121 (zr (k := 37) (t2 := 94) hG ha rfl) (by decide)), (zFr_g hF_s36 (zr (k := 37) (t2 := 94) hG ha rfl) (by decide)), (zFr_g hF_s28 (zr (k := 37) (t2 := 94) hG ha rfl) (by decide)), (zFr_g hF_s7 (zr (k := 37) (t2 := 94) hG ha rfl) (by decide)), (zFr_g hF_s5 (zr (k := 37) (t2 := 94) hG ha rfl) (by decide)), (zFr_g hF_s4 (zr (k := 37) (t2 := 94) hG ha rfl) (by decide)), e_s1, zU_ne (zne (zr (k := 37) (t2 := 94) hG ha rfl) ha (by decide))]; exact e2), (by rw [(zFr_g hF_s125 (zr (k := 17) (t2 := 80) hG ha rfl) (by decide)), (zFr_g hF_s121 (zr (k := 17) (t2 := 80) hG ha rfl) (by decide)), (zFr_g hF_s36 (zr (k := 17) (t2 := 80) hG ha rfl) (by decide)), (zFr_g hF_s28 (zr (k := 17) (t2 := 80) hG ha rfl) (by decide)), (zFr_g hF_s7 (zr (k := 17) (t2 := 80) hG ha rfl) (by decide)), (zFr_g hF_s5 (zr (k := 17) (t2 := 80) hG ha rfl) (by decide)), (zFr_g hF_s4 (zr (k := 17) (t2 := 80) hG ha rfl) (by decide)), e_s1, zU_ne (zne (zr (k := 17) (t2 := 80) hG ha rfl) ha (by decide))]; exact (zQn_nn e3 (by omega))), by omega, by omega, by omega⟩⟩
                    · skip
                      refine j_aload_n hx 1 dX12_table_204 rfl ?_
                      have f2242 := zf hS_s125 ha (k := 21) rfl
                      have hP2243 : zQn (s125 (gP G a 10)) (s125 a 21) := ((by rw [(zFr_g hF_s125 (zr (k := 10) (t2 := 73) hG ha rfl) (by decide)), (zFr_g hF_s121 (zr (k := 10) (t2 := 73) hG ha rfl) (by decide)), (zFr_g hF_s36 (zr (k := 10) (t2 := 73) hG ha rfl) (by decide)), (zFr_g hF_s28 (zr (k := 10) (t2 := 73) hG ha rfl) (by decide))]; exact (zQi_k fA18 (by omega) (by omega))) (by omega))
                      have g2244 : s125 (gP G a 13) 0 = s7 (gP G a 13) 0 := (by rw [(zFr_g hF_s125 (zr (k := 13) (t2 := 76) hG ha rfl) (by decide)), (zFr_g hF_s121 (zr (k := 13) (t2 := 76) hG ha rfl) (by decide)), (zFr_g hF_s36 (zr (k := 13) (t2 := 76) hG ha rfl) (by decide)), (zFr_g hF_s28 (zr (k := 13) (t2 := 76) hG ha rfl) (by decide))])
                      have g2245 : s125 (gP G a 13) 1 = s7 (gP G a 13) 1 := (by rw [(zFr_g hF_s125 (zr (k := 13) (t2 := 76) hG ha rfl) (by decide)), (zFr_g hF_s121 (zr (k := 13) (t2 := 76) hG ha rfl) (by decide)), (zFr_g hF_s36 (zr (k := 13) (t2 := 76) hG ha rfl) (by decide)), (zFr_g hF_s28 (zr (k := 13) (t2 := 76) hG ha rfl) (by decide))])
                      have g2246 : s125 (gP G a 13) 2 = s7 (gP G a 13) 2 := (by rw [(zFr_g hF_s125 (zr (k := 13) (t2 := 76) hG ha rfl) (by decide)), (zFr_g hF_s121 (zr (k := 13) (t2 := 76) hG ha rfl) (by decide)), (zFr_g hF_s36 (zr (k := 13) (t2 := 76) hG ha rfl) (by decide)), (zFr_g hF_s28 (zr (k := 13) (t2 := 76) hG ha rfl) (by decide))])
                      have f2247 := zf hS_s125 ha (k := 0) rfl
                      have f2248 := zf hS_s125 ha (k := 3) rfl
                      have f2249 := zf hS_s125 ha (k := 4) rfl
                      have f2250 := zf hS_s125 ha (k := 7) rfl
                      have f2251 := zf hS_s125 ha (k := 22) rfl
                      have f2252 := zf hS_s125 ha (k := 23) rfl
                      have f2253 := zf hS_s125 ha (k := 38) rfl
                      have f2254 := zf hS_s125 ha (k := 51) rfl
                      have f2255 := zf hS_s125 ha (k := 52) rfl
                      refine j_callV hx hG (c_X12_sets hst a) lk_RX12_131 ha (by decide) rfl rfl rfl rfl [] ⟨rfl, hG, hS_s125, ha, (by omega), ((zQn_nn hP2243 (by omega)))⟩ rfl rfl ⟨by decide, by decide⟩ ⟨by decide, by decide⟩ (k2 := 0) (n2 := 0) rfl rfl (Nat.le_of_ble_eq_true rfl) dX12_table_205 (kVM (fun s126 hS_s126 hF_s126 q2257 => ?_))
                      refine j_iload_n hx 0 dX12_table_208 rfl ?_
                      have f2258 := zf hS_s126 ha (k := 38) rfl
                      have f2259 := zf hS_s126 ha (k := 51) rfl
                      have f2260 := zf hS_s126 ha (k := 52) rfl
                      exact j_iret hx hq rfl (by decide) (by decide) dX12_table_209 ⟨v2231, rfl, rfl, hS_s126, (zFr_t (zFr_t (zFr_t (zFr_t (zFr_t (zFr_t (zFr_t (zFr_t (zFr_u zFr_rf e_s1 ha (by decide)) hF_s4 (by decide)) hF_s5 (by decide)) hF_s7 (by decide)) hF_s28 (by decide)) hF_s36 (by decide)) hF_s121 (by decide)) hF_s125 (by decide)) hF_s126 (by decide)), ⟨(by omega), by omega, by omega, by omega, by omega, q2257.2.2.2.2.2.1, (zQn_nn q2257.2.2.2.2.1 (by omega)), by omega, by omega, by omega⟩⟩
                  · skip
                    refine j_aload_n hx 1 dX12_table_170 rfl ?_
                    have f2261 := zf hS_s121 ha (k := 21) rfl
                    refine g13_21 hx hG ha kf_RX12_180 rfl dX12_table_171 ?_
                    refine j_iconst hx dX12_table_174 ?_
                    refine j_icmp_ge hx 187 dX12_table_175 rfl (by omega) ⟨by decide, by decide⟩ (fun h2262 => ?_) (fun h2262 => ?_)
                    · skip
                      refine j_aload_n hx 1 dX12_table_187 rfl ?_
                      refine j_aload_n hx 1 dX12_table_188 rfl ?_
                      refine g13_21 hx hG ha kf_RX12_180 rfl dX12_table_189 ?_
                      have f2263 := zf hS_s121 ha (k := 0) rfl
                      have f2264 := zf hS_s121 ha (k := 3) rfl
                      have f2265 := zf hS_s121 ha (k := 4) rfl
                      have f2266 := zf hS_s121 ha (k := 5) rfl
                      have f2267 := zf hS_s121 ha (k := 7) rfl
                      have f2268 := zf hS_s121 ha (k := 22) rfl
                      have f2269 := zf hS_s121 ha (k := 23) rfl
                      have f2270 := zf hS_s121 ha (k := 24) rfl
                      have f2271 := zf hS_s121 ha (k := 38) rfl
                      have f2272 := zf hS_s121 ha (k := 51) rfl
                      have f2273 := zf hS_s121 ha (k := 52) rfl
                      refine j_callV hx hG (c_X12_result hst a ((s121 a 21))) lk_RX12_265 ha (by decide) rfl rfl rfl rfl [.int (zI ((s121 a 21)))] ⟨rfl, hG, hS_s121, ha, (by omega)⟩ rfl rfl ⟨by decide, by decide⟩ ⟨by decide, by decide⟩ (k2 := 0) (n2 := 0) rfl rfl (Nat.le_of_ble_eq_true rfl) dX12_table_192 (kIM (fun v2274 s127 hS_s127 hF_s127 q2275 => ?_))
                      refine j_istore_n hx [(3, .int (zI v2274)), (0, .ref a), (2, .int (zI v99))] dX12_table_195 (by decide) rfl ?_
                      refine j_aload_n hx 1 dX12_table_196 rfl ?_
                      have f2276 := zf hS_s127 ha (k := 5) rfl
                      refine g13_5 hx hG ha kf_RX12_137 rfl dX12_table_197 ?_
                      refine j_iconst hx dX12_table_200 ?_
                      refine j_icmp_ne hx 208 dX12_table_201 rfl (by omega) ⟨by decide, by decide⟩ (fun h2277 => ?_) (fun h2277 => ?_)
                      · skip
                        refine j_iload_n hx 0 dX12_table_208 rfl ?_
                        have g2278 : zc (s127 (gP G a 27)) = zc (s0 (gP G a 27)) := by rw [(zFr_g hF_s127 (zr (k := 27) (t2 := 84) hG ha rfl) (by decide)), (zFr_g hF_s121 (zr (k := 27) (t2 := 84) hG ha rfl) (by decide)), (zFr_g hF_s36 (zr (k := 27) (t2 := 84) hG ha rfl) (by decide)), (zFr_g hF_s28 (zr (k := 27) (t2 := 84) hG ha rfl) (by decide)), (zFr_g hF_s7 (zr (k := 27) (t2 := 84) hG ha rfl) (by decide)), (zFr_g hF_s5 (zr (k := 27) (t2 := 84) hG ha rfl) (by decide)), (zFr_g hF_s4 (zr (k := 27) (t2 := 84) hG ha rfl) (by decide)), e_s1, zU_ne (zne (zr (k := 27) (t2 := 84) hG ha rfl) ha (by decide))]
                        have g2279 : zc (s127 (gP G a 28)) = zc (s0 (gP G a 28)) := by rw [(zFr_g hF_s127 (zr (k := 28) (t2 := 85) hG ha rfl) (by decide)), (zFr_g hF_s121 (zr (k := 28) (t2 := 85) hG ha rfl) (by decide)), (zFr_g hF_s36 (zr (k := 28) (t2 := 85) hG ha rfl) (by decide)), (zFr_g hF_s28 (zr (k := 28) (t2 := 85) hG ha rfl) (by decide)), (zFr_g hF_s7 (zr (k := 28) (t2 := 85) hG ha rfl) (by decide)), (zFr_g hF_s5 (zr (k := 28) (t2 := 85) hG ha rfl) (by decide)), (zFr_g hF_s4 (zr (k := 28) (t2 := 85) hG ha rfl) (by decide)), e_s1, zU_ne (zne (zr (k := 28) (t2 := 85) hG ha rfl) ha (by decide))]
                        have g2280 : s127 (gP G a 27) 488 = s0 (gP G a 27) 488 := (by rw [(zFr_g hF_s127 (zr (k := 27) (t2 := 84) hG ha rfl) (by decide)), (zFr_g hF_s121 (zr (k := 27) (t2 := 84) hG ha rfl) (by decide)), (zFr_g hF_s36 (zr (k := 27) (t2 := 84) hG ha rfl) (by decide)), (zFr_g hF_s28 (zr (k := 27) (t2 := 84) hG ha rfl) (by decide)), (zFr_g hF_s7 (zr (k := 27) (t2 := 84) hG ha rfl) (by decide)), (zFr_g hF_s5 (zr (k := 27) (t2 := 84) hG ha rfl) (by decide)), (zFr_g hF_s4 (zr (k := 27) (t2 := 84) hG ha rfl) (by decide)), e_s1, zU_at (Or.inl (zne ha (zr (k := 27) (t2 := 84) hG ha rfl) (by decide)))])
                        have g2281 : s127 (gP G a 28) 488 = s0 (gP G a 28) 488 := (by rw [(zFr_g hF_s127 (zr (k := 28) (t2 := 85) hG ha rfl) (by decide)), (zFr_g hF_s121 (zr (k := 28) (t2 := 85) hG ha rfl) (by decide)), (zFr_g hF_s36 (zr (k := 28) (t2 := 85) hG ha rfl) (by decide)), (zFr_g hF_s28 (zr (k := 28) (t2 := 85) hG ha rfl) (by decide)), (zFr_g hF_s7 (zr (k := 28) (t2 := 85) hG ha rfl) (by decide)), (zFr_g hF_s5 (zr (k := 28) (t2 := 85) hG ha rfl) (by decide)), (zFr_g hF_s4 (zr (k := 28) (t2 := 85) hG ha rfl) (by decide)), e_s1, zU_at (Or.inl (zne ha (zr (k := 28) (t2 := 85) hG ha rfl) (by decide)))])
                        have f2282 := zf hS_s127 ha (k := 38) rfl
                        have f2283 := zf hS_s127 ha (k := 51) rfl
                        have f2284 := zf hS_s127 ha (k := 52) rfl
                        exact j_iret hx hq rfl (by decide) (by decide) dX12_table_209 ⟨v2274, rfl, rfl, hS_s127, (zFr_t (zFr_t (zFr_t (zFr_t (zFr_t (zFr_t (zFr_t (zFr_u zFr_rf e_s1 ha (by decide)) hF_s4 (by decide)) hF_s5 (by decide)) hF_s7 (by decide)) hF_s28 (by decide)) hF_s36 (by decide)) hF_s121 (by decide)) hF_s127 (by decide)), ⟨(by omega), by omega, by omega, by omega, by omega, (by rw [(zFr_g hF_s127 (zr (k := 34) (t2 := 91) hG ha rfl) (by decide)), (zFr_g hF_s121 (zr (k := 34) (t2 := 91) hG ha rfl) (by decide)), (zFr_g hF_s36 (zr (k := 34) (t2 := 91) hG ha rfl) (by decide)), (zFr_g hF_s28 (zr (k := 34) (t2 := 91) hG ha rfl) (by decide)), (zFr_g hF_s7 (zr (k := 34) (t2 := 91) hG ha rfl) (by decide)), (zFr_g hF_s5 (zr (k := 34) (t2 := 91) hG ha rfl) (by decide)), (zFr_g hF_s4 (zr (k := 34) (t2 := 91) hG ha rfl) (by decide)), e_s1, zU_ne (zne (zr (k := 34) (t2 := 91) hG ha rfl) ha (by decide)), (zFr_g hF_s127 (zr (k := 35) (t2 := 92) hG ha rfl) (by decide)), (zFr_g hF_s121 (zr (k := 35) (t2 := 92) hG ha rfl) (by decide)), (zFr_g hF_s36 (zr (k := 35) (t2 := 92) hG ha rfl) (by decide)), (zFr_g hF_s28 (zr (k := 35) (t2 := 92) hG ha rfl) (by decide)), (zFr_g hF_s7 (zr (k := 35) (t2 := 92) hG ha rfl) (by decide)), (zFr_g hF_s5 (zr (k := 35) (t2 := 92) hG ha rfl) (by decide)), (zFr_g hF_s4 (zr (k := 35) (t2 := 92) hG ha rfl) (by decide)), e_s1, zU_ne (zne (zr (k := 35) (t2 := 92) hG ha rfl) ha (by decide)), (zFr_g hF_s127 (zr (k := 37) (t2 := 94) hG ha rfl) (by decide)), (zFr_g hF_s121 (zr (k := 37) (t2 := 94) hG ha rfl) (by decide)), (zFr_g hF_s36 (zr (k := 37) (t2 := 94) hG ha rfl) (by decide)), (zFr_g hF_s28 (zr (k := 37) (t2 := 94) hG ha rfl) (by decide)), (zFr_g hF_s7 (zr (k := 37) (t2 := 94) hG ha rfl) (by decide)), (zFr_g hF_s5 (zr (k := 37) (t2 := 94) hG ha rfl) (by decide)), (zFr_g hF_s4 (zr (k := 37) (t2 := 94) hG ha rfl) (by decide)), e_s1, zU_ne (zne (zr (k := 37) (t2 := 94) hG ha rfl) ha (by decide))]; exact e2), (by rw [(zFr_g hF_s127 (zr (k := 17) (t2 := 80) hG ha rfl) (by decide)), (zFr_g hF_s121 (zr (k := 17) (t2 := 80) hG ha rfl) (by decide)), (zFr_g hF_s36 (zr (k := 17) (t2 := 80) hG ha rfl) (by decide)), (zFr_g hF_s28 (zr (k := 17) (t2 := 80) hG ha rfl) (by decide)), (zFr_g hF_s7 (zr (k := 17) (t2 := 80) hG ha rfl) (by decide)), (zFr_g hF_s5 (zr (k := 17) (t2 := 80) hG ha rfl) (by decide)), (zFr_g hF_s4 (zr (k := 17) (t2 := 80) hG ha rfl) (by decide)), e_s1, zU_ne (zne (zr (k := 17) (t2 := 80) hG ha rfl) ha (by decide))]; exact (zQn_nn e3 (by omega))), by omega, by omega, by omega⟩⟩
                      · skip
                        refine j_aload_n hx 1 dX12_table_204 rfl ?_
                        have f2285 := zf hS_s127 ha (k := 21) rfl
                        have hP2286 : zQn (s127 (gP G a 10)) (s127 a 21) := ((by rw [(zFr_g hF_s127 (zr (k := 10) (t2 := 73) hG ha rfl) (by decide)), (zFr_g hF_s121 (zr (k := 10) (t2 := 73) hG ha rfl) (by decide)), (zFr_g hF_s36 (zr (k := 10) (t2 := 73) hG ha rfl) (by decide)), (zFr_g hF_s28 (zr (k := 10) (t2 := 73) hG ha rfl) (by decide))]; exact (zQi_k fA18 (by omega) (by omega))) (by omega))
                        have g2287 : s127 (gP G a 13) 0 = s7 (gP G a 13) 0 := (by rw [(zFr_g hF_s127 (zr (k := 13) (t2 := 76) hG ha rfl) (by decide)), (zFr_g hF_s121 (zr (k := 13) (t2 := 76) hG ha rfl) (by decide)), (zFr_g hF_s36 (zr (k := 13) (t2 := 76) hG ha rfl) (by decide)), (zFr_g hF_s28 (zr (k := 13) (t2 := 76) hG ha rfl) (by decide))])
                        have g2288 : s127 (gP G a 13) 1 = s7 (gP G a 13) 1 := (by rw [(zFr_g hF_s127 (zr (k := 13) (t2 := 76) hG ha rfl) (by decide)), (zFr_g hF_s121 (zr (k := 13) (t2 := 76) hG ha rfl) (by decide)), (zFr_g hF_s36 (zr (k := 13) (t2 := 76) hG ha rfl) (by decide)), (zFr_g hF_s28 (zr (k := 13) (t2 := 76) hG ha rfl) (by decide))])
                        have g2289 : s127 (gP G a 13) 2 = s7 (gP G a 13) 2 := (by rw [(zFr_g hF_s127 (zr (k := 13) (t2 := 76) hG ha rfl) (by decide)), (zFr_g hF_s121 (zr (k := 13) (t2 := 76) hG ha rfl) (by decide)), (zFr_g hF_s36 (zr (k := 13) (t2 := 76) hG ha rfl) (by decide)), (zFr_g hF_s28 (zr (k := 13) (t2 := 76) hG ha rfl) (by decide))])
                        have f2290 := zf hS_s127 ha (k := 0) rfl
                        have f2291 := zf hS_s127 ha (k := 3) rfl
                        have f2292 := zf hS_s127 ha (k := 4) rfl
                        have f2293 := zf hS_s127 ha (k := 7) rfl
                        have f2294 := zf hS_s127 ha (k := 22) rfl
                        have f2295 := zf hS_s127 ha (k := 23) rfl
                        have f2296 := zf hS_s127 ha (k := 38) rfl
                        have f2297 := zf hS_s127 ha (k := 51) rfl
                        have f2298 := zf hS_s127 ha (k := 52) rfl
                        refine j_callV hx hG (c_X12_sets hst a) lk_RX12_131 ha (by decide) rfl rfl rfl rfl [] ⟨rfl, hG, hS_s127, ha, (by omega), ((zQn_nn hP2286 (by omega)))⟩ rfl rfl ⟨by decide, by decide⟩ ⟨by decide, by decide⟩ (k2 := 0) (n2 := 0) rfl rfl (Nat.le_of_ble_eq_true rfl) dX12_table_205 (kVM (fun s128 hS_s128 hF_s128 q2300 => ?_))
                        refine j_iload_n hx 0 dX12_table_208 rfl ?_
                        have f2301 := zf hS_s128 ha (k := 38) rfl
                        have f2302 := zf hS_s128 ha (k := 51) rfl
                        have f2303 := zf hS_s128 ha (k := 52) rfl
                        exact j_iret hx hq rfl (by decide) (by decide) dX12_table_209 ⟨v2274, rfl, rfl, hS_s128, (zFr_t (zFr_t (zFr_t (zFr_t (zFr_t (zFr_t (zFr_t (zFr_t (zFr_u zFr_rf e_s1 ha (by decide)) hF_s4 (by decide)) hF_s5 (by decide)) hF_s7 (by decide)) hF_s28 (by decide)) hF_s36 (by decide)) hF_s121 (by decide)) hF_s127 (by decide)) hF_s128 (by decide)), ⟨(by omega), by omega, by omega, by omega, by omega, q2300.2.2.2.2.2.1, (zQn_nn q2300.2.2.2.2.1 (by omega)), by omega, by omega, by omega⟩⟩
                    · skip
                      refine j_aload_n hx 1 dX12_table_178 rfl ?_
                      refine j_iconst hx dX12_table_179 ?_
                      refine j_aload_n hx 1 dX12_table_180 rfl ?_
                      have f2304 := zf hS_s121 ha (k := 3) rfl
                      refine g13_3 hx hG ha kf_RX12_146 rfl dX12_table_181 ?_
                      have f2305 := zf hS_s121 ha (k := 0) rfl
                      have f2306 := zf hS_s121 ha (k := 4) rfl
                      have f2307 := zf hS_s121 ha (k := 7) rfl
                      have f2308 := zf hS_s121 ha (k := 22) rfl
                      have f2309 := zf hS_s121 ha (k := 23) rfl
                      have f2310 := zf hS_s121 ha (k := 24) rfl
                      have f2311 := zf hS_s121 ha (k := 38) rfl
                      have f2312 := zf hS_s121 ha (k := 51) rfl
                      have f2313 := zf hS_s121 ha (k := 52) rfl
                      refine j_callV hx hG (c_X12_wrong hst a 4 ((s121 a 3))) lk_RX12_173 ha (by decide) rfl rfl rfl rfl [.int (zI 4), .int (zI ((s121 a 3)))] ⟨rfl, hG, hS_s121, ha, (by omega), (by omega)⟩ rfl rfl ⟨by decide, by decide⟩ ⟨by decide, by decide⟩ (k2 := 0) (n2 := 0) rfl rfl (Nat.le_of_ble_eq_true rfl) dX12_table_184 (kVM (fun s129 hS_s129 hF_s129 q2315 => ?_))
                      refine j_aload_n hx 1 dX12_table_187 rfl ?_
                      refine j_aload_n hx 1 dX12_table_188 rfl ?_
                      have f2316 := zf hS_s129 ha (k := 21) rfl
                      refine g13_21 hx hG ha kf_RX12_180 rfl dX12_table_189 ?_
                      have f2317 := zf hS_s129 ha (k := 0) rfl
                      have f2318 := zf hS_s129 ha (k := 3) rfl
                      have f2319 := zf hS_s129 ha (k := 4) rfl
                      have f2320 := zf hS_s129 ha (k := 5) rfl
                      have f2321 := zf hS_s129 ha (k := 7) rfl
                      have f2322 := zf hS_s129 ha (k := 22) rfl
                      have f2323 := zf hS_s129 ha (k := 23) rfl
                      have f2324 := zf hS_s129 ha (k := 24) rfl
                      have f2325 := zf hS_s129 ha (k := 38) rfl
                      have f2326 := zf hS_s129 ha (k := 51) rfl
                      have f2327 := zf hS_s129 ha (k := 52) rfl
                      refine j_callV hx hG (c_X12_result hst a ((s129 a 21))) lk_RX12_265 ha (by decide) rfl rfl rfl rfl [.int (zI ((s129 a 21)))] ⟨rfl, hG, hS_s129, ha, (by omega)⟩ rfl rfl ⟨by decide, by decide⟩ ⟨by decide, by decide⟩ (k2 := 0) (n2 := 0) rfl rfl (Nat.le_of_ble_eq_true rfl) dX12_table_192 (kIM (fun v2328 s130 hS_s130 hF_s130 q2329 => ?_))
                      refine j_istore_n hx [(3, .int (zI v2328)), (0, .ref a), (2, .int (zI v99))] dX12_table_195 (by decide) rfl ?_
                      refine j_aload_n hx 1 dX12_table_196 rfl ?_
                      have f2330 := zf hS_s130 ha (k := 5) rfl
                      refine g13_5 hx hG ha kf_RX12_137 rfl dX12_table_197 ?_
                      refine j_iconst hx dX12_table_200 ?_
                      refine j_icmp_ne hx 208 dX12_table_201 rfl (by omega) ⟨by decide, by decide⟩ (fun h2331 => ?_) (fun h2331 => ?_)
                      · skip
                        refine j_iload_n hx 0 dX12_table_208 rfl ?_
                        have g2332 : zc (s130 (gP G a 27)) = zc (s0 (gP G a 27)) := by rw [(zFr_g hF_s130 (zr (k := 27) (t2 := 84) hG ha rfl) (by decide)), (zFr_g hF_s129 (zr (k := 27) (t2 := 84) hG ha rfl) (by decide)), (zFr_g hF_s121 (zr (k := 27) (t2 := 84) hG ha rfl) (by decide)), (zFr_g hF_s36 (zr (k := 27) (t2 := 84) hG ha rfl) (by decide)), (zFr_g hF_s28 (zr (k := 27) (t2 := 84) hG ha rfl) (by decide)), (zFr_g hF_s7 (zr (k := 27) (t2 := 84) hG ha rfl) (by decide)), (zFr_g hF_s5 (zr (k := 27) (t2 := 84) hG ha rfl) (by decide)), (zFr_g hF_s4 (zr (k := 27) (t2 := 84) hG ha rfl) (by decide)), e_s1, zU_ne (zne (zr (k := 27) (t2 := 84) hG ha rfl) ha (by decide))]
                        have g2333 : zc (s130 (gP G a 28)) = zc (s0 (gP G a 28)) := by rw [(zFr_g hF_s130 (zr (k := 28) (t2 := 85) hG ha rfl) (by decide)), (zFr_g hF_s129 (zr (k := 28) (t2 := 85) hG ha rfl) (by decide)), (zFr_g hF_s121 (zr (k := 28) (t2 := 85) hG ha rfl) (by decide)), (zFr_g hF_s36 (zr (k := 28) (t2 := 85) hG ha rfl) (by decide)), (zFr_g hF_s28 (zr (k := 28) (t2 := 85) hG ha rfl) (by decide)), (zFr_g hF_s7 (zr (k := 28) (t2 := 85) hG ha rfl) (by decide)), (zFr_g hF_s5 (zr (k := 28) (t2 := 85) hG ha rfl) (by decide)), (zFr_g hF_s4 (zr (k := 28) (t2 := 85) hG ha rfl) (by decide)), e_s1, zU_ne (zne (zr (k := 28) (t2 := 85) hG ha rfl) ha (by decide))]
                        have g2334 : s130 (gP G a 27) 488 = s0 (gP G a 27) 488 := (by rw [(zFr_g hF_s130 (zr (k := 27) (t2 := 84) hG ha rfl) (by decide)), (zFr_g hF_s129 (zr (k := 27) (t2 := 84) hG ha rfl) (by decide)), (zFr_g hF_s121 (zr (k := 27) (t2 := 84) hG ha rfl) (by decide)), (zFr_g hF_s36 (zr (k := 27) (t2 := 84) hG ha rfl) (by decide)), (zFr_g hF_s28 (zr (k := 27) (t2 := 84) hG ha rfl) (by decide)), (zFr_g hF_s7 (zr (k := 27) (t2 := 84) hG ha rfl) (by decide)), (zFr_g hF_s5 (zr (k := 27) (t2 := 84) hG ha rfl) (by decide)), (zFr_g hF_s4 (zr (k := 27) (t2 := 84) hG ha rfl) (by decide)), e_s1, zU_at (Or.inl (zne ha (zr (k := 27) (t2 := 84) hG ha rfl) (by decide)))])
                        have g2335 : s130 (gP G a 28) 488 = s0 (gP G a 28) 488 := (by rw [(zFr_g hF_s130 (zr (k := 28) (t2 := 85) hG ha rfl) (by decide)), (zFr_g hF_s129 (zr (k := 28) (t2 := 85) hG ha rfl) (by decide)), (zFr_g hF_s121 (zr (k := 28) (t2 := 85) hG ha rfl) (by decide)), (zFr_g hF_s36 (zr (k := 28) (t2 := 85) hG ha rfl) (by decide)), (zFr_g hF_s28 (zr (k := 28) (t2 := 85) hG ha rfl) (by decide)), (zFr_g hF_s7 (zr (k := 28) (t2 := 85) hG ha rfl) (by decide)), (zFr_g hF_s5 (zr (k := 28) (t2 := 85) hG ha rfl) (by decide)), (zFr_g hF_s4 (zr (k := 28) (t2 := 85) hG ha rfl) (by decide)), e_s1, zU_at (Or.inl (zne ha (zr (k := 28) (t2 := 85) hG ha rfl) (by decide)))])
                        have f2336 := zf hS_s130 ha (k := 38) rfl
                        have f2337 := zf hS_s130 ha (k := 51) rfl
                        have f2338 := zf hS_s130 ha (k := 52) rfl
                        exact j_iret hx hq rfl (by decide) (by decide) dX12_table_209 ⟨v2328, rfl, rfl, hS_s130, (zFr_t (zFr_t (zFr_t (zFr_t (zFr_t (zFr_t (zFr_t (zFr_t (zFr_u zFr_rf e_s1 ha (by decide)) hF_s4 (by decide)) hF_s5 (by decide)) hF_s7 (by decide)) hF_s28 (by decide)) hF_s36 (by decide)) hF_s121 (by decide)) hF_s129 (by decide)) hF_s130 (by decide)), ⟨(by omega), by omega, by omega, by omega, by omega, (by rw [(zFr_g hF_s130 (zr (k := 34) (t2 := 91) hG ha rfl) (by decide)), (zFr_g hF_s129 (zr (k := 34) (t2 := 91) hG ha rfl) (by decide)), (zFr_g hF_s121 (zr (k := 34) (t2 := 91) hG ha rfl) (by decide)), (zFr_g hF_s36 (zr (k := 34) (t2 := 91) hG ha rfl) (by decide)), (zFr_g hF_s28 (zr (k := 34) (t2 := 91) hG ha rfl) (by decide)), (zFr_g hF_s7 (zr (k := 34) (t2 := 91) hG ha rfl) (by decide)), (zFr_g hF_s5 (zr (k := 34) (t2 := 91) hG ha rfl) (by decide)), (zFr_g hF_s4 (zr (k := 34) (t2 := 91) hG ha rfl) (by decide)), e_s1, zU_ne (zne (zr (k := 34) (t2 := 91) hG ha rfl) ha (by decide)), (zFr_g hF_s130 (zr (k := 35) (t2 := 92) hG ha rfl) (by decide)), (zFr_g hF_s129 (zr (k := 35) (t2 := 92) hG ha rfl) (by decide)), (zFr_g hF_s121 (zr (k := 35) (t2 := 92) hG ha rfl) (by decide)), (zFr_g hF_s36 (zr (k := 35) (t2 := 92) hG ha rfl) (by decide)), (zFr_g hF_s28 (zr (k := 35) (t2 := 92) hG ha rfl) (by decide)), (zFr_g hF_s7 (zr (k := 35) (t2 := 92) hG ha rfl) (by decide)), (zFr_g hF_s5 (zr (k := 35) (t2 := 92) hG ha rfl) (by decide)), (zFr_g hF_s4 (zr (k := 35) (t2 := 92) hG ha rfl) (by decide)), e_s1, zU_ne (zne (zr (k := 35) (t2 := 92) hG ha rfl) ha (by decide)), (zFr_g hF_s130 (zr (k := 37) (t2 := 94) hG ha rfl) (by decide)), (zFr_g hF_s129 (zr (k := 37) (t2 := 94) hG ha rfl) (by decide)), (zFr_g hF_s121 (zr (k := 37) (t2 := 94) hG ha rfl) (by decide)), (zFr_g hF_s36 (zr (k := 37) (t2 := 94) hG ha rfl) (by decide)), (zFr_g hF_s28 (zr (k := 37) (t2 := 94) hG ha rfl) (by decide)), (zFr_g hF_s7 (zr (k := 37) (t2 := 94) hG ha rfl) (by decide)), (zFr_g hF_s5 (zr (k := 37) (t2 := 94) hG ha rfl) (by decide)), (zFr_g hF_s4 (zr (k := 37) (t2 := 94) hG ha rfl) (by decide)), e_s1, zU_ne (zne (zr (k := 37) (t2 := 94) hG ha rfl) ha (by decide))]; exact e2), (by rw [(zFr_g hF_s130 (zr (k := 17) (t2 := 80) hG ha rfl) (by decide)), (zFr_g hF_s129 (zr (k := 17) (t2 := 80) hG ha rfl) (by decide)), (zFr_g hF_s121 (zr (k := 17) (t2 := 80) hG ha rfl) (by decide)), (zFr_g hF_s36 (zr (k := 17) (t2 := 80) hG ha rfl) (by decide)), (zFr_g hF_s28 (zr (k := 17) (t2 := 80) hG ha rfl) (by decide)), (zFr_g hF_s7 (zr (k := 17) (t2 := 80) hG ha rfl) (by decide)), (zFr_g hF_s5 (zr (k := 17) (t2 := 80) hG ha rfl) (by decide)), (zFr_g hF_s4 (zr (k := 17) (t2 := 80) hG ha rfl) (by decide)), e_s1, zU_ne (zne (zr (k := 17) (t2 := 80) hG ha rfl) ha (by decide))]; exact (zQn_nn e3 (by omega))), by omega, by omega, by omega⟩⟩
                      · skip
                        refine j_aload_n hx 1 dX12_table_204 rfl ?_
                        have f2339 := zf hS_s130 ha (k := 21) rfl
                        have hP2340 : zQn (s130 (gP G a 10)) (s130 a 21) := ((by rw [(zFr_g hF_s130 (zr (k := 10) (t2 := 73) hG ha rfl) (by decide)), (zFr_g hF_s129 (zr (k := 10) (t2 := 73) hG ha rfl) (by decide)), (zFr_g hF_s121 (zr (k := 10) (t2 := 73) hG ha rfl) (by decide)), (zFr_g hF_s36 (zr (k := 10) (t2 := 73) hG ha rfl) (by decide)), (zFr_g hF_s28 (zr (k := 10) (t2 := 73) hG ha rfl) (by decide))]; exact (zQi_k fA18 (by omega) (by omega))) (by omega))
                        have g2341 : s130 (gP G a 13) 0 = s7 (gP G a 13) 0 := (by rw [(zFr_g hF_s130 (zr (k := 13) (t2 := 76) hG ha rfl) (by decide)), (zFr_g hF_s129 (zr (k := 13) (t2 := 76) hG ha rfl) (by decide)), (zFr_g hF_s121 (zr (k := 13) (t2 := 76) hG ha rfl) (by decide)), (zFr_g hF_s36 (zr (k := 13) (t2 := 76) hG ha rfl) (by decide)), (zFr_g hF_s28 (zr (k := 13) (t2 := 76) hG ha rfl) (by decide))])
                        have g2342 : s130 (gP G a 13) 1 = s7 (gP G a 13) 1 := (by rw [(zFr_g hF_s130 (zr (k := 13) (t2 := 76) hG ha rfl) (by decide)), (zFr_g hF_s129 (zr (k := 13) (t2 := 76) hG ha rfl) (by decide)), (zFr_g hF_s121 (zr (k := 13) (t2 := 76) hG ha rfl) (by decide)), (zFr_g hF_s36 (zr (k := 13) (t2 := 76) hG ha rfl) (by decide)), (zFr_g hF_s28 (zr (k := 13) (t2 := 76) hG ha rfl) (by decide))])
                        have g2343 : s130 (gP G a 13) 2 = s7 (gP G a 13) 2 := (by rw [(zFr_g hF_s130 (zr (k := 13) (t2 := 76) hG ha rfl) (by decide)), (zFr_g hF_s129 (zr (k := 13) (t2 := 76) hG ha rfl) (by decide)), (zFr_g hF_s121 (zr (k := 13) (t2 := 76) hG ha rfl) (by decide)), (zFr_g hF_s36 (zr (k := 13) (t2 := 76) hG ha rfl) (by decide)), (zFr_g hF_s28 (zr (k := 13) (t2 := 76) hG ha rfl) (by decide))])
                        have f2344 := zf hS_s130 ha (k := 0) rfl
                        have f2345 := zf hS_s130 ha (k := 3) rfl
                        have f2346 := zf hS_s130 ha (k := 4) rfl
                        have f2347 := zf hS_s130 ha (k := 7) rfl
                        have f2348 := zf hS_s130 ha (k := 22) rfl
                        have f2349 := zf hS_s130 ha (k := 23) rfl
                        have f2350 := zf hS_s130 ha (k := 38) rfl
                        have f2351 := zf hS_s130 ha (k := 51) rfl
                        have f2352 := zf hS_s130 ha (k := 52) rfl
                        refine j_callV hx hG (c_X12_sets hst a) lk_RX12_131 ha (by decide) rfl rfl rfl rfl [] ⟨rfl, hG, hS_s130, ha, (by omega), ((zQn_nn hP2340 (by omega)))⟩ rfl rfl ⟨by decide, by decide⟩ ⟨by decide, by decide⟩ (k2 := 0) (n2 := 0) rfl rfl (Nat.le_of_ble_eq_true rfl) dX12_table_205 (kVM (fun s131 hS_s131 hF_s131 q2354 => ?_))
                        refine j_iload_n hx 0 dX12_table_208 rfl ?_
                        have f2355 := zf hS_s131 ha (k := 38) rfl
                        have f2356 := zf hS_s131 ha (k := 51) rfl
                        have f2357 := zf hS_s131 ha (k := 52) rfl
                        exact j_iret hx hq rfl (by decide) (by decide) dX12_table_209 ⟨v2328, rfl, rfl, hS_s131, (zFr_t (zFr_t (zFr_t (zFr_t (zFr_t (zFr_t (zFr_t (zFr_t (zFr_t (zFr_u zFr_rf e_s1 ha (by decide)) hF_s4 (by decide)) hF_s5 (by decide)) hF_s7 (by decide)) hF_s28 (by decide)) hF_s36 (by decide)) hF_s121 (by decide)) hF_s129 (by decide)) hF_s130 (by decide)) hF_s131 (by decide)), ⟨(by omega), by omega, by omega, by omega, by omega, q2354.2.2.2.2.2.1, (zQn_nn q2354.2.2.2.2.1 (by omega)), by omega, by omega, by omega⟩⟩
      have f2358 := zf hS_s5 ha (k := 5) rfl
      exact j_sub [1, 0] [(0, .ref a), (2, .int (zI 0))] rfl (c44_6 (2147483648 * 4) 0 s5 (by omega) (by omega) hS_s5 zFr_rf (by omega) (by omega) (by omega) (by omega) (by omega) (by omega) (by omega) (zQi_k hP98 (by omega) (by omega)) (by omega) (by omega))
