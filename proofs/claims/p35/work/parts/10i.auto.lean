theorem lk_RX12_397 : LkV RX12 397 RX12 yX12_turnsOver cX12_turnsOver 2 none 1 := ⟨km_RX12_397, ki_yX12_turnsOver, ks_RX12_yX12_turnsOver, kn_RX12, kc_yX12_turnsOver, rfl, by decide +kernel, by decide +kernel, by decide +kernel⟩
theorem lk_RX12_400 : LkV RX12 400 RX12 yX12_guesses cX12_guesses 3 none 1 := ⟨km_RX12_400, ki_yX12_guesses, ks_RX12_yX12_guesses, kn_RX12, kc_yX12_guesses, rfl, by decide +kernel, by decide +kernel, by decide +kernel⟩
theorem lk_RX12_403 : LkV RX12 403 RX12 yX12_lays cX12_lays 2 none 1 := ⟨km_RX12_403, ki_yX12_lays, ks_RX12_yX12_lays, kn_RX12, kc_yX12_lays, rfl, by decide +kernel, by decide +kernel, by decide +kernel⟩
theorem lk_RX12_406 : LkV RX12 406 RX12 yX12_plans cX12_plans 5 none 1 := ⟨km_RX12_406, ki_yX12_plans, ks_RX12_yX12_plans, kn_RX12, kc_yX12_plans, rfl, by decide +kernel, by decide +kernel, by decide +kernel⟩
theorem lk_RX12_409 : LkV RX12 409 RX12 yX12_judges cX12_judges 6 none 0 := ⟨km_RX12_409, ki_yX12_judges, ks_RX12_yX12_judges, kn_RX12, kc_yX12_judges, rfl, by decide +kernel, by decide +kernel, by decide +kernel⟩
set_option maxHeartbeats 1200000 in
set_option maxRecDepth 20000 in
theorem c_X12_turn {E : zE} {l : Launch} (hst : l.stackTraces = false) (a : Nat) : Con E l yX12_turn cX12_turn 2 (some .boolean) { frames := 5, cells := 0, slots := 0, locals := 120 } (fun G s vs => vs = [.ref a] ∧ zGK G ∧ zSK G s ∧ (gT G a = 13) ∧ (zc (s (gP G a 27)) ≤ 60) ∧ (zRva (s (gP G a 34)) (s (gP G a 35)) (s (gP G a 37))) ∧ (s (gP G a 27) 488 ≤ 599999)) (fun G s _ => pI (fun r G2 s2 => G2 = G ∧ zSK G s2 ∧ zFr [13, 84, 87, 95, 98] G s s2 ∧ (0 ≤ r ∧ r ≤ 1) ∧ zc (s2 (gP G a 27)) = zc (s (gP G a 27)) ∧ ((r = 0 → s2 (gP G a 27) 488 = s (gP G a 27) 488) ∧ (r = 1 → s2 (gP G a 27) 488 = s (gP G a 27) 488 + 1)) ∧ s2 a 0 = s a 0 ∧ s2 a 3 = s a 3 ∧ s2 a 4 = s a 4 ∧ s2 a 5 = s a 5 ∧ s2 a 7 = s a 7 ∧ s2 a 21 = s a 21 ∧ s2 a 22 = s a 22 ∧ s2 a 23 = s a 23 ∧ s2 a 24 = s a 24 ∧ s2 a 38 = s a 38 ∧ s2 a 51 = s a 51 ∧ s2 a 52 = s a 52)) := by
  refine Con.mk hst (by decide) (fun G s vs h => by rw [h.1]; exact Nat.le_of_ble_eq_true rfl) ?_
  rintro X G s0 vs ⟨rfl, hG, hS0, ha, e0, e1, e2⟩ rfl hx hq
  show JJ X E 2 G s0 0 0 [(0, .ref a)] 0 []
  refine j_aload_n hx 0 dX12_turn_0 rfl ?_
  refine j_callV hx hG (c_X12_whose hst a) lk_RX12_336 ha (by decide) rfl rfl rfl rfl [] ⟨rfl, hG, hS0, ha⟩ rfl rfl ⟨by decide, by decide⟩ ⟨by decide, by decide⟩ (k2 := 0) (n2 := 0) rfl rfl (Nat.le_of_ble_eq_true rfl) dX12_turn_1 (kIP (fun v1 q2 => ?_))
  refine j_istore_n hx [(1, .int (zI v1)), (0, .ref a)] dX12_turn_4 (by decide) rfl ?_
  refine j_iload_n hx 0 dX12_turn_5 rfl ?_
  refine j_iconst hx dX12_turn_6 ?_
  refine j_icmp_ne hx 12 dX12_turn_7 rfl (by omega) ⟨by decide, by decide⟩ (fun h3 => ?_) (fun h3 => ?_)
  · skip
    refine j_aload_n hx 1 dX12_turn_12 rfl ?_
    refine j_iload_n hx 0 dX12_turn_13 rfl ?_
    refine j_callV hx hG (c_X12_turnsOver hst a v1) lk_RX12_397 ha (by decide) rfl rfl rfl rfl [.int (zI v1)] ⟨rfl, hG, hS0, ha, (by omega), (by omega)⟩ rfl rfl ⟨by decide, by decide⟩ ⟨by decide, by decide⟩ (k2 := 0) (n2 := 0) rfl rfl (Nat.le_of_ble_eq_true rfl) dX12_turn_14 (kVM (fun s1 hS_s1 hF_s1 q5 => ?_))
    refine j_aload_n hx 1 dX12_turn_17 rfl ?_
    refine j_iload_n hx 0 dX12_turn_18 rfl ?_
    refine j_callV hx hG (c_X12_guesses hst a v1) lk_RX12_400 ha (by decide) rfl rfl rfl rfl [.int (zI v1)] ⟨rfl, hG, hS_s1, ha, (by omega), ((by have q1 : s1 (gP G a 34) = s0 (gP G a 34) := (by rw [hF_s1 (gP G a 34) (by rw [(zr (k := 34) (t2 := 91) hG ha rfl)]; decide)]); have q2 : s1 (gP G a 35) = s0 (gP G a 35) := (by rw [hF_s1 (gP G a 35) (by rw [(zr (k := 35) (t2 := 92) hG ha rfl)]; decide)]); have q3 : s1 (gP G a 37) = s0 (gP G a 37) := (by rw [hF_s1 (gP G a 37) (by rw [(zr (k := 37) (t2 := 94) hG ha rfl)]; decide)]); rw [q1, q2, q3]; exact e1))⟩ rfl rfl ⟨by decide, by decide⟩ ⟨by decide, by decide⟩ (k2 := 0) (n2 := 0) rfl rfl (Nat.le_of_ble_eq_true rfl) dX12_turn_19 (kVM (fun s2 hS_s2 hF_s2 q7 => ?_))
    refine j_aload_n hx 1 dX12_turn_22 rfl ?_
    refine j_iload_n hx 0 dX12_turn_23 rfl ?_
    have g8 : s2 (gP G a 27) (v1 + 480).toNat = s1 (gP G a 27) (v1 + 480).toNat := (by rw [(zFr_g hF_s2 (zr (k := 27) (t2 := 84) hG ha rfl) (by decide))])
    have g9 : zc (s2 (gP G a 27)) = zc (s1 (gP G a 27)) := by rw [hF_s2 (gP G a 27) (by rw [(zr (k := 27) (t2 := 84) hG ha rfl)]; decide)]
    have g10 : s2 (gP G a 27) 488 = s1 (gP G a 27) 488 := (by rw [(zFr_g hF_s2 (zr (k := 27) (t2 := 84) hG ha rfl) (by decide))])
    have g11 : s2 a 0 = s0 a 0 := (by rw [(zFr_g hF_s2 ha (by decide)), (zFr_g hF_s1 ha (by decide))])
    have f12 := zf hS0 ha (k := 0) rfl
    have g13 : s2 a 3 = s0 a 3 := (by rw [(zFr_g hF_s2 ha (by decide)), (zFr_g hF_s1 ha (by decide))])
    have f14 := zf hS0 ha (k := 3) rfl
    have g15 : s2 a 4 = s0 a 4 := (by rw [(zFr_g hF_s2 ha (by decide)), (zFr_g hF_s1 ha (by decide))])
    have f16 := zf hS0 ha (k := 4) rfl
    have g17 : s2 a 5 = s0 a 5 := (by rw [(zFr_g hF_s2 ha (by decide)), (zFr_g hF_s1 ha (by decide))])
    have f18 := zf hS0 ha (k := 5) rfl
    have g19 : s2 a 7 = s0 a 7 := (by rw [(zFr_g hF_s2 ha (by decide)), (zFr_g hF_s1 ha (by decide))])
    have f20 := zf hS0 ha (k := 7) rfl
    have g21 : s2 a 21 = s0 a 21 := (by rw [(zFr_g hF_s2 ha (by decide)), (zFr_g hF_s1 ha (by decide))])
    have f22 := zf hS0 ha (k := 21) rfl
    have g23 : s2 a 22 = s0 a 22 := (by rw [(zFr_g hF_s2 ha (by decide)), (zFr_g hF_s1 ha (by decide))])
    have f24 := zf hS0 ha (k := 22) rfl
    have g25 : s2 a 23 = s0 a 23 := (by rw [(zFr_g hF_s2 ha (by decide)), (zFr_g hF_s1 ha (by decide))])
    have f26 := zf hS0 ha (k := 23) rfl
    have g27 : s2 a 24 = s0 a 24 := (by rw [(zFr_g hF_s2 ha (by decide)), (zFr_g hF_s1 ha (by decide))])
    have f28 := zf hS0 ha (k := 24) rfl
    have g29 : s2 a 38 = s0 a 38 := (by rw [(zFr_g hF_s2 ha (by decide)), (zFr_g hF_s1 ha (by decide))])
    have f30 := zf hS0 ha (k := 38) rfl
    have g31 : s2 a 51 = s0 a 51 := (by rw [(zFr_g hF_s2 ha (by decide)), (zFr_g hF_s1 ha (by decide))])
    have f32 := zf hS0 ha (k := 51) rfl
    have g33 : s2 a 52 = s0 a 52 := (by rw [(zFr_g hF_s2 ha (by decide)), (zFr_g hF_s1 ha (by decide))])
    have f34 := zf hS0 ha (k := 52) rfl
    refine j_callV hx hG (c_X12_lays hst a v1) lk_RX12_403 ha (by decide) rfl rfl rfl rfl [.int (zI v1)] ⟨rfl, hG, hS_s2, ha, (by omega), (by omega), (by omega)⟩ rfl rfl ⟨by decide, by decide⟩ ⟨by decide, by decide⟩ (k2 := 0) (n2 := 0) rfl rfl (Nat.le_of_ble_eq_true rfl) dX12_turn_24 (kVM (fun s3 hS_s3 hF_s3 q36 => ?_))
    refine j_aload_n hx 1 dX12_turn_27 rfl ?_
    refine j_iload_n hx 0 dX12_turn_28 rfl ?_
    refine j_callV hx hG (c_X12_plans hst a v1) lk_RX12_406 ha (by decide) rfl rfl rfl rfl [.int (zI v1)] ⟨rfl, hG, hS_s3, ha, (by omega), ((by have q1 : s3 (gP G a 34) = s0 (gP G a 34) := (by rw [hF_s3 (gP G a 34) (by rw [(zr (k := 34) (t2 := 91) hG ha rfl)]; decide), hF_s2 (gP G a 34) (by rw [(zr (k := 34) (t2 := 91) hG ha rfl)]; decide), hF_s1 (gP G a 34) (by rw [(zr (k := 34) (t2 := 91) hG ha rfl)]; decide)]); have q2 : s3 (gP G a 35) = s0 (gP G a 35) := (by rw [hF_s3 (gP G a 35) (by rw [(zr (k := 35) (t2 := 92) hG ha rfl)]; decide), hF_s2 (gP G a 35) (by rw [(zr (k := 35) (t2 := 92) hG ha rfl)]; decide), hF_s1 (gP G a 35) (by rw [(zr (k := 35) (t2 := 92) hG ha rfl)]; decide)]); have q3 : s3 (gP G a 37) = s0 (gP G a 37) := (by rw [hF_s3 (gP G a 37) (by rw [(zr (k := 37) (t2 := 94) hG ha rfl)]; decide), hF_s2 (gP G a 37) (by rw [(zr (k := 37) (t2 := 94) hG ha rfl)]; decide), hF_s1 (gP G a 37) (by rw [(zr (k := 37) (t2 := 94) hG ha rfl)]; decide)]); rw [q1, q2, q3]; exact e1))⟩ rfl rfl ⟨by decide, by decide⟩ ⟨by decide, by decide⟩ (k2 := 0) (n2 := 0) rfl rfl (Nat.le_of_ble_eq_true rfl) dX12_turn_29 (kVM (fun s4 hS_s4 hF_s4 q38 => ?_))
    refine j_aload_n hx 1 dX12_turn_32 rfl ?_
    refine j_callV hx hG (c_X12_judges hst a) lk_RX12_409 ha (by decide) rfl rfl rfl rfl [] ⟨rfl, hG, hS_s4, ha, (by omega)⟩ rfl rfl ⟨by decide, by decide⟩ ⟨by decide, by decide⟩ (k2 := 0) (n2 := 0) rfl rfl (Nat.le_of_ble_eq_true rfl) dX12_turn_33 (kVM (fun s5 hS_s5 hF_s5 q40 => ?_))
    refine j_aload_n hx 1 dX12_turn_36 rfl ?_
    refine g13_27 hx hG ha kf_RX12_56 dX12_turn_37 ?_
    refine j_sipush hx dX12_turn_40 rfl ?_
    refine j_dup2 hx dX12_turn_43 rfl rfl ?_
    have f41 := zaQ (j := 488) hS_s5 (zr (k := 27) (t2 := 84) hG ha rfl) (congrArg some (axS_4 488 (by omega))) (zlen hG (zr (k := 27) (t2 := 84) hG ha rfl) (n := 515) rfl rfl) (show 0 ≤ 488 by omega) (by omega) rfl
    refine j_iald hx hG (zr (k := 27) (t2 := 84) hG ha rfl) (by decide) rfl (zlen hG (zr (k := 27) (t2 := 84) hG ha rfl) (n := 515) rfl rfl) (by omega) (by omega) (j := 488) rfl rfl dX12_turn_44 ?_
    refine j_iconst hx dX12_turn_45 ?_
    refine j_iadd hx (r := (s5 (gP G a 27) 488) + 1) dX12_turn_46 (by omega) ?_
    refine j_iast hx hG (zr (k := 27) (t2 := 84) hG ha rfl) (by decide) rfl (zlen hG (zr (k := 27) (t2 := 84) hG ha rfl) (n := 515) rfl rfl) (by omega) (by omega) (j := 488) rfl dX12_turn_47 ?_
    obtain ⟨s6, e_s6⟩ : ∃ z, z = zU s5 (gP G a 27) 488 ((s5 (gP G a 27) 488) + 1) := ⟨_, rfl⟩
    rw [← e_s6]
    have hS_s6 : zSK G s6 := by rw [e_s6]; exact zSK_a hS_s5 (zr (k := 27) (t2 := 84) hG ha rfl) rfl rfl (congrArg some (axS_4 488 (by omega))) (by omega)
    have z42 : zc (s6 (gP G a 27)) = zc (s5 (gP G a 27)) := by rw [e_s6]; exact zc_o (by omega)
    refine j_aload_n hx 1 dX12_turn_48 rfl ?_
    refine g13_27 hx hG ha kf_RX12_56 dX12_turn_49 ?_
    refine j_sipush hx dX12_turn_52 rfl ?_
    refine j_iload_n hx 0 dX12_turn_55 rfl ?_
    refine j_iast hx hG (zr (k := 27) (t2 := 84) hG ha rfl) (by decide) rfl (zlen hG (zr (k := 27) (t2 := 84) hG ha rfl) (n := 515) rfl rfl) (by omega) (by omega) (j := 487) rfl dX12_turn_56 ?_
    obtain ⟨s7, e_s7⟩ : ∃ z, z = zU s6 (gP G a 27) 487 v1 := ⟨_, rfl⟩
    rw [← e_s7]
    have hS_s7 : zSK G s7 := by rw [e_s7]; exact zSK_a hS_s6 (zr (k := 27) (t2 := 84) hG ha rfl) rfl rfl (congrArg some (axS_3 487 (by omega))) (by omega)
    have z43 : zc (s7 (gP G a 27)) = zc (s6 (gP G a 27)) := by rw [e_s7]; exact zc_o (by omega)
    refine j_iconst hx dX12_turn_57 ?_
    have g44 : s7 (gP G a 27) 488 = (s5 (gP G a 27) 488) + 1 := (by rw [e_s7, zU_at (Or.inr (by decide)), e_s6, zU_eq])
    have g45 : s7 a 0 = s3 a 0 := (by rw [e_s7, zU_at (Or.inl (zne (zr (k := 27) (t2 := 84) hG ha rfl) ha (by decide))), e_s6, zU_at (Or.inl (zne (zr (k := 27) (t2 := 84) hG ha rfl) ha (by decide))), (zFr_g hF_s5 ha (by decide)), (zFr_g hF_s4 ha (by decide))])
    have f46 := zf hS_s3 ha (k := 0) rfl
    have g47 : s7 a 3 = s3 a 3 := (by rw [e_s7, zU_at (Or.inl (zne (zr (k := 27) (t2 := 84) hG ha rfl) ha (by decide))), e_s6, zU_at (Or.inl (zne (zr (k := 27) (t2 := 84) hG ha rfl) ha (by decide))), (zFr_g hF_s5 ha (by decide)), (zFr_g hF_s4 ha (by decide))])
    have f48 := zf hS_s3 ha (k := 3) rfl
    have g49 : s7 a 4 = s3 a 4 := (by rw [e_s7, zU_at (Or.inl (zne (zr (k := 27) (t2 := 84) hG ha rfl) ha (by decide))), e_s6, zU_at (Or.inl (zne (zr (k := 27) (t2 := 84) hG ha rfl) ha (by decide))), (zFr_g hF_s5 ha (by decide)), (zFr_g hF_s4 ha (by decide))])
    have f50 := zf hS_s3 ha (k := 4) rfl
    have g51 : s7 a 5 = s3 a 5 := (by rw [e_s7, zU_at (Or.inl (zne (zr (k := 27) (t2 := 84) hG ha rfl) ha (by decide))), e_s6, zU_at (Or.inl (zne (zr (k := 27) (t2 := 84) hG ha rfl) ha (by decide))), (zFr_g hF_s5 ha (by decide)), (zFr_g hF_s4 ha (by decide))])
    have f52 := zf hS_s3 ha (k := 5) rfl
    have g53 : s7 a 7 = s3 a 7 := (by rw [e_s7, zU_at (Or.inl (zne (zr (k := 27) (t2 := 84) hG ha rfl) ha (by decide))), e_s6, zU_at (Or.inl (zne (zr (k := 27) (t2 := 84) hG ha rfl) ha (by decide))), (zFr_g hF_s5 ha (by decide)), (zFr_g hF_s4 ha (by decide))])
    have f54 := zf hS_s3 ha (k := 7) rfl
    have g55 : s7 a 21 = s3 a 21 := (by rw [e_s7, zU_at (Or.inl (zne (zr (k := 27) (t2 := 84) hG ha rfl) ha (by decide))), e_s6, zU_at (Or.inl (zne (zr (k := 27) (t2 := 84) hG ha rfl) ha (by decide))), (zFr_g hF_s5 ha (by decide)), (zFr_g hF_s4 ha (by decide))])
    have f56 := zf hS_s3 ha (k := 21) rfl
    have g57 : s7 a 22 = s3 a 22 := (by rw [e_s7, zU_at (Or.inl (zne (zr (k := 27) (t2 := 84) hG ha rfl) ha (by decide))), e_s6, zU_at (Or.inl (zne (zr (k := 27) (t2 := 84) hG ha rfl) ha (by decide))), (zFr_g hF_s5 ha (by decide)), (zFr_g hF_s4 ha (by decide))])
    have f58 := zf hS_s3 ha (k := 22) rfl
    have g59 : s7 a 23 = s3 a 23 := (by rw [e_s7, zU_at (Or.inl (zne (zr (k := 27) (t2 := 84) hG ha rfl) ha (by decide))), e_s6, zU_at (Or.inl (zne (zr (k := 27) (t2 := 84) hG ha rfl) ha (by decide))), (zFr_g hF_s5 ha (by decide)), (zFr_g hF_s4 ha (by decide))])
    have f60 := zf hS_s3 ha (k := 23) rfl
    have g61 : s7 a 24 = s3 a 24 := (by rw [e_s7, zU_at (Or.inl (zne (zr (k := 27) (t2 := 84) hG ha rfl) ha (by decide))), e_s6, zU_at (Or.inl (zne (zr (k := 27) (t2 := 84) hG ha rfl) ha (by decide))), (zFr_g hF_s5 ha (by decide)), (zFr_g hF_s4 ha (by decide))])
    have f62 := zf hS_s3 ha (k := 24) rfl
    have g63 : s7 a 38 = s3 a 38 := (by rw [e_s7, zU_at (Or.inl (zne (zr (k := 27) (t2 := 84) hG ha rfl) ha (by decide))), e_s6, zU_at (Or.inl (zne (zr (k := 27) (t2 := 84) hG ha rfl) ha (by decide))), (zFr_g hF_s5 ha (by decide)), (zFr_g hF_s4 ha (by decide))])
    have f64 := zf hS_s3 ha (k := 38) rfl
    have g65 : s7 a 51 = s3 a 51 := (by rw [e_s7, zU_at (Or.inl (zne (zr (k := 27) (t2 := 84) hG ha rfl) ha (by decide))), e_s6, zU_at (Or.inl (zne (zr (k := 27) (t2 := 84) hG ha rfl) ha (by decide))), (zFr_g hF_s5 ha (by decide)), (zFr_g hF_s4 ha (by decide))])
    have f66 := zf hS_s3 ha (k := 51) rfl
    have g67 : s7 a 52 = s3 a 52 := (by rw [e_s7, zU_at (Or.inl (zne (zr (k := 27) (t2 := 84) hG ha rfl) ha (by decide))), e_s6, zU_at (Or.inl (zne (zr (k := 27) (t2 := 84) hG ha rfl) ha (by decide))), (zFr_g hF_s5 ha (by decide)), (zFr_g hF_s4 ha (by decide))])
    have f68 := zf hS_s3 ha (k := 52) rfl
    exact j_zret hx hq rfl (by decide) (by decide) dX12_turn_58 (by omega) ⟨1, rfl, rfl, hS_s7, (zFr_u (zFr_u (zFr_t (zFr_t (zFr_t (zFr_t (zFr_t zFr_rf hF_s1 (by decide)) hF_s2 (by decide)) hF_s3 (by decide)) hF_s4 (by decide)) hF_s5 (by decide)) e_s6 (zr (k := 27) (t2 := 84) hG ha rfl) (by decide)) e_s7 (zr (k := 27) (t2 := 84) hG ha rfl) (by decide)), ⟨(by omega), by omega, by omega, by omega, by omega, by omega, by omega, by omega, by omega, by omega, by omega, by omega, by omega, by omega, by omega⟩⟩
  · skip
    refine j_iconst hx dX12_turn_10 ?_
    have f69 := zf hS0 ha (k := 0) rfl
    have f70 := zf hS0 ha (k := 3) rfl
    have f71 := zf hS0 ha (k := 4) rfl
    have f72 := zf hS0 ha (k := 5) rfl
    have f73 := zf hS0 ha (k := 7) rfl
    have f74 := zf hS0 ha (k := 21) rfl
    have f75 := zf hS0 ha (k := 22) rfl
    have f76 := zf hS0 ha (k := 23) rfl
    have f77 := zf hS0 ha (k := 24) rfl
    have f78 := zf hS0 ha (k := 38) rfl
    have f79 := zf hS0 ha (k := 51) rfl
    have f80 := zf hS0 ha (k := 52) rfl
    exact j_zret hx hq rfl (by decide) (by decide) dX12_turn_11 (by omega) ⟨0, rfl, rfl, hS0, zFr_rf, ⟨(by omega), by omega, by omega, by omega, by omega, by omega, by omega, by omega, by omega, by omega, by omega, by omega, by omega, by omega, by omega⟩⟩

set_option maxHeartbeats 1200000 in
set_option maxRecDepth 20000 in
theorem c_X12_notes {E : zE} {l : Launch} (hst : l.stackTraces = false) (a : Nat) : Con E l yX12_notes cX12_notes 1 none { frames := 0, cells := 0, slots := 0, locals := 0 } (fun G s vs => vs = [.ref a] ∧ zGK G ∧ zSK G s ∧ (gT G a = 13) ∧ (1 ≤ s (gP G a 27) 488)) (fun G s _ => pV (fun G2 s2 => G2 = G ∧ zSK G s2 ∧ zFr [86] G s s2 ∧ True)) := by
  refine Con.mk hst (by decide) (fun G s vs h => by rw [h.1]; exact Nat.le_of_ble_eq_true rfl) ?_
  rintro X G s0 vs ⟨rfl, hG, hS0, ha, e0⟩ rfl hx hq
  show JJ X E 1 G s0 0 0 [(0, .ref a)] 0 []
  refine j_aload_n hx 0 dX12_notes_0 rfl ?_
  refine g13_27 hx hG ha kf_RX12_56 dX12_notes_1 ?_
  refine j_sipush hx dX12_notes_4 rfl ?_
  have f1 := zaQ (j := 488) hS0 (zr (k := 27) (t2 := 84) hG ha rfl) (congrArg some (axS_4 488 (by omega))) (zlen hG (zr (k := 27) (t2 := 84) hG ha rfl) (n := 515) rfl rfl) (show 0 ≤ 488 by omega) (by omega) rfl
  refine j_iald hx hG (zr (k := 27) (t2 := 84) hG ha rfl) (by decide) rfl (zlen hG (zr (k := 27) (t2 := 84) hG ha rfl) (n := 515) rfl rfl) (by omega) (by omega) (j := 488) rfl rfl dX12_notes_7 ?_
  refine j_sipush hx dX12_notes_8 rfl ?_
  refine j_icmp_gt hx 35 dX12_notes_11 rfl (by omega) ⟨by decide, by decide⟩ (fun h2 => ?_) (fun h2 => ?_)
  · skip
    exact j_vret hx hq rfl (by decide) (by decide) dX12_notes_35 ⟨rfl, rfl, hS0, zFr_rf, trivial⟩
  · skip
    refine j_aload_n hx 0 dX12_notes_14 rfl ?_
    refine g13_29 hx hG ha kf_RX12_62 dX12_notes_15 ?_
    refine j_aload_n hx 0 dX12_notes_18 rfl ?_
    refine g13_27 hx hG ha kf_RX12_56 dX12_notes_19 ?_
    refine j_sipush hx dX12_notes_22 rfl ?_
    refine j_iald hx hG (zr (k := 27) (t2 := 84) hG ha rfl) (by decide) rfl (zlen hG (zr (k := 27) (t2 := 84) hG ha rfl) (n := 515) rfl rfl) (by omega) (by omega) (j := 488) rfl rfl dX12_notes_25 ?_
    refine j_iconst hx dX12_notes_26 ?_
    refine j_isub hx (r := (s0 (gP G a 27) 488) - 1) dX12_notes_27 (by omega) ?_
    refine j_aload_n hx 0 dX12_notes_28 rfl ?_
    refine g13_30 hx hG ha kf_RX12_65 dX12_notes_29 ?_
    refine j_iconst hx dX12_notes_32 ?_
    have f3 := zaI (j := 0) hS0 (zr (k := 30) (t2 := 87) hG ha rfl) rfl (zlen hG (zr (k := 30) (t2 := 87) hG ha rfl) (n := 5) rfl rfl) (show 0 ≤ 0 by omega) (by omega) rfl
    refine j_iald hx hG (zr (k := 30) (t2 := 87) hG ha rfl) (by decide) rfl (zlen hG (zr (k := 30) (t2 := 87) hG ha rfl) (n := 5) rfl rfl) (by omega) (by omega) (j := 0) rfl rfl dX12_notes_33 ?_
    refine j_iast hx hG (zr (k := 29) (t2 := 86) hG ha rfl) (by decide) rfl (zlen hG (zr (k := 29) (t2 := 86) hG ha rfl) (n := 10000) rfl rfl) (by omega) (by omega) (j := ((s0 (gP G a 27) 488) - 1).toNat) rfl dX12_notes_34 ?_
    obtain ⟨s1, e_s1⟩ : ∃ z, z = zU s0 (gP G a 29) ((s0 (gP G a 27) 488) - 1).toNat ((s0 (gP G a 30) 0)) := ⟨_, rfl⟩
    rw [← e_s1]
    have hS_s1 : zSK G s1 := by rw [e_s1]; exact zSK_A hS0 (zr (k := 29) (t2 := 86) hG ha rfl) rfl rfl rfl (by omega)
    exact j_vret hx hq rfl (by decide) (by decide) dX12_notes_35 ⟨rfl, rfl, hS_s1, (zFr_u zFr_rf e_s1 (zr (k := 29) (t2 := 86) hG ha rfl) (by decide)), trivial⟩

theorem lk_RX12_412 : LkV RX12 412 RX12 yX12_turn cX12_turn 2 (some .boolean) 0 := ⟨km_RX12_412, ki_yX12_turn, ks_RX12_yX12_turn, kn_RX12, kc_yX12_turn, rfl, by decide +kernel, by decide +kernel, by decide +kernel⟩
theorem lk_RX12_414 : LkV RX12 414 RX12 yX12_notes cX12_notes 1 none 0 := ⟨km_RX12_414, ki_yX12_notes, ks_RX12_yX12_notes, kn_RX12, kc_yX12_notes, rfl, by decide +kernel, by decide +kernel, by decide +kernel⟩
set_option maxHeartbeats 1200000 in
set_option maxRecDepth 20000 in
theorem c_X12_play {E : zE} {l : Launch} (hst : l.stackTraces = false) (a : Nat) (x1 : Int) : Con E l yX12_play cX12_play 3 (some .int) { frames := 6, cells := 0, slots := 0, locals := 141 } (fun G s vs => vs = [.ref a, .int (zI x1)] ∧ zGK G ∧ zSK G s ∧ (gT G a = 13) ∧ ((-2147483648) ≤ x1 ∧ x1 ≤ 2147483647) ∧ (zRva (s (gP G a 34)) (s (gP G a 35)) (s (gP G a 37))) ∧ (zc (s (gP G a 27)) ≤ 60) ∧ (s (gP G a 27) 488 ≤ 520000)) (fun G s _ => pI (fun r G2 s2 => G2 = G ∧ zSK G s2 ∧ zFr [13, 71, 84, 86, 87, 95, 98] G s s2 ∧ ((-2147483648) ≤ r ∧ r ≤ 2147483647) ∧ zc (s2 (gP G a 27)) = zc (s (gP G a 27)) ∧ s2 (gP G a 27) 488 ≤ s (gP G a 27) 488 + 999 ∧ s2 a 3 = s a 3 ∧ s2 a 4 = s a 4 ∧ s2 a 5 = s a 5 ∧ s2 a 7 = s a 7 ∧ s2 a 21 = s a 21 ∧ s2 a 22 = s a 22 ∧ s2 a 23 = s a 23 ∧ s2 a 24 = s a 24 ∧ s2 a 38 = s a 38 ∧ s2 a 51 = s a 51 ∧ s2 a 52 = s a 52)) := by
  refine Con.mk hst (by decide) (fun G s vs h => by rw [h.1]; exact Nat.le_of_ble_eq_true rfl) ?_
  rintro X G s0 vs ⟨rfl, hG, hS0, ha, hx1, e0, e1, e2⟩ rfl hx hq
  show JJ X E 3 G s0 0 0 [(0, .ref a), (1, .int (zI x1))] 0 []
  refine j_aload_n hx 0 dX12_play_0 rfl ?_
  refine j_iconst hx dX12_play_1 ?_
  refine p13_0 hx hG ha kf_RX12_3 dX12_play_2 ?_
  obtain ⟨s1, e_s1⟩ : ∃ z, z = zU s0 a 0 0 := ⟨_, rfl⟩
  rw [← e_s1]
  have hS_s1 : zSK G s1 := by rw [e_s1]; exact zSK_F hS0 ha rfl rfl rfl (by omega)
  refine j_aload_n hx 0 dX12_play_5 rfl ?_
  refine j_iload_n hx 1 dX12_play_6 rfl ?_
  refine j_iconst hx dX12_play_7 ?_
  refine j_sipush hx dX12_play_8 rfl ?_
  refine j_callS hx (c_X12_within hst x1 1 999) lk_RX12_314 [.int (zI x1), .int (zI 1), .int (zI 999)] ⟨rfl, hG, hS_s1, (by omega), (by omega), (by omega)⟩ rfl rfl ⟨by decide, by decide⟩ ⟨by decide, by decide⟩ (k2 := 0) (n2 := 0) rfl rfl (Nat.le_of_ble_eq_true rfl) dX12_play_11 (kIP (fun v1 q2 => ?_))
  refine j_iconst hx dX12_play_14 ?_
  refine j_iconst hx dX12_play_15 ?_
  rcases (show v1 = 0 ∨ v1 = 1 by omega) with rfl | rfl
  · skip
    have g4 : s1 a 0 = 0 := (by rw [e_s1, zU_eq])
    have g5 : s1 a 3 = s0 a 3 := (by rw [e_s1, zU_at (Or.inr (by decide))])
    have f6 := zf hS0 ha (k := 3) rfl
    have g7 : s1 a 4 = s0 a 4 := (by rw [e_s1, zU_at (Or.inr (by decide))])
    have f8 := zf hS0 ha (k := 4) rfl
    have g9 : s1 a 5 = s0 a 5 := (by rw [e_s1, zU_at (Or.inr (by decide))])
    have f10 := zf hS0 ha (k := 5) rfl
    have g11 : s1 a 7 = s0 a 7 := (by rw [e_s1, zU_at (Or.inr (by decide))])
    have f12 := zf hS0 ha (k := 7) rfl
    have g13 : s1 a 21 = s0 a 21 := (by rw [e_s1, zU_at (Or.inr (by decide))])
    have f14 := zf hS0 ha (k := 21) rfl
    have g15 : s1 a 22 = s0 a 22 := (by rw [e_s1, zU_at (Or.inr (by decide))])
    have f16 := zf hS0 ha (k := 22) rfl
    have g17 : s1 a 23 = s0 a 23 := (by rw [e_s1, zU_at (Or.inr (by decide))])
    have f18 := zf hS0 ha (k := 23) rfl
    have g19 : s1 a 24 = s0 a 24 := (by rw [e_s1, zU_at (Or.inr (by decide))])
    have f20 := zf hS0 ha (k := 24) rfl
    have g21 : s1 a 38 = s0 a 38 := (by rw [e_s1, zU_at (Or.inr (by decide))])
    have f22 := zf hS0 ha (k := 38) rfl
    have g23 : s1 a 51 = s0 a 51 := (by rw [e_s1, zU_at (Or.inr (by decide))])
    have f24 := zf hS0 ha (k := 51) rfl
    have g25 : s1 a 52 = s0 a 52 := (by rw [e_s1, zU_at (Or.inr (by decide))])
    have f26 := zf hS0 ha (k := 52) rfl
    refine j_callV hx hG (c_X12_may_f hst a 0 1 1) lk_RX12_240 ha (by decide) rfl rfl rfl rfl [.int (zI 0), .int (zI 1), .int (zI 1)] ⟨rfl, hG, hS_s1, ha, (by omega), (by omega), (by omega), (((by rw [e_s1, zU_eq]) : s1 a 0 = 0).trans (by omega))⟩ rfl rfl ⟨by decide, by decide⟩ ⟨by decide, by decide⟩ (k2 := 0) (n2 := 0) rfl rfl (Nat.le_of_ble_eq_true rfl) dX12_play_16 (kIM (fun v27 s2 hS_s2 hF_s2 q28 => ?_))
    refine j_if_ne hx 24 dX12_play_19 rfl (by omega) (fun h29 => absurd h29 (by omega)) (fun h29 => ?_)
    refine j_iconst hx dX12_play_22 ?_
    have g30 : zc (s2 (gP G a 27)) = zc (s0 (gP G a 27)) := by rw [hF_s2 (gP G a 27) (by rw [(zr (k := 27) (t2 := 84) hG ha rfl)]; decide), e_s1, zU_ne (zne ha (zr (k := 27) (t2 := 84) hG ha rfl) (by decide))]
    have g31 : s2 (gP G a 27) 488 = s0 (gP G a 27) 488 := (by rw [(zFr_g hF_s2 (zr (k := 27) (t2 := 84) hG ha rfl) (by decide)), e_s1, zU_at (Or.inl (zne ha (zr (k := 27) (t2 := 84) hG ha rfl) (by decide)))])
    have f32 := zf hS_s2 ha (k := 3) rfl
    have f33 := zf hS_s2 ha (k := 4) rfl
    have f34 := zf hS_s2 ha (k := 5) rfl
    have f35 := zf hS_s2 ha (k := 7) rfl
    have f36 := zf hS_s2 ha (k := 21) rfl
    have f37 := zf hS_s2 ha (k := 22) rfl
    have f38 := zf hS_s2 ha (k := 23) rfl
    have f39 := zf hS_s2 ha (k := 24) rfl
    have f40 := zf hS_s2 ha (k := 38) rfl
    have f41 := zf hS_s2 ha (k := 51) rfl
    have f42 := zf hS_s2 ha (k := 52) rfl
    exact j_iret hx hq rfl (by decide) (by decide) dX12_play_23 ⟨0, rfl, rfl, hS_s2, (zFr_t (zFr_u zFr_rf e_s1 ha (by decide)) hF_s2 (by decide)), ⟨(by omega), by omega, by omega, by omega, by omega, by omega, by omega, by omega, by omega, by omega, by omega, by omega, by omega, by omega⟩⟩
  · skip
    have g43 : s1 a 0 = 0 := (by rw [e_s1, zU_eq])
    refine j_callV hx hG (c_X12_may_t hst a 1 1 1) lk_RX12_240 ha (by decide) rfl rfl rfl rfl [.int (zI 1), .int (zI 1), .int (zI 1)] ⟨rfl, hG, hS_s1, ha, (by omega), (by omega), (by omega), (((by rw [e_s1, zU_eq]) : s1 a 0 = 0).trans (by omega))⟩ rfl rfl ⟨by decide, by decide⟩ ⟨by decide, by decide⟩ (k2 := 0) (n2 := 0) rfl rfl (Nat.le_of_ble_eq_true rfl) dX12_play_16 (kIP (fun v44 q45 => ?_))
    refine j_if_ne hx 24 dX12_play_19 rfl (by omega) (fun h46 => ?_) (fun h46 => absurd h46 (by omega))
    refine j_iconst hx dX12_play_24 ?_
    refine j_istore_n hx [(2, .int (zI 0)), (0, .ref a), (1, .int (zI x1))] dX12_play_25 (by decide) rfl ?_
    have g48 : s1 a 3 = s0 a 3 := (by rw [e_s1, zU_at (Or.inr (by decide))])
    have f49 := zf hS0 ha (k := 3) rfl
    have g50 : s1 a 4 = s0 a 4 := (by rw [e_s1, zU_at (Or.inr (by decide))])
    have f51 := zf hS0 ha (k := 4) rfl
    have g52 : s1 a 5 = s0 a 5 := (by rw [e_s1, zU_at (Or.inr (by decide))])
    have f53 := zf hS0 ha (k := 5) rfl
    have g54 : s1 a 7 = s0 a 7 := (by rw [e_s1, zU_at (Or.inr (by decide))])
    have f55 := zf hS0 ha (k := 7) rfl
    have g56 : s1 a 21 = s0 a 21 := (by rw [e_s1, zU_at (Or.inr (by decide))])
    have f57 := zf hS0 ha (k := 21) rfl
    have g58 : s1 a 22 = s0 a 22 := (by rw [e_s1, zU_at (Or.inr (by decide))])
    have f59 := zf hS0 ha (k := 22) rfl
    have g60 : s1 a 23 = s0 a 23 := (by rw [e_s1, zU_at (Or.inr (by decide))])
    have f61 := zf hS0 ha (k := 23) rfl
    have g62 : s1 a 24 = s0 a 24 := (by rw [e_s1, zU_at (Or.inr (by decide))])
    have f63 := zf hS0 ha (k := 24) rfl
    have g64 : s1 a 38 = s0 a 38 := (by rw [e_s1, zU_at (Or.inr (by decide))])
    have f65 := zf hS0 ha (k := 38) rfl
    have g66 : s1 a 51 = s0 a 51 := (by rw [e_s1, zU_at (Or.inr (by decide))])
    have f67 := zf hS0 ha (k := 51) rfl
    have g68 : s1 a 52 = s0 a 52 := (by rw [e_s1, zU_at (Or.inr (by decide))])
    have f69 := zf hS0 ha (k := 52) rfl
    have g70 : s1 (gP G a 27) 488 = s0 (gP G a 27) 488 := (by rw [e_s1, zU_at (Or.inl (zne ha (zr (k := 27) (t2 := 84) hG ha rfl) (by decide)))])
    have g71 : zc (s1 (gP G a 27)) = zc (s0 (gP G a 27)) := by rw [e_s1, zU_ne (zne ha (zr (k := 27) (t2 := 84) hG ha rfl) (by decide))]
    have c26_3 : ∀ (m_c26_3 : Nat) (v47 : Int) (s4 : zS), 2147483648 - v47 < m_c26_3 → (0 ≤ v47 ∧ v47 ≤ 999) → (zSK G s4) → (zFr [13, 84, 86, 87, 95, 98] G s1 s4) → (s4 a 0 = s1 a 0) → (s4 a 3 = s1 a 3) → (s4 a 4 = s1 a 4) → (s4 a 5 = s1 a 5) → (s4 a 7 = s1 a 7) → (s4 a 21 = s1 a 21) → (s4 a 22 = s1 a 22) → (s4 a 23 = s1 a 23) → (s4 a 24 = s1 a 24) → (s4 a 38 = s1 a 38) → (s4 a 51 = s1 a 51) → (s4 a 52 = s1 a 52) → (zc (s4 (gP G a 27)) = zc (s1 (gP G a 27))) → (s4 (gP G a 27) 488 ≤ s1 (gP G a 27) 488 + v47) → (v47 ≤ x1) → JJ X E 3 G s4 0 0 [(0, .ref a), (1, .int (zI x1)), (2, .int (zI v47))] 26 [] := by
      intro m_c26_3
      induction m_c26_3 with
      | zero => intro v47 s4 hm_c26_3 fA5 hS_s4 hF_s4 fA8 fA9 fA10 fA11 fA12 fA13 fA14 fA15 fA16 fA17 fA18 fA19 fA20 fA21 fA22; exfalso; omega
      | succ m_c26_3 ih_c26_3 => 
        intro v47 s4 hm_c26_3 fA5 hS_s4 hF_s4 fA8 fA9 fA10 fA11 fA12 fA13 fA14 fA15 fA16 fA17 fA18 fA19 fA20 fA21 fA22
        have f72 := zaQ (j := 488) hS_s4 (zr (k := 27) (t2 := 84) hG ha rfl) (congrArg some (axS_4 488 (by omega))) (zlen hG (zr (k := 27) (t2 := 84) hG ha rfl) (n := 515) rfl rfl) (show (0 : Int) ≤ 488 by decide) (by decide) rfl
        refine j_iload_n hx 2 dX12_play_26 rfl ?_
        refine j_iload_n hx 1 dX12_play_27 rfl ?_
        refine j_icmp_ge hx 48 dX12_play_28 rfl (by omega) (by omega) (fun h73 => ?_) (fun h73 => ?_)
        · skip
          refine j_iload_n hx 2 dX12_play_48 rfl ?_
          have f74 := zf hS_s4 ha (k := 3) rfl
          have f75 := zf hS_s4 ha (k := 4) rfl
          have f76 := zf hS_s4 ha (k := 5) rfl
          have f77 := zf hS_s4 ha (k := 7) rfl
          have f78 := zf hS_s4 ha (k := 21) rfl
          have f79 := zf hS_s4 ha (k := 22) rfl
          have f80 := zf hS_s4 ha (k := 23) rfl
          have f81 := zf hS_s4 ha (k := 24) rfl
          have f82 := zf hS_s4 ha (k := 38) rfl
          have f83 := zf hS_s4 ha (k := 51) rfl
          have f84 := zf hS_s4 ha (k := 52) rfl
          exact j_iret hx hq rfl (by decide) (by decide) dX12_play_49 ⟨v47, rfl, rfl, hS_s4, (zFr_t (zFr_u zFr_rf e_s1 ha (by decide)) hF_s4 (by decide)), ⟨(by omega), by omega, by omega, by omega, by omega, by omega, by omega, by omega, by omega, by omega, by omega, by omega, by omega, by omega⟩⟩
        · skip
          refine j_aload_n hx 0 dX12_play_31 rfl ?_
          have f85 := zf hS_s4 ha (k := 0) rfl
          have f86 := zf hS_s4 ha (k := 3) rfl
          have f87 := zf hS_s4 ha (k := 4) rfl
          have f88 := zf hS_s4 ha (k := 5) rfl
          have f89 := zf hS_s4 ha (k := 7) rfl
          have f90 := zf hS_s4 ha (k := 21) rfl
          have f91 := zf hS_s4 ha (k := 22) rfl
          have f92 := zf hS_s4 ha (k := 23) rfl
          have f93 := zf hS_s4 ha (k := 24) rfl
          have f94 := zf hS_s4 ha (k := 38) rfl
          have f95 := zf hS_s4 ha (k := 51) rfl
          have f96 := zf hS_s4 ha (k := 52) rfl
          refine j_callV hx hG (c_X12_turn hst a) lk_RX12_412 ha (by decide) rfl rfl rfl rfl [] ⟨rfl, hG, hS_s4, ha, (by omega), ((by have q1 : s4 (gP G a 34) = s0 (gP G a 34) := (by rw [hF_s4 (gP G a 34) (by rw [(zr (k := 34) (t2 := 91) hG ha rfl)]; decide), e_s1, zU_ne (zne ha (zr (k := 34) (t2 := 91) hG ha rfl) (by decide))]); have q2 : s4 (gP G a 35) = s0 (gP G a 35) := (by rw [hF_s4 (gP G a 35) (by rw [(zr (k := 35) (t2 := 92) hG ha rfl)]; decide), e_s1, zU_ne (zne ha (zr (k := 35) (t2 := 92) hG ha rfl) (by decide))]); have q3 : s4 (gP G a 37) = s0 (gP G a 37) := (by rw [hF_s4 (gP G a 37) (by rw [(zr (k := 37) (t2 := 94) hG ha rfl)]; decide), e_s1, zU_ne (zne ha (zr (k := 37) (t2 := 94) hG ha rfl) (by decide))]); rw [q1, q2, q3]; exact e0)), (by omega)⟩ rfl rfl ⟨by decide, by decide⟩ ⟨by decide, by decide⟩ (k2 := 0) (n2 := 0) rfl rfl (Nat.le_of_ble_eq_true rfl) dX12_play_32 (kIM (fun v97 s23 hS_s23 hF_s23 q98 => ?_))
          refine j_if_eq hx 48 dX12_play_35 rfl (by omega) (fun h99 => ?_) (fun h99 => ?_)
          · skip
            refine j_iload_n hx 2 dX12_play_48 rfl ?_
            have f100 := zf hS_s23 ha (k := 3) rfl
            have f101 := zf hS_s23 ha (k := 4) rfl
            have f102 := zf hS_s23 ha (k := 5) rfl
            have f103 := zf hS_s23 ha (k := 7) rfl
            have f104 := zf hS_s23 ha (k := 21) rfl
            have f105 := zf hS_s23 ha (k := 22) rfl
            have f106 := zf hS_s23 ha (k := 23) rfl
            have f107 := zf hS_s23 ha (k := 24) rfl
            have f108 := zf hS_s23 ha (k := 38) rfl
            have f109 := zf hS_s23 ha (k := 51) rfl
            have f110 := zf hS_s23 ha (k := 52) rfl
            exact j_iret hx hq rfl (by decide) (by decide) dX12_play_49 ⟨v47, rfl, rfl, hS_s23, (zFr_t (zFr_t (zFr_u zFr_rf e_s1 ha (by decide)) hF_s4 (by decide)) hF_s23 (by decide)), ⟨(by omega), by omega, by omega, by omega, by omega, by omega, by omega, by omega, by omega, by omega, by omega, by omega, by omega, by omega⟩⟩
          · skip
            refine j_aload_n hx 0 dX12_play_38 rfl ?_
            refine j_callV hx hG (c_X12_notes hst a) lk_RX12_414 ha (by decide) rfl rfl rfl rfl [] ⟨rfl, hG, hS_s23, ha, (by omega)⟩ rfl rfl ⟨by decide, by decide⟩ ⟨by decide, by decide⟩ (k2 := 0) (n2 := 0) rfl rfl (Nat.le_of_ble_eq_true rfl) dX12_play_39 (kVM (fun s24 hS_s24 hF_s24 q112 => ?_))
            refine j_iinc hx 2 [(2, .int (zI (v47 + 1))), (0, .ref a), (1, .int (zI x1))] dX12_play_42 rfl (by omega) (by decide) rfl ?_
            refine j_goto hx 26 dX12_play_45 rfl ?_
            have g113 : s24 a 0 = s23 a 0 := (by rw [(zFr_g hF_s24 ha (by decide))])
            have f114 := zf hS_s23 ha (k := 0) rfl
            have g115 : s24 a 3 = s23 a 3 := (by rw [(zFr_g hF_s24 ha (by decide))])
            have f116 := zf hS_s23 ha (k := 3) rfl
            have g117 : s24 a 4 = s23 a 4 := (by rw [(zFr_g hF_s24 ha (by decide))])
            have f118 := zf hS_s23 ha (k := 4) rfl
            have g119 : s24 a 5 = s23 a 5 := (by rw [(zFr_g hF_s24 ha (by decide))])
            have f120 := zf hS_s23 ha (k := 5) rfl
            have g121 : s24 a 7 = s23 a 7 := (by rw [(zFr_g hF_s24 ha (by decide))])
            have f122 := zf hS_s23 ha (k := 7) rfl
            have g123 : s24 a 21 = s23 a 21 := (by rw [(zFr_g hF_s24 ha (by decide))])
            have f124 := zf hS_s23 ha (k := 21) rfl
            have g125 : s24 a 22 = s23 a 22 := (by rw [(zFr_g hF_s24 ha (by decide))])
            have f126 := zf hS_s23 ha (k := 22) rfl
            have g127 : s24 a 23 = s23 a 23 := (by rw [(zFr_g hF_s24 ha (by decide))])
            have f128 := zf hS_s23 ha (k := 23) rfl
            have g129 : s24 a 24 = s23 a 24 := (by rw [(zFr_g hF_s24 ha (by decide))])
            have f130 := zf hS_s23 ha (k := 24) rfl
            have g131 : s24 a 38 = s23 a 38 := (by rw [(zFr_g hF_s24 ha (by decide))])
            have f132 := zf hS_s23 ha (k := 38) rfl
            have g133 : s24 a 51 = s23 a 51 := (by rw [(zFr_g hF_s24 ha (by decide))])
            have f134 := zf hS_s23 ha (k := 51) rfl
            have g135 : s24 a 52 = s23 a 52 := (by rw [(zFr_g hF_s24 ha (by decide))])
            have f136 := zf hS_s23 ha (k := 52) rfl
            have g137 : zc (s24 (gP G a 27)) = zc (s23 (gP G a 27)) := by rw [hF_s24 (gP G a 27) (by rw [(zr (k := 27) (t2 := 84) hG ha rfl)]; decide)]
            have g138 : s24 (gP G a 27) 488 = s23 (gP G a 27) 488 := (by rw [(zFr_g hF_s24 (zr (k := 27) (t2 := 84) hG ha rfl) (by decide))])
            exact j_sub [1, 2, 0] [(0, .ref a), (1, .int (zI x1)), (2, .int (zI (v47 + 1)))] rfl (ih_c26_3 (v47 + 1) s24 (by omega) (by omega) hS_s24 (zFr_t (zFr_t (zFr_t zFr_rf hF_s4 (by decide)) hF_s23 (by decide)) hF_s24 (by decide)) (by omega) (by omega) (by omega) (by omega) (by omega) (by omega) (by omega) (by omega) (by omega) (by omega) (by omega) (by omega) (by omega) (by omega) (by omega))
    exact j_sub [1, 2, 0] [(0, .ref a), (1, .int (zI x1)), (2, .int (zI 0))] rfl (c26_3 (2147483648 * 4) 0 s1 (by omega) (by omega) hS_s1 zFr_rf (by omega) (by omega) (by omega) (by omega) (by omega) (by omega) (by omega) (by omega) (by omega) (by omega) (by omega) (by omega) (by omega) (by omega) (by omega))

set_option maxHeartbeats 1200000 in
set_option maxRecDepth 20000 in
theorem c_X12_undo {E : zE} {l : Launch} (hst : l.stackTraces = false) (a : Nat) (x1 : Int) : Con E l yX12_undo cX12_undo 5 (some .int) { frames := 6, cells := 0, slots := 0, locals := 141 } (fun G s vs => vs = [.ref a, .int (zI x1)] ∧ zGK G ∧ zSK G s ∧ (gT G a = 13) ∧ ((-2147483648) ≤ x1 ∧ x1 ≤ 2147483647) ∧ (zRva (s (gP G a 34)) (s (gP G a 35)) (s (gP G a 37))) ∧ (zc (s (gP G a 27)) ≤ 60) ∧ (s (gP G a 27) 488 ≤ 520000) ∧ (zc (s (gP G a 28)) ≤ 60) ∧ (s (gP G a 28) 488 ≤ 520000)) (fun G s _ => pI (fun r G2 s2 => G2 = G ∧ zSK G s2 ∧ zFr [13, 71, 84, 87, 95, 98] G s s2 ∧ ((-2147483648) ≤ r ∧ r ≤ 2147483647) ∧ zc (s2 (gP G a 27)) ≤ 60 ∧ (s2 (gP G a 27) 488 ≤ s (gP G a 27) 488 ∨ s2 (gP G a 27) 488 ≤ s (gP G a 28) 488) ∧ s2 a 3 = s a 3 ∧ s2 a 4 = s a 4 ∧ s2 a 5 = s a 5 ∧ s2 a 7 = s a 7 ∧ s2 a 21 = s a 21 ∧ s2 a 22 = s a 22 ∧ s2 a 23 = s a 23 ∧ s2 a 24 = s a 24 ∧ s2 a 38 = s a 38 ∧ s2 a 51 = s a 51 ∧ s2 a 52 = s a 52)) := by
  refine Con.mk hst (by decide) (fun G s vs h => by rw [h.1]; exact Nat.le_of_ble_eq_true rfl) ?_
  rintro X G s0 vs ⟨rfl, hG, hS0, ha, hx1, e0, e1, e2, e3, e4⟩ rfl hx hq
  show JJ X E 5 G s0 0 0 [(0, .ref a), (1, .int (zI x1))] 0 []
  refine j_aload_n hx 0 dX12_undo_0 rfl ?_
  refine j_iconst hx dX12_undo_1 ?_
  refine p13_0 hx hG ha kf_RX12_3 dX12_undo_2 ?_
  obtain ⟨s1, e_s1⟩ : ∃ z, z = zU s0 a 0 0 := ⟨_, rfl⟩
  rw [← e_s1]
  have hS_s1 : zSK G s1 := by rw [e_s1]; exact zSK_F hS0 ha rfl rfl rfl (by omega)
  refine j_aload_n hx 0 dX12_undo_5 rfl ?_
  refine j_iload_n hx 1 dX12_undo_6 rfl ?_
  refine j_iconst hx dX12_undo_7 ?_
  refine j_sipush hx dX12_undo_8 rfl ?_
  refine j_callS hx (c_X12_within hst x1 1 999) lk_RX12_314 [.int (zI x1), .int (zI 1), .int (zI 999)] ⟨rfl, hG, hS_s1, (by omega), (by omega), (by omega)⟩ rfl rfl ⟨by decide, by decide⟩ ⟨by decide, by decide⟩ (k2 := 0) (n2 := 0) rfl rfl (Nat.le_of_ble_eq_true rfl) dX12_undo_11 (kIP (fun v1 q2 => ?_))
  refine j_iconst hx dX12_undo_14 ?_
  refine j_iconst hx dX12_undo_15 ?_
  rcases (show v1 = 0 ∨ v1 = 1 by omega) with rfl | rfl
  · skip
    have g4 : s1 a 0 = 0 := (by rw [e_s1, zU_eq])
    have g5 : s1 a 3 = s0 a 3 := (by rw [e_s1, zU_at (Or.inr (by decide))])
    have f6 := zf hS0 ha (k := 3) rfl
    have g7 : s1 a 4 = s0 a 4 := (by rw [e_s1, zU_at (Or.inr (by decide))])
    have f8 := zf hS0 ha (k := 4) rfl
    have g9 : s1 a 5 = s0 a 5 := (by rw [e_s1, zU_at (Or.inr (by decide))])
    have f10 := zf hS0 ha (k := 5) rfl
    have g11 : s1 a 7 = s0 a 7 := (by rw [e_s1, zU_at (Or.inr (by decide))])
    have f12 := zf hS0 ha (k := 7) rfl
    have g13 : s1 a 21 = s0 a 21 := (by rw [e_s1, zU_at (Or.inr (by decide))])
    have f14 := zf hS0 ha (k := 21) rfl
    have g15 : s1 a 22 = s0 a 22 := (by rw [e_s1, zU_at (Or.inr (by decide))])
    have f16 := zf hS0 ha (k := 22) rfl
    have g17 : s1 a 23 = s0 a 23 := (by rw [e_s1, zU_at (Or.inr (by decide))])
    have f18 := zf hS0 ha (k := 23) rfl
    have g19 : s1 a 24 = s0 a 24 := (by rw [e_s1, zU_at (Or.inr (by decide))])
    have f20 := zf hS0 ha (k := 24) rfl
    have g21 : s1 a 38 = s0 a 38 := (by rw [e_s1, zU_at (Or.inr (by decide))])
    have f22 := zf hS0 ha (k := 38) rfl
    have g23 : s1 a 51 = s0 a 51 := (by rw [e_s1, zU_at (Or.inr (by decide))])
    have f24 := zf hS0 ha (k := 51) rfl
    have g25 : s1 a 52 = s0 a 52 := (by rw [e_s1, zU_at (Or.inr (by decide))])
    have f26 := zf hS0 ha (k := 52) rfl
    refine j_callV hx hG (c_X12_may_f hst a 0 1 1) lk_RX12_240 ha (by decide) rfl rfl rfl rfl [.int (zI 0), .int (zI 1), .int (zI 1)] ⟨rfl, hG, hS_s1, ha, (by omega), (by omega), (by omega), (((by rw [e_s1, zU_eq]) : s1 a 0 = 0).trans (by omega))⟩ rfl rfl ⟨by decide, by decide⟩ ⟨by decide, by decide⟩ (k2 := 0) (n2 := 0) rfl rfl (Nat.le_of_ble_eq_true rfl) dX12_undo_16 (kIM (fun v27 s2 hS_s2 hF_s2 q28 => ?_))
    refine j_if_ne hx 24 dX12_undo_19 rfl (by omega) (fun h29 => absurd h29 (by omega)) (fun h29 => ?_)
    refine j_iconst hx dX12_undo_22 ?_
    have g30 : zc (s2 (gP G a 27)) = zc (s0 (gP G a 27)) := by rw [hF_s2 (gP G a 27) (by rw [(zr (k := 27) (t2 := 84) hG ha rfl)]; decide), e_s1, zU_ne (zne ha (zr (k := 27) (t2 := 84) hG ha rfl) (by decide))]
    have g31 : s2 (gP G a 27) 488 = s0 (gP G a 27) 488 := (by rw [(zFr_g hF_s2 (zr (k := 27) (t2 := 84) hG ha rfl) (by decide)), e_s1, zU_at (Or.inl (zne ha (zr (k := 27) (t2 := 84) hG ha rfl) (by decide)))])
    have f32 := zf hS_s2 ha (k := 3) rfl
    have f33 := zf hS_s2 ha (k := 4) rfl
    have f34 := zf hS_s2 ha (k := 5) rfl
    have f35 := zf hS_s2 ha (k := 7) rfl
    have f36 := zf hS_s2 ha (k := 21) rfl
    have f37 := zf hS_s2 ha (k := 22) rfl
    have f38 := zf hS_s2 ha (k := 23) rfl
    have f39 := zf hS_s2 ha (k := 24) rfl
    have f40 := zf hS_s2 ha (k := 38) rfl
    have f41 := zf hS_s2 ha (k := 51) rfl
    have f42 := zf hS_s2 ha (k := 52) rfl
    exact j_iret hx hq rfl (by decide) (by decide) dX12_undo_23 ⟨0, rfl, rfl, hS_s2, (zFr_t (zFr_u zFr_rf e_s1 ha (by decide)) hF_s2 (by decide)), ⟨(by omega), by omega, by omega, by omega, by omega, by omega, by omega, by omega, by omega, by omega, by omega, by omega, by omega, by omega⟩⟩
  · skip
    have g43 : s1 a 0 = 0 := (by rw [e_s1, zU_eq])
    refine j_callV hx hG (c_X12_may_t hst a 1 1 1) lk_RX12_240 ha (by decide) rfl rfl rfl rfl [.int (zI 1), .int (zI 1), .int (zI 1)] ⟨rfl, hG, hS_s1, ha, (by omega), (by omega), (by omega), (((by rw [e_s1, zU_eq]) : s1 a 0 = 0).trans (by omega))⟩ rfl rfl ⟨by decide, by decide⟩ ⟨by decide, by decide⟩ (k2 := 0) (n2 := 0) rfl rfl (Nat.le_of_ble_eq_true rfl) dX12_undo_16 (kIP (fun v44 q45 => ?_))
    refine j_if_ne hx 24 dX12_undo_19 rfl (by omega) (fun h46 => ?_) (fun h46 => absurd h46 (by omega))
    refine j_aload_n hx 0 dX12_undo_24 rfl ?_
    refine g13_27 hx hG ha kf_RX12_56 dX12_undo_25 ?_
    refine j_sipush hx dX12_undo_28 rfl ?_
    have f47 := zaQ (j := 488) hS0 (zr (k := 27) (t2 := 84) hG ha rfl) (congrArg some (axS_4 488 (by omega))) (zlen hG (zr (k := 27) (t2 := 84) hG ha rfl) (n := 515) rfl rfl) (show 0 ≤ 488 by omega) (by omega) rfl
    refine j_iald hx hG (zr (k := 27) (t2 := 84) hG ha rfl) (by decide) rfl (zlen hG (zr (k := 27) (t2 := 84) hG ha rfl) (n := 515) rfl rfl) (by omega) (by omega) (j := 488) rfl (v := (s0 (gP G a 27) 488)) (by rw [e_s1, zU_at (Or.inl (zne ha (zr (k := 27) (t2 := 84) hG ha rfl) (by decide)))]) dX12_undo_31 ?_
    refine j_aload_n hx 0 dX12_undo_32 rfl ?_
    refine g13_28 hx hG ha kf_RX12_59 dX12_undo_33 ?_
    refine j_sipush hx dX12_undo_36 rfl ?_
    have f48 := zaQ (j := 488) hS0 (zr (k := 28) (t2 := 85) hG ha rfl) (congrArg some (axS_4 488 (by omega))) (zlen hG (zr (k := 28) (t2 := 85) hG ha rfl) (n := 515) rfl rfl) (show 0 ≤ 488 by omega) (by omega) rfl
    refine j_iald hx hG (zr (k := 28) (t2 := 85) hG ha rfl) (by decide) rfl (zlen hG (zr (k := 28) (t2 := 85) hG ha rfl) (n := 515) rfl rfl) (by omega) (by omega) (j := 488) rfl (v := (s0 (gP G a 28) 488)) (by rw [e_s1, zU_at (Or.inl (zne ha (zr (k := 28) (t2 := 85) hG ha rfl) (by decide)))]) dX12_undo_39 ?_
    refine j_isub hx (r := (s0 (gP G a 27) 488) - (s0 (gP G a 28) 488)) dX12_undo_40 (by omega) ?_
    refine j_istore_n hx [(2, .int (zI ((s0 (gP G a 27) 488) - (s0 (gP G a 28) 488)))), (0, .ref a), (1, .int (zI x1))] dX12_undo_41 (by decide) rfl ?_
    refine j_iload_n hx 2 dX12_undo_42 rfl ?_
    refine j_iload_n hx 0 dX12_undo_43 rfl ?_
    refine j_icmp_ge hx 51 dX12_undo_44 rfl (by omega) (by omega) (fun h49 => ?_) (fun h49 => ?_)
    · skip
      refine j_iload_n hx 0 dX12_undo_51 rfl ?_
      refine j_istore_n hx [(3, .int (zI ((s0 (gP G a 27) 488) - (s0 (gP G a 28) 488)))), (2, .int (zI ((s0 (gP G a 27) 488) - (s0 (gP G a 28) 488)))), (0, .ref a), (1, .int (zI x1))] dX12_undo_52 (by decide) rfl ?_
      refine j_iload_n hx 0 dX12_undo_53 rfl ?_
      refine j_if_ne hx 59 dX12_undo_54 rfl (by omega) (fun h50 => ?_) (fun h50 => ?_)
      · skip
        refine j_iconst hx dX12_undo_59 ?_
        refine j_istore hx [(4, .int (zI 0)), (3, .int (zI ((s0 (gP G a 27) 488) - (s0 (gP G a 28) 488)))), (2, .int (zI ((s0 (gP G a 27) 488) - (s0 (gP G a 28) 488)))), (0, .ref a), (1, .int (zI x1))] dX12_undo_60 (by decide) rfl ?_
        have c62_3 : ∀ (m_c62_3 : Nat) (v51 : Int) (s4 : zS), 2147483648 - v51 < m_c62_3 → (0 ≤ v51 ∧ v51 ≤ 515) → (zSK G s4) → (zFr [84] G s1 s4) → (zEq (v51).toNat (s4 (gP G a 27)) (s0 (gP G a 28))) → JJ X E 5 G s4 0 0 [(0, .ref a), (2, .int (zI ((s0 (gP G a 27) 488) - (s0 (gP G a 28) 488)))), (3, .int (zI ((s0 (gP G a 27) 488) - (s0 (gP G a 28) 488)))), (4, .int (zI v51))] 62 [] := by
          intro m_c62_3
          induction m_c62_3 with
          | zero => intro v51 s4 hm_c62_3 fA5 hS_s4 hF_s4 hE1; exfalso; omega
          | succ m_c62_3 ih_c62_3 => 
            intro v51 s4 hm_c62_3 fA5 hS_s4 hF_s4 hE1
            refine j_iload hx 3 dX12_undo_62 rfl ?_
            refine j_sipush hx dX12_undo_64 rfl ?_
            refine j_icmp_ge hx 90 dX12_undo_67 rfl (by omega) ⟨by decide, by decide⟩ (fun h52 => ?_) (fun h52 => ?_)
            · skip
              have z53 := zEq_zc hE1 (by omega)
              refine j_iconst hx dX12_undo_90 ?_
              refine j_istore hx [(4, .int (zI 0)), (0, .ref a), (2, .int (zI ((s0 (gP G a 27) 488) - (s0 (gP G a 28) 488)))), (3, .int (zI ((s0 (gP G a 27) 488) - (s0 (gP G a 28) 488))))] dX12_undo_91 (by decide) rfl ?_
              have g55 : s4 a 0 = 0 := (by rw [(zFr_g hF_s4 ha (by decide)), e_s1, zU_eq])
              have g56 : s4 a 3 = s0 a 3 := (by rw [(zFr_g hF_s4 ha (by decide)), e_s1, zU_at (Or.inr (by decide))])
              have f57 := zf hS0 ha (k := 3) rfl
              have g58 : s4 a 4 = s0 a 4 := (by rw [(zFr_g hF_s4 ha (by decide)), e_s1, zU_at (Or.inr (by decide))])
              have f59 := zf hS0 ha (k := 4) rfl
              have g60 : s4 a 5 = s0 a 5 := (by rw [(zFr_g hF_s4 ha (by decide)), e_s1, zU_at (Or.inr (by decide))])
              have f61 := zf hS0 ha (k := 5) rfl
              have g62 : s4 a 7 = s0 a 7 := (by rw [(zFr_g hF_s4 ha (by decide)), e_s1, zU_at (Or.inr (by decide))])
              have f63 := zf hS0 ha (k := 7) rfl
              have g64 : s4 a 21 = s0 a 21 := (by rw [(zFr_g hF_s4 ha (by decide)), e_s1, zU_at (Or.inr (by decide))])
              have f65 := zf hS0 ha (k := 21) rfl
              have g66 : s4 a 22 = s0 a 22 := (by rw [(zFr_g hF_s4 ha (by decide)), e_s1, zU_at (Or.inr (by decide))])
              have f67 := zf hS0 ha (k := 22) rfl
              have g68 : s4 a 23 = s0 a 23 := (by rw [(zFr_g hF_s4 ha (by decide)), e_s1, zU_at (Or.inr (by decide))])
              have f69 := zf hS0 ha (k := 23) rfl
              have g70 : s4 a 24 = s0 a 24 := (by rw [(zFr_g hF_s4 ha (by decide)), e_s1, zU_at (Or.inr (by decide))])
              have f71 := zf hS0 ha (k := 24) rfl
              have g72 : s4 a 38 = s0 a 38 := (by rw [(zFr_g hF_s4 ha (by decide)), e_s1, zU_at (Or.inr (by decide))])
              have f73 := zf hS0 ha (k := 38) rfl
              have g74 : s4 a 51 = s0 a 51 := (by rw [(zFr_g hF_s4 ha (by decide)), e_s1, zU_at (Or.inr (by decide))])
              have f75 := zf hS0 ha (k := 51) rfl
              have g76 : s4 a 52 = s0 a 52 := (by rw [(zFr_g hF_s4 ha (by decide)), e_s1, zU_at (Or.inr (by decide))])
              have f77 := zf hS0 ha (k := 52) rfl
              have c93_9 : ∀ (m_c93_9 : Nat) (v54 : Int) (s10 : zS), 2147483648 - v54 < m_c93_9 → (0 ≤ v54 ∧ v54 ≤ 2147483647) → (zSK G s10) → (zFr [13, 84, 87, 95, 98] G s4 s10) → (s10 a 0 = s4 a 0) → (s10 a 3 = s4 a 3) → (s10 a 4 = s4 a 4) → (s10 a 5 = s4 a 5) → (s10 a 7 = s4 a 7) → (s10 a 21 = s4 a 21) → (s10 a 22 = s4 a 22) → (s10 a 23 = s4 a 23) → (s10 a 24 = s4 a 24) → (s10 a 38 = s4 a 38) → (s10 a 51 = s4 a 51) → (s10 a 52 = s4 a 52) → (zc (s10 (gP G a 27)) = zc (s4 (gP G a 27))) → (s10 (gP G a 27) 488 ≤ s4 (gP G a 27) 488 + v54) → (v54 ≤ ((s0 (gP G a 27) 488) - (s0 (gP G a 28) 488)) - ((s0 (gP G a 27) 488) - (s0 (gP G a 28) 488)) ∨ v54 = 0) → JJ X E 5 G s10 0 0 [(0, .ref a), (2, .int (zI ((s0 (gP G a 27) 488) - (s0 (gP G a 28) 488)))), (3, .int (zI ((s0 (gP G a 27) 488) - (s0 (gP G a 28) 488)))), (4, .int (zI v54))] 93 [] := by
                intro m_c93_9
                induction m_c93_9 with
                | zero => intro v54 s10 hm_c93_9 fA11 hS_s10 hF_s10 fA14 fA15 fA16 fA17 fA18 fA19 fA20 fA21 fA22 fA23 fA24 fA25 fA26 fA27 fA28; exfalso; omega
                | succ m_c93_9 ih_c93_9 => 
                  intro v54 s10 hm_c93_9 fA11 hS_s10 hF_s10 fA14 fA15 fA16 fA17 fA18 fA19 fA20 fA21 fA22 fA23 fA24 fA25 fA26 fA27 fA28
                  refine j_iload hx 3 dX12_undo_93 rfl ?_
                  refine j_iload_n hx 1 dX12_undo_95 rfl ?_
                  refine j_iload_n hx 2 dX12_undo_96 rfl ?_
                  refine j_isub hx (r := 0) dX12_undo_97 (by omega) ?_
                  refine j_icmp_ge hx 112 dX12_undo_98 rfl (by omega) ⟨by decide, by decide⟩ (fun h78 => ?_) (fun h78 => absurd h78 (by omega))
                  refine j_aload_n hx 0 dX12_undo_112 rfl ?_
                  refine j_callV hx hG (c_X12_forgets hst a) lk_RX12_204 ha (by decide) rfl rfl rfl rfl [] ⟨rfl, hG, hS_s10, ha⟩ rfl rfl ⟨by decide, by decide⟩ ⟨by decide, by decide⟩ (k2 := 0) (n2 := 0) rfl rfl (Nat.le_of_ble_eq_true rfl) dX12_undo_113 (kVM (fun s29 hS_s29 hF_s29 q80 => ?_))
                  refine j_iload_n hx 2 dX12_undo_116 rfl ?_
                  have g81 : zc (s29 (gP G a 27)) = zc (s10 (gP G a 27)) := by rw [hF_s29 (gP G a 27) (by rw [(zr (k := 27) (t2 := 84) hG ha rfl)]; decide)]
                  have g82 : s29 (gP G a 27) 488 = s10 (gP G a 27) 488 := (by rw [(zFr_g hF_s29 (zr (k := 27) (t2 := 84) hG ha rfl) (by decide))])
                  have g83 : s29 a 3 = s10 a 3 := (by rw [(zFr_g hF_s29 ha (by decide))])
                  have f84 := zf hS_s10 ha (k := 3) rfl
                  have g85 : s29 a 4 = s10 a 4 := (by rw [(zFr_g hF_s29 ha (by decide))])
                  have f86 := zf hS_s10 ha (k := 4) rfl
                  have g87 : s29 a 5 = s10 a 5 := (by rw [(zFr_g hF_s29 ha (by decide))])
                  have f88 := zf hS_s10 ha (k := 5) rfl
                  have g89 : s29 a 7 = s10 a 7 := (by rw [(zFr_g hF_s29 ha (by decide))])
                  have f90 := zf hS_s10 ha (k := 7) rfl
                  have g91 : s29 a 21 = s10 a 21 := (by rw [(zFr_g hF_s29 ha (by decide))])
                  have f92 := zf hS_s10 ha (k := 21) rfl
                  have g93 : s29 a 22 = s10 a 22 := (by rw [(zFr_g hF_s29 ha (by decide))])
                  have f94 := zf hS_s10 ha (k := 22) rfl
                  have g95 : s29 a 23 = s10 a 23 := (by rw [(zFr_g hF_s29 ha (by decide))])
                  have f96 := zf hS_s10 ha (k := 23) rfl
                  have g97 : s29 a 24 = s10 a 24 := (by rw [(zFr_g hF_s29 ha (by decide))])
                  have f98 := zf hS_s10 ha (k := 24) rfl
                  have g99 : s29 a 38 = s10 a 38 := (by rw [(zFr_g hF_s29 ha (by decide))])
                  have f100 := zf hS_s10 ha (k := 38) rfl
                  have g101 : s29 a 51 = s10 a 51 := (by rw [(zFr_g hF_s29 ha (by decide))])
                  have f102 := zf hS_s10 ha (k := 51) rfl
                  have g103 : s29 a 52 = s10 a 52 := (by rw [(zFr_g hF_s29 ha (by decide))])
                  have f104 := zf hS_s10 ha (k := 52) rfl
                  exact j_iret hx hq rfl (by decide) (by decide) dX12_undo_117 ⟨(s0 (gP G a 27) 488) - (s0 (gP G a 28) 488), rfl, rfl, hS_s29, (zFr_t (zFr_t (zFr_t (zFr_u zFr_rf e_s1 ha (by decide)) hF_s4 (by decide)) hF_s10 (by decide)) hF_s29 (by decide)), ⟨(by omega), by omega, by omega, by omega, by omega, by omega, by omega, by omega, by omega, by omega, by omega, by omega, by omega, by omega⟩⟩
              exact j_sub [1, 2, 3, 0] [(0, .ref a), (2, .int (zI ((s0 (gP G a 27) 488) - (s0 (gP G a 28) 488)))), (3, .int (zI ((s0 (gP G a 27) 488) - (s0 (gP G a 28) 488)))), (4, .int (zI 0))] rfl (c93_9 (2147483648 * 4) 0 s4 (by omega) (by omega) hS_s4 zFr_rf (by omega) (by omega) (by omega) (by omega) (by omega) (by omega) (by omega) (by omega) (by omega) (by omega) (by omega) (by omega) (by omega) (by omega) (by omega))
            · skip
              refine j_aload_n hx 0 dX12_undo_70 rfl ?_
              refine g13_27 hx hG ha kf_RX12_56 dX12_undo_71 ?_
              refine j_iload hx 3 dX12_undo_74 rfl ?_
              refine j_aload_n hx 0 dX12_undo_76 rfl ?_
              refine g13_28 hx hG ha kf_RX12_59 dX12_undo_77 ?_
              refine j_iload hx 3 dX12_undo_80 rfl ?_
              have f105 := zah (j := (v51).toNat) hS0 (zr (k := 28) (t2 := 85) hG ha rfl) (fun k => ⟨_, rfl, (axS_h _).1, (axS_h _).2.1⟩) (zlen hG (zr (k := 28) (t2 := 85) hG ha rfl) (n := 515) rfl rfl) (show 0 ≤ v51 by omega) (by omega) rfl
              refine j_iald hx hG (zr (k := 28) (t2 := 85) hG ha rfl) (by decide) rfl (zlen hG (zr (k := 28) (t2 := 85) hG ha rfl) (n := 515) rfl rfl) (by omega) (by omega) (j := (v51).toNat) rfl (v := (s0 (gP G a 28) (v51).toNat)) (by rw [(zFr_g hF_s4 (zr (k := 28) (t2 := 85) hG ha rfl) (by decide)), e_s1, zU_at (Or.inl (zne ha (zr (k := 28) (t2 := 85) hG ha rfl) (by decide)))]) dX12_undo_82 ?_
              refine j_iast hx hG (zr (k := 27) (t2 := 84) hG ha rfl) (by decide) rfl (zlen hG (zr (k := 27) (t2 := 84) hG ha rfl) (n := 515) rfl rfl) (by omega) (by omega) (j := (v51).toNat) rfl dX12_undo_83 ?_
              obtain ⟨s30, e_s30⟩ : ∃ z, z = zU s4 (gP G a 27) (v51).toNat ((s0 (gP G a 28) (v51).toNat)) := ⟨_, rfl⟩
              rw [← e_s30]
              have hS_s30 : zSK G s30 := by rw [e_s30]; exact zSK_cq hS_s4 hS0 (zr (k := 27) (t2 := 84) hG ha rfl) (zr (k := 28) (t2 := 85) hG ha rfl) (fun _ => rfl) rfl (j2 := (v51).toNat) (by rfl) (by have := (zlen hG (zr (k := 28) (t2 := 85) hG ha rfl) (n := 515) rfl rfl); omega) rfl
              refine j_iinc hx 3 [(4, .int (zI (v51 + 1))), (0, .ref a), (2, .int (zI ((s0 (gP G a 27) 488) - (s0 (gP G a 28) 488)))), (3, .int (zI ((s0 (gP G a 27) 488) - (s0 (gP G a 28) 488))))] dX12_undo_84 rfl (by omega) (by decide) rfl ?_
              refine j_goto hx 62 dX12_undo_87 rfl ?_
              exact j_sub [1, 2, 3, 0] [(0, .ref a), (2, .int (zI ((s0 (gP G a 27) 488) - (s0 (gP G a 28) 488)))), (3, .int (zI ((s0 (gP G a 27) 488) - (s0 (gP G a 28) 488)))), (4, .int (zI (v51 + 1)))] rfl (ih_c62_3 (v51 + 1) s30 (by omega) (by omega) hS_s30 (zFr_u (zFr_t zFr_rf hF_s4 (by decide)) e_s30 (zr (k := 27) (t2 := 84) hG ha rfl) (by decide)) (zEq_s hE1 e_s30 (by omega) rfl))
        exact j_sub [3, 2, 1, 0] [(0, .ref a), (2, .int (zI ((s0 (gP G a 27) 488) - (s0 (gP G a 28) 488)))), (3, .int (zI ((s0 (gP G a 27) 488) - (s0 (gP G a 28) 488)))), (4, .int (zI 0))] rfl (c62_3 (2147483648 * 4) 0 s1 (by omega) (by omega) hS_s1 zFr_rf (zEq_0 (by omega)))
      · skip
        refine j_iconst hx dX12_undo_57 ?_
        have g107 : zc (s1 (gP G a 27)) = zc (s0 (gP G a 27)) := by rw [e_s1, zU_ne (zne ha (zr (k := 27) (t2 := 84) hG ha rfl) (by decide))]
        have g108 : s1 (gP G a 27) 488 = s0 (gP G a 27) 488 := (by rw [e_s1, zU_at (Or.inl (zne ha (zr (k := 27) (t2 := 84) hG ha rfl) (by decide)))])
        have g109 : s1 a 3 = s0 a 3 := (by rw [e_s1, zU_at (Or.inr (by decide))])
        have f110 := zf hS0 ha (k := 3) rfl
        have g111 : s1 a 4 = s0 a 4 := (by rw [e_s1, zU_at (Or.inr (by decide))])
        have f112 := zf hS0 ha (k := 4) rfl
        have g113 : s1 a 5 = s0 a 5 := (by rw [e_s1, zU_at (Or.inr (by decide))])
        have f114 := zf hS0 ha (k := 5) rfl
        have g115 : s1 a 7 = s0 a 7 := (by rw [e_s1, zU_at (Or.inr (by decide))])
        have f116 := zf hS0 ha (k := 7) rfl
        have g117 : s1 a 21 = s0 a 21 := (by rw [e_s1, zU_at (Or.inr (by decide))])
        have f118 := zf hS0 ha (k := 21) rfl
        have g119 : s1 a 22 = s0 a 22 := (by rw [e_s1, zU_at (Or.inr (by decide))])
        have f120 := zf hS0 ha (k := 22) rfl
        have g121 : s1 a 23 = s0 a 23 := (by rw [e_s1, zU_at (Or.inr (by decide))])
        have f122 := zf hS0 ha (k := 23) rfl
        have g123 : s1 a 24 = s0 a 24 := (by rw [e_s1, zU_at (Or.inr (by decide))])
        have f124 := zf hS0 ha (k := 24) rfl
        have g125 : s1 a 38 = s0 a 38 := (by rw [e_s1, zU_at (Or.inr (by decide))])
        have f126 := zf hS0 ha (k := 38) rfl
        have g127 : s1 a 51 = s0 a 51 := (by rw [e_s1, zU_at (Or.inr (by decide))])
        have f128 := zf hS0 ha (k := 51) rfl
        have g129 : s1 a 52 = s0 a 52 := (by rw [e_s1, zU_at (Or.inr (by decide))])
        have f130 := zf hS0 ha (k := 52) rfl
        exact j_iret hx hq rfl (by decide) (by decide) dX12_undo_58 ⟨0, rfl, rfl, hS_s1, (zFr_u zFr_rf e_s1 ha (by decide)), ⟨(by omega), by omega, by omega, by omega, by omega, by omega, by omega, by omega, by omega, by omega, by omega, by omega, by omega, by omega⟩⟩
    · skip
      refine j_iload_n hx 2 dX12_undo_47 rfl ?_
      refine j_goto hx 52 dX12_undo_48 rfl ?_
      refine j_istore_n hx [(3, .int (zI x1)), (2, .int (zI ((s0 (gP G a 27) 488) - (s0 (gP G a 28) 488)))), (0, .ref a), (1, .int (zI x1))] dX12_undo_52 (by decide) rfl ?_
      refine j_iload_n hx 0 dX12_undo_53 rfl ?_
      refine j_if_ne hx 59 dX12_undo_54 rfl (by omega) (fun h131 => ?_) (fun h131 => absurd h131 (by omega))
      refine j_iconst hx dX12_undo_59 ?_
      refine j_istore hx [(4, .int (zI 0)), (3, .int (zI x1)), (2, .int (zI ((s0 (gP G a 27) 488) - (s0 (gP G a 28) 488)))), (0, .ref a), (1, .int (zI x1))] dX12_undo_60 (by decide) rfl ?_
      have c62_31 : ∀ (m_c62_31 : Nat) (v132 : Int) (s32 : zS), 2147483648 - v132 < m_c62_31 → (0 ≤ v132 ∧ v132 ≤ 515) → (zSK G s32) → (zFr [84] G s1 s32) → (zEq (v132).toNat (s32 (gP G a 27)) (s0 (gP G a 28))) → JJ X E 5 G s32 0 0 [(0, .ref a), (2, .int (zI ((s0 (gP G a 27) 488) - (s0 (gP G a 28) 488)))), (3, .int (zI x1)), (4, .int (zI v132))] 62 [] := by
        intro m_c62_31
        induction m_c62_31 with
        | zero => intro v132 s32 hm_c62_31 fA33 hS_s32 hF_s32 hE1; exfalso; omega
        | succ m_c62_31 ih_c62_31 => 
          intro v132 s32 hm_c62_31 fA33 hS_s32 hF_s32 hE1
          refine j_iload hx 3 dX12_undo_62 rfl ?_
          refine j_sipush hx dX12_undo_64 rfl ?_
          refine j_icmp_ge hx 90 dX12_undo_67 rfl (by omega) ⟨by decide, by decide⟩ (fun h133 => ?_) (fun h133 => ?_)
          · skip
            have z134 := zEq_zc hE1 (by omega)
            refine j_iconst hx dX12_undo_90 ?_
            refine j_istore hx [(4, .int (zI 0)), (0, .ref a), (2, .int (zI ((s0 (gP G a 27) 488) - (s0 (gP G a 28) 488)))), (3, .int (zI x1))] dX12_undo_91 (by decide) rfl ?_
            have g136 : s32 a 0 = 0 := (by rw [(zFr_g hF_s32 ha (by decide)), e_s1, zU_eq])
            have g137 : s32 a 3 = s0 a 3 := (by rw [(zFr_g hF_s32 ha (by decide)), e_s1, zU_at (Or.inr (by decide))])
            have f138 := zf hS0 ha (k := 3) rfl
            have g139 : s32 a 4 = s0 a 4 := (by rw [(zFr_g hF_s32 ha (by decide)), e_s1, zU_at (Or.inr (by decide))])
            have f140 := zf hS0 ha (k := 4) rfl
            have g141 : s32 a 5 = s0 a 5 := (by rw [(zFr_g hF_s32 ha (by decide)), e_s1, zU_at (Or.inr (by decide))])
            have f142 := zf hS0 ha (k := 5) rfl
            have g143 : s32 a 7 = s0 a 7 := (by rw [(zFr_g hF_s32 ha (by decide)), e_s1, zU_at (Or.inr (by decide))])
            have f144 := zf hS0 ha (k := 7) rfl
            have g145 : s32 a 21 = s0 a 21 := (by rw [(zFr_g hF_s32 ha (by decide)), e_s1, zU_at (Or.inr (by decide))])
            have f146 := zf hS0 ha (k := 21) rfl
            have g147 : s32 a 22 = s0 a 22 := (by rw [(zFr_g hF_s32 ha (by decide)), e_s1, zU_at (Or.inr (by decide))])
            have f148 := zf hS0 ha (k := 22) rfl
            have g149 : s32 a 23 = s0 a 23 := (by rw [(zFr_g hF_s32 ha (by decide)), e_s1, zU_at (Or.inr (by decide))])
            have f150 := zf hS0 ha (k := 23) rfl
            have g151 : s32 a 24 = s0 a 24 := (by rw [(zFr_g hF_s32 ha (by decide)), e_s1, zU_at (Or.inr (by decide))])
            have f152 := zf hS0 ha (k := 24) rfl
            have g153 : s32 a 38 = s0 a 38 := (by rw [(zFr_g hF_s32 ha (by decide)), e_s1, zU_at (Or.inr (by decide))])
            have f154 := zf hS0 ha (k := 38) rfl
            have g155 : s32 a 51 = s0 a 51 := (by rw [(zFr_g hF_s32 ha (by decide)), e_s1, zU_at (Or.inr (by decide))])
            have f156 := zf hS0 ha (k := 51) rfl
            have g157 : s32 a 52 = s0 a 52 := (by rw [(zFr_g hF_s32 ha (by decide)), e_s1, zU_at (Or.inr (by decide))])
            have f158 := zf hS0 ha (k := 52) rfl
            have c93_37 : ∀ (m_c93_37 : Nat) (v135 : Int) (s38 : zS), 2147483648 - v135 < m_c93_37 → (0 ≤ v135 ∧ v135 ≤ 2147483647) → (zSK G s38) → (zFr [13, 84, 87, 95, 98] G s32 s38) → (s38 a 0 = s32 a 0) → (s38 a 3 = s32 a 3) → (s38 a 4 = s32 a 4) → (s38 a 5 = s32 a 5) → (s38 a 7 = s32 a 7) → (s38 a 21 = s32 a 21) → (s38 a 22 = s32 a 22) → (s38 a 23 = s32 a 23) → (s38 a 24 = s32 a 24) → (s38 a 38 = s32 a 38) → (s38 a 51 = s32 a 51) → (s38 a 52 = s32 a 52) → (zc (s38 (gP G a 27)) = zc (s32 (gP G a 27))) → (s38 (gP G a 27) 488 ≤ s32 (gP G a 27) 488 + v135) → (v135 ≤ ((s0 (gP G a 27) 488) - (s0 (gP G a 28) 488)) - x1 ∨ v135 = 0) → JJ X E 5 G s38 0 0 [(0, .ref a), (2, .int (zI ((s0 (gP G a 27) 488) - (s0 (gP G a 28) 488)))), (3, .int (zI x1)), (4, .int (zI v135))] 93 [] := by
              intro m_c93_37
              induction m_c93_37 with
              | zero => intro v135 s38 hm_c93_37 fA39 hS_s38 hF_s38 fA42 fA43 fA44 fA45 fA46 fA47 fA48 fA49 fA50 fA51 fA52 fA53 fA54 fA55 fA56; exfalso; omega
              | succ m_c93_37 ih_c93_37 => 
                intro v135 s38 hm_c93_37 fA39 hS_s38 hF_s38 fA42 fA43 fA44 fA45 fA46 fA47 fA48 fA49 fA50 fA51 fA52 fA53 fA54 fA55 fA56
                refine j_iload hx 3 dX12_undo_93 rfl ?_
                refine j_iload_n hx 1 dX12_undo_95 rfl ?_
                refine j_iload_n hx 2 dX12_undo_96 rfl ?_
                refine j_isub hx (r := (s0 (gP G a 27) 488) - (s0 (gP G a 28) 488) - x1) dX12_undo_97 (by omega) ?_
                refine j_icmp_ge hx 112 dX12_undo_98 rfl (by omega) (by omega) (fun h159 => ?_) (fun h159 => ?_)
                · skip
                  refine j_aload_n hx 0 dX12_undo_112 rfl ?_
                  refine j_callV hx hG (c_X12_forgets hst a) lk_RX12_204 ha (by decide) rfl rfl rfl rfl [] ⟨rfl, hG, hS_s38, ha⟩ rfl rfl ⟨by decide, by decide⟩ ⟨by decide, by decide⟩ (k2 := 0) (n2 := 0) rfl rfl (Nat.le_of_ble_eq_true rfl) dX12_undo_113 (kVM (fun s57 hS_s57 hF_s57 q161 => ?_))
                  refine j_iload_n hx 2 dX12_undo_116 rfl ?_
                  have g162 : zc (s57 (gP G a 27)) = zc (s38 (gP G a 27)) := by rw [hF_s57 (gP G a 27) (by rw [(zr (k := 27) (t2 := 84) hG ha rfl)]; decide)]
                  have g163 : s57 (gP G a 27) 488 = s38 (gP G a 27) 488 := (by rw [(zFr_g hF_s57 (zr (k := 27) (t2 := 84) hG ha rfl) (by decide))])
                  have g164 : s57 a 3 = s38 a 3 := (by rw [(zFr_g hF_s57 ha (by decide))])
                  have f165 := zf hS_s38 ha (k := 3) rfl
                  have g166 : s57 a 4 = s38 a 4 := (by rw [(zFr_g hF_s57 ha (by decide))])
                  have f167 := zf hS_s38 ha (k := 4) rfl
                  have g168 : s57 a 5 = s38 a 5 := (by rw [(zFr_g hF_s57 ha (by decide))])
                  have f169 := zf hS_s38 ha (k := 5) rfl
                  have g170 : s57 a 7 = s38 a 7 := (by rw [(zFr_g hF_s57 ha (by decide))])
                  have f171 := zf hS_s38 ha (k := 7) rfl
                  have g172 : s57 a 21 = s38 a 21 := (by rw [(zFr_g hF_s57 ha (by decide))])
                  have f173 := zf hS_s38 ha (k := 21) rfl
                  have g174 : s57 a 22 = s38 a 22 := (by rw [(zFr_g hF_s57 ha (by decide))])
                  have f175 := zf hS_s38 ha (k := 22) rfl
                  have g176 : s57 a 23 = s38 a 23 := (by rw [(zFr_g hF_s57 ha (by decide))])
                  have f177 := zf hS_s38 ha (k := 23) rfl
                  have g178 : s57 a 24 = s38 a 24 := (by rw [(zFr_g hF_s57 ha (by decide))])
                  have f179 := zf hS_s38 ha (k := 24) rfl
                  have g180 : s57 a 38 = s38 a 38 := (by rw [(zFr_g hF_s57 ha (by decide))])
                  have f181 := zf hS_s38 ha (k := 38) rfl
                  have g182 : s57 a 51 = s38 a 51 := (by rw [(zFr_g hF_s57 ha (by decide))])
                  have f183 := zf hS_s38 ha (k := 51) rfl
                  have g184 : s57 a 52 = s38 a 52 := (by rw [(zFr_g hF_s57 ha (by decide))])
                  have f185 := zf hS_s38 ha (k := 52) rfl
                  exact j_iret hx hq rfl (by decide) (by decide) dX12_undo_117 ⟨x1, rfl, rfl, hS_s57, (zFr_t (zFr_t (zFr_t (zFr_u zFr_rf e_s1 ha (by decide)) hF_s32 (by decide)) hF_s38 (by decide)) hF_s57 (by decide)), ⟨(by omega), by omega, by omega, by omega, by omega, by omega, by omega, by omega, by omega, by omega, by omega, by omega, by omega, by omega⟩⟩
                · skip
                  refine j_aload_n hx 0 dX12_undo_101 rfl ?_
                  have f186 := zf hS_s38 ha (k := 0) rfl
                  have f187 := zf hS_s38 ha (k := 3) rfl
                  have f188 := zf hS_s38 ha (k := 4) rfl
                  have f189 := zf hS_s38 ha (k := 5) rfl
                  have f190 := zf hS_s38 ha (k := 7) rfl
                  have f191 := zf hS_s38 ha (k := 21) rfl
                  have f192 := zf hS_s38 ha (k := 22) rfl
                  have f193 := zf hS_s38 ha (k := 23) rfl
                  have f194 := zf hS_s38 ha (k := 24) rfl
                  have f195 := zf hS_s38 ha (k := 38) rfl
                  have f196 := zf hS_s38 ha (k := 51) rfl
                  have f197 := zf hS_s38 ha (k := 52) rfl
                  refine j_callV hx hG (c_X12_turn hst a) lk_RX12_412 ha (by decide) rfl rfl rfl rfl [] ⟨rfl, hG, hS_s38, ha, (by omega), ((by have q1 : s38 (gP G a 34) = s0 (gP G a 34) := (by rw [hF_s38 (gP G a 34) (by rw [(zr (k := 34) (t2 := 91) hG ha rfl)]; decide), hF_s32 (gP G a 34) (by rw [(zr (k := 34) (t2 := 91) hG ha rfl)]; decide), e_s1, zU_ne (zne ha (zr (k := 34) (t2 := 91) hG ha rfl) (by decide))]); have q2 : s38 (gP G a 35) = s0 (gP G a 35) := (by rw [hF_s38 (gP G a 35) (by rw [(zr (k := 35) (t2 := 92) hG ha rfl)]; decide), hF_s32 (gP G a 35) (by rw [(zr (k := 35) (t2 := 92) hG ha rfl)]; decide), e_s1, zU_ne (zne ha (zr (k := 35) (t2 := 92) hG ha rfl) (by decide))]); have q3 : s38 (gP G a 37) = s0 (gP G a 37) := (by rw [hF_s38 (gP G a 37) (by rw [(zr (k := 37) (t2 := 94) hG ha rfl)]; decide), hF_s32 (gP G a 37) (by rw [(zr (k := 37) (t2 := 94) hG ha rfl)]; decide), e_s1, zU_ne (zne ha (zr (k := 37) (t2 := 94) hG ha rfl) (by decide))]); rw [q1, q2, q3]; exact e0)), (by omega)⟩ rfl rfl ⟨by decide, by decide⟩ ⟨by decide, by decide⟩ (k2 := 0) (n2 := 0) rfl rfl (Nat.le_of_ble_eq_true rfl) dX12_undo_102 (kIM (fun v198 s58 hS_s58 hF_s58 q199 => ?_))
                  refine j_pop hx dX12_undo_105 rfl ?_
                  refine j_iinc hx 3 [(4, .int (zI (v135 + 1))), (0, .ref a), (2, .int (zI ((s0 (gP G a 27) 488) - (s0 (gP G a 28) 488)))), (3, .int (zI x1))] dX12_undo_106 rfl (by omega) (by decide) rfl ?_
                  refine j_goto hx 93 dX12_undo_109 rfl ?_
                  have f200 := zf hS_s58 ha (k := 0) rfl
                  have f201 := zf hS_s58 ha (k := 3) rfl
                  have f202 := zf hS_s58 ha (k := 4) rfl
                  have f203 := zf hS_s58 ha (k := 5) rfl
                  have f204 := zf hS_s58 ha (k := 7) rfl
                  have f205 := zf hS_s58 ha (k := 21) rfl
                  have f206 := zf hS_s58 ha (k := 22) rfl
                  have f207 := zf hS_s58 ha (k := 23) rfl
                  have f208 := zf hS_s58 ha (k := 24) rfl
                  have f209 := zf hS_s58 ha (k := 38) rfl
                  have f210 := zf hS_s58 ha (k := 51) rfl
                  have f211 := zf hS_s58 ha (k := 52) rfl
                  exact j_sub [1, 2, 3, 0] [(0, .ref a), (2, .int (zI ((s0 (gP G a 27) 488) - (s0 (gP G a 28) 488)))), (3, .int (zI x1)), (4, .int (zI (v135 + 1)))] rfl (ih_c93_37 (v135 + 1) s58 (by omega) (by omega) hS_s58 (zFr_t (zFr_t zFr_rf hF_s38 (by decide)) hF_s58 (by decide)) (by omega) (by omega) (by omega) (by omega) (by omega) (by omega) (by omega) (by omega) (by omega) (by omega) (by omega) (by omega) (by omega) (by omega) (by omega))
            exact j_sub [1, 2, 3, 0] [(0, .ref a), (2, .int (zI ((s0 (gP G a 27) 488) - (s0 (gP G a 28) 488)))), (3, .int (zI x1)), (4, .int (zI 0))] rfl (c93_37 (2147483648 * 4) 0 s32 (by omega) (by omega) hS_s32 zFr_rf (by omega) (by omega) (by omega) (by omega) (by omega) (by omega) (by omega) (by omega) (by omega) (by omega) (by omega) (by omega) (by omega) (by omega) (by omega))
          · skip
            refine j_aload_n hx 0 dX12_undo_70 rfl ?_
            refine g13_27 hx hG ha kf_RX12_56 dX12_undo_71 ?_
            refine j_iload hx 3 dX12_undo_74 rfl ?_
            refine j_aload_n hx 0 dX12_undo_76 rfl ?_
            refine g13_28 hx hG ha kf_RX12_59 dX12_undo_77 ?_
            refine j_iload hx 3 dX12_undo_80 rfl ?_
            have f212 := zah (j := (v132).toNat) hS0 (zr (k := 28) (t2 := 85) hG ha rfl) (fun k => ⟨_, rfl, (axS_h _).1, (axS_h _).2.1⟩) (zlen hG (zr (k := 28) (t2 := 85) hG ha rfl) (n := 515) rfl rfl) (show 0 ≤ v132 by omega) (by omega) rfl
            refine j_iald hx hG (zr (k := 28) (t2 := 85) hG ha rfl) (by decide) rfl (zlen hG (zr (k := 28) (t2 := 85) hG ha rfl) (n := 515) rfl rfl) (by omega) (by omega) (j := (v132).toNat) rfl (v := (s0 (gP G a 28) (v132).toNat)) (by rw [(zFr_g hF_s32 (zr (k := 28) (t2 := 85) hG ha rfl) (by decide)), e_s1, zU_at (Or.inl (zne ha (zr (k := 28) (t2 := 85) hG ha rfl) (by decide)))]) dX12_undo_82 ?_
            refine j_iast hx hG (zr (k := 27) (t2 := 84) hG ha rfl) (by decide) rfl (zlen hG (zr (k := 27) (t2 := 84) hG ha rfl) (n := 515) rfl rfl) (by omega) (by omega) (j := (v132).toNat) rfl dX12_undo_83 ?_
            obtain ⟨s59, e_s59⟩ : ∃ z, z = zU s32 (gP G a 27) (v132).toNat ((s0 (gP G a 28) (v132).toNat)) := ⟨_, rfl⟩
            rw [← e_s59]
            have hS_s59 : zSK G s59 := by rw [e_s59]; exact zSK_cq hS_s32 hS0 (zr (k := 27) (t2 := 84) hG ha rfl) (zr (k := 28) (t2 := 85) hG ha rfl) (fun _ => rfl) rfl (j2 := (v132).toNat) (by rfl) (by have := (zlen hG (zr (k := 28) (t2 := 85) hG ha rfl) (n := 515) rfl rfl); omega) rfl
            refine j_iinc hx 3 [(4, .int (zI (v132 + 1))), (0, .ref a), (2, .int (zI ((s0 (gP G a 27) 488) - (s0 (gP G a 28) 488)))), (3, .int (zI x1))] dX12_undo_84 rfl (by omega) (by decide) rfl ?_
            refine j_goto hx 62 dX12_undo_87 rfl ?_
            exact j_sub [1, 2, 3, 0] [(0, .ref a), (2, .int (zI ((s0 (gP G a 27) 488) - (s0 (gP G a 28) 488)))), (3, .int (zI x1)), (4, .int (zI (v132 + 1)))] rfl (ih_c62_31 (v132 + 1) s59 (by omega) (by omega) hS_s59 (zFr_u (zFr_t zFr_rf hF_s32 (by decide)) e_s59 (zr (k := 27) (t2 := 84) hG ha rfl) (by decide)) (zEq_s hE1 e_s59 (by omega) rfl))
      exact j_sub [3, 2, 1, 0] [(0, .ref a), (2, .int (zI ((s0 (gP G a 27) 488) - (s0 (gP G a 28) 488)))), (3, .int (zI x1)), (4, .int (zI 0))] rfl (c62_31 (2147483648 * 4) 0 s1 (by omega) (by omega) hS_s1 zFr_rf (zEq_0 (by omega)))

set_option maxHeartbeats 1200000 in
set_option maxRecDepth 20000 in
theorem c_X12_latest {E : zE} {l : Launch} (hst : l.stackTraces = false) (a : Nat) (x1 : Int) : Con E l yX12_latest cX12_latest 2 (some .int) { frames := 1, cells := 0, slots := 0, locals := 23 } (fun G s vs => vs = [.ref a, .int (zI x1)] ∧ zGK G ∧ zSK G s ∧ (gT G a = 13) ∧ ((-2147483648) ≤ x1 ∧ x1 ≤ 2147483647)) (fun G s _ => pI (fun r G2 s2 => G2 = G ∧ zSK G s2 ∧ zFr [13, 71] G s s2 ∧ ((-2147483648) ≤ r ∧ r ≤ 2147483647) ∧ s2 a 3 = s a 3 ∧ s2 a 4 = s a 4 ∧ s2 a 5 = s a 5 ∧ s2 a 7 = s a 7 ∧ s2 a 21 = s a 21 ∧ s2 a 22 = s a 22 ∧ s2 a 23 = s a 23 ∧ s2 a 24 = s a 24 ∧ s2 a 38 = s a 38 ∧ s2 a 51 = s a 51 ∧ s2 a 52 = s a 52)) := by
  refine Con.mk hst (by decide) (fun G s vs h => by rw [h.1]; exact Nat.le_of_ble_eq_true rfl) ?_
  rintro X G s0 vs ⟨rfl, hG, hS0, ha, hx1⟩ rfl hx hq
  show JJ X E 2 G s0 0 0 [(0, .ref a), (1, .int (zI x1))] 0 []
  refine j_aload_n hx 0 dX12_latest_0 rfl ?_
  refine j_iconst hx dX12_latest_1 ?_
  refine p13_0 hx hG ha kf_RX12_3 dX12_latest_2 ?_
  obtain ⟨s1, e_s1⟩ : ∃ z, z = zU s0 a 0 0 := ⟨_, rfl⟩
  rw [← e_s1]
  have hS_s1 : zSK G s1 := by rw [e_s1]; exact zSK_F hS0 ha rfl rfl rfl (by omega)
  refine j_aload_n hx 0 dX12_latest_5 rfl ?_
  refine j_iload_n hx 1 dX12_latest_6 rfl ?_
  refine j_iconst hx dX12_latest_7 ?_
  refine j_iconst hx dX12_latest_8 ?_
  refine j_callS hx (c_X12_within hst x1 0 4) lk_RX12_314 [.int (zI x1), .int (zI 0), .int (zI 4)] ⟨rfl, hG, hS_s1, (by omega), (by omega), (by omega)⟩ rfl rfl ⟨by decide, by decide⟩ ⟨by decide, by decide⟩ (k2 := 0) (n2 := 0) rfl rfl (Nat.le_of_ble_eq_true rfl) dX12_latest_9 (kIP (fun v1 q2 => ?_))
  refine j_iconst hx dX12_latest_12 ?_
  refine j_iconst hx dX12_latest_13 ?_
  rcases (show v1 = 0 ∨ v1 = 1 by omega) with rfl | rfl
  · skip
    have g4 : s1 a 0 = 0 := (by rw [e_s1, zU_eq])
    have g5 : s1 a 3 = s0 a 3 := (by rw [e_s1, zU_at (Or.inr (by decide))])
    have f6 := zf hS0 ha (k := 3) rfl
    have g7 : s1 a 4 = s0 a 4 := (by rw [e_s1, zU_at (Or.inr (by decide))])
    have f8 := zf hS0 ha (k := 4) rfl
    have g9 : s1 a 5 = s0 a 5 := (by rw [e_s1, zU_at (Or.inr (by decide))])
    have f10 := zf hS0 ha (k := 5) rfl
    have g11 : s1 a 7 = s0 a 7 := (by rw [e_s1, zU_at (Or.inr (by decide))])
    have f12 := zf hS0 ha (k := 7) rfl
    have g13 : s1 a 21 = s0 a 21 := (by rw [e_s1, zU_at (Or.inr (by decide))])
    have f14 := zf hS0 ha (k := 21) rfl
    have g15 : s1 a 22 = s0 a 22 := (by rw [e_s1, zU_at (Or.inr (by decide))])
    have f16 := zf hS0 ha (k := 22) rfl
    have g17 : s1 a 23 = s0 a 23 := (by rw [e_s1, zU_at (Or.inr (by decide))])
    have f18 := zf hS0 ha (k := 23) rfl
    have g19 : s1 a 24 = s0 a 24 := (by rw [e_s1, zU_at (Or.inr (by decide))])
    have f20 := zf hS0 ha (k := 24) rfl
    have g21 : s1 a 38 = s0 a 38 := (by rw [e_s1, zU_at (Or.inr (by decide))])
    have f22 := zf hS0 ha (k := 38) rfl
    have g23 : s1 a 51 = s0 a 51 := (by rw [e_s1, zU_at (Or.inr (by decide))])
    have f24 := zf hS0 ha (k := 51) rfl
    have g25 : s1 a 52 = s0 a 52 := (by rw [e_s1, zU_at (Or.inr (by decide))])
    have f26 := zf hS0 ha (k := 52) rfl
    refine j_callV hx hG (c_X12_may_f hst a 0 1 1) lk_RX12_240 ha (by decide) rfl rfl rfl rfl [.int (zI 0), .int (zI 1), .int (zI 1)] ⟨rfl, hG, hS_s1, ha, (by omega), (by omega), (by omega), (((by rw [e_s1, zU_eq]) : s1 a 0 = 0).trans (by omega))⟩ rfl rfl ⟨by decide, by decide⟩ ⟨by decide, by decide⟩ (k2 := 0) (n2 := 0) rfl rfl (Nat.le_of_ble_eq_true rfl) dX12_latest_14 (kIM (fun v27 s2 hS_s2 hF_s2 q28 => ?_))
    refine j_if_ne hx 22 dX12_latest_17 rfl (by omega) (fun h29 => absurd h29 (by omega)) (fun h29 => ?_)
    refine j_iconst hx dX12_latest_20 ?_
    have f30 := zf hS_s2 ha (k := 3) rfl
    have f31 := zf hS_s2 ha (k := 4) rfl
    have f32 := zf hS_s2 ha (k := 5) rfl
    have f33 := zf hS_s2 ha (k := 7) rfl
    have f34 := zf hS_s2 ha (k := 21) rfl
    have f35 := zf hS_s2 ha (k := 22) rfl
    have f36 := zf hS_s2 ha (k := 23) rfl
    have f37 := zf hS_s2 ha (k := 24) rfl
    have f38 := zf hS_s2 ha (k := 38) rfl
    have f39 := zf hS_s2 ha (k := 51) rfl
    have f40 := zf hS_s2 ha (k := 52) rfl
    exact j_iret hx hq rfl (by decide) (by decide) dX12_latest_21 ⟨0, rfl, rfl, hS_s2, (zFr_t (zFr_u zFr_rf e_s1 ha (by decide)) hF_s2 (by decide)), ⟨(by omega), by omega, by omega, by omega, by omega, by omega, by omega, by omega, by omega, by omega, by omega, by omega⟩⟩
  · skip
    have g41 : s1 a 0 = 0 := (by rw [e_s1, zU_eq])
    refine j_callV hx hG (c_X12_may_t hst a 1 1 1) lk_RX12_240 ha (by decide) rfl rfl rfl rfl [.int (zI 1), .int (zI 1), .int (zI 1)] ⟨rfl, hG, hS_s1, ha, (by omega), (by omega), (by omega), (((by rw [e_s1, zU_eq]) : s1 a 0 = 0).trans (by omega))⟩ rfl rfl ⟨by decide, by decide⟩ ⟨by decide, by decide⟩ (k2 := 0) (n2 := 0) rfl rfl (Nat.le_of_ble_eq_true rfl) dX12_latest_14 (kIP (fun v42 q43 => ?_))
    refine j_if_ne hx 22 dX12_latest_17 rfl (by omega) (fun h44 => ?_) (fun h44 => absurd h44 (by omega))
    refine j_aload_n hx 0 dX12_latest_22 rfl ?_
    refine g13_30 hx hG ha kf_RX12_65 dX12_latest_23 ?_
    refine j_iload_n hx 1 dX12_latest_26 rfl ?_
    have f45 := zaI (j := (x1).toNat) hS0 (zr (k := 30) (t2 := 87) hG ha rfl) rfl (zlen hG (zr (k := 30) (t2 := 87) hG ha rfl) (n := 5) rfl rfl) (show 0 ≤ x1 by omega) (by omega) rfl
    refine j_iald hx hG (zr (k := 30) (t2 := 87) hG ha rfl) (by decide) rfl (zlen hG (zr (k := 30) (t2 := 87) hG ha rfl) (n := 5) rfl rfl) (by omega) (by omega) (j := (x1).toNat) rfl (v := (s0 (gP G a 30) (x1).toNat)) (by rw [e_s1, zU_at (Or.inl (zne ha (zr (k := 30) (t2 := 87) hG ha rfl) (by decide)))]) dX12_latest_27 ?_
    have g46 : s1 a 3 = s0 a 3 := (by rw [e_s1, zU_at (Or.inr (by decide))])
    have f47 := zf hS0 ha (k := 3) rfl
    have g48 : s1 a 4 = s0 a 4 := (by rw [e_s1, zU_at (Or.inr (by decide))])
    have f49 := zf hS0 ha (k := 4) rfl
    have g50 : s1 a 5 = s0 a 5 := (by rw [e_s1, zU_at (Or.inr (by decide))])
    have f51 := zf hS0 ha (k := 5) rfl
    have g52 : s1 a 7 = s0 a 7 := (by rw [e_s1, zU_at (Or.inr (by decide))])
    have f53 := zf hS0 ha (k := 7) rfl
    have g54 : s1 a 21 = s0 a 21 := (by rw [e_s1, zU_at (Or.inr (by decide))])
    have f55 := zf hS0 ha (k := 21) rfl
    have g56 : s1 a 22 = s0 a 22 := (by rw [e_s1, zU_at (Or.inr (by decide))])
    have f57 := zf hS0 ha (k := 22) rfl
    have g58 : s1 a 23 = s0 a 23 := (by rw [e_s1, zU_at (Or.inr (by decide))])
    have f59 := zf hS0 ha (k := 23) rfl
    have g60 : s1 a 24 = s0 a 24 := (by rw [e_s1, zU_at (Or.inr (by decide))])
    have f61 := zf hS0 ha (k := 24) rfl
    have g62 : s1 a 38 = s0 a 38 := (by rw [e_s1, zU_at (Or.inr (by decide))])
    have f63 := zf hS0 ha (k := 38) rfl
    have g64 : s1 a 51 = s0 a 51 := (by rw [e_s1, zU_at (Or.inr (by decide))])
    have f65 := zf hS0 ha (k := 51) rfl
    have g66 : s1 a 52 = s0 a 52 := (by rw [e_s1, zU_at (Or.inr (by decide))])
    have f67 := zf hS0 ha (k := 52) rfl
    exact j_iret hx hq rfl (by decide) (by decide) dX12_latest_28 ⟨(s0 (gP G a 30) (x1).toNat), rfl, rfl, hS_s1, (zFr_u zFr_rf e_s1 ha (by decide)), ⟨(by omega), by omega, by omega, by omega, by omega, by omega, by omega, by omega, by omega, by omega, by omega, by omega⟩⟩

set_option maxHeartbeats 1200000 in
set_option maxRecDepth 20000 in
theorem c_X12_calls {E : zE} {l : Launch} (hst : l.stackTraces = false) (a : Nat) (x1 : Int) (x2 : Int) : Con E l yX12_calls cX12_calls 3 (some .int) { frames := 2, cells := 0, slots := 0, locals := 45 } (fun G s vs => vs = [.ref a, .int (zI x1), .int (zI x2)] ∧ zGK G ∧ zSK G s ∧ (gT G a = 13) ∧ ((-2147483648) ≤ x1 ∧ x1 ≤ 2147483647) ∧ ((-2147483648) ≤ x2 ∧ x2 ≤ 2147483647)) (fun G s _ => pI (fun r G2 s2 => G2 = G ∧ zSK G s2 ∧ zFr [13, 71] G s s2 ∧ ((-2147483648) ≤ r ∧ r ≤ 2147483647) ∧ s2 a 3 = s a 3 ∧ s2 a 4 = s a 4 ∧ s2 a 5 = s a 5 ∧ s2 a 7 = s a 7 ∧ s2 a 21 = s a 21 ∧ s2 a 22 = s a 22 ∧ s2 a 23 = s a 23 ∧ s2 a 24 = s a 24 ∧ s2 a 38 = s a 38 ∧ s2 a 51 = s a 51 ∧ s2 a 52 = s a 52)) := by
  refine Con.mk hst (by decide) (fun G s vs h => by rw [h.1]; exact Nat.le_of_ble_eq_true rfl) ?_
  rintro X G s0 vs ⟨rfl, hG, hS0, ha, hx1, hx2⟩ rfl hx hq
  show JJ X E 3 G s0 0 0 [(0, .ref a), (1, .int (zI x1)), (2, .int (zI x2))] 0 []
  refine j_aload_n hx 0 dX12_calls_0 rfl ?_
  refine j_iconst hx dX12_calls_1 ?_
  refine p13_0 hx hG ha kf_RX12_3 dX12_calls_2 ?_
  obtain ⟨s1, e_s1⟩ : ∃ z, z = zU s0 a 0 0 := ⟨_, rfl⟩
  rw [← e_s1]
  have hS_s1 : zSK G s1 := by rw [e_s1]; exact zSK_F hS0 ha rfl rfl rfl (by omega)
  refine j_aload_n hx 0 dX12_calls_5 rfl ?_
  refine j_iload_n hx 1 dX12_calls_6 rfl ?_
  refine j_iconst hx dX12_calls_7 ?_
  have g1 : s1 a 0 = 0 := (by rw [e_s1, zU_eq])
  have g2 : s1 a 24 = s0 a 24 := (by rw [e_s1, zU_at (Or.inr (by decide))])
  have f3 := zf hS0 ha (k := 24) rfl
  have g4 : s1 a 3 = s0 a 3 := (by rw [e_s1, zU_at (Or.inr (by decide))])
  have f5 := zf hS0 ha (k := 3) rfl
  have g6 : s1 a 4 = s0 a 4 := (by rw [e_s1, zU_at (Or.inr (by decide))])
  have f7 := zf hS0 ha (k := 4) rfl
  have g8 : s1 a 5 = s0 a 5 := (by rw [e_s1, zU_at (Or.inr (by decide))])
  have f9 := zf hS0 ha (k := 5) rfl
  have g10 : s1 a 7 = s0 a 7 := (by rw [e_s1, zU_at (Or.inr (by decide))])
  have f11 := zf hS0 ha (k := 7) rfl
  have g12 : s1 a 21 = s0 a 21 := (by rw [e_s1, zU_at (Or.inr (by decide))])
  have f13 := zf hS0 ha (k := 21) rfl
  have g14 : s1 a 22 = s0 a 22 := (by rw [e_s1, zU_at (Or.inr (by decide))])
  have f15 := zf hS0 ha (k := 22) rfl
  have g16 : s1 a 23 = s0 a 23 := (by rw [e_s1, zU_at (Or.inr (by decide))])
  have f17 := zf hS0 ha (k := 23) rfl
  have g18 : s1 a 38 = s0 a 38 := (by rw [e_s1, zU_at (Or.inr (by decide))])
  have f19 := zf hS0 ha (k := 38) rfl
  have g20 : s1 a 51 = s0 a 51 := (by rw [e_s1, zU_at (Or.inr (by decide))])
  have f21 := zf hS0 ha (k := 51) rfl
  have g22 : s1 a 52 = s0 a 52 := (by rw [e_s1, zU_at (Or.inr (by decide))])
  have f23 := zf hS0 ha (k := 52) rfl
  refine j_callV hx hG (c_X12_isPlayer hst a x1 1) lk_RX12_339 ha (by decide) rfl rfl rfl rfl [.int (zI x1), .int (zI 1)] ⟨rfl, hG, hS_s1, ha, (by omega), (by omega), (((by rw [e_s1, zU_eq]) : s1 a 0 = 0).trans (by omega))⟩ rfl rfl ⟨by decide, by decide⟩ ⟨by decide, by decide⟩ (k2 := 0) (n2 := 0) rfl rfl (Nat.le_of_ble_eq_true rfl) dX12_calls_8 (kIM (fun v24 s2 hS_s2 hF_s2 q25 => ?_))
  refine j_if_eq hx 29 dX12_calls_11 rfl (by omega) (fun h26 => ?_) (fun h26 => ?_)
  · skip
    refine j_iconst hx dX12_calls_29 ?_
    have f27 := zf hS_s2 ha (k := 3) rfl
    have f28 := zf hS_s2 ha (k := 4) rfl
    have f29 := zf hS_s2 ha (k := 5) rfl
    have f30 := zf hS_s2 ha (k := 7) rfl
    have f31 := zf hS_s2 ha (k := 21) rfl
    have f32 := zf hS_s2 ha (k := 22) rfl
    have f33 := zf hS_s2 ha (k := 23) rfl
    have f34 := zf hS_s2 ha (k := 24) rfl
    have f35 := zf hS_s2 ha (k := 38) rfl
    have f36 := zf hS_s2 ha (k := 51) rfl
    have f37 := zf hS_s2 ha (k := 52) rfl
    exact j_iret hx hq rfl (by decide) (by decide) dX12_calls_30 ⟨0, rfl, rfl, hS_s2, (zFr_t (zFr_u zFr_rf e_s1 ha (by decide)) hF_s2 (by decide)), ⟨(by omega), by omega, by omega, by omega, by omega, by omega, by omega, by omega, by omega, by omega, by omega, by omega⟩⟩
  · skip
    refine j_aload_n hx 0 dX12_calls_14 rfl ?_
    refine j_iload_n hx 2 dX12_calls_15 rfl ?_
    refine j_iconst hx dX12_calls_16 ?_
    refine j_iconst hx dX12_calls_17 ?_
    refine j_callS hx (c_X12_within hst x2 0 5) lk_RX12_314 [.int (zI x2), .int (zI 0), .int (zI 5)] ⟨rfl, hG, hS_s2, (by omega), (by omega), (by omega)⟩ rfl rfl ⟨by decide, by decide⟩ ⟨by decide, by decide⟩ (k2 := 0) (n2 := 0) rfl rfl (Nat.le_of_ble_eq_true rfl) dX12_calls_18 (kIP (fun v38 q39 => ?_))
    refine j_iconst hx dX12_calls_21 ?_
    refine j_iconst hx dX12_calls_22 ?_
    rcases (show v38 = 0 ∨ v38 = 1 by omega) with rfl | rfl
    · skip
      have f41 := zf hS_s2 ha (k := 0) rfl
      have f42 := zf hS_s2 ha (k := 3) rfl
      have f43 := zf hS_s2 ha (k := 4) rfl
      have f44 := zf hS_s2 ha (k := 5) rfl
      have f45 := zf hS_s2 ha (k := 7) rfl
      have f46 := zf hS_s2 ha (k := 21) rfl
      have f47 := zf hS_s2 ha (k := 22) rfl
      have f48 := zf hS_s2 ha (k := 23) rfl
      have f49 := zf hS_s2 ha (k := 24) rfl
      have f50 := zf hS_s2 ha (k := 38) rfl
      have f51 := zf hS_s2 ha (k := 51) rfl
      have f52 := zf hS_s2 ha (k := 52) rfl
      refine j_callV hx hG (c_X12_may_f hst a 0 2 1) lk_RX12_240 ha (by decide) rfl rfl rfl rfl [.int (zI 0), .int (zI 2), .int (zI 1)] ⟨rfl, hG, hS_s2, ha, (by omega), (by omega), (by omega), (by omega)⟩ rfl rfl ⟨by decide, by decide⟩ ⟨by decide, by decide⟩ (k2 := 0) (n2 := 0) rfl rfl (Nat.le_of_ble_eq_true rfl) dX12_calls_23 (kIM (fun v53 s3 hS_s3 hF_s3 q54 => ?_))
      refine j_if_ne hx 31 dX12_calls_26 rfl (by omega) (fun h55 => absurd h55 (by omega)) (fun h55 => ?_)
      refine j_iconst hx dX12_calls_29 ?_
      have f56 := zf hS_s3 ha (k := 3) rfl
      have f57 := zf hS_s3 ha (k := 4) rfl
      have f58 := zf hS_s3 ha (k := 5) rfl
      have f59 := zf hS_s3 ha (k := 7) rfl
      have f60 := zf hS_s3 ha (k := 21) rfl
      have f61 := zf hS_s3 ha (k := 22) rfl
      have f62 := zf hS_s3 ha (k := 23) rfl
      have f63 := zf hS_s3 ha (k := 24) rfl
      have f64 := zf hS_s3 ha (k := 38) rfl
      have f65 := zf hS_s3 ha (k := 51) rfl
      have f66 := zf hS_s3 ha (k := 52) rfl
      exact j_iret hx hq rfl (by decide) (by decide) dX12_calls_30 ⟨0, rfl, rfl, hS_s3, (zFr_t (zFr_t (zFr_u zFr_rf e_s1 ha (by decide)) hF_s2 (by decide)) hF_s3 (by decide)), ⟨(by omega), by omega, by omega, by omega, by omega, by omega, by omega, by omega, by omega, by omega, by omega, by omega⟩⟩
    · skip
      have f67 := zf hS_s2 ha (k := 0) rfl
      refine j_callV hx hG (c_X12_may_t hst a 1 2 1) lk_RX12_240 ha (by decide) rfl rfl rfl rfl [.int (zI 1), .int (zI 2), .int (zI 1)] ⟨rfl, hG, hS_s2, ha, (by omega), (by omega), (by omega), (by omega)⟩ rfl rfl ⟨by decide, by decide⟩ ⟨by decide, by decide⟩ (k2 := 0) (n2 := 0) rfl rfl (Nat.le_of_ble_eq_true rfl) dX12_calls_23 (kIP (fun v68 q69 => ?_))
      refine j_if_ne hx 31 dX12_calls_26 rfl (by omega) (fun h70 => ?_) (fun h70 => absurd h70 (by omega))
      refine j_aload_n hx 0 dX12_calls_31 rfl ?_
      refine g13_27 hx hG ha kf_RX12_56 dX12_calls_32 ?_
      refine j_sipush hx dX12_calls_35 rfl ?_
      refine j_bipush hx dX12_calls_38 rfl ?_
      refine j_iload_n hx 1 dX12_calls_40 rfl ?_
      refine j_imul hx (r := 6 * x1) dX12_calls_41 rfl ?_
      refine j_iadd hx (r := 6 * x1 + 494) dX12_calls_42 (by omega) ?_
      refine j_iload_n hx 2 dX12_calls_43 rfl ?_
      refine j_iadd hx (r := 6 * x1 + x2 + 494) dX12_calls_44 (by omega) ?_
      have f71 := zaQ (j := (6 * x1 + x2 + 494).toNat) hS0 (zr (k := 27) (t2 := 84) hG ha rfl) (congrArg some (axS_8 (6 * x1 + x2 + 494).toNat (by omega))) (zlen hG (zr (k := 27) (t2 := 84) hG ha rfl) (n := 515) rfl rfl) (show 0 ≤ 6 * x1 + x2 + 494 by omega) (by omega) rfl
      refine j_iald hx hG (zr (k := 27) (t2 := 84) hG ha rfl) (by decide) rfl (zlen hG (zr (k := 27) (t2 := 84) hG ha rfl) (n := 515) rfl rfl) (by omega) (by omega) (j := (6 * x1 + x2 + 494).toNat) rfl (v := (s0 (gP G a 27) (6 * x1 + x2 + 494).toNat)) (by rw [(zFr_g hF_s2 (zr (k := 27) (t2 := 84) hG ha rfl) (by decide)), e_s1, zU_at (Or.inl (zne ha (zr (k := 27) (t2 := 84) hG ha rfl) (by decide)))]) dX12_calls_45 ?_
      have f72 := zf hS_s2 ha (k := 3) rfl
      have f73 := zf hS_s2 ha (k := 4) rfl
      have f74 := zf hS_s2 ha (k := 5) rfl
      have f75 := zf hS_s2 ha (k := 7) rfl
      have f76 := zf hS_s2 ha (k := 21) rfl
      have f77 := zf hS_s2 ha (k := 22) rfl
      have f78 := zf hS_s2 ha (k := 23) rfl
      have f79 := zf hS_s2 ha (k := 24) rfl
      have f80 := zf hS_s2 ha (k := 38) rfl
      have f81 := zf hS_s2 ha (k := 51) rfl
      have f82 := zf hS_s2 ha (k := 52) rfl
      exact j_iret hx hq rfl (by decide) (by decide) dX12_calls_46 ⟨(s0 (gP G a 27) (6 * x1 + x2 + 494).toNat), rfl, rfl, hS_s2, (zFr_t (zFr_u zFr_rf e_s1 ha (by decide)) hF_s2 (by decide)), ⟨(by omega), by omega, by omega, by omega, by omega, by omega, by omega, by omega, by omega, by omega, by omega, by omega⟩⟩

set_option maxHeartbeats 1200000 in
set_option maxRecDepth 20000 in
theorem c_X12_won {E : zE} {l : Launch} (hst : l.stackTraces = false) (a : Nat) (x1 : Int) : Con E l yX12_won cX12_won 2 (some .int) { frames := 2, cells := 0, slots := 0, locals := 45 } (fun G s vs => vs = [.ref a, .int (zI x1)] ∧ zGK G ∧ zSK G s ∧ (gT G a = 13) ∧ ((-2147483648) ≤ x1 ∧ x1 ≤ 2147483647)) (fun G s _ => pI (fun r G2 s2 => G2 = G ∧ zSK G s2 ∧ zFr [13, 71] G s s2 ∧ ((-2147483648) ≤ r ∧ r ≤ 2147483647) ∧ s2 a 3 = s a 3 ∧ s2 a 4 = s a 4 ∧ s2 a 5 = s a 5 ∧ s2 a 7 = s a 7 ∧ s2 a 21 = s a 21 ∧ s2 a 22 = s a 22 ∧ s2 a 23 = s a 23 ∧ s2 a 24 = s a 24 ∧ s2 a 38 = s a 38 ∧ s2 a 51 = s a 51 ∧ s2 a 52 = s a 52)) := by
  refine Con.mk hst (by decide) (fun G s vs h => by rw [h.1]; exact Nat.le_of_ble_eq_true rfl) ?_
  rintro X G s0 vs ⟨rfl, hG, hS0, ha, hx1⟩ rfl hx hq
  show JJ X E 2 G s0 0 0 [(0, .ref a), (1, .int (zI x1))] 0 []
  refine j_aload_n hx 0 dX12_won_0 rfl ?_
  refine j_iconst hx dX12_won_1 ?_
  refine p13_0 hx hG ha kf_RX12_3 dX12_won_2 ?_
  obtain ⟨s1, e_s1⟩ : ∃ z, z = zU s0 a 0 0 := ⟨_, rfl⟩
  rw [← e_s1]
  have hS_s1 : zSK G s1 := by rw [e_s1]; exact zSK_F hS0 ha rfl rfl rfl (by omega)
  refine j_aload_n hx 0 dX12_won_5 rfl ?_
  refine j_iload_n hx 1 dX12_won_6 rfl ?_
  refine j_iconst hx dX12_won_7 ?_
  have g1 : s1 a 0 = 0 := (by rw [e_s1, zU_eq])
  have g2 : s1 a 24 = s0 a 24 := (by rw [e_s1, zU_at (Or.inr (by decide))])
  have f3 := zf hS0 ha (k := 24) rfl
  have g4 : s1 a 3 = s0 a 3 := (by rw [e_s1, zU_at (Or.inr (by decide))])
  have f5 := zf hS0 ha (k := 3) rfl
  have g6 : s1 a 4 = s0 a 4 := (by rw [e_s1, zU_at (Or.inr (by decide))])
  have f7 := zf hS0 ha (k := 4) rfl
  have g8 : s1 a 5 = s0 a 5 := (by rw [e_s1, zU_at (Or.inr (by decide))])
  have f9 := zf hS0 ha (k := 5) rfl
  have g10 : s1 a 7 = s0 a 7 := (by rw [e_s1, zU_at (Or.inr (by decide))])
  have f11 := zf hS0 ha (k := 7) rfl
  have g12 : s1 a 21 = s0 a 21 := (by rw [e_s1, zU_at (Or.inr (by decide))])
  have f13 := zf hS0 ha (k := 21) rfl
  have g14 : s1 a 22 = s0 a 22 := (by rw [e_s1, zU_at (Or.inr (by decide))])
  have f15 := zf hS0 ha (k := 22) rfl
  have g16 : s1 a 23 = s0 a 23 := (by rw [e_s1, zU_at (Or.inr (by decide))])
  have f17 := zf hS0 ha (k := 23) rfl
  have g18 : s1 a 38 = s0 a 38 := (by rw [e_s1, zU_at (Or.inr (by decide))])
  have f19 := zf hS0 ha (k := 38) rfl
  have g20 : s1 a 51 = s0 a 51 := (by rw [e_s1, zU_at (Or.inr (by decide))])
  have f21 := zf hS0 ha (k := 51) rfl
  have g22 : s1 a 52 = s0 a 52 := (by rw [e_s1, zU_at (Or.inr (by decide))])
  have f23 := zf hS0 ha (k := 52) rfl
  refine j_callV hx hG (c_X12_isPlayer hst a x1 1) lk_RX12_339 ha (by decide) rfl rfl rfl rfl [.int (zI x1), .int (zI 1)] ⟨rfl, hG, hS_s1, ha, (by omega), (by omega), (((by rw [e_s1, zU_eq]) : s1 a 0 = 0).trans (by omega))⟩ rfl rfl ⟨by decide, by decide⟩ ⟨by decide, by decide⟩ (k2 := 0) (n2 := 0) rfl rfl (Nat.le_of_ble_eq_true rfl) dX12_won_8 (kIM (fun v24 s2 hS_s2 hF_s2 q25 => ?_))
  refine j_if_ne hx 16 dX12_won_11 rfl (by omega) (fun h26 => ?_) (fun h26 => ?_)
  · skip
    refine j_aload_n hx 0 dX12_won_16 rfl ?_
    refine g13_27 hx hG ha kf_RX12_56 dX12_won_17 ?_
    refine j_sipush hx dX12_won_20 rfl ?_
    refine j_iload_n hx 1 dX12_won_23 rfl ?_
    refine j_iadd hx (r := x1 + 512) dX12_won_24 (by omega) ?_
    have f27 := zaQ (j := (x1 + 512).toNat) hS0 (zr (k := 27) (t2 := 84) hG ha rfl) (congrArg some (axS_8 (x1 + 512).toNat (by omega))) (zlen hG (zr (k := 27) (t2 := 84) hG ha rfl) (n := 515) rfl rfl) (show 0 ≤ x1 + 512 by omega) (by omega) rfl
    refine j_iald hx hG (zr (k := 27) (t2 := 84) hG ha rfl) (by decide) rfl (zlen hG (zr (k := 27) (t2 := 84) hG ha rfl) (n := 515) rfl rfl) (by omega) (by omega) (j := (x1 + 512).toNat) rfl (v := (s0 (gP G a 27) (x1 + 512).toNat)) (by rw [(zFr_g hF_s2 (zr (k := 27) (t2 := 84) hG ha rfl) (by decide)), e_s1, zU_at (Or.inl (zne ha (zr (k := 27) (t2 := 84) hG ha rfl) (by decide)))]) dX12_won_25 ?_
    have f28 := zf hS_s2 ha (k := 3) rfl
    have f29 := zf hS_s2 ha (k := 4) rfl
    have f30 := zf hS_s2 ha (k := 5) rfl
    have f31 := zf hS_s2 ha (k := 7) rfl
    have f32 := zf hS_s2 ha (k := 21) rfl
    have f33 := zf hS_s2 ha (k := 22) rfl
    have f34 := zf hS_s2 ha (k := 23) rfl
    have f35 := zf hS_s2 ha (k := 24) rfl
    have f36 := zf hS_s2 ha (k := 38) rfl
    have f37 := zf hS_s2 ha (k := 51) rfl
    have f38 := zf hS_s2 ha (k := 52) rfl
    exact j_iret hx hq rfl (by decide) (by decide) dX12_won_26 ⟨(s0 (gP G a 27) (x1 + 512).toNat), rfl, rfl, hS_s2, (zFr_t (zFr_u zFr_rf e_s1 ha (by decide)) hF_s2 (by decide)), ⟨(by omega), by omega, by omega, by omega, by omega, by omega, by omega, by omega, by omega, by omega, by omega, by omega⟩⟩
  · skip
    refine j_iconst hx dX12_won_14 ?_
    have f39 := zf hS_s2 ha (k := 3) rfl
    have f40 := zf hS_s2 ha (k := 4) rfl
    have f41 := zf hS_s2 ha (k := 5) rfl
    have f42 := zf hS_s2 ha (k := 7) rfl
    have f43 := zf hS_s2 ha (k := 21) rfl
    have f44 := zf hS_s2 ha (k := 22) rfl
    have f45 := zf hS_s2 ha (k := 23) rfl
    have f46 := zf hS_s2 ha (k := 24) rfl
    have f47 := zf hS_s2 ha (k := 38) rfl
    have f48 := zf hS_s2 ha (k := 51) rfl
    have f49 := zf hS_s2 ha (k := 52) rfl
    exact j_iret hx hq rfl (by decide) (by decide) dX12_won_15 ⟨0, rfl, rfl, hS_s2, (zFr_t (zFr_u zFr_rf e_s1 ha (by decide)) hF_s2 (by decide)), ⟨(by omega), by omega, by omega, by omega, by omega, by omega, by omega, by omega, by omega, by omega, by omega, by omega⟩⟩

set_option maxHeartbeats 1200000 in
set_option maxRecDepth 20000 in
theorem c_X12_keeps {E : zE} {l : Launch} (hst : l.stackTraces = false) (a : Nat) : Con E l yX12_keeps cX12_keeps 2 none { frames := 0, cells := 0, slots := 0, locals := 0 } (fun G s vs => vs = [.ref a] ∧ zGK G ∧ zSK G s ∧ (gT G a = 13)) (fun G s _ => pV (fun G2 s2 => G2 = G ∧ zSK G s2 ∧ zFr [99, 100] G s s2 ∧ zc (s2 (gP G a 46)) = zc (s (gP G a 27)) ∧ s2 (gP G a 46) 488 = s (gP G a 27) 488)) := by
  refine Con.mk hst (by decide) (fun G s vs h => by rw [h.1]; exact Nat.le_of_ble_eq_true rfl) ?_
  rintro X G s0 vs ⟨rfl, hG, hS0, ha⟩ rfl hx hq
  show JJ X E 2 G s0 0 0 [(0, .ref a)] 0 []
  refine j_iconst hx dX12_keeps_0 ?_
  refine j_istore_n hx [(1, .int (zI 0)), (0, .ref a)] dX12_keeps_1 (by decide) rfl ?_
  have c2_1 : ∀ (m_c2_1 : Nat) (v1 : Int) (s2 : zS), 2147483648 - v1 < m_c2_1 → (0 ≤ v1 ∧ v1 ≤ 515) → (zSK G s2) → (zFr [99] G s0 s2) → (zEq (v1).toNat (s2 (gP G a 46)) (s0 (gP G a 27))) → JJ X E 2 G s2 0 0 [(0, .ref a), (1, .int (zI v1))] 2 [] := by
    intro m_c2_1
    induction m_c2_1 with
    | zero => intro v1 s2 hm_c2_1 fA3 hS_s2 hF_s2 hE1; exfalso; omega
    | succ m_c2_1 ih_c2_1 => 
      intro v1 s2 hm_c2_1 fA3 hS_s2 hF_s2 hE1
      refine j_iload_n hx 1 dX12_keeps_2 rfl ?_
      refine j_sipush hx dX12_keeps_3 rfl ?_
      refine j_icmp_ge hx 27 dX12_keeps_6 rfl (by omega) ⟨by decide, by decide⟩ (fun h2 => ?_) (fun h2 => ?_)
      · skip
        have z3 := zEq_zc hE1 (by omega)
        refine j_iconst hx dX12_keeps_27 ?_
        refine j_istore_n hx [(1, .int (zI 0)), (0, .ref a)] dX12_keeps_28 (by decide) rfl ?_
        have c29_7 : ∀ (m_c29_7 : Nat) (v4 : Int) (s8 : zS), 2147483648 - v4 < m_c29_7 → (0 ≤ v4 ∧ v4 ≤ 5) → (zSK G s8) → (zFr [100] G s2 s8) → JJ X E 2 G s8 0 0 [(0, .ref a), (1, .int (zI v4))] 29 [] := by
          intro m_c29_7
          induction m_c29_7 with
          | zero => intro v4 s8 hm_c29_7 fA9 hS_s8 hF_s8; exfalso; omega
          | succ m_c29_7 ih_c29_7 => 
            intro v4 s8 hm_c29_7 fA9 hS_s8 hF_s8
            refine j_iload_n hx 1 dX12_keeps_29 rfl ?_
            refine j_iconst hx dX12_keeps_30 ?_
            refine j_icmp_ge hx 52 dX12_keeps_31 rfl (by omega) ⟨by decide, by decide⟩ (fun h5 => ?_) (fun h5 => ?_)
            · skip
              have g6 : zc (s8 (gP G a 46)) = zc (s2 (gP G a 46)) := by rw [hF_s8 (gP G a 46) (by rw [(zr (k := 46) (t2 := 99) hG ha rfl)]; decide)]
              have g7 : s8 (gP G a 46) 488 = s2 (gP G a 46) 488 := (by rw [(zFr_g hF_s8 (zr (k := 46) (t2 := 99) hG ha rfl) (by decide))])
              exact j_vret hx hq rfl (by decide) (by decide) dX12_keeps_52 ⟨rfl, rfl, hS_s8, (zFr_t (zFr_t zFr_rf hF_s2 (by decide)) hF_s8 (by decide)), ⟨by omega, by omega⟩⟩
            · skip
              refine j_aload_n hx 0 dX12_keeps_34 rfl ?_
              refine g13_47 hx hG ha kf_RX12_105 dX12_keeps_35 ?_
              refine j_iload_n hx 1 dX12_keeps_38 rfl ?_
              refine j_aload_n hx 0 dX12_keeps_39 rfl ?_
              refine g13_30 hx hG ha kf_RX12_65 dX12_keeps_40 ?_
              refine j_iload_n hx 1 dX12_keeps_43 rfl ?_
              have f8 := zaI (j := (v4).toNat) hS0 (zr (k := 30) (t2 := 87) hG ha rfl) rfl (zlen hG (zr (k := 30) (t2 := 87) hG ha rfl) (n := 5) rfl rfl) (show 0 ≤ v4 by omega) (by omega) rfl
              refine j_iald hx hG (zr (k := 30) (t2 := 87) hG ha rfl) (by decide) rfl (zlen hG (zr (k := 30) (t2 := 87) hG ha rfl) (n := 5) rfl rfl) (by omega) (by omega) (j := (v4).toNat) rfl (v := (s0 (gP G a 30) (v4).toNat)) (by rw [(zFr_g hF_s8 (zr (k := 30) (t2 := 87) hG ha rfl) (by decide)), (zFr_g hF_s2 (zr (k := 30) (t2 := 87) hG ha rfl) (by decide))]) dX12_keeps_44 ?_
              refine j_iast hx hG (zr (k := 47) (t2 := 100) hG ha rfl) (by decide) rfl (zlen hG (zr (k := 47) (t2 := 100) hG ha rfl) (n := 5) rfl rfl) (by omega) (by omega) (j := (v4).toNat) rfl dX12_keeps_45 ?_
              obtain ⟨s12, e_s12⟩ : ∃ z, z = zU s8 (gP G a 47) (v4).toNat ((s0 (gP G a 30) (v4).toNat)) := ⟨_, rfl⟩
              rw [← e_s12]
              have hS_s12 : zSK G s12 := by rw [e_s12]; exact zSK_A hS_s8 (zr (k := 47) (t2 := 100) hG ha rfl) rfl rfl rfl (by omega)
              refine j_iinc hx 1 [(1, .int (zI (v4 + 1))), (0, .ref a)] dX12_keeps_46 rfl (by omega) (by decide) rfl ?_
              refine j_goto hx 29 dX12_keeps_49 rfl ?_
              exact j_sub [1, 0] [(0, .ref a), (1, .int (zI (v4 + 1)))] rfl (ih_c29_7 (v4 + 1) s12 (by omega) (by omega) hS_s12 (zFr_u (zFr_t zFr_rf hF_s8 (by decide)) e_s12 (zr (k := 47) (t2 := 100) hG ha rfl) (by decide)))
        exact j_sub [1, 0] [(0, .ref a), (1, .int (zI 0))] rfl (c29_7 (2147483648 * 4) 0 s2 (by omega) (by omega) hS_s2 zFr_rf)
      · skip
        refine j_aload_n hx 0 dX12_keeps_9 rfl ?_
        refine g13_46 hx hG ha kf_RX12_102 dX12_keeps_10 ?_
        refine j_iload_n hx 1 dX12_keeps_13 rfl ?_
        refine j_aload_n hx 0 dX12_keeps_14 rfl ?_
        refine g13_27 hx hG ha kf_RX12_56 dX12_keeps_15 ?_
        refine j_iload_n hx 1 dX12_keeps_18 rfl ?_
        have f9 := zah (j := (v1).toNat) hS0 (zr (k := 27) (t2 := 84) hG ha rfl) (fun k => ⟨_, rfl, (axS_h _).1, (axS_h _).2.1⟩) (zlen hG (zr (k := 27) (t2 := 84) hG ha rfl) (n := 515) rfl rfl) (show 0 ≤ v1 by omega) (by omega) rfl
        refine j_iald hx hG (zr (k := 27) (t2 := 84) hG ha rfl) (by decide) rfl (zlen hG (zr (k := 27) (t2 := 84) hG ha rfl) (n := 515) rfl rfl) (by omega) (by omega) (j := (v1).toNat) rfl (v := (s0 (gP G a 27) (v1).toNat)) (by rw [(zFr_g hF_s2 (zr (k := 27) (t2 := 84) hG ha rfl) (by decide))]) dX12_keeps_19 ?_
        refine j_iast hx hG (zr (k := 46) (t2 := 99) hG ha rfl) (by decide) rfl (zlen hG (zr (k := 46) (t2 := 99) hG ha rfl) (n := 515) rfl rfl) (by omega) (by omega) (j := (v1).toNat) rfl dX12_keeps_20 ?_
        obtain ⟨s13, e_s13⟩ : ∃ z, z = zU s2 (gP G a 46) (v1).toNat ((s0 (gP G a 27) (v1).toNat)) := ⟨_, rfl⟩
        rw [← e_s13]
        have hS_s13 : zSK G s13 := by rw [e_s13]; exact zSK_cq hS_s2 hS0 (zr (k := 46) (t2 := 99) hG ha rfl) (zr (k := 27) (t2 := 84) hG ha rfl) (fun _ => rfl) rfl (j2 := (v1).toNat) (by rfl) (by have := (zlen hG (zr (k := 27) (t2 := 84) hG ha rfl) (n := 515) rfl rfl); omega) rfl
        refine j_iinc hx 1 [(1, .int (zI (v1 + 1))), (0, .ref a)] dX12_keeps_21 rfl (by omega) (by decide) rfl ?_
        refine j_goto hx 2 dX12_keeps_24 rfl ?_
        exact j_sub [1, 0] [(0, .ref a), (1, .int (zI (v1 + 1)))] rfl (ih_c2_1 (v1 + 1) s13 (by omega) (by omega) hS_s13 (zFr_u (zFr_t zFr_rf hF_s2 (by decide)) e_s13 (zr (k := 46) (t2 := 99) hG ha rfl) (by decide)) (zEq_s hE1 e_s13 (by omega) rfl))
  exact j_sub [1, 0] [(0, .ref a), (1, .int (zI 0))] rfl (c2_1 (2147483648 * 4) 0 s0 (by omega) (by omega) hS0 zFr_rf (zEq_0 (by omega)))

set_option maxHeartbeats 1200000 in
set_option maxRecDepth 20000 in
theorem c_X12_puts {E : zE} {l : Launch} (hst : l.stackTraces = false) (a : Nat) (x1 : Int) (x2 : Int) (x3 : Int) : Con E l yX12_puts cX12_puts 5 (some .int) { frames := 0, cells := 0, slots := 0, locals := 0 } (fun G s vs => vs = [.ref a, .int (zI x1), .int (zI x2), .int (zI x3)] ∧ zGK G ∧ zSK G s ∧ (gT G a = 13) ∧ (0 ≤ x1 ∧ x1 ≤ 210070) ∧ (0 ≤ x2 ∧ x2 ≤ 360) ∧ (480 ≤ x3 ∧ x3 ≤ 486) ∧ (x1 + s (gP G a 27) (x3).toNat ≤ 210070)) (fun G s _ => pI (fun r G2 s2 => G2 = G ∧ zSK G s2 ∧ zFr [101] G s s2 ∧ (0 ≤ r ∧ r ≤ 210130) ∧ r = x1 + s (gP G a 27) (x3).toNat)) := by
  refine Con.mk hst (by decide) (fun G s vs h => by rw [h.1]; exact Nat.le_of_ble_eq_true rfl) ?_
  rintro X G s0 vs ⟨rfl, hG, hS0, ha, hx1, hx2, hx3, e0⟩ rfl hx hq
  show JJ X E 5 G s0 0 0 [(0, .ref a), (1, .int (zI x1)), (2, .int (zI x2)), (3, .int (zI x3))] 0 []
  refine j_iconst hx dX12_puts_0 ?_
  refine j_istore hx [(4, .int (zI 0)), (0, .ref a), (1, .int (zI x1)), (2, .int (zI x2)), (3, .int (zI x3))] dX12_puts_1 (by decide) rfl ?_
  have c3_1 : ∀ (m_c3_1 : Nat) (v1 : Int) (s2 : zS), 2147483648 - v1 < m_c3_1 → (0 ≤ v1 ∧ v1 ≤ 60) → (zSK G s2) → (zFr [101] G s0 s2) → JJ X E 5 G s2 0 0 [(0, .ref a), (1, .int (zI x1)), (2, .int (zI x2)), (3, .int (zI x3)), (4, .int (zI v1))] 3 [] := by
    intro m_c3_1
    induction m_c3_1 with
    | zero => intro v1 s2 hm_c3_1 fA3 hS_s2 hF_s2; exfalso; omega
    | succ m_c3_1 ih_c3_1 => 
      intro v1 s2 hm_c3_1 fA3 hS_s2 hF_s2
      refine j_iload hx 4 dX12_puts_3 rfl ?_
      refine j_aload_n hx 0 dX12_puts_5 rfl ?_
      refine g13_27 hx hG ha kf_RX12_56 dX12_puts_6 ?_
      refine j_iload_n hx 3 dX12_puts_9 rfl ?_
      have f2 := zaQ (j := (x3).toNat) hS0 (zr (k := 27) (t2 := 84) hG ha rfl) (congrArg some (axS_2 (x3).toNat (by omega))) (zlen hG (zr (k := 27) (t2 := 84) hG ha rfl) (n := 515) rfl rfl) (show 0 ≤ x3 by omega) (by omega) rfl
      have c3 := zc_1 (j := (x3).toNat) hS0 (zr (k := 27) (t2 := 84) hG ha rfl) (zn hG (zr (k := 27) (t2 := 84) hG ha rfl) rfl) (by omega) (by omega)
      refine j_iald hx hG (zr (k := 27) (t2 := 84) hG ha rfl) (by decide) rfl (zlen hG (zr (k := 27) (t2 := 84) hG ha rfl) (n := 515) rfl rfl) (by omega) (by omega) (j := (x3).toNat) rfl (v := (s0 (gP G a 27) (x3).toNat)) (by rw [(zFr_g hF_s2 (zr (k := 27) (t2 := 84) hG ha rfl) (by decide))]) dX12_puts_10 ?_
      refine j_icmp_ge hx 64 dX12_puts_11 rfl (by omega) (by omega) (fun h4 => ?_) (fun h4 => ?_)
      · skip
        refine j_iload_n hx 1 dX12_puts_64 rfl ?_
        refine j_aload_n hx 0 dX12_puts_65 rfl ?_
        refine g13_27 hx hG ha kf_RX12_56 dX12_puts_66 ?_
        refine j_iload_n hx 3 dX12_puts_69 rfl ?_
        refine j_iald hx hG (zr (k := 27) (t2 := 84) hG ha rfl) (by decide) rfl (zlen hG (zr (k := 27) (t2 := 84) hG ha rfl) (n := 515) rfl rfl) (by omega) (by omega) (j := (x3).toNat) rfl (v := (s0 (gP G a 27) (x3).toNat)) (by rw [(zFr_g hF_s2 (zr (k := 27) (t2 := 84) hG ha rfl) (by decide))]) dX12_puts_70 ?_
        refine j_iadd hx (r := x1 + (s0 (gP G a 27) (x3).toNat)) dX12_puts_71 (by omega) ?_
        exact j_iret hx hq rfl (by decide) (by decide) dX12_puts_72 ⟨x1 + (s0 (gP G a 27) (x3).toNat), rfl, rfl, hS_s2, (zFr_t zFr_rf hF_s2 (by decide)), ⟨(by omega), by omega⟩⟩
      · skip
        refine j_aload_n hx 0 dX12_puts_14 rfl ?_
        refine g13_48 hx hG ha kf_RX12_109 dX12_puts_15 ?_
        refine j_iload_n hx 1 dX12_puts_18 rfl ?_
        refine j_iload hx 4 dX12_puts_19 rfl ?_
        refine j_iadd hx (r := x1 + v1) dX12_puts_21 rfl ?_
        refine j_iconst hx dX12_puts_22 ?_
        refine j_aload_n hx 0 dX12_puts_23 rfl ?_
        refine g13_19 hx hG ha kf_RX12_50 dX12_puts_24 ?_
        refine j_aload_n hx 0 dX12_puts_27 rfl ?_
        refine g13_27 hx hG ha kf_RX12_56 dX12_puts_28 ?_
        refine j_iload_n hx 2 dX12_puts_31 rfl ?_
        refine j_iload hx 4 dX12_puts_32 rfl ?_
        refine j_iadd hx (r := x2 + v1) dX12_puts_34 rfl ?_
        have f5 := zaQ (j := (x2 + v1).toNat) hS0 (zr (k := 27) (t2 := 84) hG ha rfl) (congrArg some (axS_0 (x2 + v1).toNat (by omega))) (zlen hG (zr (k := 27) (t2 := 84) hG ha rfl) (n := 515) rfl rfl) (show 0 ≤ x2 + v1 by omega) (by omega) rfl
        refine j_iald hx hG (zr (k := 27) (t2 := 84) hG ha rfl) (by decide) rfl (zlen hG (zr (k := 27) (t2 := 84) hG ha rfl) (n := 515) rfl rfl) (by omega) (by omega) (j := (x2 + v1).toNat) rfl (v := (s0 (gP G a 27) (x2 + v1).toNat)) (by rw [(zFr_g hF_s2 (zr (k := 27) (t2 := 84) hG ha rfl) (by decide))]) dX12_puts_35 ?_
        have f6 := zaI (j := ((s0 (gP G a 27) (x2 + v1).toNat)).toNat) hS0 (zr (k := 19) (t2 := 82) hG ha rfl) rfl (zlen hG (zr (k := 19) (t2 := 82) hG ha rfl) (n := 60) rfl rfl) (show 0 ≤ (s0 (gP G a 27) (x2 + v1).toNat) by omega) (by omega) rfl
        refine j_iald hx hG (zr (k := 19) (t2 := 82) hG ha rfl) (by decide) rfl (zlen hG (zr (k := 19) (t2 := 82) hG ha rfl) (n := 60) rfl rfl) (by omega) (by omega) (j := ((s0 (gP G a 27) (x2 + v1).toNat)).toNat) rfl (v := (s0 (gP G a 19) ((s0 (gP G a 27) (x2 + v1).toNat)).toNat)) (by rw [(zFr_g hF_s2 (zr (k := 19) (t2 := 82) hG ha rfl) (by decide))]) dX12_puts_36 ?_
        refine j_imul hx (r := 2 * (s0 (gP G a 19) ((s0 (gP G a 27) (x2 + v1).toNat)).toNat)) dX12_puts_37 (by omega) ?_
        refine j_norm (fun v7 f8 f9 f10 => ?_)
        refine j_aload_n hx 0 dX12_puts_38 rfl ?_
        refine g13_27 hx hG ha kf_RX12_56 dX12_puts_39 ?_
        refine j_sipush hx dX12_puts_42 rfl ?_
        refine j_aload_n hx 0 dX12_puts_45 rfl ?_
        refine g13_27 hx hG ha kf_RX12_56 dX12_puts_46 ?_
        refine j_iload_n hx 2 dX12_puts_49 rfl ?_
        refine j_iload hx 4 dX12_puts_50 rfl ?_
        refine j_iadd hx (r := x2 + v1) dX12_puts_52 rfl ?_
        refine j_iald hx hG (zr (k := 27) (t2 := 84) hG ha rfl) (by decide) rfl (zlen hG (zr (k := 27) (t2 := 84) hG ha rfl) (n := 515) rfl rfl) (by omega) (by omega) (j := (x2 + v1).toNat) rfl (v := (s0 (gP G a 27) (x2 + v1).toNat)) (by rw [(zFr_g hF_s2 (zr (k := 27) (t2 := 84) hG ha rfl) (by decide))]) dX12_puts_53 ?_
        refine j_iadd hx (r := (s0 (gP G a 27) (x2 + v1).toNat) + 420) dX12_puts_54 (by omega) ?_
        have f11 := zaQ (j := ((s0 (gP G a 27) (x2 + v1).toNat) + 420).toNat) hS0 (zr (k := 27) (t2 := 84) hG ha rfl) (congrArg some (axS_1 ((s0 (gP G a 27) (x2 + v1).toNat) + 420).toNat (by omega))) (zlen hG (zr (k := 27) (t2 := 84) hG ha rfl) (n := 515) rfl rfl) (show 0 ≤ (s0 (gP G a 27) (x2 + v1).toNat) + 420 by omega) (by omega) rfl
        refine j_iald hx hG (zr (k := 27) (t2 := 84) hG ha rfl) (by decide) rfl (zlen hG (zr (k := 27) (t2 := 84) hG ha rfl) (n := 515) rfl rfl) (by omega) (by omega) (j := ((s0 (gP G a 27) (x2 + v1).toNat) + 420).toNat) rfl (v := (s0 (gP G a 27) ((s0 (gP G a 27) (x2 + v1).toNat) + 420).toNat)) (by rw [(zFr_g hF_s2 (zr (k := 27) (t2 := 84) hG ha rfl) (by decide))]) dX12_puts_55 ?_
        refine j_iadd hx (r := v7 + (s0 (gP G a 27) ((s0 (gP G a 27) (x2 + v1).toNat) + 420).toNat)) dX12_puts_56 (by omega) ?_
        refine j_norm (fun v12 f13 f14 f15 => ?_)
        refine j_iast hx hG (zr (k := 48) (t2 := 101) hG ha rfl) (by decide) rfl (zlen hG (zr (k := 48) (t2 := 101) hG ha rfl) (n := 210070) rfl rfl) (by omega) (by omega) (j := (x1 + v1).toNat) rfl dX12_puts_57 ?_
        obtain ⟨s6, e_s6⟩ : ∃ z, z = zU s2 (gP G a 48) (x1 + v1).toNat v12 := ⟨_, rfl⟩
        rw [← e_s6]
        have hS_s6 : zSK G s6 := by rw [e_s6]; exact zSK_A hS_s2 (zr (k := 48) (t2 := 101) hG ha rfl) rfl rfl rfl (by omega)
        refine j_iinc hx 4 [(4, .int (zI (v1 + 1))), (0, .ref a), (1, .int (zI x1)), (2, .int (zI x2)), (3, .int (zI x3))] dX12_puts_58 rfl (by omega) (by decide) rfl ?_
        refine j_goto hx 3 dX12_puts_61 rfl ?_
        exact j_sub [1, 2, 3, 4, 0] [(0, .ref a), (1, .int (zI x1)), (2, .int (zI x2)), (3, .int (zI x3)), (4, .int (zI (v1 + 1)))] rfl (ih_c3_1 (v1 + 1) s6 (by omega) (by omega) hS_s6 (zFr_u (zFr_t zFr_rf hF_s2 (by decide)) e_s6 (zr (k := 48) (t2 := 101) hG ha rfl) (by decide)))
  exact j_sub [1, 2, 3, 4, 0] [(0, .ref a), (1, .int (zI x1)), (2, .int (zI x2)), (3, .int (zI x3)), (4, .int (zI 0))] rfl (c3_1 (2147483648 * 4) 0 s0 (by omega) (by omega) hS0 zFr_rf)
