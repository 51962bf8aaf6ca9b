set_option maxHeartbeats 4000000 in
set_option maxRecDepth 20000 in
theorem c_X12_may_t {E : zE} {l : Launch} (hst : l.stackTraces = false) (a : Nat) (x1 : Int) (x2 : Int) (x3 : Int) : Con E l yX12_may cX12_may 4 (some .boolean) { frames := 0, cells := 0, slots := 0, locals := 0 } (fun G s vs => vs = [.ref a, .int (zI x1), .int (zI x2), .int (zI x3)] ∧ zGK G ∧ zSK G s ∧ (gT G a = 13) ∧ (1 ≤ x1 ∧ x1 ≤ 1) ∧ (1 ≤ x2 ∧ x2 ≤ 2) ∧ (0 ≤ x3 ∧ x3 ≤ 1) ∧ (s a 0 = 0)) (fun G s _ => pI (fun r G2 s2 => G2 = G ∧ s2 = s ∧ (1 ≤ r ∧ r ≤ 1))) := by
  refine Con.mk hst (by decide) (fun G s vs h => by rw [h.1]; exact Nat.le_of_ble_eq_true rfl) ?_
  rintro X G s0 vs ⟨rfl, hG, hS0, ha, hx1, hx2, hx3, e0⟩ rfl hx hq
  show JJ X E 4 G s0 0 0 [(0, .ref a), (1, .int (zI x1)), (2, .int (zI x2)), (3, .int (zI x3))] 0 []
  refine j_iload_n hx 1 dX12_may_0 rfl ?_
  refine j_if_ne hx 26 dX12_may_1 rfl (by omega) (fun h1 => ?_) (fun h1 => absurd h1 (by omega))
  refine j_aload_n hx 0 dX12_may_26 rfl ?_
  refine g13_0 hx hG ha kf_RX12_3 rfl dX12_may_27 ?_
  refine j_if_ne hx 37 dX12_may_30 rfl (by omega) (fun h2 => absurd h2 (by omega)) (fun h2 => ?_)
  refine j_iconst hx dX12_may_33 ?_
  refine j_goto hx 38 dX12_may_34 rfl ?_
  exact j_zret hx hq rfl (by decide) (by decide) dX12_may_38 (by omega) ⟨1, rfl, rfl, rfl, (by omega)⟩

set_option maxHeartbeats 4000000 in
set_option maxRecDepth 20000 in
theorem c_X12_may_f {E : zE} {l : Launch} (hst : l.stackTraces = false) (a : Nat) (x1 : Int) (x2 : Int) (x3 : Int) : Con E l yX12_may cX12_may 4 (some .boolean) { frames := 0, cells := 0, slots := 0, locals := 0 } (fun G s vs => vs = [.ref a, .int (zI x1), .int (zI x2), .int (zI x3)] ∧ zGK G ∧ zSK G s ∧ (gT G a = 13) ∧ (0 ≤ x1 ∧ x1 ≤ 0) ∧ (1 ≤ x2 ∧ x2 ≤ 2) ∧ (0 ≤ x3 ∧ x3 ≤ 1) ∧ (s a 0 = 0)) (fun G s _ => pI (fun r G2 s2 => G2 = G ∧ zSK G s2 ∧ zFr [13, 71] G s s2 ∧ (0 ≤ r ∧ r ≤ 0) ∧ s2 a 0 = x2)) := by
  refine Con.mk hst (by decide) (fun G s vs h => by rw [h.1]; exact Nat.le_of_ble_eq_true rfl) ?_
  rintro X G s0 vs ⟨rfl, hG, hS0, ha, hx1, hx2, hx3, e0⟩ rfl hx hq
  show JJ X E 4 G s0 0 0 [(0, .ref a), (1, .int (zI x1)), (2, .int (zI x2)), (3, .int (zI x3))] 0 []
  refine j_iload_n hx 1 dX12_may_0 rfl ?_
  refine j_if_ne hx 26 dX12_may_1 rfl (by omega) (fun h1 => absurd h1 (by omega)) (fun h1 => ?_)
  refine j_aload_n hx 0 dX12_may_4 rfl ?_
  refine g13_0 hx hG ha kf_RX12_3 rfl dX12_may_5 ?_
  refine j_if_ne hx 26 dX12_may_8 rfl (by omega) (fun h2 => absurd h2 (by omega)) (fun h2 => ?_)
  refine j_aload_n hx 0 dX12_may_11 rfl ?_
  refine j_iload_n hx 2 dX12_may_12 rfl ?_
  refine p13_0 hx hG ha kf_RX12_3 dX12_may_13 ?_
  obtain ⟨s1, e_s1⟩ : ∃ z, z = zU s0 a 0 x2 := ⟨_, rfl⟩
  rw [← e_s1]
  have hS_s1 : zSK G s1 := by rw [e_s1]; exact zSK_F hS0 ha rfl rfl rfl (by omega)
  refine j_aload_n hx 0 dX12_may_16 rfl ?_
  refine g13_1 hx hG ha kf_RX12_7 dX12_may_17 ?_
  refine j_iload_n hx 3 dX12_may_20 rfl ?_
  refine j_dup2 hx dX12_may_21 rfl rfl ?_
  have f3 := zaI (j := (x3).toNat) hS0 (zr (k := 1) (t2 := 71) hG ha rfl) rfl (zlen hG (zr (k := 1) (t2 := 71) hG ha rfl) (n := 2) rfl rfl) (show 0 ≤ x3 by omega) (by omega) rfl
  refine j_iald hx hG (zr (k := 1) (t2 := 71) hG ha rfl) (by decide) rfl (zlen hG (zr (k := 1) (t2 := 71) hG ha rfl) (n := 2) rfl rfl) (by omega) (by omega) (j := (x3).toNat) rfl (v := (s0 (gP G a 1) (x3).toNat)) (by rw [e_s1, zU_at (Or.inl (zne ha (zr (k := 1) (t2 := 71) hG ha rfl) (by decide)))]) dX12_may_22 ?_
  refine j_iconst hx dX12_may_23 ?_
  refine j_iadd hx (r := (s0 (gP G a 1) (x3).toNat) + 1) dX12_may_24 (by omega) ?_
  refine j_norm (fun v4 f5 f6 f7 => ?_)
  refine j_iast hx hG (zr (k := 1) (t2 := 71) hG ha rfl) (by decide) rfl (zlen hG (zr (k := 1) (t2 := 71) hG ha rfl) (n := 2) rfl rfl) (by omega) (by omega) (j := (x3).toNat) rfl dX12_may_25 ?_
  obtain ⟨s2, e_s2⟩ : ∃ z, z = zU s1 (gP G a 1) (x3).toNat v4 := ⟨_, rfl⟩
  rw [← e_s2]
  have hS_s2 : zSK G s2 := by rw [e_s2]; exact zSK_A hS_s1 (zr (k := 1) (t2 := 71) hG ha rfl) rfl rfl rfl (by omega)
  refine j_aload_n hx 0 dX12_may_26 rfl ?_
  refine g13_0 hx hG ha kf_RX12_3 (v := x2) (by rw [e_s2, zU_at (Or.inl (zne (zr (k := 1) (t2 := 71) hG ha rfl) ha (by decide))), e_s1, zU_eq]) dX12_may_27 ?_
  refine j_if_ne hx 37 dX12_may_30 rfl (by omega) (fun h8 => ?_) (fun h8 => absurd h8 (by omega))
  refine j_iconst hx dX12_may_37 ?_
  have g9 : s2 a 0 = x2 := (by rw [e_s2, zU_at (Or.inl (zne (zr (k := 1) (t2 := 71) hG ha rfl) ha (by decide))), e_s1, zU_eq])
  exact j_zret hx hq rfl (by decide) (by decide) dX12_may_38 (by omega) ⟨0, rfl, rfl, hS_s2, (zFr_u (zFr_u zFr_rf e_s1 ha (by decide)) e_s2 (zr (k := 1) (t2 := 71) hG ha rfl) (by decide)), ⟨(by omega), by omega⟩⟩

set_option maxHeartbeats 4000000 in
set_option maxRecDepth 20000 in
theorem c_X12_clears {E : zE} {l : Launch} (hst : l.stackTraces = false) (a : Nat) : Con E l yX12_clears cX12_clears 2 none { frames := 0, cells := 0, slots := 0, locals := 0 } (fun G s vs => vs = [.ref a] ∧ zGK G ∧ zSK G s ∧ (gT G a = 13)) (fun G s _ => pV (fun G2 s2 => G2 = G ∧ zSK G s2 ∧ zFr [13, 74, 76, 77, 78] G s s2 ∧ s2 (gP G a 11) 0 = 5 ∧ s2 (gP G a 11) 1 = 5 ∧ s2 (gP G a 11) 2 = 5 ∧ s2 a 0 = s a 0 ∧ s2 a 2 = s a 2 ∧ s2 a 5 = s a 5 ∧ s2 a 6 = s a 6 ∧ s2 a 8 = s a 8 ∧ s2 a 51 = s a 51 ∧ s2 a 54 = s a 54 ∧ s2 a 58 = s a 58 ∧ s2 a 0 = s a 0)) := by
  refine Con.mk hst (by decide) (fun G s vs h => by rw [h.1]; exact Nat.le_of_ble_eq_true rfl) ?_
  rintro X G s0 vs ⟨rfl, hG, hS0, ha⟩ rfl hx hq
  show JJ X E 2 G s0 0 0 [(0, .ref a)] 0 []
  refine j_aload_n hx 0 dX12_clears_0 rfl ?_
  refine j_iconst hx dX12_clears_1 ?_
  refine p13_21 hx hG ha kf_RX12_180 dX12_clears_2 ?_
  obtain ⟨s1, e_s1⟩ : ∃ z, z = zU s0 a 21 0 := ⟨_, rfl⟩
  rw [← e_s1]
  have hS_s1 : zSK G s1 := by rw [e_s1]; exact zSK_F hS0 ha rfl rfl rfl (by omega)
  refine j_aload_n hx 0 dX12_clears_5 rfl ?_
  refine j_iconst hx dX12_clears_6 ?_
  refine p13_22 hx hG ha kf_RX12_183 dX12_clears_7 ?_
  obtain ⟨s2, e_s2⟩ : ∃ z, z = zU s1 a 22 0 := ⟨_, rfl⟩
  rw [← e_s2]
  have hS_s2 : zSK G s2 := by rw [e_s2]; exact zSK_F hS_s1 ha rfl rfl rfl (by omega)
  refine j_aload_n hx 0 dX12_clears_10 rfl ?_
  refine j_iconst hx dX12_clears_11 ?_
  refine p13_23 hx hG ha kf_RX12_186 dX12_clears_12 ?_
  obtain ⟨s3, e_s3⟩ : ∃ z, z = zU s2 a 23 0 := ⟨_, rfl⟩
  rw [← e_s3]
  have hS_s3 : zSK G s3 := by rw [e_s3]; exact zSK_F hS_s2 ha rfl rfl rfl (by omega)
  refine j_iconst hx dX12_clears_15 ?_
  refine j_istore_n hx [(1, .int (zI 0)), (0, .ref a)] dX12_clears_16 (by decide) rfl ?_
  refine j_iload_n hx 0 dX12_clears_17 rfl ?_
  refine j_iconst hx dX12_clears_18 ?_
  refine j_icmp_ge hx 56 dX12_clears_19 rfl ⟨by decide, by decide⟩ ⟨by decide, by decide⟩ (fun h1 => absurd h1 (by omega)) (fun h1 => ?_)
  refine j_aload_n hx 1 dX12_clears_22 rfl ?_
  refine g13_11 hx hG ha kf_RX12_26 dX12_clears_23 ?_
  refine j_iload_n hx 0 dX12_clears_26 rfl ?_
  refine j_iconst hx dX12_clears_27 ?_
  refine j_iast hx hG (zr (k := 11) (t2 := 74) hG ha rfl) (by decide) rfl (zlen hG (zr (k := 11) (t2 := 74) hG ha rfl) (n := 3) rfl rfl) (by omega) (by omega) (j := 0) rfl dX12_clears_28 ?_
  obtain ⟨s4, e_s4⟩ : ∃ z, z = zU s3 (gP G a 11) 0 5 := ⟨_, rfl⟩
  rw [← e_s4]
  have hS_s4 : zSK G s4 := by rw [e_s4]; exact zSK_A hS_s3 (zr (k := 11) (t2 := 74) hG ha rfl) rfl rfl rfl (by omega)
  refine j_aload_n hx 1 dX12_clears_29 rfl ?_
  refine g13_13 hx hG ha kf_RX12_32 dX12_clears_30 ?_
  refine j_iload_n hx 0 dX12_clears_33 rfl ?_
  refine j_iconst hx dX12_clears_34 ?_
  refine j_iast hx hG (zr (k := 13) (t2 := 76) hG ha rfl) (by decide) rfl (zlen hG (zr (k := 13) (t2 := 76) hG ha rfl) (n := 3) rfl rfl) (by omega) (by omega) (j := 0) rfl dX12_clears_35 ?_
  obtain ⟨s5, e_s5⟩ : ∃ z, z = zU s4 (gP G a 13) 0 0 := ⟨_, rfl⟩
  rw [← e_s5]
  have hS_s5 : zSK G s5 := by rw [e_s5]; exact zSK_A hS_s4 (zr (k := 13) (t2 := 76) hG ha rfl) rfl rfl rfl (by omega)
  refine j_aload_n hx 1 dX12_clears_36 rfl ?_
  refine g13_14 hx hG ha kf_RX12_35 dX12_clears_37 ?_
  refine j_iload_n hx 0 dX12_clears_40 rfl ?_
  refine j_iconst hx dX12_clears_41 ?_
  refine j_iast hx hG (zr (k := 14) (t2 := 77) hG ha rfl) (by decide) rfl (zlen hG (zr (k := 14) (t2 := 77) hG ha rfl) (n := 3) rfl rfl) (by omega) (by omega) (j := 0) rfl dX12_clears_42 ?_
  obtain ⟨s6, e_s6⟩ : ∃ z, z = zU s5 (gP G a 14) 0 0 := ⟨_, rfl⟩
  rw [← e_s6]
  have hS_s6 : zSK G s6 := by rw [e_s6]; exact zSK_A hS_s5 (zr (k := 14) (t2 := 77) hG ha rfl) rfl rfl rfl (by omega)
  refine j_aload_n hx 1 dX12_clears_43 rfl ?_
  refine g13_15 hx hG ha kf_RX12_38 dX12_clears_44 ?_
  refine j_iload_n hx 0 dX12_clears_47 rfl ?_
  refine j_iconst hx dX12_clears_48 ?_
  refine j_iast hx hG (zr (k := 15) (t2 := 78) hG ha rfl) (by decide) rfl (zlen hG (zr (k := 15) (t2 := 78) hG ha rfl) (n := 3) rfl rfl) (by omega) (by omega) (j := 0) rfl dX12_clears_49 ?_
  obtain ⟨s7, e_s7⟩ : ∃ z, z = zU s6 (gP G a 15) 0 0 := ⟨_, rfl⟩
  rw [← e_s7]
  have hS_s7 : zSK G s7 := by rw [e_s7]; exact zSK_A hS_s6 (zr (k := 15) (t2 := 78) hG ha rfl) rfl rfl rfl (by omega)
  refine j_iinc hx 0 [(1, .int (zI 1)), (0, .ref a)] dX12_clears_50 rfl (by omega) (by decide) rfl ?_
  refine j_goto hx 17 dX12_clears_53 rfl ?_
  refine j_iload_n hx 0 dX12_clears_17 rfl ?_
  refine j_iconst hx dX12_clears_18 ?_
  refine j_icmp_ge hx 56 dX12_clears_19 rfl ⟨by decide, by decide⟩ ⟨by decide, by decide⟩ (fun h2 => absurd h2 (by omega)) (fun h2 => ?_)
  refine j_aload_n hx 1 dX12_clears_22 rfl ?_
  refine g13_11 hx hG ha kf_RX12_26 dX12_clears_23 ?_
  refine j_iload_n hx 0 dX12_clears_26 rfl ?_
  refine j_iconst hx dX12_clears_27 ?_
  refine j_iast hx hG (zr (k := 11) (t2 := 74) hG ha rfl) (by decide) rfl (zlen hG (zr (k := 11) (t2 := 74) hG ha rfl) (n := 3) rfl rfl) (by omega) (by omega) (j := 1) rfl dX12_clears_28 ?_
  obtain ⟨s8, e_s8⟩ : ∃ z, z = zU s7 (gP G a 11) 1 5 := ⟨_, rfl⟩
  rw [← e_s8]
  have hS_s8 : zSK G s8 := by rw [e_s8]; exact zSK_A hS_s7 (zr (k := 11) (t2 := 74) hG ha rfl) rfl rfl rfl (by omega)
  refine j_aload_n hx 1 dX12_clears_29 rfl ?_
  refine g13_13 hx hG ha kf_RX12_32 dX12_clears_30 ?_
  refine j_iload_n hx 0 dX12_clears_33 rfl ?_
  refine j_iconst hx dX12_clears_34 ?_
  refine j_iast hx hG (zr (k := 13) (t2 := 76) hG ha rfl) (by decide) rfl (zlen hG (zr (k := 13) (t2 := 76) hG ha rfl) (n := 3) rfl rfl) (by omega) (by omega) (j := 1) rfl dX12_clears_35 ?_
  obtain ⟨s9, e_s9⟩ : ∃ z, z = zU s8 (gP G a 13) 1 0 := ⟨_, rfl⟩
  rw [← e_s9]
  have hS_s9 : zSK G s9 := by rw [e_s9]; exact zSK_A hS_s8 (zr (k := 13) (t2 := 76) hG ha rfl) rfl rfl rfl (by omega)
  refine j_aload_n hx 1 dX12_clears_36 rfl ?_
  refine g13_14 hx hG ha kf_RX12_35 dX12_clears_37 ?_
  refine j_iload_n hx 0 dX12_clears_40 rfl ?_
  refine j_iconst hx dX12_clears_41 ?_
  refine j_iast hx hG (zr (k := 14) (t2 := 77) hG ha rfl) (by decide) rfl (zlen hG (zr (k := 14) (t2 := 77) hG ha rfl) (n := 3) rfl rfl) (by omega) (by omega) (j := 1) rfl dX12_clears_42 ?_
  obtain ⟨s10, e_s10⟩ : ∃ z, z = zU s9 (gP G a 14) 1 0 := ⟨_, rfl⟩
  rw [← e_s10]
  have hS_s10 : zSK G s10 := by rw [e_s10]; exact zSK_A hS_s9 (zr (k := 14) (t2 := 77) hG ha rfl) rfl rfl rfl (by omega)
  refine j_aload_n hx 1 dX12_clears_43 rfl ?_
  refine g13_15 hx hG ha kf_RX12_38 dX12_clears_44 ?_
  refine j_iload_n hx 0 dX12_clears_47 rfl ?_
  refine j_iconst hx dX12_clears_48 ?_
  refine j_iast hx hG (zr (k := 15) (t2 := 78) hG ha rfl) (by decide) rfl (zlen hG (zr (k := 15) (t2 := 78) hG ha rfl) (n := 3) rfl rfl) (by omega) (by omega) (j := 1) rfl dX12_clears_49 ?_
  obtain ⟨s11, e_s11⟩ : ∃ z, z = zU s10 (gP G a 15) 1 0 := ⟨_, rfl⟩
  rw [← e_s11]
  have hS_s11 : zSK G s11 := by rw [e_s11]; exact zSK_A hS_s10 (zr (k := 15) (t2 := 78) hG ha rfl) rfl rfl rfl (by omega)
  refine j_iinc hx 0 [(1, .int (zI 2)), (0, .ref a)] dX12_clears_50 rfl (by omega) (by decide) rfl ?_
  refine j_goto hx 17 dX12_clears_53 rfl ?_
  refine j_iload_n hx 0 dX12_clears_17 rfl ?_
  refine j_iconst hx dX12_clears_18 ?_
  refine j_icmp_ge hx 56 dX12_clears_19 rfl ⟨by decide, by decide⟩ ⟨by decide, by decide⟩ (fun h3 => absurd h3 (by omega)) (fun h3 => ?_)
  refine j_aload_n hx 1 dX12_clears_22 rfl ?_
  refine g13_11 hx hG ha kf_RX12_26 dX12_clears_23 ?_
  refine j_iload_n hx 0 dX12_clears_26 rfl ?_
  refine j_iconst hx dX12_clears_27 ?_
  refine j_iast hx hG (zr (k := 11) (t2 := 74) hG ha rfl) (by decide) rfl (zlen hG (zr (k := 11) (t2 := 74) hG ha rfl) (n := 3) rfl rfl) (by omega) (by omega) (j := 2) rfl dX12_clears_28 ?_
  obtain ⟨s12, e_s12⟩ : ∃ z, z = zU s11 (gP G a 11) 2 5 := ⟨_, rfl⟩
  rw [← e_s12]
  have hS_s12 : zSK G s12 := by rw [e_s12]; exact zSK_A hS_s11 (zr (k := 11) (t2 := 74) hG ha rfl) rfl rfl rfl (by omega)
  refine j_aload_n hx 1 dX12_clears_29 rfl ?_
  refine g13_13 hx hG ha kf_RX12_32 dX12_clears_30 ?_
  refine j_iload_n hx 0 dX12_clears_33 rfl ?_
  refine j_iconst hx dX12_clears_34 ?_
  refine j_iast hx hG (zr (k := 13) (t2 := 76) hG ha rfl) (by decide) rfl (zlen hG (zr (k := 13) (t2 := 76) hG ha rfl) (n := 3) rfl rfl) (by omega) (by omega) (j := 2) rfl dX12_clears_35 ?_
  obtain ⟨s13, e_s13⟩ : ∃ z, z = zU s12 (gP G a 13) 2 0 := ⟨_, rfl⟩
  rw [← e_s13]
  have hS_s13 : zSK G s13 := by rw [e_s13]; exact zSK_A hS_s12 (zr (k := 13) (t2 := 76) hG ha rfl) rfl rfl rfl (by omega)
  refine j_aload_n hx 1 dX12_clears_36 rfl ?_
  refine g13_14 hx hG ha kf_RX12_35 dX12_clears_37 ?_
  refine j_iload_n hx 0 dX12_clears_40 rfl ?_
  refine j_iconst hx dX12_clears_41 ?_
  refine j_iast hx hG (zr (k := 14) (t2 := 77) hG ha rfl) (by decide) rfl (zlen hG (zr (k := 14) (t2 := 77) hG ha rfl) (n := 3) rfl rfl) (by omega) (by omega) (j := 2) rfl dX12_clears_42 ?_
  obtain ⟨s14, e_s14⟩ : ∃ z, z = zU s13 (gP G a 14) 2 0 := ⟨_, rfl⟩
  rw [← e_s14]
  have hS_s14 : zSK G s14 := by rw [e_s14]; exact zSK_A hS_s13 (zr (k := 14) (t2 := 77) hG ha rfl) rfl rfl rfl (by omega)
  refine j_aload_n hx 1 dX12_clears_43 rfl ?_
  refine g13_15 hx hG ha kf_RX12_38 dX12_clears_44 ?_
  refine j_iload_n hx 0 dX12_clears_47 rfl ?_
  refine j_iconst hx dX12_clears_48 ?_
  refine j_iast hx hG (zr (k := 15) (t2 := 78) hG ha rfl) (by decide) rfl (zlen hG (zr (k := 15) (t2 := 78) hG ha rfl) (n := 3) rfl rfl) (by omega) (by omega) (j := 2) rfl dX12_clears_49 ?_
  obtain ⟨s15, e_s15⟩ : ∃ z, z = zU s14 (gP G a 15) 2 0 := ⟨_, rfl⟩
  rw [← e_s15]
  have hS_s15 : zSK G s15 := by rw [e_s15]; exact zSK_A hS_s14 (zr (k := 15) (t2 := 78) hG ha rfl) rfl rfl rfl (by omega)
  refine j_iinc hx 0 [(1, .int (zI 3)), (0, .ref a)] dX12_clears_50 rfl (by omega) (by decide) rfl ?_
  refine j_goto hx 17 dX12_clears_53 rfl ?_
  refine j_iload_n hx 0 dX12_clears_17 rfl ?_
  refine j_iconst hx dX12_clears_18 ?_
  refine j_icmp_ge hx 56 dX12_clears_19 rfl ⟨by decide, by decide⟩ ⟨by decide, by decide⟩ (fun h4 => ?_) (fun h4 => absurd h4 (by omega))
  have g5 : s15 (gP G a 11) 0 = 5 := (by rw [e_s15, zU_at (Or.inl (zne (zr (k := 15) (t2 := 78) hG ha rfl) (zr (k := 11) (t2 := 74) hG ha rfl) (by decide))), e_s14, zU_at (Or.inl (zne (zr (k := 14) (t2 := 77) hG ha rfl) (zr (k := 11) (t2 := 74) hG ha rfl) (by decide))), e_s13, zU_at (Or.inl (zne (zr (k := 13) (t2 := 76) hG ha rfl) (zr (k := 11) (t2 := 74) hG ha rfl) (by decide))), e_s12, zU_at (Or.inr (by decide)), e_s11, zU_at (Or.inl (zne (zr (k := 15) (t2 := 78) hG ha rfl) (zr (k := 11) (t2 := 74) hG ha rfl) (by decide))), e_s10, zU_at (Or.inl (zne (zr (k := 14) (t2 := 77) hG ha rfl) (zr (k := 11) (t2 := 74) hG ha rfl) (by decide))), e_s9, zU_at (Or.inl (zne (zr (k := 13) (t2 := 76) hG ha rfl) (zr (k := 11) (t2 := 74) hG ha rfl) (by decide))), e_s8, zU_at (Or.inr (by decide)), e_s7, zU_at (Or.inl (zne (zr (k := 15) (t2 := 78) hG ha rfl) (zr (k := 11) (t2 := 74) hG ha rfl) (by decide))), e_s6, zU_at (Or.inl (zne (zr (k := 14) (t2 := 77) hG ha rfl) (zr (k := 11) (t2 := 74) hG ha rfl) (by decide))), e_s5, zU_at (Or.inl (zne (zr (k := 13) (t2 := 76) hG ha rfl) (zr (k := 11) (t2 := 74) hG ha rfl) (by decide))), e_s4, zU_eq])
  have g6 : s15 (gP G a 11) 1 = 5 := (by rw [e_s15, zU_at (Or.inl (zne (zr (k := 15) (t2 := 78) hG ha rfl) (zr (k := 11) (t2 := 74) hG ha rfl) (by decide))), e_s14, zU_at (Or.inl (zne (zr (k := 14) (t2 := 77) hG ha rfl) (zr (k := 11) (t2 := 74) hG ha rfl) (by decide))), e_s13, zU_at (Or.inl (zne (zr (k := 13) (t2 := 76) hG ha rfl) (zr (k := 11) (t2 := 74) hG ha rfl) (by decide))), e_s12, zU_at (Or.inr (by decide)), e_s11, zU_at (Or.inl (zne (zr (k := 15) (t2 := 78) hG ha rfl) (zr (k := 11) (t2 := 74) hG ha rfl) (by decide))), e_s10, zU_at (Or.inl (zne (zr (k := 14) (t2 := 77) hG ha rfl) (zr (k := 11) (t2 := 74) hG ha rfl) (by decide))), e_s9, zU_at (Or.inl (zne (zr (k := 13) (t2 := 76) hG ha rfl) (zr (k := 11) (t2 := 74) hG ha rfl) (by decide))), e_s8, zU_eq])
  have g7 : s15 (gP G a 11) 2 = 5 := (by rw [e_s15, zU_at (Or.inl (zne (zr (k := 15) (t2 := 78) hG ha rfl) (zr (k := 11) (t2 := 74) hG ha rfl) (by decide))), e_s14, zU_at (Or.inl (zne (zr (k := 14) (t2 := 77) hG ha rfl) (zr (k := 11) (t2 := 74) hG ha rfl) (by decide))), e_s13, zU_at (Or.inl (zne (zr (k := 13) (t2 := 76) hG ha rfl) (zr (k := 11) (t2 := 74) hG ha rfl) (by decide))), e_s12, zU_eq])
  have g8 : s15 a 0 = s0 a 0 := (by rw [e_s15, zU_at (Or.inl (zne (zr (k := 15) (t2 := 78) hG ha rfl) ha (by decide))), e_s14, zU_at (Or.inl (zne (zr (k := 14) (t2 := 77) hG ha rfl) ha (by decide))), e_s13, zU_at (Or.inl (zne (zr (k := 13) (t2 := 76) hG ha rfl) ha (by decide))), e_s12, zU_at (Or.inl (zne (zr (k := 11) (t2 := 74) hG ha rfl) ha (by decide))), e_s11, zU_at (Or.inl (zne (zr (k := 15) (t2 := 78) hG ha rfl) ha (by decide))), e_s10, zU_at (Or.inl (zne (zr (k := 14) (t2 := 77) hG ha rfl) ha (by decide))), e_s9, zU_at (Or.inl (zne (zr (k := 13) (t2 := 76) hG ha rfl) ha (by decide))), e_s8, zU_at (Or.inl (zne (zr (k := 11) (t2 := 74) hG ha rfl) ha (by decide))), e_s7, zU_at (Or.inl (zne (zr (k := 15) (t2 := 78) hG ha rfl) ha (by decide))), e_s6, zU_at (Or.inl (zne (zr (k := 14) (t2 := 77) hG ha rfl) ha (by decide))), e_s5, zU_at (Or.inl (zne (zr (k := 13) (t2 := 76) hG ha rfl) ha (by decide))), e_s4, zU_at (Or.inl (zne (zr (k := 11) (t2 := 74) hG ha rfl) ha (by decide))), e_s3, zU_at (Or.inr (by decide)), e_s2, zU_at (Or.inr (by decide)), e_s1, zU_at (Or.inr (by decide))])
  have f9 := zf hS0 ha (k := 0) rfl
  have g10 : s15 a 2 = s0 a 2 := (by rw [e_s15, zU_at (Or.inl (zne (zr (k := 15) (t2 := 78) hG ha rfl) ha (by decide))), e_s14, zU_at (Or.inl (zne (zr (k := 14) (t2 := 77) hG ha rfl) ha (by decide))), e_s13, zU_at (Or.inl (zne (zr (k := 13) (t2 := 76) hG ha rfl) ha (by decide))), e_s12, zU_at (Or.inl (zne (zr (k := 11) (t2 := 74) hG ha rfl) ha (by decide))), e_s11, zU_at (Or.inl (zne (zr (k := 15) (t2 := 78) hG ha rfl) ha (by decide))), e_s10, zU_at (Or.inl (zne (zr (k := 14) (t2 := 77) hG ha rfl) ha (by decide))), e_s9, zU_at (Or.inl (zne (zr (k := 13) (t2 := 76) hG ha rfl) ha (by decide))), e_s8, zU_at (Or.inl (zne (zr (k := 11) (t2 := 74) hG ha rfl) ha (by decide))), e_s7, zU_at (Or.inl (zne (zr (k := 15) (t2 := 78) hG ha rfl) ha (by decide))), e_s6, zU_at (Or.inl (zne (zr (k := 14) (t2 := 77) hG ha rfl) ha (by decide))), e_s5, zU_at (Or.inl (zne (zr (k := 13) (t2 := 76) hG ha rfl) ha (by decide))), e_s4, zU_at (Or.inl (zne (zr (k := 11) (t2 := 74) hG ha rfl) ha (by decide))), e_s3, zU_at (Or.inr (by decide)), e_s2, zU_at (Or.inr (by decide)), e_s1, zU_at (Or.inr (by decide))])
  have f11 := zf hS0 ha (k := 2) rfl
  have g12 : s15 a 5 = s0 a 5 := (by rw [e_s15, zU_at (Or.inl (zne (zr (k := 15) (t2 := 78) hG ha rfl) ha (by decide))), e_s14, zU_at (Or.inl (zne (zr (k := 14) (t2 := 77) hG ha rfl) ha (by decide))), e_s13, zU_at (Or.inl (zne (zr (k := 13) (t2 := 76) hG ha rfl) ha (by decide))), e_s12, zU_at (Or.inl (zne (zr (k := 11) (t2 := 74) hG ha rfl) ha (by decide))), e_s11, zU_at (Or.inl (zne (zr (k := 15) (t2 := 78) hG ha rfl) ha (by decide))), e_s10, zU_at (Or.inl (zne (zr (k := 14) (t2 := 77) hG ha rfl) ha (by decide))), e_s9, zU_at (Or.inl (zne (zr (k := 13) (t2 := 76) hG ha rfl) ha (by decide))), e_s8, zU_at (Or.inl (zne (zr (k := 11) (t2 := 74) hG ha rfl) ha (by decide))), e_s7, zU_at (Or.inl (zne (zr (k := 15) (t2 := 78) hG ha rfl) ha (by decide))), e_s6, zU_at (Or.inl (zne (zr (k := 14) (t2 := 77) hG ha rfl) ha (by decide))), e_s5, zU_at (Or.inl (zne (zr (k := 13) (t2 := 76) hG ha rfl) ha (by decide))), e_s4, zU_at (Or.inl (zne (zr (k := 11) (t2 := 74) hG ha rfl) ha (by decide))), e_s3, zU_at (Or.inr (by decide)), e_s2, zU_at (Or.inr (by decide)), e_s1, zU_at (Or.inr (by decide))])
  have f13 := zf hS0 ha (k := 5) rfl
  have g14 : s15 a 6 = s0 a 6 := (by rw [e_s15, zU_at (Or.inl (zne (zr (k := 15) (t2 := 78) hG ha rfl) ha (by decide))), e_s14, zU_at (Or.inl (zne (zr (k := 14) (t2 := 77) hG ha rfl) ha (by decide))), e_s13, zU_at (Or.inl (zne (zr (k := 13) (t2 := 76) hG ha rfl) ha (by decide))), e_s12, zU_at (Or.inl (zne (zr (k := 11) (t2 := 74) hG ha rfl) ha (by decide))), e_s11, zU_at (Or.inl (zne (zr (k := 15) (t2 := 78) hG ha rfl) ha (by decide))), e_s10, zU_at (Or.inl (zne (zr (k := 14) (t2 := 77) hG ha rfl) ha (by decide))), e_s9, zU_at (Or.inl (zne (zr (k := 13) (t2 := 76) hG ha rfl) ha (by decide))), e_s8, zU_at (Or.inl (zne (zr (k := 11) (t2 := 74) hG ha rfl) ha (by decide))), e_s7, zU_at (Or.inl (zne (zr (k := 15) (t2 := 78) hG ha rfl) ha (by decide))), e_s6, zU_at (Or.inl (zne (zr (k := 14) (t2 := 77) hG ha rfl) ha (by decide))), e_s5, zU_at (Or.inl (zne (zr (k := 13) (t2 := 76) hG ha rfl) ha (by decide))), e_s4, zU_at (Or.inl (zne (zr (k := 11) (t2 := 74) hG ha rfl) ha (by decide))), e_s3, zU_at (Or.inr (by decide)), e_s2, zU_at (Or.inr (by decide)), e_s1, zU_at (Or.inr (by decide))])
  have f15 := zf hS0 ha (k := 6) rfl
  have g16 : s15 a 8 = s0 a 8 := (by rw [e_s15, zU_at (Or.inl (zne (zr (k := 15) (t2 := 78) hG ha rfl) ha (by decide))), e_s14, zU_at (Or.inl (zne (zr (k := 14) (t2 := 77) hG ha rfl) ha (by decide))), e_s13, zU_at (Or.inl (zne (zr (k := 13) (t2 := 76) hG ha rfl) ha (by decide))), e_s12, zU_at (Or.inl (zne (zr (k := 11) (t2 := 74) hG ha rfl) ha (by decide))), e_s11, zU_at (Or.inl (zne (zr (k := 15) (t2 := 78) hG ha rfl) ha (by decide))), e_s10, zU_at (Or.inl (zne (zr (k := 14) (t2 := 77) hG ha rfl) ha (by decide))), e_s9, zU_at (Or.inl (zne (zr (k := 13) (t2 := 76) hG ha rfl) ha (by decide))), e_s8, zU_at (Or.inl (zne (zr (k := 11) (t2 := 74) hG ha rfl) ha (by decide))), e_s7, zU_at (Or.inl (zne (zr (k := 15) (t2 := 78) hG ha rfl) ha (by decide))), e_s6, zU_at (Or.inl (zne (zr (k := 14) (t2 := 77) hG ha rfl) ha (by decide))), e_s5, zU_at (Or.inl (zne (zr (k := 13) (t2 := 76) hG ha rfl) ha (by decide))), e_s4, zU_at (Or.inl (zne (zr (k := 11) (t2 := 74) hG ha rfl) ha (by decide))), e_s3, zU_at (Or.inr (by decide)), e_s2, zU_at (Or.inr (by decide)), e_s1, zU_at (Or.inr (by decide))])
  have f17 := zf hS0 ha (k := 8) rfl
  have g18 : s15 a 51 = s0 a 51 := (by rw [e_s15, zU_at (Or.inl (zne (zr (k := 15) (t2 := 78) hG ha rfl) ha (by decide))), e_s14, zU_at (Or.inl (zne (zr (k := 14) (t2 := 77) hG ha rfl) ha (by decide))), e_s13, zU_at (Or.inl (zne (zr (k := 13) (t2 := 76) hG ha rfl) ha (by decide))), e_s12, zU_at (Or.inl (zne (zr (k := 11) (t2 := 74) hG ha rfl) ha (by decide))), e_s11, zU_at (Or.inl (zne (zr (k := 15) (t2 := 78) hG ha rfl) ha (by decide))), e_s10, zU_at (Or.inl (zne (zr (k := 14) (t2 := 77) hG ha rfl) ha (by decide))), e_s9, zU_at (Or.inl (zne (zr (k := 13) (t2 := 76) hG ha rfl) ha (by decide))), e_s8, zU_at (Or.inl (zne (zr (k := 11) (t2 := 74) hG ha rfl) ha (by decide))), e_s7, zU_at (Or.inl (zne (zr (k := 15) (t2 := 78) hG ha rfl) ha (by decide))), e_s6, zU_at (Or.inl (zne (zr (k := 14) (t2 := 77) hG ha rfl) ha (by decide))), e_s5, zU_at (Or.inl (zne (zr (k := 13) (t2 := 76) hG ha rfl) ha (by decide))), e_s4, zU_at (Or.inl (zne (zr (k := 11) (t2 := 74) hG ha rfl) ha (by decide))), e_s3, zU_at (Or.inr (by decide)), e_s2, zU_at (Or.inr (by decide)), e_s1, zU_at (Or.inr (by decide))])
  have f19 := zf hS0 ha (k := 51) rfl
  have g20 : s15 a 54 = s0 a 54 := (by rw [e_s15, zU_at (Or.inl (zne (zr (k := 15) (t2 := 78) hG ha rfl) ha (by decide))), e_s14, zU_at (Or.inl (zne (zr (k := 14) (t2 := 77) hG ha rfl) ha (by decide))), e_s13, zU_at (Or.inl (zne (zr (k := 13) (t2 := 76) hG ha rfl) ha (by decide))), e_s12, zU_at (Or.inl (zne (zr (k := 11) (t2 := 74) hG ha rfl) ha (by decide))), e_s11, zU_at (Or.inl (zne (zr (k := 15) (t2 := 78) hG ha rfl) ha (by decide))), e_s10, zU_at (Or.inl (zne (zr (k := 14) (t2 := 77) hG ha rfl) ha (by decide))), e_s9, zU_at (Or.inl (zne (zr (k := 13) (t2 := 76) hG ha rfl) ha (by decide))), e_s8, zU_at (Or.inl (zne (zr (k := 11) (t2 := 74) hG ha rfl) ha (by decide))), e_s7, zU_at (Or.inl (zne (zr (k := 15) (t2 := 78) hG ha rfl) ha (by decide))), e_s6, zU_at (Or.inl (zne (zr (k := 14) (t2 := 77) hG ha rfl) ha (by decide))), e_s5, zU_at (Or.inl (zne (zr (k := 13) (t2 := 76) hG ha rfl) ha (by decide))), e_s4, zU_at (Or.inl (zne (zr (k := 11) (t2 := 74) hG ha rfl) ha (by decide))), e_s3, zU_at (Or.inr (by decide)), e_s2, zU_at (Or.inr (by decide)), e_s1, zU_at (Or.inr (by decide))])
  have f21 := zf hS0 ha (k := 54) rfl
  have g22 : s15 a 58 = s0 a 58 := (by rw [e_s15, zU_at (Or.inl (zne (zr (k := 15) (t2 := 78) hG ha rfl) ha (by decide))), e_s14, zU_at (Or.inl (zne (zr (k := 14) (t2 := 77) hG ha rfl) ha (by decide))), e_s13, zU_at (Or.inl (zne (zr (k := 13) (t2 := 76) hG ha rfl) ha (by decide))), e_s12, zU_at (Or.inl (zne (zr (k := 11) (t2 := 74) hG ha rfl) ha (by decide))), e_s11, zU_at (Or.inl (zne (zr (k := 15) (t2 := 78) hG ha rfl) ha (by decide))), e_s10, zU_at (Or.inl (zne (zr (k := 14) (t2 := 77) hG ha rfl) ha (by decide))), e_s9, zU_at (Or.inl (zne (zr (k := 13) (t2 := 76) hG ha rfl) ha (by decide))), e_s8, zU_at (Or.inl (zne (zr (k := 11) (t2 := 74) hG ha rfl) ha (by decide))), e_s7, zU_at (Or.inl (zne (zr (k := 15) (t2 := 78) hG ha rfl) ha (by decide))), e_s6, zU_at (Or.inl (zne (zr (k := 14) (t2 := 77) hG ha rfl) ha (by decide))), e_s5, zU_at (Or.inl (zne (zr (k := 13) (t2 := 76) hG ha rfl) ha (by decide))), e_s4, zU_at (Or.inl (zne (zr (k := 11) (t2 := 74) hG ha rfl) ha (by decide))), e_s3, zU_at (Or.inr (by decide)), e_s2, zU_at (Or.inr (by decide)), e_s1, zU_at (Or.inr (by decide))])
  have f23 := zf hS0 ha (k := 58) rfl
  exact j_vret hx hq rfl (by decide) (by decide) dX12_clears_56 ⟨rfl, rfl, hS_s15, (zFr_u (zFr_u (zFr_u (zFr_u (zFr_u (zFr_u (zFr_u (zFr_u (zFr_u (zFr_u (zFr_u (zFr_u (zFr_u (zFr_u (zFr_u zFr_rf e_s1 ha (by decide)) e_s2 ha (by decide)) e_s3 ha (by decide)) e_s4 (zr (k := 11) (t2 := 74) hG ha rfl) (by decide)) e_s5 (zr (k := 13) (t2 := 76) hG ha rfl) (by decide)) e_s6 (zr (k := 14) (t2 := 77) hG ha rfl) (by decide)) e_s7 (zr (k := 15) (t2 := 78) hG ha rfl) (by decide)) e_s8 (zr (k := 11) (t2 := 74) hG ha rfl) (by decide)) e_s9 (zr (k := 13) (t2 := 76) hG ha rfl) (by decide)) e_s10 (zr (k := 14) (t2 := 77) hG ha rfl) (by decide)) e_s11 (zr (k := 15) (t2 := 78) hG ha rfl) (by decide)) e_s12 (zr (k := 11) (t2 := 74) hG ha rfl) (by decide)) e_s13 (zr (k := 13) (t2 := 76) hG ha rfl) (by decide)) e_s14 (zr (k := 14) (t2 := 77) hG ha rfl) (by decide)) e_s15 (zr (k := 15) (t2 := 78) hG ha rfl) (by decide)), ⟨((by rw [e_s15, zU_at (Or.inl (zne (zr (k := 15) (t2 := 78) hG ha rfl) (zr (k := 11) (t2 := 74) hG ha rfl) (by decide))), e_s14, zU_at (Or.inl (zne (zr (k := 14) (t2 := 77) hG ha rfl) (zr (k := 11) (t2 := 74) hG ha rfl) (by decide))), e_s13, zU_at (Or.inl (zne (zr (k := 13) (t2 := 76) hG ha rfl) (zr (k := 11) (t2 := 74) hG ha rfl) (by decide))), e_s12, zU_at (Or.inr (by decide)), e_s11, zU_at (Or.inl (zne (zr (k := 15) (t2 := 78) hG ha rfl) (zr (k := 11) (t2 := 74) hG ha rfl) (by decide))), e_s10, zU_at (Or.inl (zne (zr (k := 14) (t2 := 77) hG ha rfl) (zr (k := 11) (t2 := 74) hG ha rfl) (by decide))), e_s9, zU_at (Or.inl (zne (zr (k := 13) (t2 := 76) hG ha rfl) (zr (k := 11) (t2 := 74) hG ha rfl) (by decide))), e_s8, zU_at (Or.inr (by decide)), e_s7, zU_at (Or.inl (zne (zr (k := 15) (t2 := 78) hG ha rfl) (zr (k := 11) (t2 := 74) hG ha rfl) (by decide))), e_s6, zU_at (Or.inl (zne (zr (k := 14) (t2 := 77) hG ha rfl) (zr (k := 11) (t2 := 74) hG ha rfl) (by decide))), e_s5, zU_at (Or.inl (zne (zr (k := 13) (t2 := 76) hG ha rfl) (zr (k := 11) (t2 := 74) hG ha rfl) (by decide))), e_s4, zU_eq]) : s15 (gP G a 11) 0 = 5).trans (by omega), ((by rw [e_s15, zU_at (Or.inl (zne (zr (k := 15) (t2 := 78) hG ha rfl) (zr (k := 11) (t2 := 74) hG ha rfl) (by decide))), e_s14, zU_at (Or.inl (zne (zr (k := 14) (t2 := 77) hG ha rfl) (zr (k := 11) (t2 := 74) hG ha rfl) (by decide))), e_s13, zU_at (Or.inl (zne (zr (k := 13) (t2 := 76) hG ha rfl) (zr (k := 11) (t2 := 74) hG ha rfl) (by decide))), e_s12, zU_at (Or.inr (by decide)), e_s11, zU_at (Or.inl (zne (zr (k := 15) (t2 := 78) hG ha rfl) (zr (k := 11) (t2 := 74) hG ha rfl) (by decide))), e_s10, zU_at (Or.inl (zne (zr (k := 14) (t2 := 77) hG ha rfl) (zr (k := 11) (t2 := 74) hG ha rfl) (by decide))), e_s9, zU_at (Or.inl (zne (zr (k := 13) (t2 := 76) hG ha rfl) (zr (k := 11) (t2 := 74) hG ha rfl) (by decide))), e_s8, zU_eq]) : s15 (gP G a 11) 1 = 5).trans (by omega), ((by rw [e_s15, zU_at (Or.inl (zne (zr (k := 15) (t2 := 78) hG ha rfl) (zr (k := 11) (t2 := 74) hG ha rfl) (by decide))), e_s14, zU_at (Or.inl (zne (zr (k := 14) (t2 := 77) hG ha rfl) (zr (k := 11) (t2 := 74) hG ha rfl) (by decide))), e_s13, zU_at (Or.inl (zne (zr (k := 13) (t2 := 76) hG ha rfl) (zr (k := 11) (t2 := 74) hG ha rfl) (by decide))), e_s12, zU_eq]) : s15 (gP G a 11) 2 = 5).trans (by omega), by omega, by omega, by omega, by omega, by omega, by omega, by omega, by omega, by omega⟩⟩

set_option maxHeartbeats 4000000 in
set_option maxRecDepth 20000 in
theorem c_X12_forgets {E : zE} {l : Launch} (hst : l.stackTraces = false) (a : Nat) : Con E l yX12_forgets cX12_forgets 2 none { frames := 0, cells := 0, slots := 0, locals := 0 } (fun G s vs => vs = [.ref a] ∧ zGK G ∧ zSK G s ∧ (gT G a = 13)) (fun G s _ => pV (fun G2 s2 => G2 = G ∧ zSK G s2 ∧ zFr [87] G s s2 ∧ s2 (gP G a 30) 0 = -1 ∧ s2 (gP G a 30) 1 = -1 ∧ s2 (gP G a 30) 2 = -1 ∧ s2 (gP G a 30) 3 = -1 ∧ s2 (gP G a 30) 4 = -1)) := by
  refine Con.mk hst (by decide) (fun G s vs h => by rw [h.1]; exact Nat.le_of_ble_eq_true rfl) ?_
  rintro X G s0 vs ⟨rfl, hG, hS0, ha⟩ rfl hx hq
  show JJ X E 2 G s0 0 0 [(0, .ref a)] 0 []
  refine j_iconst hx dX12_forgets_0 ?_
  refine j_istore_n hx [(1, .int (zI 0)), (0, .ref a)] dX12_forgets_1 (by decide) rfl ?_
  refine j_iload_n hx 0 dX12_forgets_2 rfl ?_
  refine j_iconst hx dX12_forgets_3 ?_
  refine j_icmp_ge hx 20 dX12_forgets_4 rfl ⟨by decide, by decide⟩ ⟨by decide, by decide⟩ (fun h1 => absurd h1 (by omega)) (fun h1 => ?_)
  refine j_aload_n hx 1 dX12_forgets_7 rfl ?_
  refine g13_30 hx hG ha kf_RX12_65 dX12_forgets_8 ?_
  refine j_iload_n hx 0 dX12_forgets_11 rfl ?_
  refine j_iconst hx dX12_forgets_12 ?_
  refine j_iast hx hG (zr (k := 30) (t2 := 87) hG ha rfl) (by decide) rfl (zlen hG (zr (k := 30) (t2 := 87) hG ha rfl) (n := 5) rfl rfl) (by omega) (by omega) (j := 0) rfl dX12_forgets_13 ?_
  obtain ⟨s1, e_s1⟩ : ∃ z, z = zU s0 (gP G a 30) 0 (-1) := ⟨_, rfl⟩
  rw [← e_s1]
  have hS_s1 : zSK G s1 := by rw [e_s1]; exact zSK_A hS0 (zr (k := 30) (t2 := 87) hG ha rfl) rfl rfl rfl (by omega)
  refine j_iinc hx 0 [(1, .int (zI 1)), (0, .ref a)] dX12_forgets_14 rfl (by omega) (by decide) rfl ?_
  refine j_goto hx 2 dX12_forgets_17 rfl ?_
  refine j_iload_n hx 0 dX12_forgets_2 rfl ?_
  refine j_iconst hx dX12_forgets_3 ?_
  refine j_icmp_ge hx 20 dX12_forgets_4 rfl ⟨by decide, by decide⟩ ⟨by decide, by decide⟩ (fun h2 => absurd h2 (by omega)) (fun h2 => ?_)
  refine j_aload_n hx 1 dX12_forgets_7 rfl ?_
  refine g13_30 hx hG ha kf_RX12_65 dX12_forgets_8 ?_
  refine j_iload_n hx 0 dX12_forgets_11 rfl ?_
  refine j_iconst hx dX12_forgets_12 ?_
  refine j_iast hx hG (zr (k := 30) (t2 := 87) hG ha rfl) (by decide) rfl (zlen hG (zr (k := 30) (t2 := 87) hG ha rfl) (n := 5) rfl rfl) (by omega) (by omega) (j := 1) rfl dX12_forgets_13 ?_
  obtain ⟨s2, e_s2⟩ : ∃ z, z = zU s1 (gP G a 30) 1 (-1) := ⟨_, rfl⟩
  rw [← e_s2]
  have hS_s2 : zSK G s2 := by rw [e_s2]; exact zSK_A hS_s1 (zr (k := 30) (t2 := 87) hG ha rfl) rfl rfl rfl (by omega)
  refine j_iinc hx 0 [(1, .int (zI 2)), (0, .ref a)] dX12_forgets_14 rfl (by omega) (by decide) rfl ?_
  refine j_goto hx 2 dX12_forgets_17 rfl ?_
  refine j_iload_n hx 0 dX12_forgets_2 rfl ?_
  refine j_iconst hx dX12_forgets_3 ?_
  refine j_icmp_ge hx 20 dX12_forgets_4 rfl ⟨by decide, by decide⟩ ⟨by decide, by decide⟩ (fun h3 => absurd h3 (by omega)) (fun h3 => ?_)
  refine j_aload_n hx 1 dX12_forgets_7 rfl ?_
  refine g13_30 hx hG ha kf_RX12_65 dX12_forgets_8 ?_
  refine j_iload_n hx 0 dX12_forgets_11 rfl ?_
  refine j_iconst hx dX12_forgets_12 ?_
  refine j_iast hx hG (zr (k := 30) (t2 := 87) hG ha rfl) (by decide) rfl (zlen hG (zr (k := 30) (t2 := 87) hG ha rfl) (n := 5) rfl rfl) (by omega) (by omega) (j := 2) rfl dX12_forgets_13 ?_
  obtain ⟨s3, e_s3⟩ : ∃ z, z = zU s2 (gP G a 30) 2 (-1) := ⟨_, rfl⟩
  rw [← e_s3]
  have hS_s3 : zSK G s3 := by rw [e_s3]; exact zSK_A hS_s2 (zr (k := 30) (t2 := 87) hG ha rfl) rfl rfl rfl (by omega)
  refine j_iinc hx 0 [(1, .int (zI 3)), (0, .ref a)] dX12_forgets_14 rfl (by omega) (by decide) rfl ?_
  refine j_goto hx 2 dX12_forgets_17 rfl ?_
  refine j_iload_n hx 0 dX12_forgets_2 rfl ?_
  refine j_iconst hx dX12_forgets_3 ?_
  refine j_icmp_ge hx 20 dX12_forgets_4 rfl ⟨by decide, by decide⟩ ⟨by decide, by decide⟩ (fun h4 => absurd h4 (by omega)) (fun h4 => ?_)
  refine j_aload_n hx 1 dX12_forgets_7 rfl ?_
  refine g13_30 hx hG ha kf_RX12_65 dX12_forgets_8 ?_
  refine j_iload_n hx 0 dX12_forgets_11 rfl ?_
  refine j_iconst hx dX12_forgets_12 ?_
  refine j_iast hx hG (zr (k := 30) (t2 := 87) hG ha rfl) (by decide) rfl (zlen hG (zr (k := 30) (t2 := 87) hG ha rfl) (n := 5) rfl rfl) (by omega) (by omega) (j := 3) rfl dX12_forgets_13 ?_
  obtain ⟨s4, e_s4⟩ : ∃ z, z = zU s3 (gP G a 30) 3 (-1) := ⟨_, rfl⟩
  rw [← e_s4]
  have hS_s4 : zSK G s4 := by rw [e_s4]; exact zSK_A hS_s3 (zr (k := 30) (t2 := 87) hG ha rfl) rfl rfl rfl (by omega)
  refine j_iinc hx 0 [(1, .int (zI 4)), (0, .ref a)] dX12_forgets_14 rfl (by omega) (by decide) rfl ?_
  refine j_goto hx 2 dX12_forgets_17 rfl ?_
  refine j_iload_n hx 0 dX12_forgets_2 rfl ?_
  refine j_iconst hx dX12_forgets_3 ?_
  refine j_icmp_ge hx 20 dX12_forgets_4 rfl ⟨by decide, by decide⟩ ⟨by decide, by decide⟩ (fun h5 => absurd h5 (by omega)) (fun h5 => ?_)
  refine j_aload_n hx 1 dX12_forgets_7 rfl ?_
  refine g13_30 hx hG ha kf_RX12_65 dX12_forgets_8 ?_
  refine j_iload_n hx 0 dX12_forgets_11 rfl ?_
  refine j_iconst hx dX12_forgets_12 ?_
  refine j_iast hx hG (zr (k := 30) (t2 := 87) hG ha rfl) (by decide) rfl (zlen hG (zr (k := 30) (t2 := 87) hG ha rfl) (n := 5) rfl rfl) (by omega) (by omega) (j := 4) rfl dX12_forgets_13 ?_
  obtain ⟨s5, e_s5⟩ : ∃ z, z = zU s4 (gP G a 30) 4 (-1) := ⟨_, rfl⟩
  rw [← e_s5]
  have hS_s5 : zSK G s5 := by rw [e_s5]; exact zSK_A hS_s4 (zr (k := 30) (t2 := 87) hG ha rfl) rfl rfl rfl (by omega)
  refine j_iinc hx 0 [(1, .int (zI 5)), (0, .ref a)] dX12_forgets_14 rfl (by omega) (by decide) rfl ?_
  refine j_goto hx 2 dX12_forgets_17 rfl ?_
  refine j_iload_n hx 0 dX12_forgets_2 rfl ?_
  refine j_iconst hx dX12_forgets_3 ?_
  refine j_icmp_ge hx 20 dX12_forgets_4 rfl ⟨by decide, by decide⟩ ⟨by decide, by decide⟩ (fun h6 => ?_) (fun h6 => absurd h6 (by omega))
  have g7 : s5 (gP G a 30) 0 = (-1) := (by rw [e_s5, zU_at (Or.inr (by decide)), e_s4, zU_at (Or.inr (by decide)), e_s3, zU_at (Or.inr (by decide)), e_s2, zU_at (Or.inr (by decide)), e_s1, zU_eq])
  have g8 : s5 (gP G a 30) 1 = (-1) := (by rw [e_s5, zU_at (Or.inr (by decide)), e_s4, zU_at (Or.inr (by decide)), e_s3, zU_at (Or.inr (by decide)), e_s2, zU_eq])
  have g9 : s5 (gP G a 30) 2 = (-1) := (by rw [e_s5, zU_at (Or.inr (by decide)), e_s4, zU_at (Or.inr (by decide)), e_s3, zU_eq])
  have g10 : s5 (gP G a 30) 3 = (-1) := (by rw [e_s5, zU_at (Or.inr (by decide)), e_s4, zU_eq])
  have g11 : s5 (gP G a 30) 4 = (-1) := (by rw [e_s5, zU_eq])
  exact j_vret hx hq rfl (by decide) (by decide) dX12_forgets_20 ⟨rfl, rfl, hS_s5, (zFr_u (zFr_u (zFr_u (zFr_u (zFr_u zFr_rf e_s1 (zr (k := 30) (t2 := 87) hG ha rfl) (by decide)) e_s2 (zr (k := 30) (t2 := 87) hG ha rfl) (by decide)) e_s3 (zr (k := 30) (t2 := 87) hG ha rfl) (by decide)) e_s4 (zr (k := 30) (t2 := 87) hG ha rfl) (by decide)) e_s5 (zr (k := 30) (t2 := 87) hG ha rfl) (by decide)), ⟨((by rw [e_s5, zU_at (Or.inr (by decide)), e_s4, zU_at (Or.inr (by decide)), e_s3, zU_at (Or.inr (by decide)), e_s2, zU_at (Or.inr (by decide)), e_s1, zU_eq]) : s5 (gP G a 30) 0 = (-1)).trans (by omega), ((by rw [e_s5, zU_at (Or.inr (by decide)), e_s4, zU_at (Or.inr (by decide)), e_s3, zU_at (Or.inr (by decide)), e_s2, zU_eq]) : s5 (gP G a 30) 1 = (-1)).trans (by omega), ((by rw [e_s5, zU_at (Or.inr (by decide)), e_s4, zU_at (Or.inr (by decide)), e_s3, zU_eq]) : s5 (gP G a 30) 2 = (-1)).trans (by omega), ((by rw [e_s5, zU_at (Or.inr (by decide)), e_s4, zU_eq]) : s5 (gP G a 30) 3 = (-1)).trans (by omega), ((by rw [e_s5, zU_eq]) : s5 (gP G a 30) 4 = (-1)).trans (by omega)⟩⟩

set_option maxHeartbeats 4000000 in
set_option maxRecDepth 20000 in
theorem c_X12_stays_i {E : zE} {l : Launch} (hst : l.stackTraces = false) (a : Nat) : Con E l yX12_stays cX12_stays 2 none { frames := 0, cells := 0, slots := 0, locals := 0 } (fun G s vs => vs = [.ref a] ∧ zGK G ∧ zSK G s ∧ (gT G a = 13) ∧ (zAe s (gP G a 28) 515 0 487) ∧ (zAe s (gP G a 27) 515 0 487) ∧ (s (gP G a 27) 487 = -1)) (fun G s _ => pV (fun G2 s2 => G2 = G ∧ zSK G s2 ∧ zFr [85] G s s2 ∧ zAe s2 (gP G a 28) 515 0 487 ∧ s2 (gP G a 28) 487 = -1)) := by
  refine Con.mk hst (by decide) (fun G s vs h => by rw [h.1]; exact Nat.le_of_ble_eq_true rfl) ?_
  rintro X G s0 vs ⟨rfl, hG, hS0, ha, e0, e1, e2⟩ rfl hx hq
  show JJ X E 2 G s0 0 0 [(0, .ref a)] 0 []
  refine j_iconst hx dX12_stays_0 ?_
  refine j_istore_n hx [(1, .int (zI 0)), (0, .ref a)] dX12_stays_1 (by decide) rfl ?_
  have c2_1 : ∀ (m_c2_1 : Nat) (v1 : Int) (s2 : zS), 2147483648 - v1 < m_c2_1 → (0 ≤ v1 ∧ v1 ≤ 515) → (zSK G s2) → (zFr [85] G s0 s2) → (zAe s2 (gP G a 28) 515 0 487) → (s2 (gP G a 27) 487 = -1) → (v1 ≤ 487 ∨ s2 (gP G a 28) 487 = -1) → JJ X E 2 G s2 0 0 [(0, .ref a), (1, .int (zI v1))] 2 [] := by
    intro m_c2_1
    induction m_c2_1 with
    | zero => intro v1 s2 hm_c2_1 fA3 hS_s2 hF_s2 fA6 fA7 hD1; exfalso; omega
    | succ m_c2_1 ih_c2_1 => 
      intro v1 s2 hm_c2_1 fA3 hS_s2 hF_s2 fA6 fA7 hD1
      refine j_iload_n hx 1 dX12_stays_2 rfl ?_
      refine j_sipush hx dX12_stays_3 rfl ?_
      refine j_icmp_ge hx 27 dX12_stays_6 rfl (by omega) ⟨by decide, by decide⟩ (fun h2 => ?_) (fun h2 => ?_)
      · skip
        exact j_vret hx hq rfl (by decide) (by decide) dX12_stays_27 ⟨rfl, rfl, hS_s2, (zFr_t zFr_rf hF_s2 (by decide)), ⟨fA6, by omega⟩⟩
      · skip
        refine j_aload_n hx 0 dX12_stays_9 rfl ?_
        refine g13_28 hx hG ha kf_RX12_59 dX12_stays_10 ?_
        refine j_iload_n hx 1 dX12_stays_13 rfl ?_
        refine j_aload_n hx 0 dX12_stays_14 rfl ?_
        refine g13_27 hx hG ha kf_RX12_56 dX12_stays_15 ?_
        refine j_iload_n hx 1 dX12_stays_18 rfl ?_
        have f3 := zah (j := (v1).toNat) hS0 (zr (k := 27) (t2 := 84) hG ha rfl) aqH_84 (zlen hG (zr (k := 27) (t2 := 84) hG ha rfl) (n := 515) rfl rfl) (show 0 ≤ v1 by omega) (by omega) rfl
        refine j_iald hx hG (zr (k := 27) (t2 := 84) hG ha rfl) (by decide) rfl (zlen hG (zr (k := 27) (t2 := 84) hG ha rfl) (n := 515) rfl rfl) (by omega) (by omega) (j := (v1).toNat) rfl (v := (s0 (gP G a 27) (v1).toNat)) (by rw [(zFr_g hF_s2 (zr (k := 27) (t2 := 84) hG ha rfl) (by decide))]) dX12_stays_19 ?_
        refine j_iast hx hG (zr (k := 28) (t2 := 85) hG ha rfl) (by decide) rfl (zlen hG (zr (k := 28) (t2 := 85) hG ha rfl) (n := 515) rfl rfl) (by omega) (by omega) (j := (v1).toNat) rfl dX12_stays_20 ?_
        obtain ⟨s9, e_s9⟩ : ∃ z, z = zU s2 (gP G a 28) (v1).toNat ((s0 (gP G a 27) (v1).toNat)) := ⟨_, rfl⟩
        rw [← e_s9]
        have hS_s9 : zSK G s9 := by rw [e_s9]; exact zSK_A hS_s2 (zr (k := 28) (t2 := 85) hG ha rfl) rfl rfl rfl (by omega)
        refine j_iinc hx 1 [(1, .int (zI (v1 + 1))), (0, .ref a)] dX12_stays_21 rfl (by omega) (by decide) rfl ?_
        refine j_goto hx 2 dX12_stays_24 rfl ?_
        have g4 : s9 (gP G a 27) 487 = s0 (gP G a 27) 487 := (by rw [e_s9, zU_at (Or.inl (zne (zr (k := 28) (t2 := 85) hG ha rfl) (zr (k := 27) (t2 := 84) hG ha rfl) (by decide))), (zFr_g hF_s2 (zr (k := 27) (t2 := 84) hG ha rfl) (by decide))])
        exact j_sub [1, 0] [(0, .ref a), (1, .int (zI (v1 + 1)))] rfl (ih_c2_1 (v1 + 1) s9 (by omega) (by omega) hS_s9 (zFr_u (zFr_t zFr_rf hF_s2 (by decide)) e_s9 (zr (k := 28) (t2 := 85) hG ha rfl) (by decide)) (zAe_c fA6 e1 e_s9 (by omega)) (by omega) (zst hD1 e_s9 (by omega) (by omega)))
  exact j_sub [1, 0] [(0, .ref a), (1, .int (zI 0))] rfl (c2_1 (2147483648 * 4) 0 s0 (by omega) (by omega) hS0 zFr_rf e0 (by omega) (by omega))

theorem lk_RX12_204 : LkV RX12 204 RX12 yX12_forgets cX12_forgets 2 none 0 := ⟨km_RX12_204, ki_yX12_forgets, ks_RX12_yX12_forgets, kn_RX12, kc_yX12_forgets, rfl, by decide +kernel, by decide +kernel, by decide +kernel⟩
theorem lk_RX12_207 : LkV RX12 207 RX12 yX12_stays cX12_stays 2 none 0 := ⟨km_RX12_207, ki_yX12_stays, ks_RX12_yX12_stays, kn_RX12, kc_yX12_stays, rfl, by decide +kernel, by decide +kernel, by decide +kernel⟩
set_option maxHeartbeats 4000000 in
set_option maxRecDepth 20000 in
theorem c_X12_sets {E : zE} {l : Launch} (hst : l.stackTraces = false) (a : Nat) : Con E l yX12_sets cX12_sets 4 none { frames := 1, cells := 0, slots := 0, locals := 21 } (fun G s vs => vs = [.ref a] ∧ zGK G ∧ zSK G s ∧ (gT G a = 13) ∧ (zAe s (gP G a 28) 515 0 487) ∧ (zAe s (gP G a 27) 515 0 487) ∧ (s (gP G a 11) 0 = 5) ∧ (s (gP G a 11) 1 = 5) ∧ (s (gP G a 11) 2 = 5)) (fun G s _ => pV (fun G2 s2 => G2 = G ∧ zSK G s2 ∧ zFr [13, 80, 81, 83, 84, 85, 87, 91, 94] G s s2 ∧ zAe s2 (gP G a 28) 515 0 487 ∧ s2 (gP G a 28) 487 = -1 ∧ zAe s2 (gP G a 27) 515 0 487 ∧ s2 (gP G a 27) 487 = -1 ∧ s2 (gP G a 18) 0 = 5 ∧ s2 (gP G a 18) 1 = 5 ∧ s2 (gP G a 18) 2 = 5 ∧ s2 (gP G a 37) 0 = 1 ∧ s2 (gP G a 37) 1 = 1 ∧ s2 (gP G a 37) 2 = 1 ∧ s2 (gP G a 37) 3 = 0 ∧ s2 (gP G a 37) 4 = 0 ∧ s2 (gP G a 37) 5 = 0 ∧ s2 (gP G a 30) 0 = -1 ∧ s2 (gP G a 30) 1 = -1 ∧ s2 (gP G a 30) 2 = -1 ∧ s2 (gP G a 30) 3 = -1 ∧ s2 (gP G a 30) 4 = -1 ∧ s2 a 0 = s a 0 ∧ s2 a 2 = s a 2 ∧ s2 a 5 = s a 5 ∧ s2 a 6 = s a 6 ∧ s2 a 8 = s a 8 ∧ s2 a 51 = s a 51 ∧ s2 a 54 = s a 54 ∧ s2 a 58 = 0 ∧ s2 a 0 = s a 0)) := by
  refine Con.mk hst (by decide) (fun G s vs h => by rw [h.1]; exact Nat.le_of_ble_eq_true rfl) ?_
  rintro X G s0 vs ⟨rfl, hG, hS0, ha, e0, e1, e2, e3, e4⟩ rfl hx hq
  show JJ X E 4 G s0 0 0 [(0, .ref a)] 0 []
  refine j_aload_n hx 0 dX12_sets_0 rfl ?_
  refine j_aload_n hx 0 dX12_sets_1 rfl ?_
  have f1 := zf hS0 ha (k := 21) rfl
  refine g13_21 hx hG ha kf_RX12_180 rfl dX12_sets_2 ?_
  refine p13_24 hx hG ha kf_RX12_189 dX12_sets_5 ?_
  obtain ⟨s1, e_s1⟩ : ∃ z, z = zU s0 a 24 ((s0 a 21)) := ⟨_, rfl⟩
  rw [← e_s1]
  have hS_s1 : zSK G s1 := by rw [e_s1]; exact zSK_F hS0 ha rfl rfl rfl (by omega)
  refine j_aload_n hx 0 dX12_sets_8 rfl ?_
  refine j_aload_n hx 0 dX12_sets_9 rfl ?_
  have f2 := zf hS0 ha (k := 22) rfl
  refine g13_22 hx hG ha kf_RX12_183 (v := (s0 a 22)) (by rw [e_s1, zU_at (Or.inr (by decide))]) dX12_sets_10 ?_
  refine p13_25 hx hG ha kf_RX12_192 dX12_sets_13 ?_
  obtain ⟨s2, e_s2⟩ : ∃ z, z = zU s1 a 25 ((s0 a 22)) := ⟨_, rfl⟩
  rw [← e_s2]
  have hS_s2 : zSK G s2 := by rw [e_s2]; exact zSK_F hS_s1 ha rfl rfl rfl (by omega)
  refine j_aload_n hx 0 dX12_sets_16 rfl ?_
  refine j_aload_n hx 0 dX12_sets_17 rfl ?_
  have f3 := zf hS0 ha (k := 23) rfl
  refine g13_23 hx hG ha kf_RX12_186 (v := (s0 a 23)) (by rw [e_s2, zU_at (Or.inr (by decide)), e_s1, zU_at (Or.inr (by decide))]) dX12_sets_18 ?_
  refine p13_26 hx hG ha kf_RX12_195 dX12_sets_21 ?_
  obtain ⟨s3, e_s3⟩ : ∃ z, z = zU s2 a 26 ((s0 a 23)) := ⟨_, rfl⟩
  rw [← e_s3]
  have hS_s3 : zSK G s3 := by rw [e_s3]; exact zSK_F hS_s2 ha rfl rfl rfl (by omega)
  refine j_iconst hx dX12_sets_24 ?_
  refine j_istore_n hx [(1, .int (zI 0)), (0, .ref a)] dX12_sets_25 (by decide) rfl ?_
  have c26_4 : ∀ (m_c26_4 : Nat) (v4 : Int) (s5 : zS), 2147483648 - v4 < m_c26_4 → (0 ≤ v4 ∧ v4 ≤ 12) → (zSK G s5) → (zFr [80] G s3 s5) → JJ X E 4 G s5 0 0 [(0, .ref a), (1, .int (zI v4))] 26 [] := by
    intro m_c26_4
    induction m_c26_4 with
    | zero => intro v4 s5 hm_c26_4 fA6 hS_s5 hF_s5; exfalso; omega
    | succ m_c26_4 ih_c26_4 => 
      intro v4 s5 hm_c26_4 fA6 hS_s5 hF_s5
      refine j_iload_n hx 1 dX12_sets_26 rfl ?_
      refine j_bipush hx dX12_sets_27 rfl ?_
      refine j_icmp_ge hx 50 dX12_sets_29 rfl (by omega) ⟨by decide, by decide⟩ (fun h5 => ?_) (fun h5 => ?_)
      · skip
        refine j_iconst hx dX12_sets_50 ?_
        refine j_istore_n hx [(1, .int (zI 0)), (0, .ref a)] dX12_sets_51 (by decide) rfl ?_
        have c52_9 : ∀ (m_c52_9 : Nat) (v6 : Int) (s10 : zS), 2147483648 - v6 < m_c52_9 → (0 ≤ v6 ∧ v6 ≤ 12) → (zSK G s10) → (zFr [83] G s5 s10) → JJ X E 4 G s10 0 0 [(0, .ref a), (1, .int (zI v6))] 52 [] := by
          intro m_c52_9
          induction m_c52_9 with
          | zero => intro v6 s10 hm_c52_9 fA11 hS_s10 hF_s10; exfalso; omega
          | succ m_c52_9 ih_c52_9 => 
            intro v6 s10 hm_c52_9 fA11 hS_s10 hF_s10
            refine j_iload_n hx 1 dX12_sets_52 rfl ?_
            refine j_bipush hx dX12_sets_53 rfl ?_
            refine j_icmp_ge hx 76 dX12_sets_55 rfl (by omega) ⟨by decide, by decide⟩ (fun h7 => ?_) (fun h7 => ?_)
            · skip
              refine j_iconst hx dX12_sets_76 ?_
              refine j_istore_n hx [(1, .int (zI 0)), (0, .ref a)] dX12_sets_77 (by decide) rfl ?_
              have c78_14 : ∀ (m_c78_14 : Nat) (v8 : Int) (s15 : zS), 2147483648 - v8 < m_c78_14 → (0 ≤ v8 ∧ v8 ≤ 515) → (zSK G s15) → (zFr [84] G s10 s15) → (zAe s15 (gP G a 27) 515 0 487) → JJ X E 4 G s15 0 0 [(0, .ref a), (1, .int (zI v8))] 78 [] := by
                intro m_c78_14
                induction m_c78_14 with
                | zero => intro v8 s15 hm_c78_14 fA16 hS_s15 hF_s15 fA19; exfalso; omega
                | succ m_c78_14 ih_c78_14 => 
                  intro v8 s15 hm_c78_14 fA16 hS_s15 hF_s15 fA19
                  refine j_iload_n hx 1 dX12_sets_78 rfl ?_
                  refine j_sipush hx dX12_sets_79 rfl ?_
                  refine j_icmp_ge hx 98 dX12_sets_82 rfl (by omega) ⟨by decide, by decide⟩ (fun h9 => ?_) (fun h9 => ?_)
                  · skip
                    refine j_iconst hx dX12_sets_98 ?_
                    refine j_istore_n hx [(1, .int (zI 0)), (0, .ref a)] dX12_sets_99 (by decide) rfl ?_
                    refine j_iconst hx dX12_sets_100 ?_
                    refine j_istore_n hx [(2, .int (zI 0)), (1, .int (zI 0)), (0, .ref a)] dX12_sets_101 (by decide) rfl ?_
                    refine j_iload_n hx 0 dX12_sets_102 rfl ?_
                    refine j_iconst hx dX12_sets_103 ?_
                    refine j_icmp_ge hx 250 dX12_sets_104 rfl ⟨by decide, by decide⟩ ⟨by decide, by decide⟩ (fun h10 => absurd h10 (by omega)) (fun h10 => ?_)
                    refine j_aload_n hx 2 dX12_sets_107 rfl ?_
                    refine g13_18 hx hG ha kf_RX12_47 dX12_sets_108 ?_
                    refine j_iload_n hx 0 dX12_sets_111 rfl ?_
                    refine j_aload_n hx 2 dX12_sets_112 rfl ?_
                    refine g13_11 hx hG ha kf_RX12_26 dX12_sets_113 ?_
                    refine j_iload_n hx 0 dX12_sets_116 rfl ?_
                    refine j_iald hx hG (zr (k := 11) (t2 := 74) hG ha rfl) (by decide) rfl (zlen hG (zr (k := 11) (t2 := 74) hG ha rfl) (n := 3) rfl rfl) (by omega) (by omega) (j := 0) rfl (v := (s0 (gP G a 11) 0)) (by rw [(zFr_g hF_s15 (zr (k := 11) (t2 := 74) hG ha rfl) (by decide)), (zFr_g hF_s10 (zr (k := 11) (t2 := 74) hG ha rfl) (by decide)), (zFr_g hF_s5 (zr (k := 11) (t2 := 74) hG ha rfl) (by decide)), e_s3, zU_at (Or.inl (zne ha (zr (k := 11) (t2 := 74) hG ha rfl) (by decide))), e_s2, zU_at (Or.inl (zne ha (zr (k := 11) (t2 := 74) hG ha rfl) (by decide))), e_s1, zU_at (Or.inl (zne ha (zr (k := 11) (t2 := 74) hG ha rfl) (by decide)))]) dX12_sets_117 ?_
                    refine j_iast hx hG (zr (k := 18) (t2 := 81) hG ha rfl) (by decide) rfl (zlen hG (zr (k := 18) (t2 := 81) hG ha rfl) (n := 3) rfl rfl) (by omega) (by omega) (j := 0) rfl dX12_sets_118 ?_
                    obtain ⟨s20, e_s20⟩ : ∃ z, z = zU s15 (gP G a 18) 0 ((s0 (gP G a 11) 0)) := ⟨_, rfl⟩
                    rw [← e_s20]
                    have hS_s20 : zSK G s20 := by rw [e_s20]; exact zSK_A hS_s15 (zr (k := 18) (t2 := 81) hG ha rfl) rfl rfl rfl (by omega)
                    refine j_aload_n hx 2 dX12_sets_119 rfl ?_
                    refine g13_27 hx hG ha kf_RX12_56 dX12_sets_120 ?_
                    refine j_sipush hx dX12_sets_123 rfl ?_
                    refine j_iload_n hx 0 dX12_sets_126 rfl ?_
                    refine j_iadd hx (r := 491) dX12_sets_127 (by omega) ?_
                    refine j_aload_n hx 2 dX12_sets_128 rfl ?_
                    refine g13_15 hx hG ha kf_RX12_38 dX12_sets_129 ?_
                    refine j_iload_n hx 0 dX12_sets_132 rfl ?_
                    have f11 := zaI (j := 0) hS0 (zr (k := 15) (t2 := 78) hG ha rfl) rfl (zlen hG (zr (k := 15) (t2 := 78) hG ha rfl) (n := 3) rfl rfl) (show 0 ≤ 0 by omega) (by omega) rfl
                    refine j_iald hx hG (zr (k := 15) (t2 := 78) hG ha rfl) (by decide) rfl (zlen hG (zr (k := 15) (t2 := 78) hG ha rfl) (n := 3) rfl rfl) (by omega) (by omega) (j := 0) rfl (v := (s0 (gP G a 15) 0)) (by rw [e_s20, zU_at (Or.inl (zne (zr (k := 18) (t2 := 81) hG ha rfl) (zr (k := 15) (t2 := 78) hG ha rfl) (by decide))), (zFr_g hF_s15 (zr (k := 15) (t2 := 78) hG ha rfl) (by decide)), (zFr_g hF_s10 (zr (k := 15) (t2 := 78) hG ha rfl) (by decide)), (zFr_g hF_s5 (zr (k := 15) (t2 := 78) hG ha rfl) (by decide)), e_s3, zU_at (Or.inl (zne ha (zr (k := 15) (t2 := 78) hG ha rfl) (by decide))), e_s2, zU_at (Or.inl (zne ha (zr (k := 15) (t2 := 78) hG ha rfl) (by decide))), e_s1, zU_at (Or.inl (zne ha (zr (k := 15) (t2 := 78) hG ha rfl) (by decide)))]) dX12_sets_133 ?_
                    refine j_iast hx hG (zr (k := 27) (t2 := 84) hG ha rfl) (by decide) rfl (zlen hG (zr (k := 27) (t2 := 84) hG ha rfl) (n := 515) rfl rfl) (by omega) (by omega) (j := 491) rfl dX12_sets_134 ?_
                    obtain ⟨s21, e_s21⟩ : ∃ z, z = zU s20 (gP G a 27) 491 ((s0 (gP G a 15) 0)) := ⟨_, rfl⟩
                    rw [← e_s21]
                    have hS_s21 : zSK G s21 := by rw [e_s21]; exact zSK_A hS_s20 (zr (k := 27) (t2 := 84) hG ha rfl) rfl rfl rfl (by omega)
                    refine j_aload_n hx 2 dX12_sets_135 rfl ?_
                    refine g13_27 hx hG ha kf_RX12_56 dX12_sets_136 ?_
                    refine j_sipush hx dX12_sets_139 rfl ?_
                    refine j_iload_n hx 0 dX12_sets_142 rfl ?_
                    refine j_iadd hx (r := 480) dX12_sets_143 (by omega) ?_
                    refine j_iload_n hx 0 dX12_sets_144 rfl ?_
                    refine j_aload_n hx 2 dX12_sets_145 rfl ?_
                    refine g13_21 hx hG ha kf_RX12_180 (v := (s0 a 21)) (by rw [e_s21, zU_at (Or.inl (zne (zr (k := 27) (t2 := 84) hG ha rfl) ha (by decide))), e_s20, zU_at (Or.inl (zne (zr (k := 18) (t2 := 81) hG ha rfl) ha (by decide))), (zFr_g hF_s15 ha (by decide)), (zFr_g hF_s10 ha (by decide)), (zFr_g hF_s5 ha (by decide)), e_s3, zU_at (Or.inr (by decide)), e_s2, zU_at (Or.inr (by decide)), e_s1, zU_at (Or.inr (by decide))]) dX12_sets_146 ?_
                    refine j_icmp_ge hx 161 dX12_sets_149 rfl ⟨by decide, by decide⟩ (by omega) (fun h12 => ?_) (fun h12 => absurd h12 (by omega))
                    refine j_iconst hx dX12_sets_161 ?_
                    refine j_iast hx hG (zr (k := 27) (t2 := 84) hG ha rfl) (by decide) rfl (zlen hG (zr (k := 27) (t2 := 84) hG ha rfl) (n := 515) rfl rfl) (by omega) (by omega) (j := 480) rfl dX12_sets_162 ?_
                    obtain ⟨s22, e_s22⟩ : ∃ z, z = zU s21 (gP G a 27) 480 0 := ⟨_, rfl⟩
                    rw [← e_s22]
                    have hS_s22 : zSK G s22 := by rw [e_s22]; exact zSK_A hS_s21 (zr (k := 27) (t2 := 84) hG ha rfl) rfl rfl rfl (by omega)
                    refine j_iconst hx dX12_sets_163 ?_
                    refine j_istore_n hx [(3, .int (zI 0)), (2, .int (zI 0)), (1, .int (zI 0)), (0, .ref a)] dX12_sets_164 (by decide) rfl ?_
                    refine j_iload_n hx 0 dX12_sets_165 rfl ?_
                    refine j_aload_n hx 3 dX12_sets_166 rfl ?_
                    refine g13_27 hx hG ha kf_RX12_56 dX12_sets_167 ?_
                    refine j_sipush hx dX12_sets_170 rfl ?_
                    refine j_iload_n hx 1 dX12_sets_173 rfl ?_
                    refine j_iadd hx (r := 480) dX12_sets_174 (by omega) ?_
                    refine j_iald hx hG (zr (k := 27) (t2 := 84) hG ha rfl) (by decide) rfl (zlen hG (zr (k := 27) (t2 := 84) hG ha rfl) (n := 515) rfl rfl) (by omega) (by omega) (j := 480) rfl (v := 0) (by rw [e_s22, zU_eq]) dX12_sets_175 ?_
                    refine j_icmp_ge hx 244 dX12_sets_176 rfl ⟨by decide, by decide⟩ ⟨by decide, by decide⟩ (fun h13 => ?_) (fun h13 => absurd h13 (by omega))
                    refine j_iinc hx 1 [(2, .int (zI 1)), (3, .int (zI 0)), (1, .int (zI 0)), (0, .ref a)] dX12_sets_244 rfl (by omega) (by decide) rfl ?_
                    refine j_goto hx 102 dX12_sets_247 rfl ?_
                    refine j_iload_n hx 0 dX12_sets_102 rfl ?_
                    refine j_iconst hx dX12_sets_103 ?_
                    refine j_icmp_ge hx 250 dX12_sets_104 rfl ⟨by decide, by decide⟩ ⟨by decide, by decide⟩ (fun h14 => absurd h14 (by omega)) (fun h14 => ?_)
                    refine j_aload_n hx 3 dX12_sets_107 rfl ?_
                    refine g13_18 hx hG ha kf_RX12_47 dX12_sets_108 ?_
                    refine j_iload_n hx 0 dX12_sets_111 rfl ?_
                    refine j_aload_n hx 3 dX12_sets_112 rfl ?_
                    refine g13_11 hx hG ha kf_RX12_26 dX12_sets_113 ?_
                    refine j_iload_n hx 0 dX12_sets_116 rfl ?_
                    refine j_iald hx hG (zr (k := 11) (t2 := 74) hG ha rfl) (by decide) rfl (zlen hG (zr (k := 11) (t2 := 74) hG ha rfl) (n := 3) rfl rfl) (by omega) (by omega) (j := 1) rfl (v := (s0 (gP G a 11) 1)) (by rw [e_s22, zU_at (Or.inl (zne (zr (k := 27) (t2 := 84) hG ha rfl) (zr (k := 11) (t2 := 74) hG ha rfl) (by decide))), e_s21, zU_at (Or.inl (zne (zr (k := 27) (t2 := 84) hG ha rfl) (zr (k := 11) (t2 := 74) hG ha rfl) (by decide))), e_s20, zU_at (Or.inl (zne (zr (k := 18) (t2 := 81) hG ha rfl) (zr (k := 11) (t2 := 74) hG ha rfl) (by decide))), (zFr_g hF_s15 (zr (k := 11) (t2 := 74) hG ha rfl) (by decide)), (zFr_g hF_s10 (zr (k := 11) (t2 := 74) hG ha rfl) (by decide)), (zFr_g hF_s5 (zr (k := 11) (t2 := 74) hG ha rfl) (by decide)), e_s3, zU_at (Or.inl (zne ha (zr (k := 11) (t2 := 74) hG ha rfl) (by decide))), e_s2, zU_at (Or.inl (zne ha (zr (k := 11) (t2 := 74) hG ha rfl) (by decide))), e_s1, zU_at (Or.inl (zne ha (zr (k := 11) (t2 := 74) hG ha rfl) (by decide)))]) dX12_sets_117 ?_
                    refine j_iast hx hG (zr (k := 18) (t2 := 81) hG ha rfl) (by decide) rfl (zlen hG (zr (k := 18) (t2 := 81) hG ha rfl) (n := 3) rfl rfl) (by omega) (by omega) (j := 1) rfl dX12_sets_118 ?_
                    obtain ⟨s23, e_s23⟩ : ∃ z, z = zU s22 (gP G a 18) 1 ((s0 (gP G a 11) 1)) := ⟨_, rfl⟩
                    rw [← e_s23]
                    have hS_s23 : zSK G s23 := by rw [e_s23]; exact zSK_A hS_s22 (zr (k := 18) (t2 := 81) hG ha rfl) rfl rfl rfl (by omega)
                    refine j_aload_n hx 3 dX12_sets_119 rfl ?_
                    refine g13_27 hx hG ha kf_RX12_56 dX12_sets_120 ?_
                    refine j_sipush hx dX12_sets_123 rfl ?_
                    refine j_iload_n hx 0 dX12_sets_126 rfl ?_
                    refine j_iadd hx (r := 492) dX12_sets_127 (by omega) ?_
                    refine j_aload_n hx 3 dX12_sets_128 rfl ?_
                    refine g13_15 hx hG ha kf_RX12_38 dX12_sets_129 ?_
                    refine j_iload_n hx 0 dX12_sets_132 rfl ?_
                    have f15 := zaI (j := 1) hS0 (zr (k := 15) (t2 := 78) hG ha rfl) rfl (zlen hG (zr (k := 15) (t2 := 78) hG ha rfl) (n := 3) rfl rfl) (show 0 ≤ 1 by omega) (by omega) rfl
                    refine j_iald hx hG (zr (k := 15) (t2 := 78) hG ha rfl) (by decide) rfl (zlen hG (zr (k := 15) (t2 := 78) hG ha rfl) (n := 3) rfl rfl) (by omega) (by omega) (j := 1) rfl (v := (s0 (gP G a 15) 1)) (by rw [e_s23, zU_at (Or.inl (zne (zr (k := 18) (t2 := 81) hG ha rfl) (zr (k := 15) (t2 := 78) hG ha rfl) (by decide))), e_s22, zU_at (Or.inl (zne (zr (k := 27) (t2 := 84) hG ha rfl) (zr (k := 15) (t2 := 78) hG ha rfl) (by decide))), e_s21, zU_at (Or.inl (zne (zr (k := 27) (t2 := 84) hG ha rfl) (zr (k := 15) (t2 := 78) hG ha rfl) (by decide))), e_s20, zU_at (Or.inl (zne (zr (k := 18) (t2 := 81) hG ha rfl) (zr (k := 15) (t2 := 78) hG ha rfl) (by decide))), (zFr_g hF_s15 (zr (k := 15) (t2 := 78) hG ha rfl) (by decide)), (zFr_g hF_s10 (zr (k := 15) (t2 := 78) hG ha rfl) (by decide)), (zFr_g hF_s5 (zr (k := 15) (t2 := 78) hG ha rfl) (by decide)), e_s3, zU_at (Or.inl (zne ha (zr (k := 15) (t2 := 78) hG ha rfl) (by decide))), e_s2, zU_at (Or.inl (zne ha (zr (k := 15) (t2 := 78) hG ha rfl) (by decide))), e_s1, zU_at (Or.inl (zne ha (zr (k := 15) (t2 := 78) hG ha rfl) (by decide)))]) dX12_sets_133 ?_
                    refine j_iast hx hG (zr (k := 27) (t2 := 84) hG ha rfl) (by decide) rfl (zlen hG (zr (k := 27) (t2 := 84) hG ha rfl) (n := 515) rfl rfl) (by omega) (by omega) (j := 492) rfl dX12_sets_134 ?_
                    obtain ⟨s24, e_s24⟩ : ∃ z, z = zU s23 (gP G a 27) 492 ((s0 (gP G a 15) 1)) := ⟨_, rfl⟩
                    rw [← e_s24]
                    have hS_s24 : zSK G s24 := by rw [e_s24]; exact zSK_A hS_s23 (zr (k := 27) (t2 := 84) hG ha rfl) rfl rfl rfl (by omega)
                    refine j_aload_n hx 3 dX12_sets_135 rfl ?_
                    refine g13_27 hx hG ha kf_RX12_56 dX12_sets_136 ?_
                    refine j_sipush hx dX12_sets_139 rfl ?_
                    refine j_iload_n hx 0 dX12_sets_142 rfl ?_
                    refine j_iadd hx (r := 481) dX12_sets_143 (by omega) ?_
                    refine j_iload_n hx 0 dX12_sets_144 rfl ?_
                    refine j_aload_n hx 3 dX12_sets_145 rfl ?_
                    refine g13_21 hx hG ha kf_RX12_180 (v := (s0 a 21)) (by rw [e_s24, zU_at (Or.inl (zne (zr (k := 27) (t2 := 84) hG ha rfl) ha (by decide))), e_s23, zU_at (Or.inl (zne (zr (k := 18) (t2 := 81) hG ha rfl) ha (by decide))), e_s22, zU_at (Or.inl (zne (zr (k := 27) (t2 := 84) hG ha rfl) ha (by decide))), e_s21, zU_at (Or.inl (zne (zr (k := 27) (t2 := 84) hG ha rfl) ha (by decide))), e_s20, zU_at (Or.inl (zne (zr (k := 18) (t2 := 81) hG ha rfl) ha (by decide))), (zFr_g hF_s15 ha (by decide)), (zFr_g hF_s10 ha (by decide)), (zFr_g hF_s5 ha (by decide)), e_s3, zU_at (Or.inr (by decide)), e_s2, zU_at (Or.inr (by decide)), e_s1, zU_at (Or.inr (by decide))]) dX12_sets_146 ?_
                    refine j_icmp_ge hx 161 dX12_sets_149 rfl ⟨by decide, by decide⟩ (by omega) (fun h16 => ?_) (fun h16 => absurd h16 (by omega))
                    refine j_iconst hx dX12_sets_161 ?_
                    refine j_iast hx hG (zr (k := 27) (t2 := 84) hG ha rfl) (by decide) rfl (zlen hG (zr (k := 27) (t2 := 84) hG ha rfl) (n := 515) rfl rfl) (by omega) (by omega) (j := 481) rfl dX12_sets_162 ?_
                    obtain ⟨s25, e_s25⟩ : ∃ z, z = zU s24 (gP G a 27) 481 0 := ⟨_, rfl⟩
                    rw [← e_s25]
                    have hS_s25 : zSK G s25 := by rw [e_s25]; exact zSK_A hS_s24 (zr (k := 27) (t2 := 84) hG ha rfl) rfl rfl rfl (by omega)
                    refine j_iconst hx dX12_sets_163 ?_
                    refine j_istore_n hx [(3, .int (zI 0)), (2, .int (zI 1)), (1, .int (zI 0)), (0, .ref a)] dX12_sets_164 (by decide) rfl ?_
                    refine j_iload_n hx 0 dX12_sets_165 rfl ?_
                    refine j_aload_n hx 3 dX12_sets_166 rfl ?_
                    refine g13_27 hx hG ha kf_RX12_56 dX12_sets_167 ?_
                    refine j_sipush hx dX12_sets_170 rfl ?_
                    refine j_iload_n hx 1 dX12_sets_173 rfl ?_
                    refine j_iadd hx (r := 481) dX12_sets_174 (by omega) ?_
                    refine j_iald hx hG (zr (k := 27) (t2 := 84) hG ha rfl) (by decide) rfl (zlen hG (zr (k := 27) (t2 := 84) hG ha rfl) (n := 515) rfl rfl) (by omega) (by omega) (j := 481) rfl (v := 0) (by rw [e_s25, zU_eq]) dX12_sets_175 ?_
                    refine j_icmp_ge hx 244 dX12_sets_176 rfl ⟨by decide, by decide⟩ ⟨by decide, by decide⟩ (fun h17 => ?_) (fun h17 => absurd h17 (by omega))
                    refine j_iinc hx 1 [(2, .int (zI 2)), (3, .int (zI 0)), (1, .int (zI 0)), (0, .ref a)] dX12_sets_244 rfl (by omega) (by decide) rfl ?_
                    refine j_goto hx 102 dX12_sets_247 rfl ?_
                    refine j_iload_n hx 0 dX12_sets_102 rfl ?_
                    refine j_iconst hx dX12_sets_103 ?_
                    refine j_icmp_ge hx 250 dX12_sets_104 rfl ⟨by decide, by decide⟩ ⟨by decide, by decide⟩ (fun h18 => absurd h18 (by omega)) (fun h18 => ?_)
                    refine j_aload_n hx 3 dX12_sets_107 rfl ?_
                    refine g13_18 hx hG ha kf_RX12_47 dX12_sets_108 ?_
                    refine j_iload_n hx 0 dX12_sets_111 rfl ?_
                    refine j_aload_n hx 3 dX12_sets_112 rfl ?_
                    refine g13_11 hx hG ha kf_RX12_26 dX12_sets_113 ?_
                    refine j_iload_n hx 0 dX12_sets_116 rfl ?_
                    refine j_iald hx hG (zr (k := 11) (t2 := 74) hG ha rfl) (by decide) rfl (zlen hG (zr (k := 11) (t2 := 74) hG ha rfl) (n := 3) rfl rfl) (by omega) (by omega) (j := 2) rfl (v := (s0 (gP G a 11) 2)) (by rw [e_s25, zU_at (Or.inl (zne (zr (k := 27) (t2 := 84) hG ha rfl) (zr (k := 11) (t2 := 74) hG ha rfl) (by decide))), e_s24, zU_at (Or.inl (zne (zr (k := 27) (t2 := 84) hG ha rfl) (zr (k := 11) (t2 := 74) hG ha rfl) (by decide))), e_s23, zU_at (Or.inl (zne (zr (k := 18) (t2 := 81) hG ha rfl) (zr (k := 11) (t2 := 74) hG ha rfl) (by decide))), e_s22, zU_at (Or.inl (zne (zr (k := 27) (t2 := 84) hG ha rfl) (zr (k := 11) (t2 := 74) hG ha rfl) (by decide))), e_s21, zU_at (Or.inl (zne (zr (k := 27) (t2 := 84) hG ha rfl) (zr (k := 11) (t2 := 74) hG ha rfl) (by decide))), e_s20, zU_at (Or.inl (zne (zr (k := 18) (t2 := 81) hG ha rfl) (zr (k := 11) (t2 := 74) hG ha rfl) (by decide))), (zFr_g hF_s15 (zr (k := 11) (t2 := 74) hG ha rfl) (by decide)), (zFr_g hF_s10 (zr (k := 11) (t2 := 74) hG ha rfl) (by decide)), (zFr_g hF_s5 (zr (k := 11) (t2 := 74) hG ha rfl) (by decide)), e_s3, zU_at (Or.inl (zne ha (zr (k := 11) (t2 := 74) hG ha rfl) (by decide))), e_s2, zU_at (Or.inl (zne ha (zr (k := 11) (t2 := 74) hG ha rfl) (by decide))), e_s1, zU_at (Or.inl (zne ha (zr (k := 11) (t2 := 74) hG ha rfl) (by decide)))]) dX12_sets_117 ?_
                    refine j_iast hx hG (zr (k := 18) (t2 := 81) hG ha rfl) (by decide) rfl (zlen hG (zr (k := 18) (t2 := 81) hG ha rfl) (n := 3) rfl rfl) (by omega) (by omega) (j := 2) rfl dX12_sets_118 ?_
                    obtain ⟨s26, e_s26⟩ : ∃ z, z = zU s25 (gP G a 18) 2 ((s0 (gP G a 11) 2)) := ⟨_, rfl⟩
                    rw [← e_s26]
                    have hS_s26 : zSK G s26 := by rw [e_s26]; exact zSK_A hS_s25 (zr (k := 18) (t2 := 81) hG ha rfl) rfl rfl rfl (by omega)
                    refine j_aload_n hx 3 dX12_sets_119 rfl ?_
                    refine g13_27 hx hG ha kf_RX12_56 dX12_sets_120 ?_
                    refine j_sipush hx dX12_sets_123 rfl ?_
                    refine j_iload_n hx 0 dX12_sets_126 rfl ?_
                    refine j_iadd hx (r := 493) dX12_sets_127 (by omega) ?_
                    refine j_aload_n hx 3 dX12_sets_128 rfl ?_
                    refine g13_15 hx hG ha kf_RX12_38 dX12_sets_129 ?_
                    refine j_iload_n hx 0 dX12_sets_132 rfl ?_
                    have f19 := zaI (j := 2) hS0 (zr (k := 15) (t2 := 78) hG ha rfl) rfl (zlen hG (zr (k := 15) (t2 := 78) hG ha rfl) (n := 3) rfl rfl) (show 0 ≤ 2 by omega) (by omega) rfl
                    refine j_iald hx hG (zr (k := 15) (t2 := 78) hG ha rfl) (by decide) rfl (zlen hG (zr (k := 15) (t2 := 78) hG ha rfl) (n := 3) rfl rfl) (by omega) (by omega) (j := 2) rfl (v := (s0 (gP G a 15) 2)) (by rw [e_s26, zU_at (Or.inl (zne (zr (k := 18) (t2 := 81) hG ha rfl) (zr (k := 15) (t2 := 78) hG ha rfl) (by decide))), e_s25, zU_at (Or.inl (zne (zr (k := 27) (t2 := 84) hG ha rfl) (zr (k := 15) (t2 := 78) hG ha rfl) (by decide))), e_s24, zU_at (Or.inl (zne (zr (k := 27) (t2 := 84) hG ha rfl) (zr (k := 15) (t2 := 78) hG ha rfl) (by decide))), e_s23, zU_at (Or.inl (zne (zr (k := 18) (t2 := 81) hG ha rfl) (zr (k := 15) (t2 := 78) hG ha rfl) (by decide))), e_s22, zU_at (Or.inl (zne (zr (k := 27) (t2 := 84) hG ha rfl) (zr (k := 15) (t2 := 78) hG ha rfl) (by decide))), e_s21, zU_at (Or.inl (zne (zr (k := 27) (t2 := 84) hG ha rfl) (zr (k := 15) (t2 := 78) hG ha rfl) (by decide))), e_s20, zU_at (Or.inl (zne (zr (k := 18) (t2 := 81) hG ha rfl) (zr (k := 15) (t2 := 78) hG ha rfl) (by decide))), (zFr_g hF_s15 (zr (k := 15) (t2 := 78) hG ha rfl) (by decide)), (zFr_g hF_s10 (zr (k := 15) (t2 := 78) hG ha rfl) (by decide)), (zFr_g hF_s5 (zr (k := 15) (t2 := 78) hG ha rfl) (by decide)), e_s3, zU_at (Or.inl (zne ha (zr (k := 15) (t2 := 78) hG ha rfl) (by decide))), e_s2, zU_at (Or.inl (zne ha (zr (k := 15) (t2 := 78) hG ha rfl) (by decide))), e_s1, zU_at (Or.inl (zne ha (zr (k := 15) (t2 := 78) hG ha rfl) (by decide)))]) dX12_sets_133 ?_
                    refine j_iast hx hG (zr (k := 27) (t2 := 84) hG ha rfl) (by decide) rfl (zlen hG (zr (k := 27) (t2 := 84) hG ha rfl) (n := 515) rfl rfl) (by omega) (by omega) (j := 493) rfl dX12_sets_134 ?_
                    obtain ⟨s27, e_s27⟩ : ∃ z, z = zU s26 (gP G a 27) 493 ((s0 (gP G a 15) 2)) := ⟨_, rfl⟩
                    rw [← e_s27]
                    have hS_s27 : zSK G s27 := by rw [e_s27]; exact zSK_A hS_s26 (zr (k := 27) (t2 := 84) hG ha rfl) rfl rfl rfl (by omega)
                    refine j_aload_n hx 3 dX12_sets_135 rfl ?_
                    refine g13_27 hx hG ha kf_RX12_56 dX12_sets_136 ?_
                    refine j_sipush hx dX12_sets_139 rfl ?_
                    refine j_iload_n hx 0 dX12_sets_142 rfl ?_
                    refine j_iadd hx (r := 482) dX12_sets_143 (by omega) ?_
                    refine j_iload_n hx 0 dX12_sets_144 rfl ?_
                    refine j_aload_n hx 3 dX12_sets_145 rfl ?_
                    refine g13_21 hx hG ha kf_RX12_180 (v := (s0 a 21)) (by rw [e_s27, zU_at (Or.inl (zne (zr (k := 27) (t2 := 84) hG ha rfl) ha (by decide))), e_s26, zU_at (Or.inl (zne (zr (k := 18) (t2 := 81) hG ha rfl) ha (by decide))), e_s25, zU_at (Or.inl (zne (zr (k := 27) (t2 := 84) hG ha rfl) ha (by decide))), e_s24, zU_at (Or.inl (zne (zr (k := 27) (t2 := 84) hG ha rfl) ha (by decide))), e_s23, zU_at (Or.inl (zne (zr (k := 18) (t2 := 81) hG ha rfl) ha (by decide))), e_s22, zU_at (Or.inl (zne (zr (k := 27) (t2 := 84) hG ha rfl) ha (by decide))), e_s21, zU_at (Or.inl (zne (zr (k := 27) (t2 := 84) hG ha rfl) ha (by decide))), e_s20, zU_at (Or.inl (zne (zr (k := 18) (t2 := 81) hG ha rfl) ha (by decide))), (zFr_g hF_s15 ha (by decide)), (zFr_g hF_s10 ha (by decide)), (zFr_g hF_s5 ha (by decide)), e_s3, zU_at (Or.inr (by decide)), e_s2, zU_at (Or.inr (by decide)), e_s1, zU_at (Or.inr (by decide))]) dX12_sets_146 ?_
                    refine j_icmp_ge hx 161 dX12_sets_149 rfl ⟨by decide, by decide⟩ (by omega) (fun h20 => ?_) (fun h20 => absurd h20 (by omega))
                    refine j_iconst hx dX12_sets_161 ?_
                    refine j_iast hx hG (zr (k := 27) (t2 := 84) hG ha rfl) (by decide) rfl (zlen hG (zr (k := 27) (t2 := 84) hG ha rfl) (n := 515) rfl rfl) (by omega) (by omega) (j := 482) rfl dX12_sets_162 ?_
                    obtain ⟨s28, e_s28⟩ : ∃ z, z = zU s27 (gP G a 27) 482 0 := ⟨_, rfl⟩
                    rw [← e_s28]
                    have hS_s28 : zSK G s28 := by rw [e_s28]; exact zSK_A hS_s27 (zr (k := 27) (t2 := 84) hG ha rfl) rfl rfl rfl (by omega)
                    refine j_iconst hx dX12_sets_163 ?_
                    refine j_istore_n hx [(3, .int (zI 0)), (2, .int (zI 2)), (1, .int (zI 0)), (0, .ref a)] dX12_sets_164 (by decide) rfl ?_
                    refine j_iload_n hx 0 dX12_sets_165 rfl ?_
                    refine j_aload_n hx 3 dX12_sets_166 rfl ?_
                    refine g13_27 hx hG ha kf_RX12_56 dX12_sets_167 ?_
                    refine j_sipush hx dX12_sets_170 rfl ?_
                    refine j_iload_n hx 1 dX12_sets_173 rfl ?_
                    refine j_iadd hx (r := 482) dX12_sets_174 (by omega) ?_
                    refine j_iald hx hG (zr (k := 27) (t2 := 84) hG ha rfl) (by decide) rfl (zlen hG (zr (k := 27) (t2 := 84) hG ha rfl) (n := 515) rfl rfl) (by omega) (by omega) (j := 482) rfl (v := 0) (by rw [e_s28, zU_eq]) dX12_sets_175 ?_
                    refine j_icmp_ge hx 244 dX12_sets_176 rfl ⟨by decide, by decide⟩ ⟨by decide, by decide⟩ (fun h21 => ?_) (fun h21 => absurd h21 (by omega))
                    refine j_iinc hx 1 [(2, .int (zI 3)), (3, .int (zI 0)), (1, .int (zI 0)), (0, .ref a)] dX12_sets_244 rfl (by omega) (by decide) rfl ?_
                    refine j_goto hx 102 dX12_sets_247 rfl ?_
                    refine j_iload_n hx 0 dX12_sets_102 rfl ?_
                    refine j_iconst hx dX12_sets_103 ?_
                    refine j_icmp_ge hx 250 dX12_sets_104 rfl ⟨by decide, by decide⟩ ⟨by decide, by decide⟩ (fun h22 => ?_) (fun h22 => absurd h22 (by omega))
                    refine j_aload_n hx 3 dX12_sets_250 rfl ?_
                    refine g13_27 hx hG ha kf_RX12_56 dX12_sets_251 ?_
                    refine j_sipush hx dX12_sets_254 rfl ?_
                    refine j_aload_n hx 3 dX12_sets_257 rfl ?_
                    refine g13_24 hx hG ha kf_RX12_189 (v := (s0 a 21)) (by rw [e_s28, zU_at (Or.inl (zne (zr (k := 27) (t2 := 84) hG ha rfl) ha (by decide))), e_s27, zU_at (Or.inl (zne (zr (k := 27) (t2 := 84) hG ha rfl) ha (by decide))), e_s26, zU_at (Or.inl (zne (zr (k := 18) (t2 := 81) hG ha rfl) ha (by decide))), e_s25, zU_at (Or.inl (zne (zr (k := 27) (t2 := 84) hG ha rfl) ha (by decide))), e_s24, zU_at (Or.inl (zne (zr (k := 27) (t2 := 84) hG ha rfl) ha (by decide))), e_s23, zU_at (Or.inl (zne (zr (k := 18) (t2 := 81) hG ha rfl) ha (by decide))), e_s22, zU_at (Or.inl (zne (zr (k := 27) (t2 := 84) hG ha rfl) ha (by decide))), e_s21, zU_at (Or.inl (zne (zr (k := 27) (t2 := 84) hG ha rfl) ha (by decide))), e_s20, zU_at (Or.inl (zne (zr (k := 18) (t2 := 81) hG ha rfl) ha (by decide))), (zFr_g hF_s15 ha (by decide)), (zFr_g hF_s10 ha (by decide)), (zFr_g hF_s5 ha (by decide)), e_s3, zU_at (Or.inr (by decide)), e_s2, zU_at (Or.inr (by decide)), e_s1, zU_eq]) dX12_sets_258 ?_
                    refine j_iconst hx dX12_sets_261 ?_
                    refine j_isub hx (r := (s0 a 21) - 1) dX12_sets_262 (by omega) ?_
                    refine j_iast hx hG (zr (k := 27) (t2 := 84) hG ha rfl) (by decide) rfl (zlen hG (zr (k := 27) (t2 := 84) hG ha rfl) (n := 515) rfl rfl) (by omega) (by omega) (j := 487) rfl dX12_sets_263 ?_
                    obtain ⟨s29, e_s29⟩ : ∃ z, z = zU s28 (gP G a 27) 487 ((s0 a 21) - 1) := ⟨_, rfl⟩
                    rw [← e_s29]
                    have hS_s29 : zSK G s29 := by rw [e_s29]; exact zSK_A hS_s28 (zr (k := 27) (t2 := 84) hG ha rfl) rfl rfl rfl (by omega)
                    refine j_iconst hx dX12_sets_264 ?_
                    refine j_istore_n hx [(2, .int (zI 0)), (3, .int (zI 0)), (1, .int (zI 0)), (0, .ref a)] dX12_sets_265 (by decide) rfl ?_
                    refine j_iload_n hx 0 dX12_sets_266 rfl ?_
                    refine j_bipush hx dX12_sets_267 rfl ?_
                    refine j_icmp_ge hx 294 dX12_sets_269 rfl ⟨by decide, by decide⟩ ⟨by decide, by decide⟩ (fun h23 => absurd h23 (by omega)) (fun h23 => ?_)
                    refine j_aload_n hx 3 dX12_sets_272 rfl ?_
                    refine g13_37 hx hG ha kf_RX12_86 dX12_sets_273 ?_
                    refine j_iload_n hx 0 dX12_sets_276 rfl ?_
                    refine j_iload_n hx 0 dX12_sets_277 rfl ?_
                    refine j_iconst hx dX12_sets_278 ?_
                    refine j_icmp_ge hx 286 dX12_sets_279 rfl ⟨by decide, by decide⟩ ⟨by decide, by decide⟩ (fun h24 => absurd h24 (by omega)) (fun h24 => ?_)
                    refine j_iconst hx dX12_sets_282 ?_
                    refine j_goto hx 287 dX12_sets_283 rfl ?_
                    refine j_iast hx hG (zr (k := 37) (t2 := 94) hG ha rfl) (by decide) rfl (zlen hG (zr (k := 37) (t2 := 94) hG ha rfl) (n := 6) rfl rfl) (by omega) (by omega) (j := 0) rfl dX12_sets_287 ?_
                    obtain ⟨s30, e_s30⟩ : ∃ z, z = zU s29 (gP G a 37) 0 1 := ⟨_, rfl⟩
                    rw [← e_s30]
                    have hS_s30 : zSK G s30 := by rw [e_s30]; exact zSK_A hS_s29 (zr (k := 37) (t2 := 94) hG ha rfl) rfl rfl rfl (by omega)
                    refine j_iinc hx 0 [(2, .int (zI 1)), (3, .int (zI 0)), (1, .int (zI 0)), (0, .ref a)] dX12_sets_288 rfl (by omega) (by decide) rfl ?_
                    refine j_goto hx 266 dX12_sets_291 rfl ?_
                    refine j_iload_n hx 0 dX12_sets_266 rfl ?_
                    refine j_bipush hx dX12_sets_267 rfl ?_
                    refine j_icmp_ge hx 294 dX12_sets_269 rfl ⟨by decide, by decide⟩ ⟨by decide, by decide⟩ (fun h25 => absurd h25 (by omega)) (fun h25 => ?_)
                    refine j_aload_n hx 3 dX12_sets_272 rfl ?_
                    refine g13_37 hx hG ha kf_RX12_86 dX12_sets_273 ?_
                    refine j_iload_n hx 0 dX12_sets_276 rfl ?_
                    refine j_iload_n hx 0 dX12_sets_277 rfl ?_
                    refine j_iconst hx dX12_sets_278 ?_
                    refine j_icmp_ge hx 286 dX12_sets_279 rfl ⟨by decide, by decide⟩ ⟨by decide, by decide⟩ (fun h26 => absurd h26 (by omega)) (fun h26 => ?_)
                    refine j_iconst hx dX12_sets_282 ?_
                    refine j_goto hx 287 dX12_sets_283 rfl ?_
                    refine j_iast hx hG (zr (k := 37) (t2 := 94) hG ha rfl) (by decide) rfl (zlen hG (zr (k := 37) (t2 := 94) hG ha rfl) (n := 6) rfl rfl) (by omega) (by omega) (j := 1) rfl dX12_sets_287 ?_
                    obtain ⟨s31, e_s31⟩ : ∃ z, z = zU s30 (gP G a 37) 1 1 := ⟨_, rfl⟩
                    rw [← e_s31]
                    have hS_s31 : zSK G s31 := by rw [e_s31]; exact zSK_A hS_s30 (zr (k := 37) (t2 := 94) hG ha rfl) rfl rfl rfl (by omega)
                    refine j_iinc hx 0 [(2, .int (zI 2)), (3, .int (zI 0)), (1, .int (zI 0)), (0, .ref a)] dX12_sets_288 rfl (by omega) (by decide) rfl ?_
                    refine j_goto hx 266 dX12_sets_291 rfl ?_
                    refine j_iload_n hx 0 dX12_sets_266 rfl ?_
                    refine j_bipush hx dX12_sets_267 rfl ?_
                    refine j_icmp_ge hx 294 dX12_sets_269 rfl ⟨by decide, by decide⟩ ⟨by decide, by decide⟩ (fun h27 => absurd h27 (by omega)) (fun h27 => ?_)
                    refine j_aload_n hx 3 dX12_sets_272 rfl ?_
                    refine g13_37 hx hG ha kf_RX12_86 dX12_sets_273 ?_
                    refine j_iload_n hx 0 dX12_sets_276 rfl ?_
                    refine j_iload_n hx 0 dX12_sets_277 rfl ?_
                    refine j_iconst hx dX12_sets_278 ?_
                    refine j_icmp_ge hx 286 dX12_sets_279 rfl ⟨by decide, by decide⟩ ⟨by decide, by decide⟩ (fun h28 => absurd h28 (by omega)) (fun h28 => ?_)
                    refine j_iconst hx dX12_sets_282 ?_
                    refine j_goto hx 287 dX12_sets_283 rfl ?_
                    refine j_iast hx hG (zr (k := 37) (t2 := 94) hG ha rfl) (by decide) rfl (zlen hG (zr (k := 37) (t2 := 94) hG ha rfl) (n := 6) rfl rfl) (by omega) (by omega) (j := 2) rfl dX12_sets_287 ?_
                    obtain ⟨s32, e_s32⟩ : ∃ z, z = zU s31 (gP G a 37) 2 1 := ⟨_, rfl⟩
                    rw [← e_s32]
                    have hS_s32 : zSK G s32 := by rw [e_s32]; exact zSK_A hS_s31 (zr (k := 37) (t2 := 94) hG ha rfl) rfl rfl rfl (by omega)
                    refine j_iinc hx 0 [(2, .int (zI 3)), (3, .int (zI 0)), (1, .int (zI 0)), (0, .ref a)] dX12_sets_288 rfl (by omega) (by decide) rfl ?_
                    refine j_goto hx 266 dX12_sets_291 rfl ?_
                    refine j_iload_n hx 0 dX12_sets_266 rfl ?_
                    refine j_bipush hx dX12_sets_267 rfl ?_
                    refine j_icmp_ge hx 294 dX12_sets_269 rfl ⟨by decide, by decide⟩ ⟨by decide, by decide⟩ (fun h29 => absurd h29 (by omega)) (fun h29 => ?_)
                    refine j_aload_n hx 3 dX12_sets_272 rfl ?_
                    refine g13_37 hx hG ha kf_RX12_86 dX12_sets_273 ?_
                    refine j_iload_n hx 0 dX12_sets_276 rfl ?_
                    refine j_iload_n hx 0 dX12_sets_277 rfl ?_
                    refine j_iconst hx dX12_sets_278 ?_
                    refine j_icmp_ge hx 286 dX12_sets_279 rfl ⟨by decide, by decide⟩ ⟨by decide, by decide⟩ (fun h30 => ?_) (fun h30 => absurd h30 (by omega))
                    refine j_iconst hx dX12_sets_286 ?_
                    refine j_iast hx hG (zr (k := 37) (t2 := 94) hG ha rfl) (by decide) rfl (zlen hG (zr (k := 37) (t2 := 94) hG ha rfl) (n := 6) rfl rfl) (by omega) (by omega) (j := 3) rfl dX12_sets_287 ?_
                    obtain ⟨s33, e_s33⟩ : ∃ z, z = zU s32 (gP G a 37) 3 0 := ⟨_, rfl⟩
                    rw [← e_s33]
                    have hS_s33 : zSK G s33 := by rw [e_s33]; exact zSK_A hS_s32 (zr (k := 37) (t2 := 94) hG ha rfl) rfl rfl rfl (by omega)
                    refine j_iinc hx 0 [(2, .int (zI 4)), (3, .int (zI 0)), (1, .int (zI 0)), (0, .ref a)] dX12_sets_288 rfl (by omega) (by decide) rfl ?_
                    refine j_goto hx 266 dX12_sets_291 rfl ?_
                    refine j_iload_n hx 0 dX12_sets_266 rfl ?_
                    refine j_bipush hx dX12_sets_267 rfl ?_
                    refine j_icmp_ge hx 294 dX12_sets_269 rfl ⟨by decide, by decide⟩ ⟨by decide, by decide⟩ (fun h31 => absurd h31 (by omega)) (fun h31 => ?_)
                    refine j_aload_n hx 3 dX12_sets_272 rfl ?_
                    refine g13_37 hx hG ha kf_RX12_86 dX12_sets_273 ?_
                    refine j_iload_n hx 0 dX12_sets_276 rfl ?_
                    refine j_iload_n hx 0 dX12_sets_277 rfl ?_
                    refine j_iconst hx dX12_sets_278 ?_
                    refine j_icmp_ge hx 286 dX12_sets_279 rfl ⟨by decide, by decide⟩ ⟨by decide, by decide⟩ (fun h32 => ?_) (fun h32 => absurd h32 (by omega))
                    refine j_iconst hx dX12_sets_286 ?_
                    refine j_iast hx hG (zr (k := 37) (t2 := 94) hG ha rfl) (by decide) rfl (zlen hG (zr (k := 37) (t2 := 94) hG ha rfl) (n := 6) rfl rfl) (by omega) (by omega) (j := 4) rfl dX12_sets_287 ?_
                    obtain ⟨s34, e_s34⟩ : ∃ z, z = zU s33 (gP G a 37) 4 0 := ⟨_, rfl⟩
                    rw [← e_s34]
                    have hS_s34 : zSK G s34 := by rw [e_s34]; exact zSK_A hS_s33 (zr (k := 37) (t2 := 94) hG ha rfl) rfl rfl rfl (by omega)
                    refine j_iinc hx 0 [(2, .int (zI 5)), (3, .int (zI 0)), (1, .int (zI 0)), (0, .ref a)] dX12_sets_288 rfl (by omega) (by decide) rfl ?_
                    refine j_goto hx 266 dX12_sets_291 rfl ?_
                    refine j_iload_n hx 0 dX12_sets_266 rfl ?_
                    refine j_bipush hx dX12_sets_267 rfl ?_
                    refine j_icmp_ge hx 294 dX12_sets_269 rfl ⟨by decide, by decide⟩ ⟨by decide, by decide⟩ (fun h33 => absurd h33 (by omega)) (fun h33 => ?_)
                    refine j_aload_n hx 3 dX12_sets_272 rfl ?_
                    refine g13_37 hx hG ha kf_RX12_86 dX12_sets_273 ?_
                    refine j_iload_n hx 0 dX12_sets_276 rfl ?_
                    refine j_iload_n hx 0 dX12_sets_277 rfl ?_
                    refine j_iconst hx dX12_sets_278 ?_
                    refine j_icmp_ge hx 286 dX12_sets_279 rfl ⟨by decide, by decide⟩ ⟨by decide, by decide⟩ (fun h34 => ?_) (fun h34 => absurd h34 (by omega))
                    refine j_iconst hx dX12_sets_286 ?_
                    refine j_iast hx hG (zr (k := 37) (t2 := 94) hG ha rfl) (by decide) rfl (zlen hG (zr (k := 37) (t2 := 94) hG ha rfl) (n := 6) rfl rfl) (by omega) (by omega) (j := 5) rfl dX12_sets_287 ?_
                    obtain ⟨s35, e_s35⟩ : ∃ z, z = zU s34 (gP G a 37) 5 0 := ⟨_, rfl⟩
                    rw [← e_s35]
                    have hS_s35 : zSK G s35 := by rw [e_s35]; exact zSK_A hS_s34 (zr (k := 37) (t2 := 94) hG ha rfl) rfl rfl rfl (by omega)
                    refine j_iinc hx 0 [(2, .int (zI 6)), (3, .int (zI 0)), (1, .int (zI 0)), (0, .ref a)] dX12_sets_288 rfl (by omega) (by decide) rfl ?_
                    refine j_goto hx 266 dX12_sets_291 rfl ?_
                    refine j_iload_n hx 0 dX12_sets_266 rfl ?_
                    refine j_bipush hx dX12_sets_267 rfl ?_
                    refine j_icmp_ge hx 294 dX12_sets_269 rfl ⟨by decide, by decide⟩ ⟨by decide, by decide⟩ (fun h35 => ?_) (fun h35 => absurd h35 (by omega))
                    refine j_iconst hx dX12_sets_294 ?_
                    refine j_istore_n hx [(2, .int (zI 0)), (3, .int (zI 0)), (1, .int (zI 0)), (0, .ref a)] dX12_sets_295 (by decide) rfl ?_
                    refine j_iload_n hx 0 dX12_sets_296 rfl ?_
                    refine j_iconst hx dX12_sets_297 ?_
                    refine j_icmp_ge hx 318 dX12_sets_298 rfl ⟨by decide, by decide⟩ ⟨by decide, by decide⟩ (fun h36 => absurd h36 (by omega)) (fun h36 => ?_)
                    refine j_aload_n hx 3 dX12_sets_301 rfl ?_
                    refine g13_34 hx hG ha kf_RX12_77 dX12_sets_302 ?_
                    refine j_sipush hx dX12_sets_305 rfl ?_
                    refine j_iload_n hx 0 dX12_sets_308 rfl ?_
                    refine j_imul hx (r := 0) dX12_sets_309 (by omega) ?_
                    refine j_iconst hx dX12_sets_310 ?_
                    refine j_iast hx hG (zr (k := 34) (t2 := 91) hG ha rfl) (by decide) rfl (zlen hG (zr (k := 34) (t2 := 91) hG ha rfl) (n := 900) rfl rfl) (by omega) (by omega) (j := 0) rfl dX12_sets_311 ?_
                    obtain ⟨s36, e_s36⟩ : ∃ z, z = zU s35 (gP G a 34) 0 1 := ⟨_, rfl⟩
                    rw [← e_s36]
                    have hS_s36 : zSK G s36 := by rw [e_s36]; exact zSK_A hS_s35 (zr (k := 34) (t2 := 91) hG ha rfl) rfl rfl rfl (by omega)
                    refine j_iinc hx 0 [(2, .int (zI 1)), (3, .int (zI 0)), (1, .int (zI 0)), (0, .ref a)] dX12_sets_312 rfl (by omega) (by decide) rfl ?_
                    refine j_goto hx 296 dX12_sets_315 rfl ?_
                    refine j_iload_n hx 0 dX12_sets_296 rfl ?_
                    refine j_iconst hx dX12_sets_297 ?_
                    refine j_icmp_ge hx 318 dX12_sets_298 rfl ⟨by decide, by decide⟩ ⟨by decide, by decide⟩ (fun h37 => absurd h37 (by omega)) (fun h37 => ?_)
                    refine j_aload_n hx 3 dX12_sets_301 rfl ?_
                    refine g13_34 hx hG ha kf_RX12_77 dX12_sets_302 ?_
                    refine j_sipush hx dX12_sets_305 rfl ?_
                    refine j_iload_n hx 0 dX12_sets_308 rfl ?_
                    refine j_imul hx (r := 150) dX12_sets_309 (by omega) ?_
                    refine j_iconst hx dX12_sets_310 ?_
                    refine j_iast hx hG (zr (k := 34) (t2 := 91) hG ha rfl) (by decide) rfl (zlen hG (zr (k := 34) (t2 := 91) hG ha rfl) (n := 900) rfl rfl) (by omega) (by omega) (j := 150) rfl dX12_sets_311 ?_
                    obtain ⟨s37, e_s37⟩ : ∃ z, z = zU s36 (gP G a 34) 150 1 := ⟨_, rfl⟩
                    rw [← e_s37]
                    have hS_s37 : zSK G s37 := by rw [e_s37]; exact zSK_A hS_s36 (zr (k := 34) (t2 := 91) hG ha rfl) rfl rfl rfl (by omega)
                    refine j_iinc hx 0 [(2, .int (zI 2)), (3, .int (zI 0)), (1, .int (zI 0)), (0, .ref a)] dX12_sets_312 rfl (by omega) (by decide) rfl ?_
                    refine j_goto hx 296 dX12_sets_315 rfl ?_
                    refine j_iload_n hx 0 dX12_sets_296 rfl ?_
                    refine j_iconst hx dX12_sets_297 ?_
                    refine j_icmp_ge hx 318 dX12_sets_298 rfl ⟨by decide, by decide⟩ ⟨by decide, by decide⟩ (fun h38 => absurd h38 (by omega)) (fun h38 => ?_)
                    refine j_aload_n hx 3 dX12_sets_301 rfl ?_
                    refine g13_34 hx hG ha kf_RX12_77 dX12_sets_302 ?_
                    refine j_sipush hx dX12_sets_305 rfl ?_
                    refine j_iload_n hx 0 dX12_sets_308 rfl ?_
                    refine j_imul hx (r := 300) dX12_sets_309 (by omega) ?_
                    refine j_iconst hx dX12_sets_310 ?_
                    refine j_iast hx hG (zr (k := 34) (t2 := 91) hG ha rfl) (by decide) rfl (zlen hG (zr (k := 34) (t2 := 91) hG ha rfl) (n := 900) rfl rfl) (by omega) (by omega) (j := 300) rfl dX12_sets_311 ?_
                    obtain ⟨s38, e_s38⟩ : ∃ z, z = zU s37 (gP G a 34) 300 1 := ⟨_, rfl⟩
                    rw [← e_s38]
                    have hS_s38 : zSK G s38 := by rw [e_s38]; exact zSK_A hS_s37 (zr (k := 34) (t2 := 91) hG ha rfl) rfl rfl rfl (by omega)
                    refine j_iinc hx 0 [(2, .int (zI 3)), (3, .int (zI 0)), (1, .int (zI 0)), (0, .ref a)] dX12_sets_312 rfl (by omega) (by decide) rfl ?_
                    refine j_goto hx 296 dX12_sets_315 rfl ?_
                    refine j_iload_n hx 0 dX12_sets_296 rfl ?_
                    refine j_iconst hx dX12_sets_297 ?_
                    refine j_icmp_ge hx 318 dX12_sets_298 rfl ⟨by decide, by decide⟩ ⟨by decide, by decide⟩ (fun h39 => ?_) (fun h39 => absurd h39 (by omega))
                    refine j_aload_n hx 3 dX12_sets_318 rfl ?_
                    refine j_iconst hx dX12_sets_319 ?_
                    refine p13_41 hx hG ha kf_RX12_198 dX12_sets_320 ?_
                    obtain ⟨s39, e_s39⟩ : ∃ z, z = zU s38 a 41 0 := ⟨_, rfl⟩
                    rw [← e_s39]
                    have hS_s39 : zSK G s39 := by rw [e_s39]; exact zSK_F hS_s38 ha rfl rfl rfl (by omega)
                    refine j_aload_n hx 3 dX12_sets_323 rfl ?_
                    refine j_iconst hx dX12_sets_324 ?_
                    refine p13_58 hx hG ha kf_RX12_201 dX12_sets_325 ?_
                    obtain ⟨s40, e_s40⟩ : ∃ z, z = zU s39 a 58 0 := ⟨_, rfl⟩
                    rw [← e_s40]
                    have hS_s40 : zSK G s40 := by rw [e_s40]; exact zSK_F hS_s39 ha rfl rfl rfl (by omega)
                    refine j_aload_n hx 3 dX12_sets_328 rfl ?_
                    refine j_callV hx hG (c_X12_forgets hst a) lk_RX12_204 ha (by decide) rfl rfl rfl rfl [] ⟨rfl, hG, hS_s40, ha⟩ rfl rfl ⟨by decide, by decide⟩ ⟨by decide, by decide⟩ (k2 := 0) (n2 := 0) rfl rfl (Nat.le_of_ble_eq_true rfl) dX12_sets_329 (kVM (fun s41 hS_s41 hF_s41 q41 => ?_))
                    refine j_aload_n hx 3 dX12_sets_332 rfl ?_
                    have g42 : s41 (gP G a 27) 487 = (s0 a 21) - 1 := (by rw [(zFr_g hF_s41 (zr (k := 27) (t2 := 84) hG ha rfl) (by decide)), e_s40, zU_at (Or.inl (zne ha (zr (k := 27) (t2 := 84) hG ha rfl) (by decide))), e_s39, zU_at (Or.inl (zne ha (zr (k := 27) (t2 := 84) hG ha rfl) (by decide))), e_s38, zU_at (Or.inl (zne (zr (k := 34) (t2 := 91) hG ha rfl) (zr (k := 27) (t2 := 84) hG ha rfl) (by decide))), e_s37, zU_at (Or.inl (zne (zr (k := 34) (t2 := 91) hG ha rfl) (zr (k := 27) (t2 := 84) hG ha rfl) (by decide))), e_s36, zU_at (Or.inl (zne (zr (k := 34) (t2 := 91) hG ha rfl) (zr (k := 27) (t2 := 84) hG ha rfl) (by decide))), e_s35, zU_at (Or.inl (zne (zr (k := 37) (t2 := 94) hG ha rfl) (zr (k := 27) (t2 := 84) hG ha rfl) (by decide))), e_s34, zU_at (Or.inl (zne (zr (k := 37) (t2 := 94) hG ha rfl) (zr (k := 27) (t2 := 84) hG ha rfl) (by decide))), e_s33, zU_at (Or.inl (zne (zr (k := 37) (t2 := 94) hG ha rfl) (zr (k := 27) (t2 := 84) hG ha rfl) (by decide))), e_s32, zU_at (Or.inl (zne (zr (k := 37) (t2 := 94) hG ha rfl) (zr (k := 27) (t2 := 84) hG ha rfl) (by decide))), e_s31, zU_at (Or.inl (zne (zr (k := 37) (t2 := 94) hG ha rfl) (zr (k := 27) (t2 := 84) hG ha rfl) (by decide))), e_s30, zU_at (Or.inl (zne (zr (k := 37) (t2 := 94) hG ha rfl) (zr (k := 27) (t2 := 84) hG ha rfl) (by decide))), e_s29, zU_eq])
                    refine j_callV hx hG (c_X12_stays_i hst a) lk_RX12_207 ha (by decide) rfl rfl rfl rfl [] ⟨rfl, hG, hS_s41, ha, ((zAe_f (zAe_u (zAe_u (zAe_u (zAe_u (zAe_u (zAe_u (zAe_u (zAe_u (zAe_u (zAe_u (zAe_u (zAe_u (zAe_u (zAe_u (zAe_u (zAe_u (zAe_u (zAe_u (zAe_u (zAe_u (zAe_u (zAe_f (zAe_f (zAe_f (zAe_u (zAe_u (zAe_u e0 e_s1 (zne ha (zr (k := 28) (t2 := 85) hG ha rfl) (by decide))) e_s2 (zne ha (zr (k := 28) (t2 := 85) hG ha rfl) (by decide))) e_s3 (zne ha (zr (k := 28) (t2 := 85) hG ha rfl) (by decide))) hF_s5 (zr (k := 28) (t2 := 85) hG ha rfl) (by decide)) hF_s10 (zr (k := 28) (t2 := 85) hG ha rfl) (by decide)) hF_s15 (zr (k := 28) (t2 := 85) hG ha rfl) (by decide)) e_s20 (zne (zr (k := 18) (t2 := 81) hG ha rfl) (zr (k := 28) (t2 := 85) hG ha rfl) (by decide))) e_s21 (zne (zr (k := 27) (t2 := 84) hG ha rfl) (zr (k := 28) (t2 := 85) hG ha rfl) (by decide))) e_s22 (zne (zr (k := 27) (t2 := 84) hG ha rfl) (zr (k := 28) (t2 := 85) hG ha rfl) (by decide))) e_s23 (zne (zr (k := 18) (t2 := 81) hG ha rfl) (zr (k := 28) (t2 := 85) hG ha rfl) (by decide))) e_s24 (zne (zr (k := 27) (t2 := 84) hG ha rfl) (zr (k := 28) (t2 := 85) hG ha rfl) (by decide))) e_s25 (zne (zr (k := 27) (t2 := 84) hG ha rfl) (zr (k := 28) (t2 := 85) hG ha rfl) (by decide))) e_s26 (zne (zr (k := 18) (t2 := 81) hG ha rfl) (zr (k := 28) (t2 := 85) hG ha rfl) (by decide))) e_s27 (zne (zr (k := 27) (t2 := 84) hG ha rfl) (zr (k := 28) (t2 := 85) hG ha rfl) (by decide))) e_s28 (zne (zr (k := 27) (t2 := 84) hG ha rfl) (zr (k := 28) (t2 := 85) hG ha rfl) (by decide))) e_s29 (zne (zr (k := 27) (t2 := 84) hG ha rfl) (zr (k := 28) (t2 := 85) hG ha rfl) (by decide))) e_s30 (zne (zr (k := 37) (t2 := 94) hG ha rfl) (zr (k := 28) (t2 := 85) hG ha rfl) (by decide))) e_s31 (zne (zr (k := 37) (t2 := 94) hG ha rfl) (zr (k := 28) (t2 := 85) hG ha rfl) (by decide))) e_s32 (zne (zr (k := 37) (t2 := 94) hG ha rfl) (zr (k := 28) (t2 := 85) hG ha rfl) (by decide))) e_s33 (zne (zr (k := 37) (t2 := 94) hG ha rfl) (zr (k := 28) (t2 := 85) hG ha rfl) (by decide))) e_s34 (zne (zr (k := 37) (t2 := 94) hG ha rfl) (zr (k := 28) (t2 := 85) hG ha rfl) (by decide))) e_s35 (zne (zr (k := 37) (t2 := 94) hG ha rfl) (zr (k := 28) (t2 := 85) hG ha rfl) (by decide))) e_s36 (zne (zr (k := 34) (t2 := 91) hG ha rfl) (zr (k := 28) (t2 := 85) hG ha rfl) (by decide))) e_s37 (zne (zr (k := 34) (t2 := 91) hG ha rfl) (zr (k := 28) (t2 := 85) hG ha rfl) (by decide))) e_s38 (zne (zr (k := 34) (t2 := 91) hG ha rfl) (zr (k := 28) (t2 := 85) hG ha rfl) (by decide))) e_s39 (zne ha (zr (k := 28) (t2 := 85) hG ha rfl) (by decide))) e_s40 (zne ha (zr (k := 28) (t2 := 85) hG ha rfl) (by decide))) hF_s41 (zr (k := 28) (t2 := 85) hG ha rfl) (by decide))), ((zAe_f (zAe_u (zAe_u (zAe_u (zAe_u (zAe_u (zAe_u (zAe_u (zAe_u (zAe_u (zAe_u (zAe_u (zAe_j (zAe_k (zAe_k (zAe_u (zAe_k (zAe_k (zAe_u (zAe_k (zAe_k (zAe_u fA19 e_s20 (zne (zr (k := 18) (t2 := 81) hG ha rfl) (zr (k := 27) (t2 := 84) hG ha rfl) (by decide))) e_s21 (by omega)) e_s22 (by omega)) e_s23 (zne (zr (k := 18) (t2 := 81) hG ha rfl) (zr (k := 27) (t2 := 84) hG ha rfl) (by decide))) e_s24 (by omega)) e_s25 (by omega)) e_s26 (zne (zr (k := 18) (t2 := 81) hG ha rfl) (zr (k := 27) (t2 := 84) hG ha rfl) (by decide))) e_s27 (by omega)) e_s28 (by omega)) e_s29 rfl) e_s30 (zne (zr (k := 37) (t2 := 94) hG ha rfl) (zr (k := 27) (t2 := 84) hG ha rfl) (by decide))) e_s31 (zne (zr (k := 37) (t2 := 94) hG ha rfl) (zr (k := 27) (t2 := 84) hG ha rfl) (by decide))) e_s32 (zne (zr (k := 37) (t2 := 94) hG ha rfl) (zr (k := 27) (t2 := 84) hG ha rfl) (by decide))) e_s33 (zne (zr (k := 37) (t2 := 94) hG ha rfl) (zr (k := 27) (t2 := 84) hG ha rfl) (by decide))) e_s34 (zne (zr (k := 37) (t2 := 94) hG ha rfl) (zr (k := 27) (t2 := 84) hG ha rfl) (by decide))) e_s35 (zne (zr (k := 37) (t2 := 94) hG ha rfl) (zr (k := 27) (t2 := 84) hG ha rfl) (by decide))) e_s36 (zne (zr (k := 34) (t2 := 91) hG ha rfl) (zr (k := 27) (t2 := 84) hG ha rfl) (by decide))) e_s37 (zne (zr (k := 34) (t2 := 91) hG ha rfl) (zr (k := 27) (t2 := 84) hG ha rfl) (by decide))) e_s38 (zne (zr (k := 34) (t2 := 91) hG ha rfl) (zr (k := 27) (t2 := 84) hG ha rfl) (by decide))) e_s39 (zne ha (zr (k := 27) (t2 := 84) hG ha rfl) (by decide))) e_s40 (zne ha (zr (k := 27) (t2 := 84) hG ha rfl) (by decide))) hF_s41 (zr (k := 27) (t2 := 84) hG ha rfl) (by decide))), (((by rw [(zFr_g hF_s41 (zr (k := 27) (t2 := 84) hG ha rfl) (by decide)), e_s40, zU_at (Or.inl (zne ha (zr (k := 27) (t2 := 84) hG ha rfl) (by decide))), e_s39, zU_at (Or.inl (zne ha (zr (k := 27) (t2 := 84) hG ha rfl) (by decide))), e_s38, zU_at (Or.inl (zne (zr (k := 34) (t2 := 91) hG ha rfl) (zr (k := 27) (t2 := 84) hG ha rfl) (by decide))), e_s37, zU_at (Or.inl (zne (zr (k := 34) (t2 := 91) hG ha rfl) (zr (k := 27) (t2 := 84) hG ha rfl) (by decide))), e_s36, zU_at (Or.inl (zne (zr (k := 34) (t2 := 91) hG ha rfl) (zr (k := 27) (t2 := 84) hG ha rfl) (by decide))), e_s35, zU_at (Or.inl (zne (zr (k := 37) (t2 := 94) hG ha rfl) (zr (k := 27) (t2 := 84) hG ha rfl) (by decide))), e_s34, zU_at (Or.inl (zne (zr (k := 37) (t2 := 94) hG ha rfl) (zr (k := 27) (t2 := 84) hG ha rfl) (by decide))), e_s33, zU_at (Or.inl (zne (zr (k := 37) (t2 := 94) hG ha rfl) (zr (k := 27) (t2 := 84) hG ha rfl) (by decide))), e_s32, zU_at (Or.inl (zne (zr (k := 37) (t2 := 94) hG ha rfl) (zr (k := 27) (t2 := 84) hG ha rfl) (by decide))), e_s31, zU_at (Or.inl (zne (zr (k := 37) (t2 := 94) hG ha rfl) (zr (k := 27) (t2 := 84) hG ha rfl) (by decide))), e_s30, zU_at (Or.inl (zne (zr (k := 37) (t2 := 94) hG ha rfl) (zr (k := 27) (t2 := 84) hG ha rfl) (by decide))), e_s29, zU_eq]) : s41 (gP G a 27) 487 = (s0 a 21) - 1).trans (by omega))⟩ rfl rfl ⟨by decide, by decide⟩ ⟨by decide, by decide⟩ (k2 := 0) (n2 := 0) rfl rfl (Nat.le_of_ble_eq_true rfl) dX12_sets_333 (kVM (fun s42 hS_s42 hF_s42 q44 => ?_))
                    have g45 : s42 (gP G a 27) 487 = (s0 a 21) - 1 := (by rw [(zFr_g hF_s42 (zr (k := 27) (t2 := 84) hG ha rfl) (by decide)), (zFr_g hF_s41 (zr (k := 27) (t2 := 84) hG ha rfl) (by decide)), e_s40, zU_at (Or.inl (zne ha (zr (k := 27) (t2 := 84) hG ha rfl) (by decide))), e_s39, zU_at (Or.inl (zne ha (zr (k := 27) (t2 := 84) hG ha rfl) (by decide))), e_s38, zU_at (Or.inl (zne (zr (k := 34) (t2 := 91) hG ha rfl) (zr (k := 27) (t2 := 84) hG ha rfl) (by decide))), e_s37, zU_at (Or.inl (zne (zr (k := 34) (t2 := 91) hG ha rfl) (zr (k := 27) (t2 := 84) hG ha rfl) (by decide))), e_s36, zU_at (Or.inl (zne (zr (k := 34) (t2 := 91) hG ha rfl) (zr (k := 27) (t2 := 84) hG ha rfl) (by decide))), e_s35, zU_at (Or.inl (zne (zr (k := 37) (t2 := 94) hG ha rfl) (zr (k := 27) (t2 := 84) hG ha rfl) (by decide))), e_s34, zU_at (Or.inl (zne (zr (k := 37) (t2 := 94) hG ha rfl) (zr (k := 27) (t2 := 84) hG ha rfl) (by decide))), e_s33, zU_at (Or.inl (zne (zr (k := 37) (t2 := 94) hG ha rfl) (zr (k := 27) (t2 := 84) hG ha rfl) (by decide))), e_s32, zU_at (Or.inl (zne (zr (k := 37) (t2 := 94) hG ha rfl) (zr (k := 27) (t2 := 84) hG ha rfl) (by decide))), e_s31, zU_at (Or.inl (zne (zr (k := 37) (t2 := 94) hG ha rfl) (zr (k := 27) (t2 := 84) hG ha rfl) (by decide))), e_s30, zU_at (Or.inl (zne (zr (k := 37) (t2 := 94) hG ha rfl) (zr (k := 27) (t2 := 84) hG ha rfl) (by decide))), e_s29, zU_eq])
                    have g46 : s42 (gP G a 18) 0 = (s0 (gP G a 11) 0) := (by rw [(zFr_g hF_s42 (zr (k := 18) (t2 := 81) hG ha rfl) (by decide)), (zFr_g hF_s41 (zr (k := 18) (t2 := 81) hG ha rfl) (by decide)), e_s40, zU_at (Or.inl (zne ha (zr (k := 18) (t2 := 81) hG ha rfl) (by decide))), e_s39, zU_at (Or.inl (zne ha (zr (k := 18) (t2 := 81) hG ha rfl) (by decide))), e_s38, zU_at (Or.inl (zne (zr (k := 34) (t2 := 91) hG ha rfl) (zr (k := 18) (t2 := 81) hG ha rfl) (by decide))), e_s37, zU_at (Or.inl (zne (zr (k := 34) (t2 := 91) hG ha rfl) (zr (k := 18) (t2 := 81) hG ha rfl) (by decide))), e_s36, zU_at (Or.inl (zne (zr (k := 34) (t2 := 91) hG ha rfl) (zr (k := 18) (t2 := 81) hG ha rfl) (by decide))), e_s35, zU_at (Or.inl (zne (zr (k := 37) (t2 := 94) hG ha rfl) (zr (k := 18) (t2 := 81) hG ha rfl) (by decide))), e_s34, zU_at (Or.inl (zne (zr (k := 37) (t2 := 94) hG ha rfl) (zr (k := 18) (t2 := 81) hG ha rfl) (by decide))), e_s33, zU_at (Or.inl (zne (zr (k := 37) (t2 := 94) hG ha rfl) (zr (k := 18) (t2 := 81) hG ha rfl) (by decide))), e_s32, zU_at (Or.inl (zne (zr (k := 37) (t2 := 94) hG ha rfl) (zr (k := 18) (t2 := 81) hG ha rfl) (by decide))), e_s31, zU_at (Or.inl (zne (zr (k := 37) (t2 := 94) hG ha rfl) (zr (k := 18) (t2 := 81) hG ha rfl) (by decide))), e_s30, zU_at (Or.inl (zne (zr (k := 37) (t2 := 94) hG ha rfl) (zr (k := 18) (t2 := 81) hG ha rfl) (by decide))), e_s29, zU_at (Or.inl (zne (zr (k := 27) (t2 := 84) hG ha rfl) (zr (k := 18) (t2 := 81) hG ha rfl) (by decide))), e_s28, zU_at (Or.inl (zne (zr (k := 27) (t2 := 84) hG ha rfl) (zr (k := 18) (t2 := 81) hG ha rfl) (by decide))), e_s27, zU_at (Or.inl (zne (zr (k := 27) (t2 := 84) hG ha rfl) (zr (k := 18) (t2 := 81) hG ha rfl) (by decide))), e_s26, zU_at (Or.inr (by decide)), e_s25, zU_at (Or.inl (zne (zr (k := 27) (t2 := 84) hG ha rfl) (zr (k := 18) (t2 := 81) hG ha rfl) (by decide))), e_s24, zU_at (Or.inl (zne (zr (k := 27) (t2 := 84) hG ha rfl) (zr (k := 18) (t2 := 81) hG ha rfl) (by decide))), e_s23, zU_at (Or.inr (by decide)), e_s22, zU_at (Or.inl (zne (zr (k := 27) (t2 := 84) hG ha rfl) (zr (k := 18) (t2 := 81) hG ha rfl) (by decide))), e_s21, zU_at (Or.inl (zne (zr (k := 27) (t2 := 84) hG ha rfl) (zr (k := 18) (t2 := 81) hG ha rfl) (by decide))), e_s20, zU_eq])
                    have g47 : s42 (gP G a 18) 1 = (s0 (gP G a 11) 1) := (by rw [(zFr_g hF_s42 (zr (k := 18) (t2 := 81) hG ha rfl) (by decide)), (zFr_g hF_s41 (zr (k := 18) (t2 := 81) hG ha rfl) (by decide)), e_s40, zU_at (Or.inl (zne ha (zr (k := 18) (t2 := 81) hG ha rfl) (by decide))), e_s39, zU_at (Or.inl (zne ha (zr (k := 18) (t2 := 81) hG ha rfl) (by decide))), e_s38, zU_at (Or.inl (zne (zr (k := 34) (t2 := 91) hG ha rfl) (zr (k := 18) (t2 := 81) hG ha rfl) (by decide))), e_s37, zU_at (Or.inl (zne (zr (k := 34) (t2 := 91) hG ha rfl) (zr (k := 18) (t2 := 81) hG ha rfl) (by decide))), e_s36, zU_at (Or.inl (zne (zr (k := 34) (t2 := 91) hG ha rfl) (zr (k := 18) (t2 := 81) hG ha rfl) (by decide))), e_s35, zU_at (Or.inl (zne (zr (k := 37) (t2 := 94) hG ha rfl) (zr (k := 18) (t2 := 81) hG ha rfl) (by decide))), e_s34, zU_at (Or.inl (zne (zr (k := 37) (t2 := 94) hG ha rfl) (zr (k := 18) (t2 := 81) hG ha rfl) (by decide))), e_s33, zU_at (Or.inl (zne (zr (k := 37) (t2 := 94) hG ha rfl) (zr (k := 18) (t2 := 81) hG ha rfl) (by decide))), e_s32, zU_at (Or.inl (zne (zr (k := 37) (t2 := 94) hG ha rfl) (zr (k := 18) (t2 := 81) hG ha rfl) (by decide))), e_s31, zU_at (Or.inl (zne (zr (k := 37) (t2 := 94) hG ha rfl) (zr (k := 18) (t2 := 81) hG ha rfl) (by decide))), e_s30, zU_at (Or.inl (zne (zr (k := 37) (t2 := 94) hG ha rfl) (zr (k := 18) (t2 := 81) hG ha rfl) (by decide))), e_s29, zU_at (Or.inl (zne (zr (k := 27) (t2 := 84) hG ha rfl) (zr (k := 18) (t2 := 81) hG ha rfl) (by decide))), e_s28, zU_at (Or.inl (zne (zr (k := 27) (t2 := 84) hG ha rfl) (zr (k := 18) (t2 := 81) hG ha rfl) (by decide))), e_s27, zU_at (Or.inl (zne (zr (k := 27) (t2 := 84) hG ha rfl) (zr (k := 18) (t2 := 81) hG ha rfl) (by decide))), e_s26, zU_at (Or.inr (by decide)), e_s25, zU_at (Or.inl (zne (zr (k := 27) (t2 := 84) hG ha rfl) (zr (k := 18) (t2 := 81) hG ha rfl) (by decide))), e_s24, zU_at (Or.inl (zne (zr (k := 27) (t2 := 84) hG ha rfl) (zr (k := 18) (t2 := 81) hG ha rfl) (by decide))), e_s23, zU_eq])
                    have g48 : s42 (gP G a 18) 2 = (s0 (gP G a 11) 2) := (by rw [(zFr_g hF_s42 (zr (k := 18) (t2 := 81) hG ha rfl) (by decide)), (zFr_g hF_s41 (zr (k := 18) (t2 := 81) hG ha rfl) (by decide)), e_s40, zU_at (Or.inl (zne ha (zr (k := 18) (t2 := 81) hG ha rfl) (by decide))), e_s39, zU_at (Or.inl (zne ha (zr (k := 18) (t2 := 81) hG ha rfl) (by decide))), e_s38, zU_at (Or.inl (zne (zr (k := 34) (t2 := 91) hG ha rfl) (zr (k := 18) (t2 := 81) hG ha rfl) (by decide))), e_s37, zU_at (Or.inl (zne (zr (k := 34) (t2 := 91) hG ha rfl) (zr (k := 18) (t2 := 81) hG ha rfl) (by decide))), e_s36, zU_at (Or.inl (zne (zr (k := 34) (t2 := 91) hG ha rfl) (zr (k := 18) (t2 := 81) hG ha rfl) (by decide))), e_s35, zU_at (Or.inl (zne (zr (k := 37) (t2 := 94) hG ha rfl) (zr (k := 18) (t2 := 81) hG ha rfl) (by decide))), e_s34, zU_at (Or.inl (zne (zr (k := 37) (t2 := 94) hG ha rfl) (zr (k := 18) (t2 := 81) hG ha rfl) (by decide))), e_s33, zU_at (Or.inl (zne (zr (k := 37) (t2 := 94) hG ha rfl) (zr (k := 18) (t2 := 81) hG ha rfl) (by decide))), e_s32, zU_at (Or.inl (zne (zr (k := 37) (t2 := 94) hG ha rfl) (zr (k := 18) (t2 := 81) hG ha rfl) (by decide))), e_s31, zU_at (Or.inl (zne (zr (k := 37) (t2 := 94) hG ha rfl) (zr (k := 18) (t2 := 81) hG ha rfl) (by decide))), e_s30, zU_at (Or.inl (zne (zr (k := 37) (t2 := 94) hG ha rfl) (zr (k := 18) (t2 := 81) hG ha rfl) (by decide))), e_s29, zU_at (Or.inl (zne (zr (k := 27) (t2 := 84) hG ha rfl) (zr (k := 18) (t2 := 81) hG ha rfl) (by decide))), e_s28, zU_at (Or.inl (zne (zr (k := 27) (t2 := 84) hG ha rfl) (zr (k := 18) (t2 := 81) hG ha rfl) (by decide))), e_s27, zU_at (Or.inl (zne (zr (k := 27) (t2 := 84) hG ha rfl) (zr (k := 18) (t2 := 81) hG ha rfl) (by decide))), e_s26, zU_eq])
                    have g49 : s42 (gP G a 37) 0 = 1 := (by rw [(zFr_g hF_s42 (zr (k := 37) (t2 := 94) hG ha rfl) (by decide)), (zFr_g hF_s41 (zr (k := 37) (t2 := 94) hG ha rfl) (by decide)), e_s40, zU_at (Or.inl (zne ha (zr (k := 37) (t2 := 94) hG ha rfl) (by decide))), e_s39, zU_at (Or.inl (zne ha (zr (k := 37) (t2 := 94) hG ha rfl) (by decide))), e_s38, zU_at (Or.inl (zne (zr (k := 34) (t2 := 91) hG ha rfl) (zr (k := 37) (t2 := 94) hG ha rfl) (by decide))), e_s37, zU_at (Or.inl (zne (zr (k := 34) (t2 := 91) hG ha rfl) (zr (k := 37) (t2 := 94) hG ha rfl) (by decide))), e_s36, zU_at (Or.inl (zne (zr (k := 34) (t2 := 91) hG ha rfl) (zr (k := 37) (t2 := 94) hG ha rfl) (by decide))), e_s35, zU_at (Or.inr (by decide)), e_s34, zU_at (Or.inr (by decide)), e_s33, zU_at (Or.inr (by decide)), e_s32, zU_at (Or.inr (by decide)), e_s31, zU_at (Or.inr (by decide)), e_s30, zU_eq])
                    have g50 : s42 (gP G a 37) 1 = 1 := (by rw [(zFr_g hF_s42 (zr (k := 37) (t2 := 94) hG ha rfl) (by decide)), (zFr_g hF_s41 (zr (k := 37) (t2 := 94) hG ha rfl) (by decide)), e_s40, zU_at (Or.inl (zne ha (zr (k := 37) (t2 := 94) hG ha rfl) (by decide))), e_s39, zU_at (Or.inl (zne ha (zr (k := 37) (t2 := 94) hG ha rfl) (by decide))), e_s38, zU_at (Or.inl (zne (zr (k := 34) (t2 := 91) hG ha rfl) (zr (k := 37) (t2 := 94) hG ha rfl) (by decide))), e_s37, zU_at (Or.inl (zne (zr (k := 34) (t2 := 91) hG ha rfl) (zr (k := 37) (t2 := 94) hG ha rfl) (by decide))), e_s36, zU_at (Or.inl (zne (zr (k := 34) (t2 := 91) hG ha rfl) (zr (k := 37) (t2 := 94) hG ha rfl) (by decide))), e_s35, zU_at (Or.inr (by decide)), e_s34, zU_at (Or.inr (by decide)), e_s33, zU_at (Or.inr (by decide)), e_s32, zU_at (Or.inr (by decide)), e_s31, zU_eq])
                    have g51 : s42 (gP G a 37) 2 = 1 := (by rw [(zFr_g hF_s42 (zr (k := 37) (t2 := 94) hG ha rfl) (by decide)), (zFr_g hF_s41 (zr (k := 37) (t2 := 94) hG ha rfl) (by decide)), e_s40, zU_at (Or.inl (zne ha (zr (k := 37) (t2 := 94) hG ha rfl) (by decide))), e_s39, zU_at (Or.inl (zne ha (zr (k := 37) (t2 := 94) hG ha rfl) (by decide))), e_s38, zU_at (Or.inl (zne (zr (k := 34) (t2 := 91) hG ha rfl) (zr (k := 37) (t2 := 94) hG ha rfl) (by decide))), e_s37, zU_at (Or.inl (zne (zr (k := 34) (t2 := 91) hG ha rfl) (zr (k := 37) (t2 := 94) hG ha rfl) (by decide))), e_s36, zU_at (Or.inl (zne (zr (k := 34) (t2 := 91) hG ha rfl) (zr (k := 37) (t2 := 94) hG ha rfl) (by decide))), e_s35, zU_at (Or.inr (by decide)), e_s34, zU_at (Or.inr (by decide)), e_s33, zU_at (Or.inr (by decide)), e_s32, zU_eq])
                    have g52 : s42 (gP G a 37) 3 = 0 := (by rw [(zFr_g hF_s42 (zr (k := 37) (t2 := 94) hG ha rfl) (by decide)), (zFr_g hF_s41 (zr (k := 37) (t2 := 94) hG ha rfl) (by decide)), e_s40, zU_at (Or.inl (zne ha (zr (k := 37) (t2 := 94) hG ha rfl) (by decide))), e_s39, zU_at (Or.inl (zne ha (zr (k := 37) (t2 := 94) hG ha rfl) (by decide))), e_s38, zU_at (Or.inl (zne (zr (k := 34) (t2 := 91) hG ha rfl) (zr (k := 37) (t2 := 94) hG ha rfl) (by decide))), e_s37, zU_at (Or.inl (zne (zr (k := 34) (t2 := 91) hG ha rfl) (zr (k := 37) (t2 := 94) hG ha rfl) (by decide))), e_s36, zU_at (Or.inl (zne (zr (k := 34) (t2 := 91) hG ha rfl) (zr (k := 37) (t2 := 94) hG ha rfl) (by decide))), e_s35, zU_at (Or.inr (by decide)), e_s34, zU_at (Or.inr (by decide)), e_s33, zU_eq])
                    have g53 : s42 (gP G a 37) 4 = 0 := (by rw [(zFr_g hF_s42 (zr (k := 37) (t2 := 94) hG ha rfl) (by decide)), (zFr_g hF_s41 (zr (k := 37) (t2 := 94) hG ha rfl) (by decide)), e_s40, zU_at (Or.inl (zne ha (zr (k := 37) (t2 := 94) hG ha rfl) (by decide))), e_s39, zU_at (Or.inl (zne ha (zr (k := 37) (t2 := 94) hG ha rfl) (by decide))), e_s38, zU_at (Or.inl (zne (zr (k := 34) (t2 := 91) hG ha rfl) (zr (k := 37) (t2 := 94) hG ha rfl) (by decide))), e_s37, zU_at (Or.inl (zne (zr (k := 34) (t2 := 91) hG ha rfl) (zr (k := 37) (t2 := 94) hG ha rfl) (by decide))), e_s36, zU_at (Or.inl (zne (zr (k := 34) (t2 := 91) hG ha rfl) (zr (k := 37) (t2 := 94) hG ha rfl) (by decide))), e_s35, zU_at (Or.inr (by decide)), e_s34, zU_eq])
                    have g54 : s42 (gP G a 37) 5 = 0 := (by rw [(zFr_g hF_s42 (zr (k := 37) (t2 := 94) hG ha rfl) (by decide)), (zFr_g hF_s41 (zr (k := 37) (t2 := 94) hG ha rfl) (by decide)), e_s40, zU_at (Or.inl (zne ha (zr (k := 37) (t2 := 94) hG ha rfl) (by decide))), e_s39, zU_at (Or.inl (zne ha (zr (k := 37) (t2 := 94) hG ha rfl) (by decide))), e_s38, zU_at (Or.inl (zne (zr (k := 34) (t2 := 91) hG ha rfl) (zr (k := 37) (t2 := 94) hG ha rfl) (by decide))), e_s37, zU_at (Or.inl (zne (zr (k := 34) (t2 := 91) hG ha rfl) (zr (k := 37) (t2 := 94) hG ha rfl) (by decide))), e_s36, zU_at (Or.inl (zne (zr (k := 34) (t2 := 91) hG ha rfl) (zr (k := 37) (t2 := 94) hG ha rfl) (by decide))), e_s35, zU_eq])
                    have g55 : s42 (gP G a 30) 0 = s41 (gP G a 30) 0 := (by rw [(zFr_g hF_s42 (zr (k := 30) (t2 := 87) hG ha rfl) (by decide))])
                    have g56 : s42 (gP G a 30) 1 = s41 (gP G a 30) 1 := (by rw [(zFr_g hF_s42 (zr (k := 30) (t2 := 87) hG ha rfl) (by decide))])
                    have g57 : s42 (gP G a 30) 2 = s41 (gP G a 30) 2 := (by rw [(zFr_g hF_s42 (zr (k := 30) (t2 := 87) hG ha rfl) (by decide))])
                    have g58 : s42 (gP G a 30) 3 = s41 (gP G a 30) 3 := (by rw [(zFr_g hF_s42 (zr (k := 30) (t2 := 87) hG ha rfl) (by decide))])
                    have g59 : s42 (gP G a 30) 4 = s41 (gP G a 30) 4 := (by rw [(zFr_g hF_s42 (zr (k := 30) (t2 := 87) hG ha rfl) (by decide))])
                    have g60 : s42 a 0 = s0 a 0 := (by rw [(zFr_g hF_s42 ha (by decide)), (zFr_g hF_s41 ha (by decide)), e_s40, zU_at (Or.inr (by decide)), e_s39, zU_at (Or.inr (by decide)), e_s38, zU_at (Or.inl (zne (zr (k := 34) (t2 := 91) hG ha rfl) ha (by decide))), e_s37, zU_at (Or.inl (zne (zr (k := 34) (t2 := 91) hG ha rfl) ha (by decide))), e_s36, zU_at (Or.inl (zne (zr (k := 34) (t2 := 91) hG ha rfl) ha (by decide))), e_s35, zU_at (Or.inl (zne (zr (k := 37) (t2 := 94) hG ha rfl) ha (by decide))), e_s34, zU_at (Or.inl (zne (zr (k := 37) (t2 := 94) hG ha rfl) ha (by decide))), e_s33, zU_at (Or.inl (zne (zr (k := 37) (t2 := 94) hG ha rfl) ha (by decide))), e_s32, zU_at (Or.inl (zne (zr (k := 37) (t2 := 94) hG ha rfl) ha (by decide))), e_s31, zU_at (Or.inl (zne (zr (k := 37) (t2 := 94) hG ha rfl) ha (by decide))), e_s30, zU_at (Or.inl (zne (zr (k := 37) (t2 := 94) hG ha rfl) ha (by decide))), e_s29, zU_at (Or.inl (zne (zr (k := 27) (t2 := 84) hG ha rfl) ha (by decide))), e_s28, zU_at (Or.inl (zne (zr (k := 27) (t2 := 84) hG ha rfl) ha (by decide))), e_s27, zU_at (Or.inl (zne (zr (k := 27) (t2 := 84) hG ha rfl) ha (by decide))), e_s26, zU_at (Or.inl (zne (zr (k := 18) (t2 := 81) hG ha rfl) ha (by decide))), e_s25, zU_at (Or.inl (zne (zr (k := 27) (t2 := 84) hG ha rfl) ha (by decide))), e_s24, zU_at (Or.inl (zne (zr (k := 27) (t2 := 84) hG ha rfl) ha (by decide))), e_s23, zU_at (Or.inl (zne (zr (k := 18) (t2 := 81) hG ha rfl) ha (by decide))), e_s22, zU_at (Or.inl (zne (zr (k := 27) (t2 := 84) hG ha rfl) ha (by decide))), e_s21, zU_at (Or.inl (zne (zr (k := 27) (t2 := 84) hG ha rfl) ha (by decide))), e_s20, zU_at (Or.inl (zne (zr (k := 18) (t2 := 81) hG ha rfl) ha (by decide))), (zFr_g hF_s15 ha (by decide)), (zFr_g hF_s10 ha (by decide)), (zFr_g hF_s5 ha (by decide)), e_s3, zU_at (Or.inr (by decide)), e_s2, zU_at (Or.inr (by decide)), e_s1, zU_at (Or.inr (by decide))])
                    have f61 := zf hS0 ha (k := 0) rfl
                    have g62 : s42 a 2 = s0 a 2 := (by rw [(zFr_g hF_s42 ha (by decide)), (zFr_g hF_s41 ha (by decide)), e_s40, zU_at (Or.inr (by decide)), e_s39, zU_at (Or.inr (by decide)), e_s38, zU_at (Or.inl (zne (zr (k := 34) (t2 := 91) hG ha rfl) ha (by decide))), e_s37, zU_at (Or.inl (zne (zr (k := 34) (t2 := 91) hG ha rfl) ha (by decide))), e_s36, zU_at (Or.inl (zne (zr (k := 34) (t2 := 91) hG ha rfl) ha (by decide))), e_s35, zU_at (Or.inl (zne (zr (k := 37) (t2 := 94) hG ha rfl) ha (by decide))), e_s34, zU_at (Or.inl (zne (zr (k := 37) (t2 := 94) hG ha rfl) ha (by decide))), e_s33, zU_at (Or.inl (zne (zr (k := 37) (t2 := 94) hG ha rfl) ha (by decide))), e_s32, zU_at (Or.inl (zne (zr (k := 37) (t2 := 94) hG ha rfl) ha (by decide))), e_s31, zU_at (Or.inl (zne (zr (k := 37) (t2 := 94) hG ha rfl) ha (by decide))), e_s30, zU_at (Or.inl (zne (zr (k := 37) (t2 := 94) hG ha rfl) ha (by decide))), e_s29, zU_at (Or.inl (zne (zr (k := 27) (t2 := 84) hG ha rfl) ha (by decide))), e_s28, zU_at (Or.inl (zne (zr (k := 27) (t2 := 84) hG ha rfl) ha (by decide))), e_s27, zU_at (Or.inl (zne (zr (k := 27) (t2 := 84) hG ha rfl) ha (by decide))), e_s26, zU_at (Or.inl (zne (zr (k := 18) (t2 := 81) hG ha rfl) ha (by decide))), e_s25, zU_at (Or.inl (zne (zr (k := 27) (t2 := 84) hG ha rfl) ha (by decide))), e_s24, zU_at (Or.inl (zne (zr (k := 27) (t2 := 84) hG ha rfl) ha (by decide))), e_s23, zU_at (Or.inl (zne (zr (k := 18) (t2 := 81) hG ha rfl) ha (by decide))), e_s22, zU_at (Or.inl (zne (zr (k := 27) (t2 := 84) hG ha rfl) ha (by decide))), e_s21, zU_at (Or.inl (zne (zr (k := 27) (t2 := 84) hG ha rfl) ha (by decide))), e_s20, zU_at (Or.inl (zne (zr (k := 18) (t2 := 81) hG ha rfl) ha (by decide))), (zFr_g hF_s15 ha (by decide)), (zFr_g hF_s10 ha (by decide)), (zFr_g hF_s5 ha (by decide)), e_s3, zU_at (Or.inr (by decide)), e_s2, zU_at (Or.inr (by decide)), e_s1, zU_at (Or.inr (by decide))])
                    have f63 := zf hS0 ha (k := 2) rfl
                    have g64 : s42 a 5 = s0 a 5 := (by rw [(zFr_g hF_s42 ha (by decide)), (zFr_g hF_s41 ha (by decide)), e_s40, zU_at (Or.inr (by decide)), e_s39, zU_at (Or.inr (by decide)), e_s38, zU_at (Or.inl (zne (zr (k := 34) (t2 := 91) hG ha rfl) ha (by decide))), e_s37, zU_at (Or.inl (zne (zr (k := 34) (t2 := 91) hG ha rfl) ha (by decide))), e_s36, zU_at (Or.inl (zne (zr (k := 34) (t2 := 91) hG ha rfl) ha (by decide))), e_s35, zU_at (Or.inl (zne (zr (k := 37) (t2 := 94) hG ha rfl) ha (by decide))), e_s34, zU_at (Or.inl (zne (zr (k := 37) (t2 := 94) hG ha rfl) ha (by decide))), e_s33, zU_at (Or.inl (zne (zr (k := 37) (t2 := 94) hG ha rfl) ha (by decide))), e_s32, zU_at (Or.inl (zne (zr (k := 37) (t2 := 94) hG ha rfl) ha (by decide))), e_s31, zU_at (Or.inl (zne (zr (k := 37) (t2 := 94) hG ha rfl) ha (by decide))), e_s30, zU_at (Or.inl (zne (zr (k := 37) (t2 := 94) hG ha rfl) ha (by decide))), e_s29, zU_at (Or.inl (zne (zr (k := 27) (t2 := 84) hG ha rfl) ha (by decide))), e_s28, zU_at (Or.inl (zne (zr (k := 27) (t2 := 84) hG ha rfl) ha (by decide))), e_s27, zU_at (Or.inl (zne (zr (k := 27) (t2 := 84) hG ha rfl) ha (by decide))), e_s26, zU_at (Or.inl (zne (zr (k := 18) (t2 := 81) hG ha rfl) ha (by decide))), e_s25, zU_at (Or.inl (zne (zr (k := 27) (t2 := 84) hG ha rfl) ha (by decide))), e_s24, zU_at (Or.inl (zne (zr (k := 27) (t2 := 84) hG ha rfl) ha (by decide))), e_s23, zU_at (Or.inl (zne (zr (k := 18) (t2 := 81) hG ha rfl) ha (by decide))), e_s22, zU_at (Or.inl (zne (zr (k := 27) (t2 := 84) hG ha rfl) ha (by decide))), e_s21, zU_at (Or.inl (zne (zr (k := 27) (t2 := 84) hG ha rfl) ha (by decide))), e_s20, zU_at (Or.inl (zne (zr (k := 18) (t2 := 81) hG ha rfl) ha (by decide))), (zFr_g hF_s15 ha (by decide)), (zFr_g hF_s10 ha (by decide)), (zFr_g hF_s5 ha (by decide)), e_s3, zU_at (Or.inr (by decide)), e_s2, zU_at (Or.inr (by decide)), e_s1, zU_at (Or.inr (by decide))])
                    have f65 := zf hS0 ha (k := 5) rfl
                    have g66 : s42 a 6 = s0 a 6 := (by rw [(zFr_g hF_s42 ha (by decide)), (zFr_g hF_s41 ha (by decide)), e_s40, zU_at (Or.inr (by decide)), e_s39, zU_at (Or.inr (by decide)), e_s38, zU_at (Or.inl (zne (zr (k := 34) (t2 := 91) hG ha rfl) ha (by decide))), e_s37, zU_at (Or.inl (zne (zr (k := 34) (t2 := 91) hG ha rfl) ha (by decide))), e_s36, zU_at (Or.inl (zne (zr (k := 34) (t2 := 91) hG ha rfl) ha (by decide))), e_s35, zU_at (Or.inl (zne (zr (k := 37) (t2 := 94) hG ha rfl) ha (by decide))), e_s34, zU_at (Or.inl (zne (zr (k := 37) (t2 := 94) hG ha rfl) ha (by decide))), e_s33, zU_at (Or.inl (zne (zr (k := 37) (t2 := 94) hG ha rfl) ha (by decide))), e_s32, zU_at (Or.inl (zne (zr (k := 37) (t2 := 94) hG ha rfl) ha (by decide))), e_s31, zU_at (Or.inl (zne (zr (k := 37) (t2 := 94) hG ha rfl) ha (by decide))), e_s30, zU_at (Or.inl (zne (zr (k := 37) (t2 := 94) hG ha rfl) ha (by decide))), e_s29, zU_at (Or.inl (zne (zr (k := 27) (t2 := 84) hG ha rfl) ha (by decide))), e_s28, zU_at (Or.inl (zne (zr (k := 27) (t2 := 84) hG ha rfl) ha (by decide))), e_s27, zU_at (Or.inl (zne (zr (k := 27) (t2 := 84) hG ha rfl) ha (by decide))), e_s26, zU_at (Or.inl (zne (zr (k := 18) (t2 := 81) hG ha rfl) ha (by decide))), e_s25, zU_at (Or.inl (zne (zr (k := 27) (t2 := 84) hG ha rfl) ha (by decide))), e_s24, zU_at (Or.inl (zne (zr (k := 27) (t2 := 84) hG ha rfl) ha (by decide))), e_s23, zU_at (Or.inl (zne (zr (k := 18) (t2 := 81) hG ha rfl) ha (by decide))), e_s22, zU_at (Or.inl (zne (zr (k := 27) (t2 := 84) hG ha rfl) ha (by decide))), e_s21, zU_at (Or.inl (zne (zr (k := 27) (t2 := 84) hG ha rfl) ha (by decide))), e_s20, zU_at (Or.inl (zne (zr (k := 18) (t2 := 81) hG ha rfl) ha (by decide))), (zFr_g hF_s15 ha (by decide)), (zFr_g hF_s10 ha (by decide)), (zFr_g hF_s5 ha (by decide)), e_s3, zU_at (Or.inr (by decide)), e_s2, zU_at (Or.inr (by decide)), e_s1, zU_at (Or.inr (by decide))])
                    have f67 := zf hS0 ha (k := 6) rfl
                    have g68 : s42 a 8 = s0 a 8 := (by rw [(zFr_g hF_s42 ha (by decide)), (zFr_g hF_s41 ha (by decide)), e_s40, zU_at (Or.inr (by decide)), e_s39, zU_at (Or.inr (by decide)), e_s38, zU_at (Or.inl (zne (zr (k := 34) (t2 := 91) hG ha rfl) ha (by decide))), e_s37, zU_at (Or.inl (zne (zr (k := 34) (t2 := 91) hG ha rfl) ha (by decide))), e_s36, zU_at (Or.inl (zne (zr (k := 34) (t2 := 91) hG ha rfl) ha (by decide))), e_s35, zU_at (Or.inl (zne (zr (k := 37) (t2 := 94) hG ha rfl) ha (by decide))), e_s34, zU_at (Or.inl (zne (zr (k := 37) (t2 := 94) hG ha rfl) ha (by decide))), e_s33, zU_at (Or.inl (zne (zr (k := 37) (t2 := 94) hG ha rfl) ha (by decide))), e_s32, zU_at (Or.inl (zne (zr (k := 37) (t2 := 94) hG ha rfl) ha (by decide))), e_s31, zU_at (Or.inl (zne (zr (k := 37) (t2 := 94) hG ha rfl) ha (by decide))), e_s30, zU_at (Or.inl (zne (zr (k := 37) (t2 := 94) hG ha rfl) ha (by decide))), e_s29, zU_at (Or.inl (zne (zr (k := 27) (t2 := 84) hG ha rfl) ha (by decide))), e_s28, zU_at (Or.inl (zne (zr (k := 27) (t2 := 84) hG ha rfl) ha (by decide))), e_s27, zU_at (Or.inl (zne (zr (k := 27) (t2 := 84) hG ha rfl) ha (by decide))), e_s26, zU_at (Or.inl (zne (zr (k := 18) (t2 := 81) hG ha rfl) ha (by decide))), e_s25, zU_at (Or.inl (zne (zr (k := 27) (t2 := 84) hG ha rfl) ha (by decide))), e_s24, zU_at (Or.inl (zne (zr (k := 27) (t2 := 84) hG ha rfl) ha (by decide))), e_s23, zU_at (Or.inl (zne (zr (k := 18) (t2 := 81) hG ha rfl) ha (by decide))), e_s22, zU_at (Or.inl (zne (zr (k := 27) (t2 := 84) hG ha rfl) ha (by decide))), e_s21, zU_at (Or.inl (zne (zr (k := 27) (t2 := 84) hG ha rfl) ha (by decide))), e_s20, zU_at (Or.inl (zne (zr (k := 18) (t2 := 81) hG ha rfl) ha (by decide))), (zFr_g hF_s15 ha (by decide)), (zFr_g hF_s10 ha (by decide)), (zFr_g hF_s5 ha (by decide)), e_s3, zU_at (Or.inr (by decide)), e_s2, zU_at (Or.inr (by decide)), e_s1, zU_at (Or.inr (by decide))])
                    have f69 := zf hS0 ha (k := 8) rfl
                    have g70 : s42 a 51 = s0 a 51 := (by rw [(zFr_g hF_s42 ha (by decide)), (zFr_g hF_s41 ha (by decide)), e_s40, zU_at (Or.inr (by decide)), e_s39, zU_at (Or.inr (by decide)), e_s38, zU_at (Or.inl (zne (zr (k := 34) (t2 := 91) hG ha rfl) ha (by decide))), e_s37, zU_at (Or.inl (zne (zr (k := 34) (t2 := 91) hG ha rfl) ha (by decide))), e_s36, zU_at (Or.inl (zne (zr (k := 34) (t2 := 91) hG ha rfl) ha (by decide))), e_s35, zU_at (Or.inl (zne (zr (k := 37) (t2 := 94) hG ha rfl) ha (by decide))), e_s34, zU_at (Or.inl (zne (zr (k := 37) (t2 := 94) hG ha rfl) ha (by decide))), e_s33, zU_at (Or.inl (zne (zr (k := 37) (t2 := 94) hG ha rfl) ha (by decide))), e_s32, zU_at (Or.inl (zne (zr (k := 37) (t2 := 94) hG ha rfl) ha (by decide))), e_s31, zU_at (Or.inl (zne (zr (k := 37) (t2 := 94) hG ha rfl) ha (by decide))), e_s30, zU_at (Or.inl (zne (zr (k := 37) (t2 := 94) hG ha rfl) ha (by decide))), e_s29, zU_at (Or.inl (zne (zr (k := 27) (t2 := 84) hG ha rfl) ha (by decide))), e_s28, zU_at (Or.inl (zne (zr (k := 27) (t2 := 84) hG ha rfl) ha (by decide))), e_s27, zU_at (Or.inl (zne (zr (k := 27) (t2 := 84) hG ha rfl) ha (by decide))), e_s26, zU_at (Or.inl (zne (zr (k := 18) (t2 := 81) hG ha rfl) ha (by decide))), e_s25, zU_at (Or.inl (zne (zr (k := 27) (t2 := 84) hG ha rfl) ha (by decide))), e_s24, zU_at (Or.inl (zne (zr (k := 27) (t2 := 84) hG ha rfl) ha (by decide))), e_s23, zU_at (Or.inl (zne (zr (k := 18) (t2 := 81) hG ha rfl) ha (by decide))), e_s22, zU_at (Or.inl (zne (zr (k := 27) (t2 := 84) hG ha rfl) ha (by decide))), e_s21, zU_at (Or.inl (zne (zr (k := 27) (t2 := 84) hG ha rfl) ha (by decide))), e_s20, zU_at (Or.inl (zne (zr (k := 18) (t2 := 81) hG ha rfl) ha (by decide))), (zFr_g hF_s15 ha (by decide)), (zFr_g hF_s10 ha (by decide)), (zFr_g hF_s5 ha (by decide)), e_s3, zU_at (Or.inr (by decide)), e_s2, zU_at (Or.inr (by decide)), e_s1, zU_at (Or.inr (by decide))])
                    have f71 := zf hS0 ha (k := 51) rfl
                    have g72 : s42 a 54 = s0 a 54 := (by rw [(zFr_g hF_s42 ha (by decide)), (zFr_g hF_s41 ha (by decide)), e_s40, zU_at (Or.inr (by decide)), e_s39, zU_at (Or.inr (by decide)), e_s38, zU_at (Or.inl (zne (zr (k := 34) (t2 := 91) hG ha rfl) ha (by decide))), e_s37, zU_at (Or.inl (zne (zr (k := 34) (t2 := 91) hG ha rfl) ha (by decide))), e_s36, zU_at (Or.inl (zne (zr (k := 34) (t2 := 91) hG ha rfl) ha (by decide))), e_s35, zU_at (Or.inl (zne (zr (k := 37) (t2 := 94) hG ha rfl) ha (by decide))), e_s34, zU_at (Or.inl (zne (zr (k := 37) (t2 := 94) hG ha rfl) ha (by decide))), e_s33, zU_at (Or.inl (zne (zr (k := 37) (t2 := 94) hG ha rfl) ha (by decide))), e_s32, zU_at (Or.inl (zne (zr (k := 37) (t2 := 94) hG ha rfl) ha (by decide))), e_s31, zU_at (Or.inl (zne (zr (k := 37) (t2 := 94) hG ha rfl) ha (by decide))), e_s30, zU_at (Or.inl (zne (zr (k := 37) (t2 := 94) hG ha rfl) ha (by decide))), e_s29, zU_at (Or.inl (zne (zr (k := 27) (t2 := 84) hG ha rfl) ha (by decide))), e_s28, zU_at (Or.inl (zne (zr (k := 27) (t2 := 84) hG ha rfl) ha (by decide))), e_s27, zU_at (Or.inl (zne (zr (k := 27) (t2 := 84) hG ha rfl) ha (by decide))), e_s26, zU_at (Or.inl (zne (zr (k := 18) (t2 := 81) hG ha rfl) ha (by decide))), e_s25, zU_at (Or.inl (zne (zr (k := 27) (t2 := 84) hG ha rfl) ha (by decide))), e_s24, zU_at (Or.inl (zne (zr (k := 27) (t2 := 84) hG ha rfl) ha (by decide))), e_s23, zU_at (Or.inl (zne (zr (k := 18) (t2 := 81) hG ha rfl) ha (by decide))), e_s22, zU_at (Or.inl (zne (zr (k := 27) (t2 := 84) hG ha rfl) ha (by decide))), e_s21, zU_at (Or.inl (zne (zr (k := 27) (t2 := 84) hG ha rfl) ha (by decide))), e_s20, zU_at (Or.inl (zne (zr (k := 18) (t2 := 81) hG ha rfl) ha (by decide))), (zFr_g hF_s15 ha (by decide)), (zFr_g hF_s10 ha (by decide)), (zFr_g hF_s5 ha (by decide)), e_s3, zU_at (Or.inr (by decide)), e_s2, zU_at (Or.inr (by decide)), e_s1, zU_at (Or.inr (by decide))])
                    have f73 := zf hS0 ha (k := 54) rfl
                    have g74 : s42 a 58 = 0 := (by rw [(zFr_g hF_s42 ha (by decide)), (zFr_g hF_s41 ha (by decide)), e_s40, zU_eq])
                    exact j_vret hx hq rfl (by decide) (by decide) dX12_sets_336 ⟨rfl, rfl, hS_s42, (zFr_t (zFr_t (zFr_u (zFr_u (zFr_u (zFr_u (zFr_u (zFr_u (zFr_u (zFr_u (zFr_u (zFr_u (zFr_u (zFr_u (zFr_u (zFr_u (zFr_u (zFr_u (zFr_u (zFr_u (zFr_u (zFr_u (zFr_u (zFr_t (zFr_t (zFr_t (zFr_u (zFr_u (zFr_u zFr_rf e_s1 ha (by decide)) e_s2 ha (by decide)) e_s3 ha (by decide)) hF_s5 (by decide)) hF_s10 (by decide)) hF_s15 (by decide)) e_s20 (zr (k := 18) (t2 := 81) hG ha rfl) (by decide)) e_s21 (zr (k := 27) (t2 := 84) hG ha rfl) (by decide)) e_s22 (zr (k := 27) (t2 := 84) hG ha rfl) (by decide)) e_s23 (zr (k := 18) (t2 := 81) hG ha rfl) (by decide)) e_s24 (zr (k := 27) (t2 := 84) hG ha rfl) (by decide)) e_s25 (zr (k := 27) (t2 := 84) hG ha rfl) (by decide)) e_s26 (zr (k := 18) (t2 := 81) hG ha rfl) (by decide)) e_s27 (zr (k := 27) (t2 := 84) hG ha rfl) (by decide)) e_s28 (zr (k := 27) (t2 := 84) hG ha rfl) (by decide)) e_s29 (zr (k := 27) (t2 := 84) hG ha rfl) (by decide)) e_s30 (zr (k := 37) (t2 := 94) hG ha rfl) (by decide)) e_s31 (zr (k := 37) (t2 := 94) hG ha rfl) (by decide)) e_s32 (zr (k := 37) (t2 := 94) hG ha rfl) (by decide)) e_s33 (zr (k := 37) (t2 := 94) hG ha rfl) (by decide)) e_s34 (zr (k := 37) (t2 := 94) hG ha rfl) (by decide)) e_s35 (zr (k := 37) (t2 := 94) hG ha rfl) (by decide)) e_s36 (zr (k := 34) (t2 := 91) hG ha rfl) (by decide)) e_s37 (zr (k := 34) (t2 := 91) hG ha rfl) (by decide)) e_s38 (zr (k := 34) (t2 := 91) hG ha rfl) (by decide)) e_s39 ha (by decide)) e_s40 ha (by decide)) hF_s41 (by decide)) hF_s42 (by decide)), ⟨q44.1, by omega, (zAe_f (zAe_f (zAe_u (zAe_u (zAe_u (zAe_u (zAe_u (zAe_u (zAe_u (zAe_u (zAe_u (zAe_u (zAe_u (zAe_j (zAe_k (zAe_k (zAe_u (zAe_k (zAe_k (zAe_u (zAe_k (zAe_k (zAe_u fA19 e_s20 (zne (zr (k := 18) (t2 := 81) hG ha rfl) (zr (k := 27) (t2 := 84) hG ha rfl) (by decide))) e_s21 (by omega)) e_s22 (by omega)) e_s23 (zne (zr (k := 18) (t2 := 81) hG ha rfl) (zr (k := 27) (t2 := 84) hG ha rfl) (by decide))) e_s24 (by omega)) e_s25 (by omega)) e_s26 (zne (zr (k := 18) (t2 := 81) hG ha rfl) (zr (k := 27) (t2 := 84) hG ha rfl) (by decide))) e_s27 (by omega)) e_s28 (by omega)) e_s29 rfl) e_s30 (zne (zr (k := 37) (t2 := 94) hG ha rfl) (zr (k := 27) (t2 := 84) hG ha rfl) (by decide))) e_s31 (zne (zr (k := 37) (t2 := 94) hG ha rfl) (zr (k := 27) (t2 := 84) hG ha rfl) (by decide))) e_s32 (zne (zr (k := 37) (t2 := 94) hG ha rfl) (zr (k := 27) (t2 := 84) hG ha rfl) (by decide))) e_s33 (zne (zr (k := 37) (t2 := 94) hG ha rfl) (zr (k := 27) (t2 := 84) hG ha rfl) (by decide))) e_s34 (zne (zr (k := 37) (t2 := 94) hG ha rfl) (zr (k := 27) (t2 := 84) hG ha rfl) (by decide))) e_s35 (zne (zr (k := 37) (t2 := 94) hG ha rfl) (zr (k := 27) (t2 := 84) hG ha rfl) (by decide))) e_s36 (zne (zr (k := 34) (t2 := 91) hG ha rfl) (zr (k := 27) (t2 := 84) hG ha rfl) (by decide))) e_s37 (zne (zr (k := 34) (t2 := 91) hG ha rfl) (zr (k := 27) (t2 := 84) hG ha rfl) (by decide))) e_s38 (zne (zr (k := 34) (t2 := 91) hG ha rfl) (zr (k := 27) (t2 := 84) hG ha rfl) (by decide))) e_s39 (zne ha (zr (k := 27) (t2 := 84) hG ha rfl) (by decide))) e_s40 (zne ha (zr (k := 27) (t2 := 84) hG ha rfl) (by decide))) hF_s41 (zr (k := 27) (t2 := 84) hG ha rfl) (by decide)) hF_s42 (zr (k := 27) (t2 := 84) hG ha rfl) (by decide)), ((by rw [(zFr_g hF_s42 (zr (k := 27) (t2 := 84) hG ha rfl) (by decide)), (zFr_g hF_s41 (zr (k := 27) (t2 := 84) hG ha rfl) (by decide)), e_s40, zU_at (Or.inl (zne ha (zr (k := 27) (t2 := 84) hG ha rfl) (by decide))), e_s39, zU_at (Or.inl (zne ha (zr (k := 27) (t2 := 84) hG ha rfl) (by decide))), e_s38, zU_at (Or.inl (zne (zr (k := 34) (t2 := 91) hG ha rfl) (zr (k := 27) (t2 := 84) hG ha rfl) (by decide))), e_s37, zU_at (Or.inl (zne (zr (k := 34) (t2 := 91) hG ha rfl) (zr (k := 27) (t2 := 84) hG ha rfl) (by decide))), e_s36, zU_at (Or.inl (zne (zr (k := 34) (t2 := 91) hG ha rfl) (zr (k := 27) (t2 := 84) hG ha rfl) (by decide))), e_s35, zU_at (Or.inl (zne (zr (k := 37) (t2 := 94) hG ha rfl) (zr (k := 27) (t2 := 84) hG ha rfl) (by decide))), e_s34, zU_at (Or.inl (zne (zr (k := 37) (t2 := 94) hG ha rfl) (zr (k := 27) (t2 := 84) hG ha rfl) (by decide))), e_s33, zU_at (Or.inl (zne (zr (k := 37) (t2 := 94) hG ha rfl) (zr (k := 27) (t2 := 84) hG ha rfl) (by decide))), e_s32, zU_at (Or.inl (zne (zr (k := 37) (t2 := 94) hG ha rfl) (zr (k := 27) (t2 := 84) hG ha rfl) (by decide))), e_s31, zU_at (Or.inl (zne (zr (k := 37) (t2 := 94) hG ha rfl) (zr (k := 27) (t2 := 84) hG ha rfl) (by decide))), e_s30, zU_at (Or.inl (zne (zr (k := 37) (t2 := 94) hG ha rfl) (zr (k := 27) (t2 := 84) hG ha rfl) (by decide))), e_s29, zU_eq]) : s42 (gP G a 27) 487 = (s0 a 21) - 1).trans (by omega), ((by rw [(zFr_g hF_s42 (zr (k := 18) (t2 := 81) hG ha rfl) (by decide)), (zFr_g hF_s41 (zr (k := 18) (t2 := 81) hG ha rfl) (by decide)), e_s40, zU_at (Or.inl (zne ha (zr (k := 18) (t2 := 81) hG ha rfl) (by decide))), e_s39, zU_at (Or.inl (zne ha (zr (k := 18) (t2 := 81) hG ha rfl) (by decide))), e_s38, zU_at (Or.inl (zne (zr (k := 34) (t2 := 91) hG ha rfl) (zr (k := 18) (t2 := 81) hG ha rfl) (by decide))), e_s37, zU_at (Or.inl (zne (zr (k := 34) (t2 := 91) hG ha rfl) (zr (k := 18) (t2 := 81) hG ha rfl) (by decide))), e_s36, zU_at (Or.inl (zne (zr (k := 34) (t2 := 91) hG ha rfl) (zr (k := 18) (t2 := 81) hG ha rfl) (by decide))), e_s35, zU_at (Or.inl (zne (zr (k := 37) (t2 := 94) hG ha rfl) (zr (k := 18) (t2 := 81) hG ha rfl) (by decide))), e_s34, zU_at (Or.inl (zne (zr (k := 37) (t2 := 94) hG ha rfl) (zr (k := 18) (t2 := 81) hG ha rfl) (by decide))), e_s33, zU_at (Or.inl (zne (zr (k := 37) (t2 := 94) hG ha rfl) (zr (k := 18) (t2 := 81) hG ha rfl) (by decide))), e_s32, zU_at (Or.inl (zne (zr (k := 37) (t2 := 94) hG ha rfl) (zr (k := 18) (t2 := 81) hG ha rfl) (by decide))), e_s31, zU_at (Or.inl (zne (zr (k := 37) (t2 := 94) hG ha rfl) (zr (k := 18) (t2 := 81) hG ha rfl) (by decide))), e_s30, zU_at (Or.inl (zne (zr (k := 37) (t2 := 94) hG ha rfl) (zr (k := 18) (t2 := 81) hG ha rfl) (by decide))), e_s29, zU_at (Or.inl (zne (zr (k := 27) (t2 := 84) hG ha rfl) (zr (k := 18) (t2 := 81) hG ha rfl) (by decide))), e_s28, zU_at (Or.inl (zne (zr (k := 27) (t2 := 84) hG ha rfl) (zr (k := 18) (t2 := 81) hG ha rfl) (by decide))), e_s27, zU_at (Or.inl (zne (zr (k := 27) (t2 := 84) hG ha rfl) (zr (k := 18) (t2 := 81) hG ha rfl) (by decide))), e_s26, zU_at (Or.inr (by decide)), e_s25, zU_at (Or.inl (zne (zr (k := 27) (t2 := 84) hG ha rfl) (zr (k := 18) (t2 := 81) hG ha rfl) (by decide))), e_s24, zU_at (Or.inl (zne (zr (k := 27) (t2 := 84) hG ha rfl) (zr (k := 18) (t2 := 81) hG ha rfl) (by decide))), e_s23, zU_at (Or.inr (by decide)), e_s22, zU_at (Or.inl (zne (zr (k := 27) (t2 := 84) hG ha rfl) (zr (k := 18) (t2 := 81) hG ha rfl) (by decide))), e_s21, zU_at (Or.inl (zne (zr (k := 27) (t2 := 84) hG ha rfl) (zr (k := 18) (t2 := 81) hG ha rfl) (by decide))), e_s20, zU_eq]) : s42 (gP G a 18) 0 = (s0 (gP G a 11) 0)).trans (by omega), ((by rw [(zFr_g hF_s42 (zr (k := 18) (t2 := 81) hG ha rfl) (by decide)), (zFr_g hF_s41 (zr (k := 18) (t2 := 81) hG ha rfl) (by decide)), e_s40, zU_at (Or.inl (zne ha (zr (k := 18) (t2 := 81) hG ha rfl) (by decide))), e_s39, zU_at (Or.inl (zne ha (zr (k := 18) (t2 := 81) hG ha rfl) (by decide))), e_s38, zU_at (Or.inl (zne (zr (k := 34) (t2 := 91) hG ha rfl) (zr (k := 18) (t2 := 81) hG ha rfl) (by decide))), e_s37, zU_at (Or.inl (zne (zr (k := 34) (t2 := 91) hG ha rfl) (zr (k := 18) (t2 := 81) hG ha rfl) (by decide))), e_s36, zU_at (Or.inl (zne (zr (k := 34) (t2 := 91) hG ha rfl) (zr (k := 18) (t2 := 81) hG ha rfl) (by decide))), e_s35, zU_at (Or.inl (zne (zr (k := 37) (t2 := 94) hG ha rfl) (zr (k := 18) (t2 := 81) hG ha rfl) (by decide))), e_s34, zU_at (Or.inl (zne (zr (k := 37) (t2 := 94) hG ha rfl) (zr (k := 18) (t2 := 81) hG ha rfl) (by decide))), e_s33, zU_at (Or.inl (zne (zr (k := 37) (t2 := 94) hG ha rfl) (zr (k := 18) (t2 := 81) hG ha rfl) (by decide))), e_s32, zU_at (Or.inl (zne (zr (k := 37) (t2 := 94) hG ha rfl) (zr (k := 18) (t2 := 81) hG ha rfl) (by decide))), e_s31, zU_at (Or.inl (zne (zr (k := 37) (t2 := 94) hG ha rfl) (zr (k := 18) (t2 := 81) hG ha rfl) (by decide))), e_s30, zU_at (Or.inl (zne (zr (k := 37) (t2 := 94) hG ha rfl) (zr (k := 18) (t2 := 81) hG ha rfl) (by decide))), e_s29, zU_at (Or.inl (zne (zr (k := 27) (t2 := 84) hG ha rfl) (zr (k := 18) (t2 := 81) hG ha rfl) (by decide))), e_s28, zU_at (Or.inl (zne (zr (k := 27) (t2 := 84) hG ha rfl) (zr (k := 18) (t2 := 81) hG ha rfl) (by decide))), e_s27, zU_at (Or.inl (zne (zr (k := 27) (t2 := 84) hG ha rfl) (zr (k := 18) (t2 := 81) hG ha rfl) (by decide))), e_s26, zU_at (Or.inr (by decide)), e_s25, zU_at (Or.inl (zne (zr (k := 27) (t2 := 84) hG ha rfl) (zr (k := 18) (t2 := 81) hG ha rfl) (by decide))), e_s24, zU_at (Or.inl (zne (zr (k := 27) (t2 := 84) hG ha rfl) (zr (k := 18) (t2 := 81) hG ha rfl) (by decide))), e_s23, zU_eq]) : s42 (gP G a 18) 1 = (s0 (gP G a 11) 1)).trans (by omega), ((by rw [(zFr_g hF_s42 (zr (k := 18) (t2 := 81) hG ha rfl) (by decide)), (zFr_g hF_s41 (zr (k := 18) (t2 := 81) hG ha rfl) (by decide)), e_s40, zU_at (Or.inl (zne ha (zr (k := 18) (t2 := 81) hG ha rfl) (by decide))), e_s39, zU_at (Or.inl (zne ha (zr (k := 18) (t2 := 81) hG ha rfl) (by decide))), e_s38, zU_at (Or.inl (zne (zr (k := 34) (t2 := 91) hG ha rfl) (zr (k := 18) (t2 := 81) hG ha rfl) (by decide))), e_s37, zU_at (Or.inl (zne (zr (k := 34) (t2 := 91) hG ha rfl) (zr (k := 18) (t2 := 81) hG ha rfl) (by decide))), e_s36, zU_at (Or.inl (zne (zr (k := 34) (t2 := 91) hG ha rfl) (zr (k := 18) (t2 := 81) hG ha rfl) (by decide))), e_s35, zU_at (Or.inl (zne (zr (k := 37) (t2 := 94) hG ha rfl) (zr (k := 18) (t2 := 81) hG ha rfl) (by decide))), e_s34, zU_at (Or.inl (zne (zr (k := 37) (t2 := 94) hG ha rfl) (zr (k := 18) (t2 := 81) hG ha rfl) (by decide))), e_s33, zU_at (Or.inl (zne (zr (k := 37) (t2 := 94) hG ha rfl) (zr (k := 18) (t2 := 81) hG ha rfl) (by decide))), e_s32, zU_at (Or.inl (zne (zr (k := 37) (t2 := 94) hG ha rfl) (zr (k := 18) (t2 := 81) hG ha rfl) (by decide))), e_s31, zU_at (Or.inl (zne (zr (k := 37) (t2 := 94) hG ha rfl) (zr (k := 18) (t2 := 81) hG ha rfl) (by decide))), e_s30, zU_at (Or.inl (zne (zr (k := 37) (t2 := 94) hG ha rfl) (zr (k := 18) (t2 := 81) hG ha rfl) (by decide))), e_s29, zU_at (Or.inl (zne (zr (k := 27) (t2 := 84) hG ha rfl) (zr (k := 18) (t2 := 81) hG ha rfl) (by decide))), e_s28, zU_at (Or.inl (zne (zr (k := 27) (t2 := 84) hG ha rfl) (zr (k := 18) (t2 := 81) hG ha rfl) (by decide))), e_s27, zU_at (Or.inl (zne (zr (k := 27) (t2 := 84) hG ha rfl) (zr (k := 18) (t2 := 81) hG ha rfl) (by decide))), e_s26, zU_eq]) : s42 (gP G a 18) 2 = (s0 (gP G a 11) 2)).trans (by omega), ((by rw [(zFr_g hF_s42 (zr (k := 37) (t2 := 94) hG ha rfl) (by decide)), (zFr_g hF_s41 (zr (k := 37) (t2 := 94) hG ha rfl) (by decide)), e_s40, zU_at (Or.inl (zne ha (zr (k := 37) (t2 := 94) hG ha rfl) (by decide))), e_s39, zU_at (Or.inl (zne ha (zr (k := 37) (t2 := 94) hG ha rfl) (by decide))), e_s38, zU_at (Or.inl (zne (zr (k := 34) (t2 := 91) hG ha rfl) (zr (k := 37) (t2 := 94) hG ha rfl) (by decide))), e_s37, zU_at (Or.inl (zne (zr (k := 34) (t2 := 91) hG ha rfl) (zr (k := 37) (t2 := 94) hG ha rfl) (by decide))), e_s36, zU_at (Or.inl (zne (zr (k := 34) (t2 := 91) hG ha rfl) (zr (k := 37) (t2 := 94) hG ha rfl) (by decide))), e_s35, zU_at (Or.inr (by decide)), e_s34, zU_at (Or.inr (by decide)), e_s33, zU_at (Or.inr (by decide)), e_s32, zU_at (Or.inr (by decide)), e_s31, zU_at (Or.inr (by decide)), e_s30, zU_eq]) : s42 (gP G a 37) 0 = 1).trans (by omega), ((by rw [(zFr_g hF_s42 (zr (k := 37) (t2 := 94) hG ha rfl) (by decide)), (zFr_g hF_s41 (zr (k := 37) (t2 := 94) hG ha rfl) (by decide)), e_s40, zU_at (Or.inl (zne ha (zr (k := 37) (t2 := 94) hG ha rfl) (by decide))), e_s39, zU_at (Or.inl (zne ha (zr (k := 37) (t2 := 94) hG ha rfl) (by decide))), e_s38, zU_at (Or.inl (zne (zr (k := 34) (t2 := 91) hG ha rfl) (zr (k := 37) (t2 := 94) hG ha rfl) (by decide))), e_s37, zU_at (Or.inl (zne (zr (k := 34) (t2 := 91) hG ha rfl) (zr (k := 37) (t2 := 94) hG ha rfl) (by decide))), e_s36, zU_at (Or.inl (zne (zr (k := 34) (t2 := 91) hG ha rfl) (zr (k := 37) (t2 := 94) hG ha rfl) (by decide))), e_s35, zU_at (Or.inr (by decide)), e_s34, zU_at (Or.inr (by decide)), e_s33, zU_at (Or.inr (by decide)), e_s32, zU_at (Or.inr (by decide)), e_s31, zU_eq]) : s42 (gP G a 37) 1 = 1).trans (by omega), ((by rw [(zFr_g hF_s42 (zr (k := 37) (t2 := 94) hG ha rfl) (by decide)), (zFr_g hF_s41 (zr (k := 37) (t2 := 94) hG ha rfl) (by decide)), e_s40, zU_at (Or.inl (zne ha (zr (k := 37) (t2 := 94) hG ha rfl) (by decide))), e_s39, zU_at (Or.inl (zne ha (zr (k := 37) (t2 := 94) hG ha rfl) (by decide))), e_s38, zU_at (Or.inl (zne (zr (k := 34) (t2 := 91) hG ha rfl) (zr (k := 37) (t2 := 94) hG ha rfl) (by decide))), e_s37, zU_at (Or.inl (zne (zr (k := 34) (t2 := 91) hG ha rfl) (zr (k := 37) (t2 := 94) hG ha rfl) (by decide))), e_s36, zU_at (Or.inl (zne (zr (k := 34) (t2 := 91) hG ha rfl) (zr (k := 37) (t2 := 94) hG ha rfl) (by decide))), e_s35, zU_at (Or.inr (by decide)), e_s34, zU_at (Or.inr (by decide)), e_s33, zU_at (Or.inr (by decide)), e_s32, zU_eq]) : s42 (gP G a 37) 2 = 1).trans (by omega), ((by rw [(zFr_g hF_s42 (zr (k := 37) (t2 := 94) hG ha rfl) (by decide)), (zFr_g hF_s41 (zr (k := 37) (t2 := 94) hG ha rfl) (by decide)), e_s40, zU_at (Or.inl (zne ha (zr (k := 37) (t2 := 94) hG ha rfl) (by decide))), e_s39, zU_at (Or.inl (zne ha (zr (k := 37) (t2 := 94) hG ha rfl) (by decide))), e_s38, zU_at (Or.inl (zne (zr (k := 34) (t2 := 91) hG ha rfl) (zr (k := 37) (t2 := 94) hG ha rfl) (by decide))), e_s37, zU_at (Or.inl (zne (zr (k := 34) (t2 := 91) hG ha rfl) (zr (k := 37) (t2 := 94) hG ha rfl) (by decide))), e_s36, zU_at (Or.inl (zne (zr (k := 34) (t2 := 91) hG ha rfl) (zr (k := 37) (t2 := 94) hG ha rfl) (by decide))), e_s35, zU_at (Or.inr (by decide)), e_s34, zU_at (Or.inr (by decide)), e_s33, zU_eq]) : s42 (gP G a 37) 3 = 0).trans (by omega), ((by rw [(zFr_g hF_s42 (zr (k := 37) (t2 := 94) hG ha rfl) (by decide)), (zFr_g hF_s41 (zr (k := 37) (t2 := 94) hG ha rfl) (by decide)), e_s40, zU_at (Or.inl (zne ha (zr (k := 37) (t2 := 94) hG ha rfl) (by decide))), e_s39, zU_at (Or.inl (zne ha (zr (k := 37) (t2 := 94) hG ha rfl) (by decide))), e_s38, zU_at (Or.inl (zne (zr (k := 34) (t2 := 91) hG ha rfl) (zr (k := 37) (t2 := 94) hG ha rfl) (by decide))), e_s37, zU_at (Or.inl (zne (zr (k := 34) (t2 := 91) hG ha rfl) (zr (k := 37) (t2 := 94) hG ha rfl) (by decide))), e_s36, zU_at (Or.inl (zne (zr (k := 34) (t2 := 91) hG ha rfl) (zr (k := 37) (t2 := 94) hG ha rfl) (by decide))), e_s35, zU_at (Or.inr (by decide)), e_s34, zU_eq]) : s42 (gP G a 37) 4 = 0).trans (by omega), ((by rw [(zFr_g hF_s42 (zr (k := 37) (t2 := 94) hG ha rfl) (by decide)), (zFr_g hF_s41 (zr (k := 37) (t2 := 94) hG ha rfl) (by decide)), e_s40, zU_at (Or.inl (zne ha (zr (k := 37) (t2 := 94) hG ha rfl) (by decide))), e_s39, zU_at (Or.inl (zne ha (zr (k := 37) (t2 := 94) hG ha rfl) (by decide))), e_s38, zU_at (Or.inl (zne (zr (k := 34) (t2 := 91) hG ha rfl) (zr (k := 37) (t2 := 94) hG ha rfl) (by decide))), e_s37, zU_at (Or.inl (zne (zr (k := 34) (t2 := 91) hG ha rfl) (zr (k := 37) (t2 := 94) hG ha rfl) (by decide))), e_s36, zU_at (Or.inl (zne (zr (k := 34) (t2 := 91) hG ha rfl) (zr (k := 37) (t2 := 94) hG ha rfl) (by decide))), e_s35, zU_eq]) : s42 (gP G a 37) 5 = 0).trans (by omega), ((by rw [(zFr_g hF_s42 (zr (k := 30) (t2 := 87) hG ha rfl) (by decide))]) : s42 (gP G a 30) 0 = s41 (gP G a 30) 0).trans (by omega), ((by rw [(zFr_g hF_s42 (zr (k := 30) (t2 := 87) hG ha rfl) (by decide))]) : s42 (gP G a 30) 1 = s41 (gP G a 30) 1).trans (by omega), ((by rw [(zFr_g hF_s42 (zr (k := 30) (t2 := 87) hG ha rfl) (by decide))]) : s42 (gP G a 30) 2 = s41 (gP G a 30) 2).trans (by omega), ((by rw [(zFr_g hF_s42 (zr (k := 30) (t2 := 87) hG ha rfl) (by decide))]) : s42 (gP G a 30) 3 = s41 (gP G a 30) 3).trans (by omega), ((by rw [(zFr_g hF_s42 (zr (k := 30) (t2 := 87) hG ha rfl) (by decide))]) : s42 (gP G a 30) 4 = s41 (gP G a 30) 4).trans (by omega), by omega, by omega, by omega, by omega, by omega, by omega, by omega, ((by rw [(zFr_g hF_s42 ha (by decide)), (zFr_g hF_s41 ha (by decide)), e_s40, zU_eq]) : s42 a 58 = 0).trans (by omega), by omega⟩⟩
                  · skip
                    refine j_aload_n hx 0 dX12_sets_85 rfl ?_
                    refine g13_27 hx hG ha kf_RX12_56 dX12_sets_86 ?_
                    refine j_iload_n hx 1 dX12_sets_89 rfl ?_
                    refine j_iconst hx dX12_sets_90 ?_
                    refine j_iast hx hG (zr (k := 27) (t2 := 84) hG ha rfl) (by decide) rfl (zlen hG (zr (k := 27) (t2 := 84) hG ha rfl) (n := 515) rfl rfl) (by omega) (by omega) (j := (v8).toNat) rfl dX12_sets_91 ?_
                    obtain ⟨s43, e_s43⟩ : ∃ z, z = zU s15 (gP G a 27) (v8).toNat 0 := ⟨_, rfl⟩
                    rw [← e_s43]
                    have hS_s43 : zSK G s43 := by rw [e_s43]; exact zSK_z hS_s15 (zr (k := 27) (t2 := 84) hG ha rfl) (fun _ => rfl) rfl aqZ_84 (by omega)
                    refine j_iinc hx 1 [(1, .int (zI (v8 + 1))), (0, .ref a)] dX12_sets_92 rfl (by omega) (by decide) rfl ?_
                    refine j_goto hx 78 dX12_sets_95 rfl ?_
                    exact j_sub [1, 0] [(0, .ref a), (1, .int (zI (v8 + 1)))] rfl (ih_c78_14 (v8 + 1) s43 (by omega) (by omega) hS_s43 (zFr_u (zFr_t zFr_rf hF_s15 (by decide)) e_s43 (zr (k := 27) (t2 := 84) hG ha rfl) (by decide)) (zAe_k fA19 e_s43 (by omega)))
              exact j_sub [1, 0] [(0, .ref a), (1, .int (zI 0))] rfl (c78_14 (2147483648 * 4) 0 s10 (by omega) (by omega) hS_s10 zFr_rf (zAe_f (zAe_f (zAe_u (zAe_u (zAe_u e1 e_s1 (zne ha (zr (k := 27) (t2 := 84) hG ha rfl) (by decide))) e_s2 (zne ha (zr (k := 27) (t2 := 84) hG ha rfl) (by decide))) e_s3 (zne ha (zr (k := 27) (t2 := 84) hG ha rfl) (by decide))) hF_s5 (zr (k := 27) (t2 := 84) hG ha rfl) (by decide)) hF_s10 (zr (k := 27) (t2 := 84) hG ha rfl) (by decide)))
            · skip
              refine j_aload_n hx 0 dX12_sets_58 rfl ?_
              refine g13_20 hx hG ha kf_RX12_53 dX12_sets_59 ?_
              refine j_iload_n hx 1 dX12_sets_62 rfl ?_
              refine j_aload_n hx 0 dX12_sets_63 rfl ?_
              refine g13_16 hx hG ha kf_RX12_41 dX12_sets_64 ?_
              refine j_iload_n hx 1 dX12_sets_67 rfl ?_
              have f75 := zaI (j := (v6).toNat) hS0 (zr (k := 16) (t2 := 79) hG ha rfl) rfl (zlen hG (zr (k := 16) (t2 := 79) hG ha rfl) (n := 12) rfl rfl) (show 0 ≤ v6 by omega) (by omega) rfl
              refine j_iald hx hG (zr (k := 16) (t2 := 79) hG ha rfl) (by decide) rfl (zlen hG (zr (k := 16) (t2 := 79) hG ha rfl) (n := 12) rfl rfl) (by omega) (by omega) (j := (v6).toNat) rfl (v := (s0 (gP G a 16) (v6).toNat)) (by rw [(zFr_g hF_s10 (zr (k := 16) (t2 := 79) hG ha rfl) (by decide)), (zFr_g hF_s5 (zr (k := 16) (t2 := 79) hG ha rfl) (by decide)), e_s3, zU_at (Or.inl (zne ha (zr (k := 16) (t2 := 79) hG ha rfl) (by decide))), e_s2, zU_at (Or.inl (zne ha (zr (k := 16) (t2 := 79) hG ha rfl) (by decide))), e_s1, zU_at (Or.inl (zne ha (zr (k := 16) (t2 := 79) hG ha rfl) (by decide)))]) dX12_sets_68 ?_
              refine j_iast hx hG (zr (k := 20) (t2 := 83) hG ha rfl) (by decide) rfl (zlen hG (zr (k := 20) (t2 := 83) hG ha rfl) (n := 12) rfl rfl) (by omega) (by omega) (j := (v6).toNat) rfl dX12_sets_69 ?_
              obtain ⟨s44, e_s44⟩ : ∃ z, z = zU s10 (gP G a 20) (v6).toNat ((s0 (gP G a 16) (v6).toNat)) := ⟨_, rfl⟩
              rw [← e_s44]
              have hS_s44 : zSK G s44 := by rw [e_s44]; exact zSK_A hS_s10 (zr (k := 20) (t2 := 83) hG ha rfl) rfl rfl rfl (by omega)
              refine j_iinc hx 1 [(1, .int (zI (v6 + 1))), (0, .ref a)] dX12_sets_70 rfl (by omega) (by decide) rfl ?_
              refine j_goto hx 52 dX12_sets_73 rfl ?_
              exact j_sub [1, 0] [(0, .ref a), (1, .int (zI (v6 + 1)))] rfl (ih_c52_9 (v6 + 1) s44 (by omega) (by omega) hS_s44 (zFr_u (zFr_t zFr_rf hF_s10 (by decide)) e_s44 (zr (k := 20) (t2 := 83) hG ha rfl) (by decide)))
        exact j_sub [1, 0] [(0, .ref a), (1, .int (zI 0))] rfl (c52_9 (2147483648 * 4) 0 s5 (by omega) (by omega) hS_s5 zFr_rf)
      · skip
        refine j_aload_n hx 0 dX12_sets_32 rfl ?_
        refine g13_17 hx hG ha kf_RX12_44 dX12_sets_33 ?_
        refine j_iload_n hx 1 dX12_sets_36 rfl ?_
        refine j_aload_n hx 0 dX12_sets_37 rfl ?_
        refine g13_10 hx hG ha kf_RX12_23 dX12_sets_38 ?_
        refine j_iload_n hx 1 dX12_sets_41 rfl ?_
        have f76 := zaI (j := (v4).toNat) hS0 (zr (k := 10) (t2 := 73) hG ha rfl) rfl (zlen hG (zr (k := 10) (t2 := 73) hG ha rfl) (n := 12) rfl rfl) (show 0 ≤ v4 by omega) (by omega) rfl
        refine j_iald hx hG (zr (k := 10) (t2 := 73) hG ha rfl) (by decide) rfl (zlen hG (zr (k := 10) (t2 := 73) hG ha rfl) (n := 12) rfl rfl) (by omega) (by omega) (j := (v4).toNat) rfl (v := (s0 (gP G a 10) (v4).toNat)) (by rw [(zFr_g hF_s5 (zr (k := 10) (t2 := 73) hG ha rfl) (by decide)), e_s3, zU_at (Or.inl (zne ha (zr (k := 10) (t2 := 73) hG ha rfl) (by decide))), e_s2, zU_at (Or.inl (zne ha (zr (k := 10) (t2 := 73) hG ha rfl) (by decide))), e_s1, zU_at (Or.inl (zne ha (zr (k := 10) (t2 := 73) hG ha rfl) (by decide)))]) dX12_sets_42 ?_
        refine j_iast hx hG (zr (k := 17) (t2 := 80) hG ha rfl) (by decide) rfl (zlen hG (zr (k := 17) (t2 := 80) hG ha rfl) (n := 12) rfl rfl) (by omega) (by omega) (j := (v4).toNat) rfl dX12_sets_43 ?_
        obtain ⟨s45, e_s45⟩ : ∃ z, z = zU s5 (gP G a 17) (v4).toNat ((s0 (gP G a 10) (v4).toNat)) := ⟨_, rfl⟩
        rw [← e_s45]
        have hS_s45 : zSK G s45 := by rw [e_s45]; exact zSK_A hS_s5 (zr (k := 17) (t2 := 80) hG ha rfl) rfl rfl rfl (by omega)
        refine j_iinc hx 1 [(1, .int (zI (v4 + 1))), (0, .ref a)] dX12_sets_44 rfl (by omega) (by decide) rfl ?_
        refine j_goto hx 26 dX12_sets_47 rfl ?_
        exact j_sub [1, 0] [(0, .ref a), (1, .int (zI (v4 + 1)))] rfl (ih_c26_4 (v4 + 1) s45 (by omega) (by omega) hS_s45 (zFr_u (zFr_t zFr_rf hF_s5 (by decide)) e_s45 (zr (k := 17) (t2 := 80) hG ha rfl) (by decide)))
  exact j_sub [1, 0] [(0, .ref a), (1, .int (zI 0))] rfl (c26_4 (2147483648 * 4) 0 s3 (by omega) (by omega) hS_s3 zFr_rf)

set_option maxHeartbeats 4000000 in
set_option maxRecDepth 20000 in
theorem c_X12_feed {E : zE} {l : Launch} (hst : l.stackTraces = false) (a : Nat) (x1 : Int) (x2 : Int) (x3 : Int) (x4 : Int) (x5 : Int) : Con E l yX12_feed cX12_feed 8 (some .int) { frames := 0, cells := 0, slots := 0, locals := 0 } (fun G s vs => vs = [.ref a, .int (zI x1), .int (zI x2), .int (zI x3), .int (zI x4), .int (zI x5)] ∧ zGK G ∧ zSK G s ∧ (gT G a = 13) ∧ ((-2147483648) ≤ x1 ∧ x1 ≤ 2147483647) ∧ ((-2147483648) ≤ x2 ∧ x2 ≤ 2147483647) ∧ ((-2147483648) ≤ x3 ∧ x3 ≤ 2147483647) ∧ ((-2147483648) ≤ x4 ∧ x4 ≤ 2147483647) ∧ ((-2147483648) ≤ x5 ∧ x5 ≤ 2147483647) ∧ (zS0m G s)) (fun G s _ => pI (fun r G2 s2 => G2 = G ∧ zSK G s2 ∧ zFr [13, 72] G s s2 ∧ (20 ≤ r ∧ r ≤ 20) ∧ s2 a 0 = 0)) := by
  refine Con.mk hst (by decide) (fun G s vs h => by rw [h.1]; exact Nat.le_of_ble_eq_true rfl) ?_
  rintro X G s0 vs ⟨rfl, hG, hS0, ha, hx1, hx2, hx3, hx4, hx5, hF0⟩ rfl hx hq
  show JJ X E 8 G s0 0 0 [(0, .ref a), (1, .int (zI x1)), (2, .int (zI x2)), (3, .int (zI x3)), (4, .int (zI x4)), (5, .int (zI x5))] 0 []
  refine j_aload_n hx 0 dX12_feed_0 rfl ?_
  refine j_iconst hx dX12_feed_1 ?_
  refine p13_0 hx hG ha kf_RX12_3 dX12_feed_2 ?_
  obtain ⟨s1, e_s1⟩ : ∃ z, z = zU s0 a 0 0 := ⟨_, rfl⟩
  rw [← e_s1]
  have hS_s1 : zSK G s1 := by rw [e_s1]; exact zSK_F hS0 ha rfl rfl rfl (by omega)
  refine j_aload_n hx 0 dX12_feed_5 rfl ?_
  have f1 := z0fm hF0 ha (by decide) (k := 2) rfl
  refine g13_2 hx hG ha kf_RX12_134 (v := (s0 a 2)) (by rw [e_s1, zU_at (Or.inr (by decide))]) dX12_feed_6 ?_
  refine j_bipush hx dX12_feed_9 rfl ?_
  refine j_iadd hx (r := (s0 a 2) + 20) dX12_feed_11 (by omega) ?_
  refine j_sipush hx dX12_feed_12 rfl ?_
  refine j_icmp_le hx 20 dX12_feed_15 rfl (by omega) ⟨by decide, by decide⟩ (fun h2 => ?_) (fun h2 => absurd h2 (by omega))
  refine j_iconst hx dX12_feed_20 ?_
  refine j_istore hx [(6, .int (zI 0)), (0, .ref a), (1, .int (zI x1)), (2, .int (zI x2)), (3, .int (zI x3)), (4, .int (zI x4)), (5, .int (zI x5))] dX12_feed_21 (by decide) rfl ?_
  have g4 : s1 a 0 = 0 := (by rw [e_s1, zU_eq])
  have c23_2 : ∀ (m_c23_2 : Nat) (v3 : Int) (s3 : zS), 2147483648 - v3 < m_c23_2 → (0 ≤ v3 ∧ v3 ≤ 20) → (zSK G s3) → (zFr [13, 72] G s1 s3) → (s3 a 0 = s1 a 0) → (s3 a 0 = 0) → (s3 a 2 = v3) → (v3 ≤ 20) → JJ X E 8 G s3 0 0 [(0, .ref a), (1, .int (zI x1)), (2, .int (zI x2)), (3, .int (zI x3)), (4, .int (zI x4)), (5, .int (zI x5)), (6, .int (zI v3))] 23 [] := by
    intro m_c23_2
    induction m_c23_2 with
    | zero => intro v3 s3 hm_c23_2 fA4 hS_s3 hF_s3 fA7 fA8 fA9 fA10; exfalso; omega
    | succ m_c23_2 ih_c23_2 => 
      intro v3 s3 hm_c23_2 fA4 hS_s3 hF_s3 fA7 fA8 fA9 fA10
      refine j_iload hx 6 dX12_feed_23 rfl ?_
      refine j_bipush hx dX12_feed_25 rfl ?_
      refine j_icmp_ge hx 120 dX12_feed_27 rfl (by omega) ⟨by decide, by decide⟩ (fun h5 => ?_) (fun h5 => ?_)
      · skip
        refine j_aload_n hx 0 dX12_feed_120 rfl ?_
        have f6 := zf hS_s3 ha (k := 2) rfl
        refine g13_2 hx hG ha kf_RX12_134 rfl dX12_feed_121 ?_
        have f7 := zf hS_s3 ha (k := 0) rfl
        exact j_iret hx hq rfl (by decide) (by decide) dX12_feed_124 ⟨(s3 a 2), rfl, rfl, hS_s3, (zFr_t (zFr_u zFr_rf e_s1 ha (by decide)) hF_s3 (by decide)), ⟨(by omega), by omega⟩⟩
      · skip
        refine j_iload hx 6 dX12_feed_30 rfl ?_
        refine j_iconst hx dX12_feed_32 ?_
        refine j_icmp_ge hx 40 dX12_feed_33 rfl (by omega) ⟨by decide, by decide⟩ (fun h8 => ?_) (fun h8 => ?_)
        · skip
          refine j_iload hx 6 dX12_feed_40 rfl ?_
          refine j_bipush hx dX12_feed_42 rfl ?_
          refine j_icmp_ge hx 51 dX12_feed_44 rfl (by omega) ⟨by decide, by decide⟩ (fun h9 => ?_) (fun h9 => ?_)
          · skip
            refine j_iload hx 6 dX12_feed_51 rfl ?_
            refine j_bipush hx dX12_feed_53 rfl ?_
            refine j_icmp_ge hx 62 dX12_feed_55 rfl (by omega) ⟨by decide, by decide⟩ (fun h10 => ?_) (fun h10 => ?_)
            · skip
              refine j_iload hx 6 dX12_feed_62 rfl ?_
              refine j_bipush hx dX12_feed_64 rfl ?_
              refine j_icmp_ge hx 74 dX12_feed_66 rfl (by omega) ⟨by decide, by decide⟩ (fun h11 => ?_) (fun h11 => ?_)
              · skip
                refine j_iload hx 5 dX12_feed_74 rfl ?_
                refine j_istore hx [(7, .int (zI x5)), (0, .ref a), (1, .int (zI x1)), (2, .int (zI x2)), (3, .int (zI x3)), (4, .int (zI x4)), (5, .int (zI x5)), (6, .int (zI v3))] dX12_feed_76 (by decide) rfl ?_
                refine j_aload_n hx 1 dX12_feed_78 rfl ?_
                refine g13_9 hx hG ha kf_RX12_20 dX12_feed_79 ?_
                refine j_aload_n hx 1 dX12_feed_82 rfl ?_
                have f12 := zf hS_s3 ha (k := 2) rfl
                refine g13_2 hx hG ha kf_RX12_134 rfl dX12_feed_83 ?_
                refine j_iload hx 0 dX12_feed_86 rfl ?_
                refine j_bipush hx dX12_feed_88 rfl ?_
                refine j_bipush hx dX12_feed_90 rfl ?_
                refine j_iload hx 7 dX12_feed_92 rfl ?_
                refine j_iconst hx dX12_feed_94 ?_
                refine j_irem hx dX12_feed_95 (by omega) ⟨by decide, by decide⟩ (by decide) (fun v13 f14 f15 f16 f17 => ?_)
                refine j_imul hx (r := 8 * v13) dX12_feed_96 rfl ?_
                refine j_isub hx (r := (-8) * v13 + 24) dX12_feed_97 (by omega) ?_
                refine j_ishrV hx dX12_feed_98 (fun v19 f20 f21 => ?_)
                refine j_sipush hx dX12_feed_99 rfl ?_
                refine j_iand hx dX12_feed_102 (by omega) ⟨by decide, by decide⟩ (fun v22 f23 f24 f25 f26 _ => ?_)
                refine j_iast hx hG (zr (k := 9) (t2 := 72) hG ha rfl) (by decide) rfl (zlen hG (zr (k := 9) (t2 := 72) hG ha rfl) (n := 600) rfl rfl) (by omega) (by omega) (j := ((s3 a 2)).toNat) rfl dX12_feed_103 ?_
                obtain ⟨s11, e_s11⟩ : ∃ z, z = zU s3 (gP G a 9) ((s3 a 2)).toNat v22 := ⟨_, rfl⟩
                rw [← e_s11]
                have hS_s11 : zSK G s11 := by rw [e_s11]; exact zSK_A hS_s3 (zr (k := 9) (t2 := 72) hG ha rfl) rfl rfl rfl (by omega)
                refine j_aload_n hx 1 dX12_feed_104 rfl ?_
                refine j_dup hx dX12_feed_105 rfl ?_
                refine g13_2 hx hG ha kf_RX12_134 (v := (s3 a 2)) (by rw [e_s11, zU_at (Or.inl (zne (zr (k := 9) (t2 := 72) hG ha rfl) ha (by decide)))]) dX12_feed_106 ?_
                refine j_iconst hx dX12_feed_109 ?_
                refine j_iadd hx (r := (s3 a 2) + 1) dX12_feed_110 (by omega) ?_
                refine p13_2 hx hG ha kf_RX12_134 dX12_feed_111 ?_
                obtain ⟨s12, e_s12⟩ : ∃ z, z = zU s11 a 2 ((s3 a 2) + 1) := ⟨_, rfl⟩
                rw [← e_s12]
                have hS_s12 : zSK G s12 := by rw [e_s12]; exact zSK_F hS_s11 ha rfl rfl rfl (by omega)
                refine j_iinc hx 7 [(6, .int (zI (v3 + 1))), (7, .int (zI x5)), (0, .ref a), (1, .int (zI x1)), (2, .int (zI x2)), (3, .int (zI x3)), (4, .int (zI x4)), (5, .int (zI x5))] dX12_feed_114 rfl (by omega) (by decide) rfl ?_
                refine j_goto hx 23 dX12_feed_117 rfl ?_
                have g28 : s12 a 0 = s3 a 0 := (by rw [e_s12, zU_at (Or.inr (by decide)), e_s11, zU_at (Or.inl (zne (zr (k := 9) (t2 := 72) hG ha rfl) ha (by decide)))])
                have f29 := zf hS_s3 ha (k := 0) rfl
                have g30 : s12 a 2 = (s3 a 2) + 1 := (by rw [e_s12, zU_eq])
                exact j_sub [2, 3, 4, 5, 6, 7, 0] [(0, .ref a), (1, .int (zI x1)), (2, .int (zI x2)), (3, .int (zI x3)), (4, .int (zI x4)), (5, .int (zI x5)), (6, .int (zI (v3 + 1)))] rfl (ih_c23_2 (v3 + 1) s12 (by omega) (by omega) hS_s12 (zFr_u (zFr_u (zFr_t zFr_rf hF_s3 (by decide)) e_s11 (zr (k := 9) (t2 := 72) hG ha rfl) (by decide)) e_s12 ha (by decide)) (by omega) (by omega) (by omega) (by omega))
              · skip
                refine j_iload hx 4 dX12_feed_69 rfl ?_
                refine j_goto hx 76 dX12_feed_71 rfl ?_
                refine j_istore hx [(7, .int (zI x4)), (0, .ref a), (1, .int (zI x1)), (2, .int (zI x2)), (3, .int (zI x3)), (4, .int (zI x4)), (5, .int (zI x5)), (6, .int (zI v3))] dX12_feed_76 (by decide) rfl ?_
                refine j_aload_n hx 1 dX12_feed_78 rfl ?_
                refine g13_9 hx hG ha kf_RX12_20 dX12_feed_79 ?_
                refine j_aload_n hx 1 dX12_feed_82 rfl ?_
                have f31 := zf hS_s3 ha (k := 2) rfl
                refine g13_2 hx hG ha kf_RX12_134 rfl dX12_feed_83 ?_
                refine j_iload hx 0 dX12_feed_86 rfl ?_
                refine j_bipush hx dX12_feed_88 rfl ?_
                refine j_bipush hx dX12_feed_90 rfl ?_
                refine j_iload hx 7 dX12_feed_92 rfl ?_
                refine j_iconst hx dX12_feed_94 ?_
                refine j_irem hx dX12_feed_95 (by omega) ⟨by decide, by decide⟩ (by decide) (fun v32 f33 f34 f35 f36 => ?_)
                refine j_imul hx (r := 8 * v32) dX12_feed_96 rfl ?_
                refine j_isub hx (r := (-8) * v32 + 24) dX12_feed_97 (by omega) ?_
                refine j_ishrV hx dX12_feed_98 (fun v38 f39 f40 => ?_)
                refine j_sipush hx dX12_feed_99 rfl ?_
                refine j_iand hx dX12_feed_102 (by omega) ⟨by decide, by decide⟩ (fun v41 f42 f43 f44 f45 _ => ?_)
                refine j_iast hx hG (zr (k := 9) (t2 := 72) hG ha rfl) (by decide) rfl (zlen hG (zr (k := 9) (t2 := 72) hG ha rfl) (n := 600) rfl rfl) (by omega) (by omega) (j := ((s3 a 2)).toNat) rfl dX12_feed_103 ?_
                obtain ⟨s13, e_s13⟩ : ∃ z, z = zU s3 (gP G a 9) ((s3 a 2)).toNat v41 := ⟨_, rfl⟩
                rw [← e_s13]
                have hS_s13 : zSK G s13 := by rw [e_s13]; exact zSK_A hS_s3 (zr (k := 9) (t2 := 72) hG ha rfl) rfl rfl rfl (by omega)
                refine j_aload_n hx 1 dX12_feed_104 rfl ?_
                refine j_dup hx dX12_feed_105 rfl ?_
                refine g13_2 hx hG ha kf_RX12_134 (v := (s3 a 2)) (by rw [e_s13, zU_at (Or.inl (zne (zr (k := 9) (t2 := 72) hG ha rfl) ha (by decide)))]) dX12_feed_106 ?_
                refine j_iconst hx dX12_feed_109 ?_
                refine j_iadd hx (r := (s3 a 2) + 1) dX12_feed_110 (by omega) ?_
                refine p13_2 hx hG ha kf_RX12_134 dX12_feed_111 ?_
                obtain ⟨s14, e_s14⟩ : ∃ z, z = zU s13 a 2 ((s3 a 2) + 1) := ⟨_, rfl⟩
                rw [← e_s14]
                have hS_s14 : zSK G s14 := by rw [e_s14]; exact zSK_F hS_s13 ha rfl rfl rfl (by omega)
                refine j_iinc hx 7 [(6, .int (zI (v3 + 1))), (7, .int (zI x4)), (0, .ref a), (1, .int (zI x1)), (2, .int (zI x2)), (3, .int (zI x3)), (4, .int (zI x4)), (5, .int (zI x5))] dX12_feed_114 rfl (by omega) (by decide) rfl ?_
                refine j_goto hx 23 dX12_feed_117 rfl ?_
                have g47 : s14 a 0 = s3 a 0 := (by rw [e_s14, zU_at (Or.inr (by decide)), e_s13, zU_at (Or.inl (zne (zr (k := 9) (t2 := 72) hG ha rfl) ha (by decide)))])
                have f48 := zf hS_s3 ha (k := 0) rfl
                have g49 : s14 a 2 = (s3 a 2) + 1 := (by rw [e_s14, zU_eq])
                exact j_sub [2, 3, 4, 5, 6, 7, 0] [(0, .ref a), (1, .int (zI x1)), (2, .int (zI x2)), (3, .int (zI x3)), (4, .int (zI x4)), (5, .int (zI x5)), (6, .int (zI (v3 + 1)))] rfl (ih_c23_2 (v3 + 1) s14 (by omega) (by omega) hS_s14 (zFr_u (zFr_u (zFr_t zFr_rf hF_s3 (by decide)) e_s13 (zr (k := 9) (t2 := 72) hG ha rfl) (by decide)) e_s14 ha (by decide)) (by omega) (by omega) (by omega) (by omega))
            · skip
              refine j_iload_n hx 3 dX12_feed_58 rfl ?_
              refine j_goto hx 76 dX12_feed_59 rfl ?_
              refine j_istore hx [(7, .int (zI x3)), (0, .ref a), (1, .int (zI x1)), (2, .int (zI x2)), (3, .int (zI x3)), (4, .int (zI x4)), (5, .int (zI x5)), (6, .int (zI v3))] dX12_feed_76 (by decide) rfl ?_
              refine j_aload_n hx 1 dX12_feed_78 rfl ?_
              refine g13_9 hx hG ha kf_RX12_20 dX12_feed_79 ?_
              refine j_aload_n hx 1 dX12_feed_82 rfl ?_
              have f50 := zf hS_s3 ha (k := 2) rfl
              refine g13_2 hx hG ha kf_RX12_134 rfl dX12_feed_83 ?_
              refine j_iload hx 0 dX12_feed_86 rfl ?_
              refine j_bipush hx dX12_feed_88 rfl ?_
              refine j_bipush hx dX12_feed_90 rfl ?_
              refine j_iload hx 7 dX12_feed_92 rfl ?_
              refine j_iconst hx dX12_feed_94 ?_
              refine j_irem hx dX12_feed_95 (by omega) ⟨by decide, by decide⟩ (by decide) (fun v51 f52 f53 f54 f55 => ?_)
              refine j_imul hx (r := 8 * v51) dX12_feed_96 rfl ?_
              refine j_isub hx (r := (-8) * v51 + 24) dX12_feed_97 (by omega) ?_
              refine j_ishrV hx dX12_feed_98 (fun v57 f58 f59 => ?_)
              refine j_sipush hx dX12_feed_99 rfl ?_
              refine j_iand hx dX12_feed_102 (by omega) ⟨by decide, by decide⟩ (fun v60 f61 f62 f63 f64 _ => ?_)
              refine j_iast hx hG (zr (k := 9) (t2 := 72) hG ha rfl) (by decide) rfl (zlen hG (zr (k := 9) (t2 := 72) hG ha rfl) (n := 600) rfl rfl) (by omega) (by omega) (j := ((s3 a 2)).toNat) rfl dX12_feed_103 ?_
              obtain ⟨s15, e_s15⟩ : ∃ z, z = zU s3 (gP G a 9) ((s3 a 2)).toNat v60 := ⟨_, rfl⟩
              rw [← e_s15]
              have hS_s15 : zSK G s15 := by rw [e_s15]; exact zSK_A hS_s3 (zr (k := 9) (t2 := 72) hG ha rfl) rfl rfl rfl (by omega)
              refine j_aload_n hx 1 dX12_feed_104 rfl ?_
              refine j_dup hx dX12_feed_105 rfl ?_
              refine g13_2 hx hG ha kf_RX12_134 (v := (s3 a 2)) (by rw [e_s15, zU_at (Or.inl (zne (zr (k := 9) (t2 := 72) hG ha rfl) ha (by decide)))]) dX12_feed_106 ?_
              refine j_iconst hx dX12_feed_109 ?_
              refine j_iadd hx (r := (s3 a 2) + 1) dX12_feed_110 (by omega) ?_
              refine p13_2 hx hG ha kf_RX12_134 dX12_feed_111 ?_
              obtain ⟨s16, e_s16⟩ : ∃ z, z = zU s15 a 2 ((s3 a 2) + 1) := ⟨_, rfl⟩
              rw [← e_s16]
              have hS_s16 : zSK G s16 := by rw [e_s16]; exact zSK_F hS_s15 ha rfl rfl rfl (by omega)
              refine j_iinc hx 7 [(6, .int (zI (v3 + 1))), (7, .int (zI x3)), (0, .ref a), (1, .int (zI x1)), (2, .int (zI x2)), (3, .int (zI x3)), (4, .int (zI x4)), (5, .int (zI x5))] dX12_feed_114 rfl (by omega) (by decide) rfl ?_
              refine j_goto hx 23 dX12_feed_117 rfl ?_
              have g66 : s16 a 0 = s3 a 0 := (by rw [e_s16, zU_at (Or.inr (by decide)), e_s15, zU_at (Or.inl (zne (zr (k := 9) (t2 := 72) hG ha rfl) ha (by decide)))])
              have f67 := zf hS_s3 ha (k := 0) rfl
              have g68 : s16 a 2 = (s3 a 2) + 1 := (by rw [e_s16, zU_eq])
              exact j_sub [2, 3, 4, 5, 6, 7, 0] [(0, .ref a), (1, .int (zI x1)), (2, .int (zI x2)), (3, .int (zI x3)), (4, .int (zI x4)), (5, .int (zI x5)), (6, .int (zI (v3 + 1)))] rfl (ih_c23_2 (v3 + 1) s16 (by omega) (by omega) hS_s16 (zFr_u (zFr_u (zFr_t zFr_rf hF_s3 (by decide)) e_s15 (zr (k := 9) (t2 := 72) hG ha rfl) (by decide)) e_s16 ha (by decide)) (by omega) (by omega) (by omega) (by omega))
          · skip
            refine j_iload_n hx 2 dX12_feed_47 rfl ?_
            refine j_goto hx 76 dX12_feed_48 rfl ?_
            refine j_istore hx [(7, .int (zI x2)), (0, .ref a), (1, .int (zI x1)), (2, .int (zI x2)), (3, .int (zI x3)), (4, .int (zI x4)), (5, .int (zI x5)), (6, .int (zI v3))] dX12_feed_76 (by decide) rfl ?_
            refine j_aload_n hx 1 dX12_feed_78 rfl ?_
            refine g13_9 hx hG ha kf_RX12_20 dX12_feed_79 ?_
            refine j_aload_n hx 1 dX12_feed_82 rfl ?_
            have f69 := zf hS_s3 ha (k := 2) rfl
            refine g13_2 hx hG ha kf_RX12_134 rfl dX12_feed_83 ?_
            refine j_iload hx 0 dX12_feed_86 rfl ?_
            refine j_bipush hx dX12_feed_88 rfl ?_
            refine j_bipush hx dX12_feed_90 rfl ?_
            refine j_iload hx 7 dX12_feed_92 rfl ?_
            refine j_iconst hx dX12_feed_94 ?_
            refine j_irem hx dX12_feed_95 (by omega) ⟨by decide, by decide⟩ (by decide) (fun v70 f71 f72 f73 f74 => ?_)
            refine j_imul hx (r := 8 * v70) dX12_feed_96 rfl ?_
            refine j_isub hx (r := (-8) * v70 + 24) dX12_feed_97 (by omega) ?_
            refine j_ishrV hx dX12_feed_98 (fun v76 f77 f78 => ?_)
            refine j_sipush hx dX12_feed_99 rfl ?_
            refine j_iand hx dX12_feed_102 (by omega) ⟨by decide, by decide⟩ (fun v79 f80 f81 f82 f83 _ => ?_)
            refine j_iast hx hG (zr (k := 9) (t2 := 72) hG ha rfl) (by decide) rfl (zlen hG (zr (k := 9) (t2 := 72) hG ha rfl) (n := 600) rfl rfl) (by omega) (by omega) (j := ((s3 a 2)).toNat) rfl dX12_feed_103 ?_
            obtain ⟨s17, e_s17⟩ : ∃ z, z = zU s3 (gP G a 9) ((s3 a 2)).toNat v79 := ⟨_, rfl⟩
            rw [← e_s17]
            have hS_s17 : zSK G s17 := by rw [e_s17]; exact zSK_A hS_s3 (zr (k := 9) (t2 := 72) hG ha rfl) rfl rfl rfl (by omega)
            refine j_aload_n hx 1 dX12_feed_104 rfl ?_
            refine j_dup hx dX12_feed_105 rfl ?_
            refine g13_2 hx hG ha kf_RX12_134 (v := (s3 a 2)) (by rw [e_s17, zU_at (Or.inl (zne (zr (k := 9) (t2 := 72) hG ha rfl) ha (by decide)))]) dX12_feed_106 ?_
            refine j_iconst hx dX12_feed_109 ?_
            refine j_iadd hx (r := (s3 a 2) + 1) dX12_feed_110 (by omega) ?_
            refine p13_2 hx hG ha kf_RX12_134 dX12_feed_111 ?_
            obtain ⟨s18, e_s18⟩ : ∃ z, z = zU s17 a 2 ((s3 a 2) + 1) := ⟨_, rfl⟩
            rw [← e_s18]
            have hS_s18 : zSK G s18 := by rw [e_s18]; exact zSK_F hS_s17 ha rfl rfl rfl (by omega)
            refine j_iinc hx 7 [(6, .int (zI (v3 + 1))), (7, .int (zI x2)), (0, .ref a), (1, .int (zI x1)), (2, .int (zI x2)), (3, .int (zI x3)), (4, .int (zI x4)), (5, .int (zI x5))] dX12_feed_114 rfl (by omega) (by decide) rfl ?_
            refine j_goto hx 23 dX12_feed_117 rfl ?_
            have g85 : s18 a 0 = s3 a 0 := (by rw [e_s18, zU_at (Or.inr (by decide)), e_s17, zU_at (Or.inl (zne (zr (k := 9) (t2 := 72) hG ha rfl) ha (by decide)))])
            have f86 := zf hS_s3 ha (k := 0) rfl
            have g87 : s18 a 2 = (s3 a 2) + 1 := (by rw [e_s18, zU_eq])
            exact j_sub [2, 3, 4, 5, 6, 7, 0] [(0, .ref a), (1, .int (zI x1)), (2, .int (zI x2)), (3, .int (zI x3)), (4, .int (zI x4)), (5, .int (zI x5)), (6, .int (zI (v3 + 1)))] rfl (ih_c23_2 (v3 + 1) s18 (by omega) (by omega) hS_s18 (zFr_u (zFr_u (zFr_t zFr_rf hF_s3 (by decide)) e_s17 (zr (k := 9) (t2 := 72) hG ha rfl) (by decide)) e_s18 ha (by decide)) (by omega) (by omega) (by omega) (by omega))
        · skip
          refine j_iload_n hx 1 dX12_feed_36 rfl ?_
          refine j_goto hx 76 dX12_feed_37 rfl ?_
          refine j_istore hx [(7, .int (zI x1)), (0, .ref a), (1, .int (zI x1)), (2, .int (zI x2)), (3, .int (zI x3)), (4, .int (zI x4)), (5, .int (zI x5)), (6, .int (zI v3))] dX12_feed_76 (by decide) rfl ?_
          refine j_aload_n hx 1 dX12_feed_78 rfl ?_
          refine g13_9 hx hG ha kf_RX12_20 dX12_feed_79 ?_
          refine j_aload_n hx 1 dX12_feed_82 rfl ?_
          have f88 := zf hS_s3 ha (k := 2) rfl
          refine g13_2 hx hG ha kf_RX12_134 rfl dX12_feed_83 ?_
          refine j_iload hx 0 dX12_feed_86 rfl ?_
          refine j_bipush hx dX12_feed_88 rfl ?_
          refine j_bipush hx dX12_feed_90 rfl ?_
          refine j_iload hx 7 dX12_feed_92 rfl ?_
          refine j_iconst hx dX12_feed_94 ?_
          refine j_irem hx dX12_feed_95 (by omega) ⟨by decide, by decide⟩ (by decide) (fun v89 f90 f91 f92 f93 => ?_)
          refine j_imul hx (r := 8 * v89) dX12_feed_96 rfl ?_
          refine j_isub hx (r := (-8) * v89 + 24) dX12_feed_97 (by omega) ?_
          refine j_ishrV hx dX12_feed_98 (fun v95 f96 f97 => ?_)
          refine j_sipush hx dX12_feed_99 rfl ?_
          refine j_iand hx dX12_feed_102 (by omega) ⟨by decide, by decide⟩ (fun v98 f99 f100 f101 f102 _ => ?_)
          refine j_iast hx hG (zr (k := 9) (t2 := 72) hG ha rfl) (by decide) rfl (zlen hG (zr (k := 9) (t2 := 72) hG ha rfl) (n := 600) rfl rfl) (by omega) (by omega) (j := ((s3 a 2)).toNat) rfl dX12_feed_103 ?_
          obtain ⟨s19, e_s19⟩ : ∃ z, z = zU s3 (gP G a 9) ((s3 a 2)).toNat v98 := ⟨_, rfl⟩
          rw [← e_s19]
          have hS_s19 : zSK G s19 := by rw [e_s19]; exact zSK_A hS_s3 (zr (k := 9) (t2 := 72) hG ha rfl) rfl rfl rfl (by omega)
          refine j_aload_n hx 1 dX12_feed_104 rfl ?_
          refine j_dup hx dX12_feed_105 rfl ?_
          refine g13_2 hx hG ha kf_RX12_134 (v := (s3 a 2)) (by rw [e_s19, zU_at (Or.inl (zne (zr (k := 9) (t2 := 72) hG ha rfl) ha (by decide)))]) dX12_feed_106 ?_
          refine j_iconst hx dX12_feed_109 ?_
          refine j_iadd hx (r := (s3 a 2) + 1) dX12_feed_110 (by omega) ?_
          refine p13_2 hx hG ha kf_RX12_134 dX12_feed_111 ?_
          obtain ⟨s20, e_s20⟩ : ∃ z, z = zU s19 a 2 ((s3 a 2) + 1) := ⟨_, rfl⟩
          rw [← e_s20]
          have hS_s20 : zSK G s20 := by rw [e_s20]; exact zSK_F hS_s19 ha rfl rfl rfl (by omega)
          refine j_iinc hx 7 [(6, .int (zI (v3 + 1))), (7, .int (zI x1)), (0, .ref a), (1, .int (zI x1)), (2, .int (zI x2)), (3, .int (zI x3)), (4, .int (zI x4)), (5, .int (zI x5))] dX12_feed_114 rfl (by omega) (by decide) rfl ?_
          refine j_goto hx 23 dX12_feed_117 rfl ?_
          have g104 : s20 a 0 = s3 a 0 := (by rw [e_s20, zU_at (Or.inr (by decide)), e_s19, zU_at (Or.inl (zne (zr (k := 9) (t2 := 72) hG ha rfl) ha (by decide)))])
          have f105 := zf hS_s3 ha (k := 0) rfl
          have g106 : s20 a 2 = (s3 a 2) + 1 := (by rw [e_s20, zU_eq])
          exact j_sub [2, 3, 4, 5, 6, 7, 0] [(0, .ref a), (1, .int (zI x1)), (2, .int (zI x2)), (3, .int (zI x3)), (4, .int (zI x4)), (5, .int (zI x5)), (6, .int (zI (v3 + 1)))] rfl (ih_c23_2 (v3 + 1) s20 (by omega) (by omega) hS_s20 (zFr_u (zFr_u (zFr_t zFr_rf hF_s3 (by decide)) e_s19 (zr (k := 9) (t2 := 72) hG ha rfl) (by decide)) e_s20 ha (by decide)) (by omega) (by omega) (by omega) (by omega))
  have g107 : s1 a 2 = s0 a 2 := (by rw [e_s1, zU_at (Or.inr (by decide))])
  exact j_sub [1, 2, 3, 4, 5, 6, 0] [(0, .ref a), (1, .int (zI x1)), (2, .int (zI x2)), (3, .int (zI x3)), (4, .int (zI x4)), (5, .int (zI x5)), (6, .int (zI 0))] rfl (c23_2 (2147483648 * 4) 0 s1 (by omega) (by omega) hS_s1 zFr_rf (by omega) (by omega) (by omega) (by omega))

set_option maxHeartbeats 4000000 in
set_option maxRecDepth 20000 in
theorem c_X12_may {E : zE} {l : Launch} (hst : l.stackTraces = false) (a : Nat) (x1 : Int) (x2 : Int) (x3 : Int) : Con E l yX12_may cX12_may 4 (some .boolean) { frames := 0, cells := 0, slots := 0, locals := 0 } (fun G s vs => vs = [.ref a, .int (zI x1), .int (zI x2), .int (zI x3)] ∧ zGK G ∧ zSK G s ∧ (gT G a = 13) ∧ (0 ≤ x1 ∧ x1 ≤ 1) ∧ (1 ≤ x2 ∧ x2 ≤ 2) ∧ (0 ≤ x3 ∧ x3 ≤ 1)) (fun G s _ => pI (fun r G2 s2 => G2 = G ∧ zSK G s2 ∧ zFr [13, 71] G s s2 ∧ (0 ≤ r ∧ r ≤ 1))) := by
  refine Con.mk hst (by decide) (fun G s vs h => by rw [h.1]; exact Nat.le_of_ble_eq_true rfl) ?_
  rintro X G s0 vs ⟨rfl, hG, hS0, ha, hx1, hx2, hx3⟩ rfl hx hq
  show JJ X E 4 G s0 0 0 [(0, .ref a), (1, .int (zI x1)), (2, .int (zI x2)), (3, .int (zI x3))] 0 []
  refine j_iload_n hx 1 dX12_may_0 rfl ?_
  have c26_1 : ∀ (s2 : zS), (zSK G s2) → (zFr [13, 71] G s0 s2) → JJ X E 4 G s2 0 0 [(0, .ref a)] 26 [] := by
    intro s2 hS_s2 hF_s2
    refine j_aload_n hx 0 dX12_may_26 rfl ?_
    have f1 := zf hS_s2 ha (k := 0) rfl
    refine g13_0 hx hG ha kf_RX12_3 rfl dX12_may_27 ?_
    refine j_if_ne hx 37 dX12_may_30 rfl (by omega) (fun h2 => ?_) (fun h2 => ?_)
    · skip
      refine j_iconst hx dX12_may_37 ?_
      exact j_zret hx hq rfl (by decide) (by decide) dX12_may_38 (by omega) ⟨0, rfl, rfl, hS_s2, (zFr_t zFr_rf hF_s2 (by decide)), (by omega)⟩
    · skip
      refine j_iconst hx dX12_may_33 ?_
      refine j_goto hx 38 dX12_may_34 rfl ?_
      exact j_zret hx hq rfl (by decide) (by decide) dX12_may_38 (by omega) ⟨1, rfl, rfl, hS_s2, (zFr_t zFr_rf hF_s2 (by decide)), (by omega)⟩
  refine j_if_ne hx 26 dX12_may_1 rfl (by omega) (fun h3 => ?_) (fun h3 => ?_)
  · skip
    exact j_sub [0] [(0, .ref a)] rfl (c26_1 s0 hS0 zFr_rf)
  · skip
    refine j_aload_n hx 0 dX12_may_4 rfl ?_
    have f4 := zf hS0 ha (k := 0) rfl
    refine g13_0 hx hG ha kf_RX12_3 rfl dX12_may_5 ?_
    refine j_if_ne hx 26 dX12_may_8 rfl (by omega) (fun h5 => ?_) (fun h5 => ?_)
    · skip
      exact j_sub [0] [(0, .ref a)] rfl (c26_1 s0 hS0 zFr_rf)
    · skip
      refine j_aload_n hx 0 dX12_may_11 rfl ?_
      refine j_iload_n hx 2 dX12_may_12 rfl ?_
      refine p13_0 hx hG ha kf_RX12_3 dX12_may_13 ?_
      obtain ⟨s5, e_s5⟩ : ∃ z, z = zU s0 a 0 x2 := ⟨_, rfl⟩
      rw [← e_s5]
      have hS_s5 : zSK G s5 := by rw [e_s5]; exact zSK_F hS0 ha rfl rfl rfl (by omega)
      refine j_aload_n hx 0 dX12_may_16 rfl ?_
      refine g13_1 hx hG ha kf_RX12_7 dX12_may_17 ?_
      refine j_iload_n hx 3 dX12_may_20 rfl ?_
      refine j_dup2 hx dX12_may_21 rfl rfl ?_
      have f6 := zaI (j := (x3).toNat) hS0 (zr (k := 1) (t2 := 71) hG ha rfl) rfl (zlen hG (zr (k := 1) (t2 := 71) hG ha rfl) (n := 2) rfl rfl) (show 0 ≤ x3 by omega) (by omega) rfl
      refine j_iald hx hG (zr (k := 1) (t2 := 71) hG ha rfl) (by decide) rfl (zlen hG (zr (k := 1) (t2 := 71) hG ha rfl) (n := 2) rfl rfl) (by omega) (by omega) (j := (x3).toNat) rfl (v := (s0 (gP G a 1) (x3).toNat)) (by rw [e_s5, zU_at (Or.inl (zne ha (zr (k := 1) (t2 := 71) hG ha rfl) (by decide)))]) dX12_may_22 ?_
      refine j_iconst hx dX12_may_23 ?_
      refine j_iadd hx (r := (s0 (gP G a 1) (x3).toNat) + 1) dX12_may_24 (by omega) ?_
      refine j_norm (fun v7 f8 f9 f10 => ?_)
      refine j_iast hx hG (zr (k := 1) (t2 := 71) hG ha rfl) (by decide) rfl (zlen hG (zr (k := 1) (t2 := 71) hG ha rfl) (n := 2) rfl rfl) (by omega) (by omega) (j := (x3).toNat) rfl dX12_may_25 ?_
      obtain ⟨s6, e_s6⟩ : ∃ z, z = zU s5 (gP G a 1) (x3).toNat v7 := ⟨_, rfl⟩
      rw [← e_s6]
      have hS_s6 : zSK G s6 := by rw [e_s6]; exact zSK_A hS_s5 (zr (k := 1) (t2 := 71) hG ha rfl) rfl rfl rfl (by omega)
      exact j_sub [0] [(0, .ref a)] rfl (c26_1 s6 hS_s6 (zFr_u (zFr_u zFr_rf e_s5 ha (by decide)) e_s6 (zr (k := 1) (t2 := 71) hG ha rfl) (by decide)))

set_option maxHeartbeats 4000000 in
set_option maxRecDepth 20000 in
theorem c_X12_begins {E : zE} {l : Launch} (hst : l.stackTraces = false) (a : Nat) (x1 : Int) : Con E l yX12_begins cX12_begins 2 none { frames := 0, cells := 0, slots := 0, locals := 0 } (fun G s vs => vs = [.ref a, .int (zI x1)] ∧ zGK G ∧ zSK G s ∧ (gT G a = 13) ∧ (0 ≤ x1 ∧ x1 ≤ 0)) (fun G s _ => pV (fun G2 s2 => G2 = G ∧ zSK G s2 ∧ zFr [13] G s s2 ∧ s2 a 5 = -1 ∧ s2 a 0 = s a 0)) := by
  refine Con.mk hst (by decide) (fun G s vs h => by rw [h.1]; exact Nat.le_of_ble_eq_true rfl) ?_
  rintro X G s0 vs ⟨rfl, hG, hS0, ha, hx1⟩ rfl hx hq
  show JJ X E 2 G s0 0 0 [(0, .ref a), (1, .int (zI x1))] 0 []
  refine j_aload_n hx 0 dX12_begins_0 rfl ?_
  refine j_iconst hx dX12_begins_1 ?_
  refine p13_2 hx hG ha kf_RX12_134 dX12_begins_2 ?_
  obtain ⟨s1, e_s1⟩ : ∃ z, z = zU s0 a 2 0 := ⟨_, rfl⟩
  rw [← e_s1]
  have hS_s1 : zSK G s1 := by rw [e_s1]; exact zSK_F hS0 ha rfl rfl rfl (by omega)
  refine j_aload_n hx 0 dX12_begins_5 rfl ?_
  refine j_iconst hx dX12_begins_6 ?_
  refine p13_8 hx hG ha kf_RX12_17 dX12_begins_7 ?_
  obtain ⟨s2, e_s2⟩ : ∃ z, z = zU s1 a 8 (-1) := ⟨_, rfl⟩
  rw [← e_s2]
  have hS_s2 : zSK G s2 := by rw [e_s2]; exact zSK_F hS_s1 ha rfl rfl rfl (by omega)
  refine j_aload_n hx 0 dX12_begins_10 rfl ?_
  refine j_iload_n hx 1 dX12_begins_11 rfl ?_
  refine p13_3 hx hG ha kf_RX12_146 dX12_begins_12 ?_
  obtain ⟨s3, e_s3⟩ : ∃ z, z = zU s2 a 3 x1 := ⟨_, rfl⟩
  rw [← e_s3]
  have hS_s3 : zSK G s3 := by rw [e_s3]; exact zSK_F hS_s2 ha rfl rfl rfl (by omega)
  refine j_aload_n hx 0 dX12_begins_15 rfl ?_
  refine j_iconst hx dX12_begins_16 ?_
  refine p13_4 hx hG ha kf_RX12_143 dX12_begins_17 ?_
  obtain ⟨s4, e_s4⟩ : ∃ z, z = zU s3 a 4 0 := ⟨_, rfl⟩
  rw [← e_s4]
  have hS_s4 : zSK G s4 := by rw [e_s4]; exact zSK_F hS_s3 ha rfl rfl rfl (by omega)
  refine j_aload_n hx 0 dX12_begins_20 rfl ?_
  refine j_iconst hx dX12_begins_21 ?_
  refine p13_5 hx hG ha kf_RX12_137 dX12_begins_22 ?_
  obtain ⟨s5, e_s5⟩ : ∃ z, z = zU s4 a 5 (-1) := ⟨_, rfl⟩
  rw [← e_s5]
  have hS_s5 : zSK G s5 := by rw [e_s5]; exact zSK_F hS_s4 ha rfl rfl rfl (by omega)
  refine j_aload_n hx 0 dX12_begins_25 rfl ?_
  refine j_iconst hx dX12_begins_26 ?_
  refine p13_7 hx hG ha kf_RX12_177 dX12_begins_27 ?_
  obtain ⟨s6, e_s6⟩ : ∃ z, z = zU s5 a 7 0 := ⟨_, rfl⟩
  rw [← e_s6]
  have hS_s6 : zSK G s6 := by rw [e_s6]; exact zSK_F hS_s5 ha rfl rfl rfl (by omega)
  have g1 : s6 a 5 = (-1) := (by rw [e_s6, zU_at (Or.inr (by decide)), e_s5, zU_eq])
  have g2 : s6 a 0 = s0 a 0 := (by rw [e_s6, zU_at (Or.inr (by decide)), e_s5, zU_at (Or.inr (by decide)), e_s4, zU_at (Or.inr (by decide)), e_s3, zU_at (Or.inr (by decide)), e_s2, zU_at (Or.inr (by decide)), e_s1, zU_at (Or.inr (by decide))])
  have f3 := zf hS0 ha (k := 0) rfl
  exact j_vret hx hq rfl (by decide) (by decide) dX12_begins_30 ⟨rfl, rfl, hS_s6, (zFr_u (zFr_u (zFr_u (zFr_u (zFr_u (zFr_u zFr_rf e_s1 ha (by decide)) e_s2 ha (by decide)) e_s3 ha (by decide)) e_s4 ha (by decide)) e_s5 ha (by decide)) e_s6 ha (by decide)), ⟨((by rw [e_s6, zU_at (Or.inr (by decide)), e_s5, zU_eq]) : s6 a 5 = (-1)).trans (by omega), by omega⟩⟩

set_option maxHeartbeats 4000000 in
set_option maxRecDepth 20000 in
theorem c_X12_fine_t {E : zE} {l : Launch} (hst : l.stackTraces = false) (a : Nat) : Con E l yX12_fine cX12_fine 1 (some .boolean) { frames := 0, cells := 0, slots := 0, locals := 0 } (fun G s vs => vs = [.ref a] ∧ zGK G ∧ zSK G s ∧ (gT G a = 13) ∧ (s a 5 = -1)) (fun G s _ => pI (fun r G2 s2 => G2 = G ∧ s2 = s ∧ (1 ≤ r ∧ r ≤ 1))) := by
  refine Con.mk hst (by decide) (fun G s vs h => by rw [h.1]; exact Nat.le_of_ble_eq_true rfl) ?_
  rintro X G s0 vs ⟨rfl, hG, hS0, ha, e0⟩ rfl hx hq
  show JJ X E 1 G s0 0 0 [(0, .ref a)] 0 []
  refine j_aload_n hx 0 dX12_fine_0 rfl ?_
  refine g13_5 hx hG ha kf_RX12_137 rfl dX12_fine_1 ?_
  refine j_iconst hx dX12_fine_4 ?_
  refine j_icmp_ne hx 12 dX12_fine_5 rfl (by omega) ⟨by decide, by decide⟩ (fun h1 => absurd h1 (by omega)) (fun h1 => ?_)
  refine j_iconst hx dX12_fine_8 ?_
  refine j_goto hx 13 dX12_fine_9 rfl ?_
  exact j_zret hx hq rfl (by decide) (by decide) dX12_fine_13 (by omega) ⟨1, rfl, rfl, rfl, (by omega)⟩

set_option maxHeartbeats 4000000 in
set_option maxRecDepth 20000 in
theorem c_X12_here {E : zE} {l : Launch} (hst : l.stackTraces = false) (a : Nat) : Con E l yX12_here cX12_here 1 (some .int) { frames := 0, cells := 0, slots := 0, locals := 0 } (fun G s vs => vs = [.ref a] ∧ zGK G ∧ zSK G s ∧ (gT G a = 13)) (fun G s _ => pI (fun r G2 s2 => G2 = G ∧ s2 = s ∧ ((-2147483648) ≤ r ∧ r ≤ 2147483647))) := by
  refine Con.mk hst (by decide) (fun G s vs h => by rw [h.1]; exact Nat.le_of_ble_eq_true rfl) ?_
  rintro X G s0 vs ⟨rfl, hG, hS0, ha⟩ rfl hx hq
  show JJ X E 1 G s0 0 0 [(0, .ref a)] 0 []
  refine j_aload_n hx 0 dX12_here_0 rfl ?_
  have f1 := zf hS0 ha (k := 4) rfl
  refine g13_4 hx hG ha kf_RX12_143 rfl dX12_here_1 ?_
  refine j_aload_n hx 0 dX12_here_4 rfl ?_
  have f2 := zf hS0 ha (k := 3) rfl
  refine g13_3 hx hG ha kf_RX12_146 rfl dX12_here_5 ?_
  refine j_icmp_ge hx 38 dX12_here_8 rfl (by omega) (by omega) (fun h3 => ?_) (fun h3 => absurd h3 (by omega))
  refine j_aload_n hx 0 dX12_here_38 rfl ?_
  refine g13_4 hx hG ha kf_RX12_143 rfl dX12_here_39 ?_
  refine j_aload_n hx 0 dX12_here_42 rfl ?_
  refine g13_3 hx hG ha kf_RX12_146 rfl dX12_here_43 ?_
  refine j_icmp_ge hx 61 dX12_here_46 rfl (by omega) (by omega) (fun h4 => ?_) (fun h4 => absurd h4 (by omega))
  refine j_iconst hx dX12_here_61 ?_
  exact j_iret hx hq rfl (by decide) (by decide) dX12_here_62 ⟨0, rfl, rfl, rfl, (by omega)⟩

theorem lk_RX12_149 : LkV RX12 149 RX12 yX12_here cX12_here 1 (some .int) 0 := ⟨km_RX12_149, ki_yX12_here, ks_RX12_yX12_here, kn_RX12, kc_yX12_here, rfl, by decide +kernel, by decide +kernel, by decide +kernel⟩
set_option maxHeartbeats 4000000 in
set_option maxRecDepth 20000 in
theorem c_X12_isMore {E : zE} {l : Launch} (hst : l.stackTraces = false) (a : Nat) : Con E l yX12_isMore cX12_isMore 1 (some .boolean) { frames := 1, cells := 0, slots := 0, locals := 20 } (fun G s vs => vs = [.ref a] ∧ zGK G ∧ zSK G s ∧ (gT G a = 13)) (fun G s _ => pI (fun r G2 s2 => G2 = G ∧ s2 = s ∧ (0 ≤ r ∧ r ≤ 0))) := by
  refine Con.mk hst (by decide) (fun G s vs h => by rw [h.1]; exact Nat.le_of_ble_eq_true rfl) ?_
  rintro X G s0 vs ⟨rfl, hG, hS0, ha⟩ rfl hx hq
  show JJ X E 1 G s0 0 0 [(0, .ref a)] 0 []
  refine j_aload_n hx 0 dX12_isMore_0 rfl ?_
  refine j_callV hx hG (c_X12_here hst a) lk_RX12_149 ha (by decide) rfl rfl rfl rfl [] ⟨rfl, hG, hS0, ha⟩ rfl rfl ⟨by decide, by decide⟩ ⟨by decide, by decide⟩ (k2 := 0) (n2 := 0) rfl rfl (Nat.le_of_ble_eq_true rfl) dX12_isMore_1 (kIP (fun v1 q2 => ?_))
  refine j_pop hx dX12_isMore_4 rfl ?_
  refine j_aload_n hx 0 dX12_isMore_5 rfl ?_
  have f3 := zf hS0 ha (k := 4) rfl
  refine g13_4 hx hG ha kf_RX12_143 rfl dX12_isMore_6 ?_
  refine j_aload_n hx 0 dX12_isMore_9 rfl ?_
  have f4 := zf hS0 ha (k := 3) rfl
  refine g13_3 hx hG ha kf_RX12_146 rfl dX12_isMore_10 ?_
  refine j_icmp_ge hx 20 dX12_isMore_13 rfl (by omega) (by omega) (fun h5 => ?_) (fun h5 => absurd h5 (by omega))
  refine j_iconst hx dX12_isMore_20 ?_
  exact j_zret hx hq rfl (by decide) (by decide) dX12_isMore_21 (by omega) ⟨0, rfl, rfl, rfl, (by omega)⟩

set_option maxHeartbeats 4000000 in
set_option maxRecDepth 20000 in
theorem c_X12_wrong {E : zE} {l : Launch} (hst : l.stackTraces = false) (a : Nat) (x1 : Int) (x2 : Int) : Con E l yX12_wrong cX12_wrong 3 none { frames := 0, cells := 0, slots := 0, locals := 0 } (fun G s vs => vs = [.ref a, .int (zI x1), .int (zI x2)] ∧ zGK G ∧ zSK G s ∧ (gT G a = 13) ∧ (4 ≤ x1 ∧ x1 ≤ 4) ∧ (0 ≤ x2 ∧ x2 ≤ 0) ∧ (s a 5 = -1)) (fun G s _ => pV (fun G2 s2 => G2 = G ∧ zSK G s2 ∧ zFr [13] G s s2 ∧ s2 a 5 = 0 ∧ s2 a 6 = 4 ∧ s2 a 0 = s a 0)) := by
  refine Con.mk hst (by decide) (fun G s vs h => by rw [h.1]; exact Nat.le_of_ble_eq_true rfl) ?_
  rintro X G s0 vs ⟨rfl, hG, hS0, ha, hx1, hx2, e0⟩ rfl hx hq
  show JJ X E 3 G s0 0 0 [(0, .ref a), (1, .int (zI x1)), (2, .int (zI x2))] 0 []
  refine j_aload_n hx 0 dX12_wrong_0 rfl ?_
  refine g13_5 hx hG ha kf_RX12_137 rfl dX12_wrong_1 ?_
  refine j_iconst hx dX12_wrong_4 ?_
  refine j_icmp_eq hx 9 dX12_wrong_5 rfl (by omega) ⟨by decide, by decide⟩ (fun h1 => ?_) (fun h1 => absurd h1 (by omega))
  refine j_aload_n hx 0 dX12_wrong_9 rfl ?_
  refine j_iload_n hx 2 dX12_wrong_10 rfl ?_
  refine p13_5 hx hG ha kf_RX12_137 dX12_wrong_11 ?_
  obtain ⟨s1, e_s1⟩ : ∃ z, z = zU s0 a 5 x2 := ⟨_, rfl⟩
  rw [← e_s1]
  have hS_s1 : zSK G s1 := by rw [e_s1]; exact zSK_F hS0 ha rfl rfl rfl (by omega)
  refine j_aload_n hx 0 dX12_wrong_14 rfl ?_
  refine j_iload_n hx 1 dX12_wrong_15 rfl ?_
  refine p13_6 hx hG ha kf_RX12_140 dX12_wrong_16 ?_
  obtain ⟨s2, e_s2⟩ : ∃ z, z = zU s1 a 6 x1 := ⟨_, rfl⟩
  rw [← e_s2]
  have hS_s2 : zSK G s2 := by rw [e_s2]; exact zSK_F hS_s1 ha rfl rfl rfl (by omega)
  have g2 : s2 a 5 = x2 := (by rw [e_s2, zU_at (Or.inr (by decide)), e_s1, zU_eq])
  have g3 : s2 a 6 = x1 := (by rw [e_s2, zU_eq])
  have g4 : s2 a 0 = s0 a 0 := (by rw [e_s2, zU_at (Or.inr (by decide)), e_s1, zU_at (Or.inr (by decide))])
  have f5 := zf hS0 ha (k := 0) rfl
  exact j_vret hx hq rfl (by decide) (by decide) dX12_wrong_19 ⟨rfl, rfl, hS_s2, (zFr_u (zFr_u zFr_rf e_s1 ha (by decide)) e_s2 ha (by decide)), ⟨((by rw [e_s2, zU_at (Or.inr (by decide)), e_s1, zU_eq]) : s2 a 5 = x2).trans (by omega), ((by rw [e_s2, zU_eq]) : s2 a 6 = x1).trans (by omega), by omega⟩⟩

set_option maxHeartbeats 4000000 in
set_option maxRecDepth 20000 in
theorem c_X12_fine_f {E : zE} {l : Launch} (hst : l.stackTraces = false) (a : Nat) : Con E l yX12_fine cX12_fine 1 (some .boolean) { frames := 0, cells := 0, slots := 0, locals := 0 } (fun G s vs => vs = [.ref a] ∧ zGK G ∧ zSK G s ∧ (gT G a = 13) ∧ (s a 5 = 0)) (fun G s _ => pI (fun r G2 s2 => G2 = G ∧ s2 = s ∧ (0 ≤ r ∧ r ≤ 0))) := by
  refine Con.mk hst (by decide) (fun G s vs h => by rw [h.1]; exact Nat.le_of_ble_eq_true rfl) ?_
  rintro X G s0 vs ⟨rfl, hG, hS0, ha, e0⟩ rfl hx hq
  show JJ X E 1 G s0 0 0 [(0, .ref a)] 0 []
  refine j_aload_n hx 0 dX12_fine_0 rfl ?_
  refine g13_5 hx hG ha kf_RX12_137 rfl dX12_fine_1 ?_
  refine j_iconst hx dX12_fine_4 ?_
  refine j_icmp_ne hx 12 dX12_fine_5 rfl (by omega) ⟨by decide, by decide⟩ (fun h1 => ?_) (fun h1 => absurd h1 (by omega))
  refine j_iconst hx dX12_fine_12 ?_
  exact j_zret hx hq rfl (by decide) (by decide) dX12_fine_13 (by omega) ⟨0, rfl, rfl, rfl, (by omega)⟩

theorem lk_RX12_166 : LkV RX12 166 RX12 yX12_fine cX12_fine 1 (some .boolean) 0 := ⟨km_RX12_166, ki_yX12_fine, ks_RX12_yX12_fine, kn_RX12, kc_yX12_fine, rfl, by decide +kernel, by decide +kernel, by decide +kernel⟩
set_option maxHeartbeats 4000000 in
set_option maxRecDepth 20000 in
theorem c_X12_result_w {E : zE} {l : Launch} (hst : l.stackTraces = false) (a : Nat) (x1 : Int) : Con E l yX12_result cX12_result 2 (some .int) { frames := 1, cells := 0, slots := 0, locals := 20 } (fun G s vs => vs = [.ref a, .int (zI x1)] ∧ zGK G ∧ zSK G s ∧ (gT G a = 13) ∧ (0 ≤ x1 ∧ x1 ≤ 0) ∧ (s a 5 = 0) ∧ (s a 6 = 4)) (fun G s _ => pI (fun r G2 s2 => G2 = G ∧ zSK G s2 ∧ zFr [13] G s s2 ∧ ((-6) ≤ r ∧ r ≤ (-6)) ∧ s2 a 5 = 0 ∧ s2 a 0 = s a 0)) := by
  refine Con.mk hst (by decide) (fun G s vs h => by rw [h.1]; exact Nat.le_of_ble_eq_true rfl) ?_
  rintro X G s0 vs ⟨rfl, hG, hS0, ha, hx1, e0, e1⟩ rfl hx hq
  show JJ X E 2 G s0 0 0 [(0, .ref a), (1, .int (zI x1))] 0 []
  refine j_aload_n hx 0 dX12_result_0 rfl ?_
  refine j_aload_n hx 0 dX12_result_1 rfl ?_
  refine g13_5 hx hG ha kf_RX12_137 rfl dX12_result_2 ?_
  refine p13_8 hx hG ha kf_RX12_17 dX12_result_5 ?_
  obtain ⟨s1, e_s1⟩ : ∃ z, z = zU s0 a 8 ((s0 a 5)) := ⟨_, rfl⟩
  rw [← e_s1]
  have hS_s1 : zSK G s1 := by rw [e_s1]; exact zSK_F hS0 ha rfl rfl rfl (by omega)
  refine j_aload_n hx 0 dX12_result_8 rfl ?_
  have g1 : s1 a 5 = s0 a 5 := (by rw [e_s1, zU_at (Or.inr (by decide))])
  refine j_callV hx hG (c_X12_fine_f hst a) lk_RX12_166 ha (by decide) rfl rfl rfl rfl [] ⟨rfl, hG, hS_s1, ha, (((by rw [e_s1, zU_at (Or.inr (by decide))]) : s1 a 5 = s0 a 5).trans (by omega))⟩ rfl rfl ⟨by decide, by decide⟩ ⟨by decide, by decide⟩ (k2 := 0) (n2 := 0) rfl rfl (Nat.le_of_ble_eq_true rfl) dX12_result_9 (kIP (fun v2 q3 => ?_))
  refine j_if_eq hx 19 dX12_result_12 rfl (by omega) (fun h4 => ?_) (fun h4 => absurd h4 (by omega))
  refine j_aload_n hx 0 dX12_result_19 rfl ?_
  refine g13_6 hx hG ha kf_RX12_140 (v := (s0 a 6)) (by rw [e_s1, zU_at (Or.inr (by decide))]) dX12_result_20 ?_
  refine j_bipush hx dX12_result_23 rfl ?_
  refine j_isub hx (r := (s0 a 6) - 10) dX12_result_25 (by omega) ?_
  have g5 : s1 a 0 = s0 a 0 := (by rw [e_s1, zU_at (Or.inr (by decide))])
  have f6 := zf hS0 ha (k := 0) rfl
  exact j_iret hx hq rfl (by decide) (by decide) dX12_result_26 ⟨(s0 a 6) - 10, rfl, rfl, hS_s1, (zFr_u zFr_rf e_s1 ha (by decide)), ⟨(by omega), ((by rw [e_s1, zU_at (Or.inr (by decide))]) : s1 a 5 = s0 a 5).trans (by omega), by omega⟩⟩

theorem lk_RX12_240 : LkV RX12 240 RX12 yX12_may cX12_may 4 (some .boolean) 3 := ⟨km_RX12_240, ki_yX12_may, ks_RX12_yX12_may, kn_RX12, kc_yX12_may, rfl, by decide +kernel, by decide +kernel, by decide +kernel⟩
theorem lk_RX12_244 : LkV RX12 244 RX12 yX12_begins cX12_begins 2 none 1 := ⟨km_RX12_244, ki_yX12_begins, ks_RX12_yX12_begins, kn_RX12, kc_yX12_begins, rfl, by decide +kernel, by decide +kernel, by decide +kernel⟩
theorem lk_RX12_128 : LkV RX12 128 RX12 yX12_clears cX12_clears 2 none 0 := ⟨km_RX12_128, ki_yX12_clears, ks_RX12_yX12_clears, kn_RX12, kc_yX12_clears, rfl, by decide +kernel, by decide +kernel, by decide +kernel⟩
theorem lk_RX12_247 : LkV RX12 247 RX12 yX12_isMore cX12_isMore 1 (some .boolean) 0 := ⟨km_RX12_247, ki_yX12_isMore, ks_RX12_yX12_isMore, kn_RX12, kc_yX12_isMore, rfl, by decide +kernel, by decide +kernel, by decide +kernel⟩
theorem lk_RX12_173 : LkV RX12 173 RX12 yX12_wrong cX12_wrong 3 none 2 := ⟨km_RX12_173, ki_yX12_wrong, ks_RX12_yX12_wrong, kn_RX12, kc_yX12_wrong, rfl, by decide +kernel, by decide +kernel, by decide +kernel⟩
theorem lk_RX12_265 : LkV RX12 265 RX12 yX12_result cX12_result 2 (some .int) 1 := ⟨km_RX12_265, ki_yX12_result, ks_RX12_yX12_result, kn_RX12, kc_yX12_result, rfl, by decide +kernel, by decide +kernel, by decide +kernel⟩
set_option maxHeartbeats 4000000 in
set_option maxRecDepth 20000 in
theorem c_X12_table {E : zE} {l : Launch} (hst : l.stackTraces = false) (a : Nat) (x1 : Int) : Con E l yX12_table cX12_table 4 (some .int) { frames := 2, cells := 0, slots := 0, locals := 41 } (fun G s vs => vs = [.ref a, .int (zI x1)] ∧ zGK G ∧ zSK G s ∧ (gT G a = 13) ∧ ((-2147483648) ≤ x1 ∧ x1 ≤ 2147483647) ∧ (zS0m G s)) (fun G s _ => pI (fun r G2 s2 => G2 = G ∧ zSK G s2 ∧ zFr [13, 71, 74, 76, 77, 78] G s s2 ∧ ((-6) ≤ r ∧ r ≤ 0) ∧ (((x1 = 0) → s2 a 0 = 0 ∧ (r = -6)) ∧ (¬ (x1 = 0) → s2 a 0 = 1)))) := by
  refine Con.mk hst (by decide) (fun G s vs h => by rw [h.1]; exact Nat.le_of_ble_eq_true rfl) ?_
  rintro X G s0 vs ⟨rfl, hG, hS0, ha, hx1, hF0⟩ rfl hx hq
  show JJ X E 4 G s0 0 0 [(0, .ref a), (1, .int (zI x1))] 0 []
  refine j_aload_n hx 0 dX12_table_0 rfl ?_
  refine j_iconst hx dX12_table_1 ?_
  refine p13_0 hx hG ha kf_RX12_3 dX12_table_2 ?_
  obtain ⟨s1, e_s1⟩ : ∃ z, z = zU s0 a 0 0 := ⟨_, rfl⟩
  rw [← e_s1]
  have hS_s1 : zSK G s1 := by rw [e_s1]; exact zSK_F hS0 ha rfl rfl rfl (by omega)
  refine j_aload_n hx 0 dX12_table_5 rfl ?_
  refine j_iload_n hx 1 dX12_table_6 rfl ?_
  refine j_if_lt hx 22 dX12_table_7 rfl (by omega) (fun h1 => ?_) (fun h1 => ?_)
  · skip
    refine j_iconst hx dX12_table_22 ?_
    refine j_iconst hx dX12_table_23 ?_
    refine j_iconst hx dX12_table_24 ?_
    have g2 : s1 a 0 = 0 := (by rw [e_s1, zU_eq])
    refine j_callV hx hG (c_X12_may_f hst a 0 1 1) lk_RX12_240 ha (by decide) rfl rfl rfl rfl [.int (zI 0), .int (zI 1), .int (zI 1)] ⟨rfl, hG, hS_s1, ha, (by omega), (by omega), (by omega), (((by rw [e_s1, zU_eq]) : s1 a 0 = 0).trans (by omega))⟩ rfl rfl ⟨by decide, by decide⟩ ⟨by decide, by decide⟩ (k2 := 0) (n2 := 0) rfl rfl (Nat.le_of_ble_eq_true rfl) dX12_table_25 (kIM (fun v3 s2 hS_s2 hF_s2 q4 => ?_))
    refine j_if_ne hx 33 dX12_table_28 rfl (by omega) (fun h5 => absurd h5 (by omega)) (fun h5 => ?_)
    refine j_iconst hx dX12_table_31 ?_
    exact j_iret hx hq rfl (by decide) (by decide) dX12_table_32 ⟨0, rfl, rfl, hS_s2, (zFr_t (zFr_u zFr_rf e_s1 ha (by decide)) hF_s2 (by decide)), ⟨(by omega), by omega⟩⟩
  · skip
    refine j_iload_n hx 1 dX12_table_10 rfl ?_
    refine j_aload_n hx 0 dX12_table_11 rfl ?_
    have f6 := z0fm hF0 ha (by decide) (k := 2) rfl
    refine g13_2 hx hG ha kf_RX12_134 (v := (s0 a 2)) (by rw [e_s1, zU_at (Or.inr (by decide))]) dX12_table_12 ?_
    refine j_icmp_gt hx 22 dX12_table_15 rfl (by omega) (by omega) (fun h7 => ?_) (fun h7 => ?_)
    · skip
      refine j_iconst hx dX12_table_22 ?_
      refine j_iconst hx dX12_table_23 ?_
      refine j_iconst hx dX12_table_24 ?_
      have g8 : s1 a 0 = 0 := (by rw [e_s1, zU_eq])
      refine j_callV hx hG (c_X12_may_f hst a 0 1 1) lk_RX12_240 ha (by decide) rfl rfl rfl rfl [.int (zI 0), .int (zI 1), .int (zI 1)] ⟨rfl, hG, hS_s1, ha, (by omega), (by omega), (by omega), (((by rw [e_s1, zU_eq]) : s1 a 0 = 0).trans (by omega))⟩ rfl rfl ⟨by decide, by decide⟩ ⟨by decide, by decide⟩ (k2 := 0) (n2 := 0) rfl rfl (Nat.le_of_ble_eq_true rfl) dX12_table_25 (kIM (fun v9 s3 hS_s3 hF_s3 q10 => ?_))
      refine j_if_ne hx 33 dX12_table_28 rfl (by omega) (fun h11 => absurd h11 (by omega)) (fun h11 => ?_)
      refine j_iconst hx dX12_table_31 ?_
      exact j_iret hx hq rfl (by decide) (by decide) dX12_table_32 ⟨0, rfl, rfl, hS_s3, (zFr_t (zFr_u zFr_rf e_s1 ha (by decide)) hF_s3 (by decide)), ⟨(by omega), by omega⟩⟩
    · skip
      refine j_iconst hx dX12_table_18 ?_
      refine j_goto hx 23 dX12_table_19 rfl ?_
      refine j_iconst hx dX12_table_23 ?_
      refine j_iconst hx dX12_table_24 ?_
      have g12 : s1 a 0 = 0 := (by rw [e_s1, zU_eq])
      refine j_callV hx hG (c_X12_may_t hst a 1 1 1) lk_RX12_240 ha (by decide) rfl rfl rfl rfl [.int (zI 1), .int (zI 1), .int (zI 1)] ⟨rfl, hG, hS_s1, ha, (by omega), (by omega), (by omega), (((by rw [e_s1, zU_eq]) : s1 a 0 = 0).trans (by omega))⟩ rfl rfl ⟨by decide, by decide⟩ ⟨by decide, by decide⟩ (k2 := 0) (n2 := 0) rfl rfl (Nat.le_of_ble_eq_true rfl) dX12_table_25 (kIP (fun v13 q14 => ?_))
      refine j_if_ne hx 33 dX12_table_28 rfl (by omega) (fun h15 => ?_) (fun h15 => absurd h15 (by omega))
      refine j_aload_n hx 0 dX12_table_33 rfl ?_
      refine j_iload_n hx 1 dX12_table_34 rfl ?_
      refine j_callV hx hG (c_X12_begins hst a x1) lk_RX12_244 ha (by decide) rfl rfl rfl rfl [.int (zI x1)] ⟨rfl, hG, hS_s1, ha, (by omega)⟩ rfl rfl ⟨by decide, by decide⟩ ⟨by decide, by decide⟩ (k2 := 0) (n2 := 0) rfl rfl (Nat.le_of_ble_eq_true rfl) dX12_table_35 (kVM (fun s4 hS_s4 hF_s4 q17 => ?_))
      refine j_aload_n hx 0 dX12_table_38 rfl ?_
      have f18 := zf hS_s4 ha (k := 0) rfl
      have f19 := zf hS_s4 ha (k := 2) rfl
      have f20 := zf hS_s4 ha (k := 6) rfl
      have f21 := zf hS_s4 ha (k := 8) rfl
      have f22 := zf hS_s4 ha (k := 51) rfl
      have f23 := zf hS_s4 ha (k := 54) rfl
      have f24 := zf hS_s4 ha (k := 58) rfl
      refine j_callV hx hG (c_X12_clears hst a) lk_RX12_128 ha (by decide) rfl rfl rfl rfl [] ⟨rfl, hG, hS_s4, ha⟩ rfl rfl ⟨by decide, by decide⟩ ⟨by decide, by decide⟩ (k2 := 0) (n2 := 0) rfl rfl (Nat.le_of_ble_eq_true rfl) dX12_table_39 (kVM (fun s5 hS_s5 hF_s5 q26 => ?_))
      refine j_iconst hx dX12_table_42 ?_
      refine j_istore_n hx [(2, .int (zI 0)), (0, .ref a), (1, .int (zI x1))] dX12_table_43 (by decide) rfl ?_
      refine j_aload_n hx 1 dX12_table_44 rfl ?_
      have f27 := zf hS_s5 ha (k := 5) rfl
      refine j_callV hx hG (c_X12_fine_t hst a) lk_RX12_166 ha (by decide) rfl rfl rfl rfl [] ⟨rfl, hG, hS_s5, ha, (by omega)⟩ rfl rfl ⟨by decide, by decide⟩ ⟨by decide, by decide⟩ (k2 := 0) (n2 := 0) rfl rfl (Nat.le_of_ble_eq_true rfl) dX12_table_45 (kIP (fun v28 q29 => ?_))
      refine j_if_eq hx 163 dX12_table_48 rfl (by omega) (fun h30 => absurd h30 (by omega)) (fun h30 => ?_)
      refine j_aload_n hx 1 dX12_table_51 rfl ?_
      refine j_callV hx hG (c_X12_isMore hst a) lk_RX12_247 ha (by decide) rfl rfl rfl rfl [] ⟨rfl, hG, hS_s5, ha⟩ rfl rfl ⟨by decide, by decide⟩ ⟨by decide, by decide⟩ (k2 := 0) (n2 := 0) rfl rfl (Nat.le_of_ble_eq_true rfl) dX12_table_52 (kIP (fun v31 q32 => ?_))
      refine j_if_eq hx 163 dX12_table_55 rfl (by omega) (fun h33 => ?_) (fun h33 => absurd h33 (by omega))
      refine j_aload_n hx 1 dX12_table_163 rfl ?_
      refine j_callV hx hG (c_X12_fine_t hst a) lk_RX12_166 ha (by decide) rfl rfl rfl rfl [] ⟨rfl, hG, hS_s5, ha, (by omega)⟩ rfl rfl ⟨by decide, by decide⟩ ⟨by decide, by decide⟩ (k2 := 0) (n2 := 0) rfl rfl (Nat.le_of_ble_eq_true rfl) dX12_table_164 (kIP (fun v34 q35 => ?_))
      refine j_if_eq hx 187 dX12_table_167 rfl (by omega) (fun h36 => absurd h36 (by omega)) (fun h36 => ?_)
      refine j_aload_n hx 1 dX12_table_170 rfl ?_
      have f37 := zf hS_s5 ha (k := 21) rfl
      refine g13_21 hx hG ha kf_RX12_180 rfl dX12_table_171 ?_
      refine j_iconst hx dX12_table_174 ?_
      refine j_icmp_ge hx 187 dX12_table_175 rfl (by omega) ⟨by decide, by decide⟩ (fun h38 => absurd h38 (by omega)) (fun h38 => ?_)
      refine j_aload_n hx 1 dX12_table_178 rfl ?_
      refine j_iconst hx dX12_table_179 ?_
      refine j_aload_n hx 1 dX12_table_180 rfl ?_
      have f39 := zf hS_s5 ha (k := 3) rfl
      refine g13_3 hx hG ha kf_RX12_146 rfl dX12_table_181 ?_
      have f40 := zf hS_s5 ha (k := 0) rfl
      refine j_callV hx hG (c_X12_wrong hst a 4 ((s5 a 3))) lk_RX12_173 ha (by decide) rfl rfl rfl rfl [.int (zI 4), .int (zI ((s5 a 3)))] ⟨rfl, hG, hS_s5, ha, (by omega), (by omega), (by omega)⟩ rfl rfl ⟨by decide, by decide⟩ ⟨by decide, by decide⟩ (k2 := 0) (n2 := 0) rfl rfl (Nat.le_of_ble_eq_true rfl) dX12_table_184 (kVM (fun s6 hS_s6 hF_s6 q42 => ?_))
      refine j_aload_n hx 1 dX12_table_187 rfl ?_
      refine j_aload_n hx 1 dX12_table_188 rfl ?_
      have f43 := zf hS_s6 ha (k := 21) rfl
      refine g13_21 hx hG ha kf_RX12_180 rfl dX12_table_189 ?_
      have f44 := zf hS_s6 ha (k := 0) rfl
      refine j_callV hx hG (c_X12_result_w hst a ((s6 a 21))) lk_RX12_265 ha (by decide) rfl rfl rfl rfl [.int (zI ((s6 a 21)))] ⟨rfl, hG, hS_s6, ha, (by omega), (by omega), (by omega)⟩ rfl rfl ⟨by decide, by decide⟩ ⟨by decide, by decide⟩ (k2 := 0) (n2 := 0) rfl rfl (Nat.le_of_ble_eq_true rfl) dX12_table_192 (kIM (fun v45 s7 hS_s7 hF_s7 q46 => ?_))
      refine j_istore_n hx [(3, .int (zI v45)), (2, .int (zI 0)), (0, .ref a), (1, .int (zI x1))] dX12_table_195 (by decide) rfl ?_
      refine j_aload_n hx 2 dX12_table_196 rfl ?_
      refine g13_5 hx hG ha kf_RX12_137 rfl dX12_table_197 ?_
      refine j_iconst hx dX12_table_200 ?_
      refine j_icmp_ne hx 208 dX12_table_201 rfl (by omega) ⟨by decide, by decide⟩ (fun h47 => ?_) (fun h47 => absurd h47 (by omega))
      refine j_iload_n hx 0 dX12_table_208 rfl ?_
      have f48 := zf hS_s7 ha (k := 0) rfl
      exact j_iret hx hq rfl (by decide) (by decide) dX12_table_209 ⟨v45, rfl, rfl, hS_s7, (zFr_t (zFr_t (zFr_t (zFr_t (zFr_u zFr_rf e_s1 ha (by decide)) hF_s4 (by decide)) hF_s5 (by decide)) hF_s6 (by decide)) hF_s7 (by decide)), ⟨(by omega), by omega⟩⟩

set_option maxHeartbeats 4000000 in
set_option maxRecDepth 20000 in
theorem c_X12_within_n {E : zE} {l : Launch} (hst : l.stackTraces = false) (x0 : Int) (x1 : Int) (x2 : Int) : Con E l yX12_within cX12_within 3 (some .boolean) { frames := 0, cells := 0, slots := 0, locals := 0 } (fun G s vs => vs = [.int (zI x0), .int (zI x1), .int (zI x2)] ∧ zGK G ∧ zSK G s ∧ ((-2147483648) ≤ x0 ∧ x0 ≤ 2147483647) ∧ (0 ≤ x1 ∧ x1 ≤ 0) ∧ ((-1) ≤ x2 ∧ x2 ≤ (-1))) (fun G s _ => pI (fun r G2 s2 => G2 = G ∧ s2 = s ∧ (0 ≤ r ∧ r ≤ 0))) := by
  refine Con.mk hst (by decide) (fun G s vs h => by rw [h.1]; exact Nat.le_of_ble_eq_true rfl) ?_
  rintro X G s0 vs ⟨rfl, hG, hS0, hx0, hx1, hx2⟩ rfl hx hq
  show JJ X E 3 G s0 0 0 [(0, .int (zI x0)), (1, .int (zI x1)), (2, .int (zI x2))] 0 []
  refine j_iload_n hx 0 dX12_within_0 rfl ?_
  refine j_iload_n hx 1 dX12_within_1 rfl ?_
  refine j_icmp_lt hx 14 dX12_within_2 rfl (by omega) (by omega) (fun h1 => ?_) (fun h1 => ?_)
  · skip
    refine j_iconst hx dX12_within_14 ?_
    exact j_zret hx hq rfl (by decide) (by decide) dX12_within_15 (by omega) ⟨0, rfl, rfl, rfl, (by omega)⟩
  · skip
    refine j_iload_n hx 0 dX12_within_5 rfl ?_
    refine j_iload_n hx 2 dX12_within_6 rfl ?_
    refine j_icmp_gt hx 14 dX12_within_7 rfl (by omega) (by omega) (fun h2 => ?_) (fun h2 => absurd h2 (by omega))
    refine j_iconst hx dX12_within_14 ?_
    exact j_zret hx hq rfl (by decide) (by decide) dX12_within_15 (by omega) ⟨0, rfl, rfl, rfl, (by omega)⟩

theorem lk_RX12_314 : LkS RX12 314 yX12_within cX12_within 3 (some .boolean) 3 := ⟨km_RX12_314, kst_yX12_within, kn_RX12, kc_yX12_within, by decide +kernel, by decide +kernel, by decide +kernel⟩
set_option maxHeartbeats 4000000 in
set_option maxRecDepth 20000 in
theorem c_X12_readPlan {E : zE} {l : Launch} (hst : l.stackTraces = false) (a : Nat) (x1 : Int) (x2 : Int) (x3 : Int) : Con E l yX12_readPlan cX12_readPlan 6 (some .int) { frames := 1, cells := 0, slots := 0, locals := 23 } (fun G s vs => vs = [.ref a, .int (zI x1), .int (zI x2), .int (zI x3)] ∧ zGK G ∧ zSK G s ∧ (gT G a = 13) ∧ ((-2147483648) ≤ x1 ∧ x1 ≤ 2147483647) ∧ ((-2147483648) ≤ x2 ∧ x2 ≤ 2147483647) ∧ ((-2147483648) ≤ x3 ∧ x3 ≤ 2147483647) ∧ (s a 0 = 0)) (fun G s _ => pI (fun r G2 s2 => G2 = G ∧ zSK G s2 ∧ zFr [13, 71] G s s2 ∧ ((-2147483648) ≤ r ∧ r ≤ 2147483647) ∧ s2 a 0 = 1)) := by
  refine Con.mk hst (by decide) (fun G s vs h => by rw [h.1]; exact Nat.le_of_ble_eq_true rfl) ?_
  rintro X G s0 vs ⟨rfl, hG, hS0, ha, hx1, hx2, hx3, e0⟩ rfl hx hq
  show JJ X E 6 G s0 0 0 [(0, .ref a), (1, .int (zI x1)), (2, .int (zI x2)), (3, .int (zI x3))] 0 []
  refine j_aload_n hx 0 dX12_readPlan_0 rfl ?_
  refine j_iload_n hx 1 dX12_readPlan_1 rfl ?_
  refine j_iconst hx dX12_readPlan_2 ?_
  refine j_aload_n hx 0 dX12_readPlan_3 rfl ?_
  have f1 := zf hS0 ha (k := 24) rfl
  refine g13_24 hx hG ha kf_RX12_189 rfl dX12_readPlan_4 ?_
  refine j_iconst hx dX12_readPlan_7 ?_
  refine j_isub hx (r := (s0 a 24) - 1) dX12_readPlan_8 (by omega) ?_
  refine j_callS hx (c_X12_within_n hst x1 0 ((s0 a 24) - 1)) lk_RX12_314 [.int (zI x1), .int (zI 0), .int (zI ((s0 a 24) - 1))] ⟨rfl, hG, hS0, (by omega), (by omega), (by omega)⟩ rfl rfl ⟨by decide, by decide⟩ ⟨by decide, by decide⟩ (k2 := 0) (n2 := 0) rfl rfl (Nat.le_of_ble_eq_true rfl) dX12_readPlan_9 (kIP (fun v2 q3 => ?_))
  refine j_iconst hx dX12_readPlan_12 ?_
  refine j_iconst hx dX12_readPlan_13 ?_
  refine j_callV hx hG (c_X12_may_f hst a v2 1 0) lk_RX12_240 ha (by decide) rfl rfl rfl rfl [.int (zI v2), .int (zI 1), .int (zI 0)] ⟨rfl, hG, hS0, ha, (by omega), (by omega), (by omega), (by omega)⟩ rfl rfl ⟨by decide, by decide⟩ ⟨by decide, by decide⟩ (k2 := 0) (n2 := 0) rfl rfl (Nat.le_of_ble_eq_true rfl) dX12_readPlan_14 (kIM (fun v4 s1 hS_s1 hF_s1 q5 => ?_))
  refine j_if_eq hx 53 dX12_readPlan_17 rfl (by omega) (fun h6 => ?_) (fun h6 => absurd h6 (by omega))
  refine j_iconst hx dX12_readPlan_53 ?_
  exact j_iret hx hq rfl (by decide) (by decide) dX12_readPlan_54 ⟨0, rfl, rfl, hS_s1, (zFr_t zFr_rf hF_s1 (by decide)), ⟨(by omega), by omega⟩⟩

theorem lk_RX12_318 : LkV RX12 318 RX12 yX12_readPlan cX12_readPlan 6 (some .int) 3 := ⟨km_RX12_318, ki_yX12_readPlan, ks_RX12_yX12_readPlan, kn_RX12, kc_yX12_readPlan, rfl, by decide +kernel, by decide +kernel, by decide +kernel⟩
set_option maxHeartbeats 4000000 in
set_option maxRecDepth 20000 in
theorem c_X12_plan {E : zE} {l : Launch} (hst : l.stackTraces = false) (a : Nat) (x1 : Int) (x2 : Int) : Con E l yX12_plan cX12_plan 3 (some .int) { frames := 2, cells := 0, slots := 0, locals := 48 } (fun G s vs => vs = [.ref a, .int (zI x1), .int (zI x2)] ∧ zGK G ∧ zSK G s ∧ (gT G a = 13) ∧ ((-2147483648) ≤ x1 ∧ x1 ≤ 2147483647) ∧ ((-2147483648) ≤ x2 ∧ x2 ≤ 2147483647) ∧ (zS0m G s)) (fun G s _ => pI (fun r G2 s2 => G2 = G ∧ zSK G s2 ∧ zFr [13, 71] G s s2 ∧ ((-2147483648) ≤ r ∧ r ≤ 2147483647) ∧ s2 a 0 = 1)) := by
  refine Con.mk hst (by decide) (fun G s vs h => by rw [h.1]; exact Nat.le_of_ble_eq_true rfl) ?_
  rintro X G s0 vs ⟨rfl, hG, hS0, ha, hx1, hx2, hF0⟩ rfl hx hq
  show JJ X E 3 G s0 0 0 [(0, .ref a), (1, .int (zI x1)), (2, .int (zI x2))] 0 []
  refine j_aload_n hx 0 dX12_plan_0 rfl ?_
  refine j_iconst hx dX12_plan_1 ?_
  refine p13_0 hx hG ha kf_RX12_3 dX12_plan_2 ?_
  obtain ⟨s1, e_s1⟩ : ∃ z, z = zU s0 a 0 0 := ⟨_, rfl⟩
  rw [← e_s1]
  have hS_s1 : zSK G s1 := by rw [e_s1]; exact zSK_F hS0 ha rfl rfl rfl (by omega)
  refine j_aload_n hx 0 dX12_plan_5 rfl ?_
  refine j_iload_n hx 1 dX12_plan_6 rfl ?_
  refine j_iload_n hx 2 dX12_plan_7 rfl ?_
  refine j_iload_n hx 1 dX12_plan_8 rfl ?_
  have g1 : s1 a 0 = 0 := (by rw [e_s1, zU_eq])
  refine j_callV hx hG (c_X12_readPlan hst a x1 x2 x1) lk_RX12_318 ha (by decide) rfl rfl rfl rfl [.int (zI x1), .int (zI x2), .int (zI x1)] ⟨rfl, hG, hS_s1, ha, (by omega), (by omega), (by omega), (((by rw [e_s1, zU_eq]) : s1 a 0 = 0).trans (by omega))⟩ rfl rfl ⟨by decide, by decide⟩ ⟨by decide, by decide⟩ (k2 := 0) (n2 := 0) rfl rfl (Nat.le_of_ble_eq_true rfl) dX12_plan_9 (kIM (fun v2 s2 hS_s2 hF_s2 q3 => ?_))
  exact j_iret hx hq rfl (by decide) (by decide) dX12_plan_12 ⟨v2, rfl, rfl, hS_s2, (zFr_t (zFr_u zFr_rf e_s1 ha (by decide)) hF_s2 (by decide)), ⟨(by omega), by omega⟩⟩

set_option maxHeartbeats 4000000 in
set_option maxRecDepth 20000 in
theorem c_X12_guess {E : zE} {l : Launch} (hst : l.stackTraces = false) (a : Nat) (x1 : Int) (x2 : Int) : Con E l yX12_guess cX12_guess 3 (some .int) { frames := 2, cells := 0, slots := 0, locals := 48 } (fun G s vs => vs = [.ref a, .int (zI x1), .int (zI x2)] ∧ zGK G ∧ zSK G s ∧ (gT G a = 13) ∧ ((-2147483648) ≤ x1 ∧ x1 ≤ 2147483647) ∧ ((-2147483648) ≤ x2 ∧ x2 ≤ 2147483647) ∧ (zS0m G s)) (fun G s _ => pI (fun r G2 s2 => G2 = G ∧ zSK G s2 ∧ zFr [13, 71] G s s2 ∧ ((-2147483648) ≤ r ∧ r ≤ 2147483647) ∧ s2 a 0 = 1)) := by
  refine Con.mk hst (by decide) (fun G s vs h => by rw [h.1]; exact Nat.le_of_ble_eq_true rfl) ?_
  rintro X G s0 vs ⟨rfl, hG, hS0, ha, hx1, hx2, hF0⟩ rfl hx hq
  show JJ X E 3 G s0 0 0 [(0, .ref a), (1, .int (zI x1)), (2, .int (zI x2))] 0 []
  refine j_aload_n hx 0 dX12_guess_0 rfl ?_
  refine j_iconst hx dX12_guess_1 ?_
  refine p13_0 hx hG ha kf_RX12_3 dX12_guess_2 ?_
  obtain ⟨s1, e_s1⟩ : ∃ z, z = zU s0 a 0 0 := ⟨_, rfl⟩
  rw [← e_s1]
  have hS_s1 : zSK G s1 := by rw [e_s1]; exact zSK_F hS0 ha rfl rfl rfl (by omega)
  refine j_aload_n hx 0 dX12_guess_5 rfl ?_
  refine j_iload_n hx 1 dX12_guess_6 rfl ?_
  refine j_iload_n hx 2 dX12_guess_7 rfl ?_
  refine j_iconst hx dX12_guess_8 ?_
  refine j_iload_n hx 1 dX12_guess_9 rfl ?_
  refine j_iadd hx (r := x1 + 3) dX12_guess_10 (by omega) ?_
  refine j_norm (fun v1 f2 f3 f4 => ?_)
  have g5 : s1 a 0 = 0 := (by rw [e_s1, zU_eq])
  refine j_callV hx hG (c_X12_readPlan hst a x1 x2 v1) lk_RX12_318 ha (by decide) rfl rfl rfl rfl [.int (zI x1), .int (zI x2), .int (zI v1)] ⟨rfl, hG, hS_s1, ha, (by omega), (by omega), (by omega), (((by rw [e_s1, zU_eq]) : s1 a 0 = 0).trans (by omega))⟩ rfl rfl ⟨by decide, by decide⟩ ⟨by decide, by decide⟩ (k2 := 0) (n2 := 0) rfl rfl (Nat.le_of_ble_eq_true rfl) dX12_guess_11 (kIM (fun v6 s2 hS_s2 hF_s2 q7 => ?_))
  exact j_iret hx hq rfl (by decide) (by decide) dX12_guess_14 ⟨v6, rfl, rfl, hS_s2, (zFr_t (zFr_u zFr_rf e_s1 ha (by decide)) hF_s2 (by decide)), ⟨(by omega), by omega⟩⟩

set_option maxHeartbeats 4000000 in
set_option maxRecDepth 20000 in
theorem c_X12_result_k {E : zE} {l : Launch} (hst : l.stackTraces = false) (a : Nat) (x1 : Int) : Con E l yX12_result cX12_result 2 (some .int) { frames := 1, cells := 0, slots := 0, locals := 20 } (fun G s vs => vs = [.ref a, .int (zI x1)] ∧ zGK G ∧ zSK G s ∧ (gT G a = 13) ∧ (0 ≤ x1 ∧ x1 ≤ 0) ∧ (s a 5 = -1)) (fun G s _ => pI (fun r G2 s2 => G2 = G ∧ zSK G s2 ∧ zFr [13] G s s2 ∧ (0 ≤ r ∧ r ≤ 0) ∧ s2 a 5 = -1 ∧ s2 a 0 = s a 0)) := by
  refine Con.mk hst (by decide) (fun G s vs h => by rw [h.1]; exact Nat.le_of_ble_eq_true rfl) ?_
  rintro X G s0 vs ⟨rfl, hG, hS0, ha, hx1, e0⟩ rfl hx hq
  show JJ X E 2 G s0 0 0 [(0, .ref a), (1, .int (zI x1))] 0 []
  refine j_aload_n hx 0 dX12_result_0 rfl ?_
  refine j_aload_n hx 0 dX12_result_1 rfl ?_
  refine g13_5 hx hG ha kf_RX12_137 rfl dX12_result_2 ?_
  refine p13_8 hx hG ha kf_RX12_17 dX12_result_5 ?_
  obtain ⟨s1, e_s1⟩ : ∃ z, z = zU s0 a 8 ((s0 a 5)) := ⟨_, rfl⟩
  rw [← e_s1]
  have hS_s1 : zSK G s1 := by rw [e_s1]; exact zSK_F hS0 ha rfl rfl rfl (by omega)
  refine j_aload_n hx 0 dX12_result_8 rfl ?_
  have g1 : s1 a 5 = s0 a 5 := (by rw [e_s1, zU_at (Or.inr (by decide))])
  refine j_callV hx hG (c_X12_fine_t hst a) lk_RX12_166 ha (by decide) rfl rfl rfl rfl [] ⟨rfl, hG, hS_s1, ha, (((by rw [e_s1, zU_at (Or.inr (by decide))]) : s1 a 5 = s0 a 5).trans (by omega))⟩ rfl rfl ⟨by decide, by decide⟩ ⟨by decide, by decide⟩ (k2 := 0) (n2 := 0) rfl rfl (Nat.le_of_ble_eq_true rfl) dX12_result_9 (kIP (fun v2 q3 => ?_))
  refine j_if_eq hx 19 dX12_result_12 rfl (by omega) (fun h4 => absurd h4 (by omega)) (fun h4 => ?_)
  refine j_iload_n hx 1 dX12_result_15 rfl ?_
  refine j_goto hx 26 dX12_result_16 rfl ?_
  have g5 : s1 a 0 = s0 a 0 := (by rw [e_s1, zU_at (Or.inr (by decide))])
  have f6 := zf hS0 ha (k := 0) rfl
  exact j_iret hx hq rfl (by decide) (by decide) dX12_result_26 ⟨x1, rfl, rfl, hS_s1, (zFr_u zFr_rf e_s1 ha (by decide)), ⟨(by omega), ((by rw [e_s1, zU_at (Or.inr (by decide))]) : s1 a 5 = s0 a 5).trans (by omega), by omega⟩⟩

set_option maxHeartbeats 4000000 in
set_option maxRecDepth 20000 in
theorem c_X12_book {E : zE} {l : Launch} (hst : l.stackTraces = false) (a : Nat) (x1 : Int) : Con E l yX12_book cX12_book 6 (some .int) { frames := 2, cells := 0, slots := 0, locals := 41 } (fun G s vs => vs = [.ref a, .int (zI x1)] ∧ zGK G ∧ zSK G s ∧ (gT G a = 13) ∧ ((-2147483648) ≤ x1 ∧ x1 ≤ 2147483647) ∧ (zS0m G s)) (fun G s _ => pI (fun r G2 s2 => G2 = G ∧ zSK G s2 ∧ zFr [13, 71] G s s2 ∧ (0 ≤ r ∧ r ≤ 0) ∧ (((x1 = 0) → s2 a 0 = 0) ∧ (¬ (x1 = 0) → s2 a 0 = 1)))) := by
  refine Con.mk hst (by decide) (fun G s vs h => by rw [h.1]; exact Nat.le_of_ble_eq_true rfl) ?_
  rintro X G s0 vs ⟨rfl, hG, hS0, ha, hx1, hF0⟩ rfl hx hq
  show JJ X E 6 G s0 0 0 [(0, .ref a), (1, .int (zI x1))] 0 []
  refine j_aload_n hx 0 dX12_book_0 rfl ?_
  refine j_iconst hx dX12_book_1 ?_
  refine p13_0 hx hG ha kf_RX12_3 dX12_book_2 ?_
  obtain ⟨s1, e_s1⟩ : ∃ z, z = zU s0 a 0 0 := ⟨_, rfl⟩
  rw [← e_s1]
  have hS_s1 : zSK G s1 := by rw [e_s1]; exact zSK_F hS0 ha rfl rfl rfl (by omega)
  refine j_aload_n hx 0 dX12_book_5 rfl ?_
  refine j_iload_n hx 1 dX12_book_6 rfl ?_
  refine j_if_lt hx 28 dX12_book_7 rfl (by omega) (fun h1 => ?_) (fun h1 => ?_)
  · skip
    refine j_iconst hx dX12_book_28 ?_
    refine j_iconst hx dX12_book_29 ?_
    refine j_iconst hx dX12_book_30 ?_
    have g2 : s1 a 0 = 0 := (by rw [e_s1, zU_eq])
    refine j_callV hx hG (c_X12_may_f hst a 0 1 1) lk_RX12_240 ha (by decide) rfl rfl rfl rfl [.int (zI 0), .int (zI 1), .int (zI 1)] ⟨rfl, hG, hS_s1, ha, (by omega), (by omega), (by omega), (((by rw [e_s1, zU_eq]) : s1 a 0 = 0).trans (by omega))⟩ rfl rfl ⟨by decide, by decide⟩ ⟨by decide, by decide⟩ (k2 := 0) (n2 := 0) rfl rfl (Nat.le_of_ble_eq_true rfl) dX12_book_31 (kIM (fun v3 s2 hS_s2 hF_s2 q4 => ?_))
    refine j_if_ne hx 39 dX12_book_34 rfl (by omega) (fun h5 => absurd h5 (by omega)) (fun h5 => ?_)
    refine j_iconst hx dX12_book_37 ?_
    exact j_iret hx hq rfl (by decide) (by decide) dX12_book_38 ⟨0, rfl, rfl, hS_s2, (zFr_t (zFr_u zFr_rf e_s1 ha (by decide)) hF_s2 (by decide)), ⟨(by omega), by omega⟩⟩
  · skip
    refine j_iload_n hx 1 dX12_book_10 rfl ?_
    refine j_aload_n hx 0 dX12_book_11 rfl ?_
    have f6 := z0fm hF0 ha (by decide) (k := 2) rfl
    refine g13_2 hx hG ha kf_RX12_134 (v := (s0 a 2)) (by rw [e_s1, zU_at (Or.inr (by decide))]) dX12_book_12 ?_
    refine j_icmp_gt hx 28 dX12_book_15 rfl (by omega) (by omega) (fun h7 => ?_) (fun h7 => ?_)
    · skip
      refine j_iconst hx dX12_book_28 ?_
      refine j_iconst hx dX12_book_29 ?_
      refine j_iconst hx dX12_book_30 ?_
      have g8 : s1 a 0 = 0 := (by rw [e_s1, zU_eq])
      refine j_callV hx hG (c_X12_may_f hst a 0 1 1) lk_RX12_240 ha (by decide) rfl rfl rfl rfl [.int (zI 0), .int (zI 1), .int (zI 1)] ⟨rfl, hG, hS_s1, ha, (by omega), (by omega), (by omega), (((by rw [e_s1, zU_eq]) : s1 a 0 = 0).trans (by omega))⟩ rfl rfl ⟨by decide, by decide⟩ ⟨by decide, by decide⟩ (k2 := 0) (n2 := 0) rfl rfl (Nat.le_of_ble_eq_true rfl) dX12_book_31 (kIM (fun v9 s3 hS_s3 hF_s3 q10 => ?_))
      refine j_if_ne hx 39 dX12_book_34 rfl (by omega) (fun h11 => absurd h11 (by omega)) (fun h11 => ?_)
      refine j_iconst hx dX12_book_37 ?_
      exact j_iret hx hq rfl (by decide) (by decide) dX12_book_38 ⟨0, rfl, rfl, hS_s3, (zFr_t (zFr_u zFr_rf e_s1 ha (by decide)) hF_s3 (by decide)), ⟨(by omega), by omega⟩⟩
    · skip
      refine j_iload_n hx 1 dX12_book_18 rfl ?_
      refine j_bipush hx dX12_book_19 rfl ?_
      refine j_icmp_gt hx 28 dX12_book_21 rfl (by omega) ⟨by decide, by decide⟩ (fun h12 => absurd h12 (by omega)) (fun h12 => ?_)
      refine j_iconst hx dX12_book_24 ?_
      refine j_goto hx 29 dX12_book_25 rfl ?_
      refine j_iconst hx dX12_book_29 ?_
      refine j_iconst hx dX12_book_30 ?_
      have g13 : s1 a 0 = 0 := (by rw [e_s1, zU_eq])
      refine j_callV hx hG (c_X12_may_t hst a 1 1 1) lk_RX12_240 ha (by decide) rfl rfl rfl rfl [.int (zI 1), .int (zI 1), .int (zI 1)] ⟨rfl, hG, hS_s1, ha, (by omega), (by omega), (by omega), (((by rw [e_s1, zU_eq]) : s1 a 0 = 0).trans (by omega))⟩ rfl rfl ⟨by decide, by decide⟩ ⟨by decide, by decide⟩ (k2 := 0) (n2 := 0) rfl rfl (Nat.le_of_ble_eq_true rfl) dX12_book_31 (kIP (fun v14 q15 => ?_))
      refine j_if_ne hx 39 dX12_book_34 rfl (by omega) (fun h16 => ?_) (fun h16 => absurd h16 (by omega))
      refine j_aload_n hx 0 dX12_book_39 rfl ?_
      refine j_iload_n hx 1 dX12_book_40 rfl ?_
      refine j_callV hx hG (c_X12_begins hst a x1) lk_RX12_244 ha (by decide) rfl rfl rfl rfl [.int (zI x1)] ⟨rfl, hG, hS_s1, ha, (by omega)⟩ rfl rfl ⟨by decide, by decide⟩ ⟨by decide, by decide⟩ (k2 := 0) (n2 := 0) rfl rfl (Nat.le_of_ble_eq_true rfl) dX12_book_41 (kVM (fun s4 hS_s4 hF_s4 q18 => ?_))
      refine j_iconst hx dX12_book_44 ?_
      refine j_istore_n hx [(2, .int (zI 0)), (0, .ref a), (1, .int (zI x1))] dX12_book_45 (by decide) rfl ?_
      refine j_aload_n hx 1 dX12_book_46 rfl ?_
      refine j_callV hx hG (c_X12_fine_t hst a) lk_RX12_166 ha (by decide) rfl rfl rfl rfl [] ⟨rfl, hG, hS_s4, ha, (by omega)⟩ rfl rfl ⟨by decide, by decide⟩ ⟨by decide, by decide⟩ (k2 := 0) (n2 := 0) rfl rfl (Nat.le_of_ble_eq_true rfl) dX12_book_47 (kIP (fun v19 q20 => ?_))
      refine j_if_eq hx 151 dX12_book_50 rfl (by omega) (fun h21 => absurd h21 (by omega)) (fun h21 => ?_)
      refine j_aload_n hx 1 dX12_book_53 rfl ?_
      refine j_callV hx hG (c_X12_isMore hst a) lk_RX12_247 ha (by decide) rfl rfl rfl rfl [] ⟨rfl, hG, hS_s4, ha⟩ rfl rfl ⟨by decide, by decide⟩ ⟨by decide, by decide⟩ (k2 := 0) (n2 := 0) rfl rfl (Nat.le_of_ble_eq_true rfl) dX12_book_54 (kIP (fun v22 q23 => ?_))
      refine j_if_eq hx 151 dX12_book_57 rfl (by omega) (fun h24 => ?_) (fun h24 => absurd h24 (by omega))
      refine j_aload_n hx 1 dX12_book_151 rfl ?_
      refine j_iload_n hx 0 dX12_book_152 rfl ?_
      have f25 := zf hS_s4 ha (k := 0) rfl
      refine j_callV hx hG (c_X12_result_k hst a 0) lk_RX12_265 ha (by decide) rfl rfl rfl rfl [.int (zI 0)] ⟨rfl, hG, hS_s4, ha, (by omega), (by omega)⟩ rfl rfl ⟨by decide, by decide⟩ ⟨by decide, by decide⟩ (k2 := 0) (n2 := 0) rfl rfl (Nat.le_of_ble_eq_true rfl) dX12_book_153 (kIM (fun v26 s5 hS_s5 hF_s5 q27 => ?_))
      refine j_istore_n hx [(3, .int (zI v26)), (2, .int (zI 0)), (0, .ref a), (1, .int (zI x1))] dX12_book_156 (by decide) rfl ?_
      refine j_aload_n hx 2 dX12_book_157 rfl ?_
      refine g13_5 hx hG ha kf_RX12_137 rfl dX12_book_158 ?_
      refine j_iconst hx dX12_book_161 ?_
      refine j_icmp_eq hx 167 dX12_book_162 rfl (by omega) ⟨by decide, by decide⟩ (fun h28 => ?_) (fun h28 => absurd h28 (by omega))
      refine j_aload_n hx 2 dX12_book_167 rfl ?_
      refine j_iload_n hx 1 dX12_book_168 rfl ?_
      refine p13_41 hx hG ha kf_RX12_198 dX12_book_169 ?_
      obtain ⟨s6, e_s6⟩ : ∃ z, z = zU s5 a 41 0 := ⟨_, rfl⟩
      rw [← e_s6]
      have hS_s6 : zSK G s6 := by rw [e_s6]; exact zSK_F hS_s5 ha rfl rfl rfl (by omega)
      refine j_iconst hx dX12_book_172 ?_
      refine j_istore hx [(4, .int (zI 0)), (3, .int (zI v26)), (2, .int (zI 0)), (0, .ref a), (1, .int (zI x1))] dX12_book_173 (by decide) rfl ?_
      refine j_iload hx 0 dX12_book_175 rfl ?_
      refine j_iconst hx dX12_book_177 ?_
      refine j_iload_n hx 2 dX12_book_178 rfl ?_
      refine j_imul hx (r := 0) dX12_book_179 (by omega) ?_
      refine j_icmp_ge hx 203 dX12_book_180 rfl ⟨by decide, by decide⟩ ⟨by decide, by decide⟩ (fun h29 => ?_) (fun h29 => absurd h29 (by omega))
      refine j_iload_n hx 1 dX12_book_203 rfl ?_
      have g30 : s6 a 0 = s5 a 0 := (by rw [e_s6, zU_at (Or.inr (by decide))])
      have f31 := zf hS_s5 ha (k := 0) rfl
      exact j_iret hx hq rfl (by decide) (by decide) dX12_book_204 ⟨v26, rfl, rfl, hS_s6, (zFr_u (zFr_t (zFr_t (zFr_u zFr_rf e_s1 ha (by decide)) hF_s4 (by decide)) hF_s5 (by decide)) e_s6 ha (by decide)), ⟨(by omega), by omega⟩⟩

set_option maxHeartbeats 4000000 in
set_option maxRecDepth 20000 in
theorem c_X12_fault {E : zE} {l : Launch} (hst : l.stackTraces = false) (a : Nat) : Con E l yX12_fault cX12_fault 1 (some .int) { frames := 0, cells := 0, slots := 0, locals := 0 } (fun G s vs => vs = [.ref a] ∧ zGK G ∧ zSK G s ∧ (gT G a = 13) ∧ (zS0m G s)) (fun G s _ => pI (fun r G2 s2 => G2 = G ∧ zSK G s2 ∧ zFr [13] G s s2 ∧ ((-1) ≤ r ∧ r ≤ (-1)) ∧ s2 a 0 = 0)) := by
  refine Con.mk hst (by decide) (fun G s vs h => by rw [h.1]; exact Nat.le_of_ble_eq_true rfl) ?_
  rintro X G s0 vs ⟨rfl, hG, hS0, ha, hF0⟩ rfl hx hq
  show JJ X E 1 G s0 0 0 [(0, .ref a)] 0 []
  refine j_aload_n hx 0 dX12_fault_0 rfl ?_
  refine j_iconst hx dX12_fault_1 ?_
  refine p13_0 hx hG ha kf_RX12_3 dX12_fault_2 ?_
  obtain ⟨s1, e_s1⟩ : ∃ z, z = zU s0 a 0 0 := ⟨_, rfl⟩
  rw [← e_s1]
  have hS_s1 : zSK G s1 := by rw [e_s1]; exact zSK_F hS0 ha rfl rfl rfl (by omega)
  refine j_aload_n hx 0 dX12_fault_5 rfl ?_
  have f1 := z0fm hF0 ha (by decide) (k := 8) rfl
  refine g13_8 hx hG ha kf_RX12_17 (v := (s0 a 8)) (by rw [e_s1, zU_at (Or.inr (by decide))]) dX12_fault_6 ?_
  have g2 : s1 a 0 = 0 := (by rw [e_s1, zU_eq])
  exact j_iret hx hq rfl (by decide) (by decide) dX12_fault_9 ⟨(s0 a 8), rfl, rfl, hS_s1, (zFr_u zFr_rf e_s1 ha (by decide)), ⟨(by omega), by omega⟩⟩

set_option maxHeartbeats 4000000 in
set_option maxRecDepth 20000 in
theorem c_X12_within {E : zE} {l : Launch} (hst : l.stackTraces = false) (x0 : Int) (x1 : Int) (x2 : Int) : Con E l yX12_within cX12_within 3 (some .boolean) { frames := 0, cells := 0, slots := 0, locals := 0 } (fun G s vs => vs = [.int (zI x0), .int (zI x1), .int (zI x2)] ∧ zGK G ∧ zSK G s ∧ ((-2147483648) ≤ x0 ∧ x0 ≤ 2147483647) ∧ ((-2147483648) ≤ x1 ∧ x1 ≤ 2147483647) ∧ ((-2147483648) ≤ x2 ∧ x2 ≤ 2147483647)) (fun G s _ => pI (fun r G2 s2 => G2 = G ∧ s2 = s ∧ (0 ≤ r ∧ r ≤ 1) ∧ ((r = 1 → x1 ≤ x0 ∧ x0 ≤ x2) ∧ (r = 0 → x0 < x1 ∨ x2 < x0)))) := by
  refine Con.mk hst (by decide) (fun G s vs h => by rw [h.1]; exact Nat.le_of_ble_eq_true rfl) ?_
  rintro X G s0 vs ⟨rfl, hG, hS0, hx0, hx1, hx2⟩ rfl hx hq
  show JJ X E 3 G s0 0 0 [(0, .int (zI x0)), (1, .int (zI x1)), (2, .int (zI x2))] 0 []
  refine j_iload_n hx 0 dX12_within_0 rfl ?_
  refine j_iload_n hx 1 dX12_within_1 rfl ?_
  refine j_icmp_lt hx 14 dX12_within_2 rfl (by omega) (by omega) (fun h1 => ?_) (fun h1 => ?_)
  · skip
    refine j_iconst hx dX12_within_14 ?_
    exact j_zret hx hq rfl (by decide) (by decide) dX12_within_15 (by omega) ⟨0, rfl, rfl, rfl, ⟨(by omega), by omega⟩⟩
  · skip
    refine j_iload_n hx 0 dX12_within_5 rfl ?_
    refine j_iload_n hx 2 dX12_within_6 rfl ?_
    refine j_icmp_gt hx 14 dX12_within_7 rfl (by omega) (by omega) (fun h2 => ?_) (fun h2 => ?_)
    · skip
      refine j_iconst hx dX12_within_14 ?_
      exact j_zret hx hq rfl (by decide) (by decide) dX12_within_15 (by omega) ⟨0, rfl, rfl, rfl, ⟨(by omega), by omega⟩⟩
    · skip
      refine j_iconst hx dX12_within_10 ?_
      refine j_goto hx 15 dX12_within_11 rfl ?_
      exact j_zret hx hq rfl (by decide) (by decide) dX12_within_15 (by omega) ⟨1, rfl, rfl, rfl, ⟨(by omega), by omega⟩⟩

set_option maxHeartbeats 4000000 in
set_option maxRecDepth 20000 in
theorem c_X12_isOver {E : zE} {l : Launch} (hst : l.stackTraces = false) (a : Nat) : Con E l yX12_isOver cX12_isOver 3 (some .boolean) { frames := 0, cells := 0, slots := 0, locals := 0 } (fun G s vs => vs = [.ref a] ∧ zGK G ∧ zSK G s ∧ (gT G a = 13)) (fun G s _ => pI (fun r G2 s2 => G2 = G ∧ s2 = s ∧ (1 ≤ r ∧ r ≤ 1))) := by
  refine Con.mk hst (by decide) (fun G s vs h => by rw [h.1]; exact Nat.le_of_ble_eq_true rfl) ?_
  rintro X G s0 vs ⟨rfl, hG, hS0, ha⟩ rfl hx hq
  show JJ X E 3 G s0 0 0 [(0, .ref a)] 0 []
  refine j_iconst hx dX12_isOver_0 ?_
  refine j_istore_n hx [(1, .int (zI 0)), (0, .ref a)] dX12_isOver_1 (by decide) rfl ?_
  refine j_iconst hx dX12_isOver_2 ?_
  refine j_istore_n hx [(2, .int (zI 0)), (1, .int (zI 0)), (0, .ref a)] dX12_isOver_3 (by decide) rfl ?_
  refine j_iload_n hx 0 dX12_isOver_4 rfl ?_
  refine j_aload_n hx 2 dX12_isOver_5 rfl ?_
  have f1 := zf hS0 ha (k := 24) rfl
  refine g13_24 hx hG ha kf_RX12_189 rfl dX12_isOver_6 ?_
  refine j_icmp_ge hx 34 dX12_isOver_9 rfl ⟨by decide, by decide⟩ (by omega) (fun h2 => ?_) (fun h2 => absurd h2 (by omega))
  refine j_iload_n hx 1 dX12_isOver_34 rfl ?_
  refine j_iconst hx dX12_isOver_35 ?_
  refine j_icmp_gt hx 43 dX12_isOver_36 rfl ⟨by decide, by decide⟩ ⟨by decide, by decide⟩ (fun h3 => absurd h3 (by omega)) (fun h3 => ?_)
  refine j_iconst hx dX12_isOver_39 ?_
  refine j_goto hx 44 dX12_isOver_40 rfl ?_
  exact j_zret hx hq rfl (by decide) (by decide) dX12_isOver_44 (by omega) ⟨1, rfl, rfl, rfl, (by omega)⟩
