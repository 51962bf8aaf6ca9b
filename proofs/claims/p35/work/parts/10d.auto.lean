set_option maxHeartbeats 1200000 in
set_option maxRecDepth 20000 in
theorem c_X12_may_f {E : zE} {l : Launch} (hst : l.stackTraces = false) (a : Nat) (x1 : Int) (x2 : Int) (x3 : Int) : Con E l yX12_may cX12_may 4 (some .boolean) { frames := 0, cells := 0, slots := 0, locals := 0 } (fun G s vs => vs = [.ref a, .int (zI x1), .int (zI x2), .int (zI x3)] ∧ zGK G ∧ zSK G s ∧ (gT G a = 13) ∧ (0 ≤ x1 ∧ x1 ≤ 0) ∧ (1 ≤ x2 ∧ x2 ≤ 2) ∧ (0 ≤ x3 ∧ x3 ≤ 1) ∧ (s a 0 = 0)) (fun G s _ => pI (fun r G2 s2 => G2 = G ∧ zSK G s2 ∧ zFr [13, 71] G s s2 ∧ (0 ≤ r ∧ r ≤ 0) ∧ s2 a 0 = x2 ∧ s2 a 3 = s a 3 ∧ s2 a 4 = s a 4 ∧ s2 a 5 = s a 5 ∧ s2 a 7 = s a 7 ∧ s2 a 21 = s a 21 ∧ s2 a 22 = s a 22 ∧ s2 a 23 = s a 23 ∧ s2 a 24 = s a 24 ∧ s2 a 38 = s a 38 ∧ s2 a 51 = s a 51 ∧ s2 a 52 = s a 52)) := by
  refine Con.mk hst (by decide) (fun G s vs h => by rw [h.1]; exact Nat.le_of_ble_eq_true rfl) ?_
  rintro X G s0 vs ⟨rfl, hG, hS0, ha, hx1, hx2, hx3, e0⟩ rfl hx hq
  show JJ X E 4 G s0 0 0 [(0, .ref a), (1, .int (zI x1)), (2, .int (zI x2)), (3, .int (zI x3))] 0 []
  refine j_iload_n hx 1 dX12_may_0 rfl ?_
  refine j_if_ne hx 26 dX12_may_1 rfl (by omega) (fun h1 => absurd h1 (by omega)) (fun h1 => ?_)
  refine j_aload_n hx 0 dX12_may_4 rfl ?_
  refine g13_0 hx hG ha kf_RX12_3 rfl dX12_may_5 ?_
  refine j_if_ne hx 26 dX12_may_8 rfl (by omega) (fun h2 => absurd h2 (by omega)) (fun h2 => ?_)
  refine j_aload_n hx 0 dX12_may_11 rfl ?_
  refine j_iload_n hx 2 dX12_may_12 rfl ?_
  refine p13_0 hx hG ha kf_RX12_3 dX12_may_13 ?_
  obtain ⟨s1, e_s1⟩ : ∃ z, z = zU s0 a 0 x2 := ⟨_, rfl⟩
  rw [← e_s1]
  have hS_s1 : zSK G s1 := by rw [e_s1]; exact zSK_F hS0 ha rfl rfl rfl (by omega)
  refine j_aload_n hx 0 dX12_may_16 rfl ?_
  refine g13_1 hx hG ha kf_RX12_7 dX12_may_17 ?_
  refine j_iload_n hx 3 dX12_may_20 rfl ?_
  refine j_dup2 hx dX12_may_21 rfl rfl ?_
  have f3 := zaI (j := (x3).toNat) hS0 (zr (k := 1) (t2 := 71) hG ha rfl) rfl (zlen hG (zr (k := 1) (t2 := 71) hG ha rfl) (n := 2) rfl rfl) (show 0 ≤ x3 by omega) (by omega) rfl
  refine j_iald hx hG (zr (k := 1) (t2 := 71) hG ha rfl) (by decide) rfl (zlen hG (zr (k := 1) (t2 := 71) hG ha rfl) (n := 2) rfl rfl) (by omega) (by omega) (j := (x3).toNat) rfl (v := (s0 (gP G a 1) (x3).toNat)) (by rw [e_s1, zU_at (Or.inl (zne ha (zr (k := 1) (t2 := 71) hG ha rfl) (by decide)))]) dX12_may_22 ?_
  refine j_iconst hx dX12_may_23 ?_
  refine j_iadd hx (r := (s0 (gP G a 1) (x3).toNat) + 1) dX12_may_24 (by omega) ?_
  refine j_norm (fun v4 f5 f6 f7 => ?_)
  refine j_iast hx hG (zr (k := 1) (t2 := 71) hG ha rfl) (by decide) rfl (zlen hG (zr (k := 1) (t2 := 71) hG ha rfl) (n := 2) rfl rfl) (by omega) (by omega) (j := (x3).toNat) rfl dX12_may_25 ?_
  obtain ⟨s2, e_s2⟩ : ∃ z, z = zU s1 (gP G a 1) (x3).toNat v4 := ⟨_, rfl⟩
  rw [← e_s2]
  have hS_s2 : zSK G s2 := by rw [e_s2]; exact zSK_A hS_s1 (zr (k := 1) (t2 := 71) hG ha rfl) rfl rfl rfl (by omega)
  refine j_aload_n hx 0 dX12_may_26 rfl ?_
  refine g13_0 hx hG ha kf_RX12_3 (v := x2) (by rw [e_s2, zU_at (Or.inl (zne (zr (k := 1) (t2 := 71) hG ha rfl) ha (by decide))), e_s1, zU_eq]) dX12_may_27 ?_
  refine j_if_ne hx 37 dX12_may_30 rfl (by omega) (fun h8 => ?_) (fun h8 => absurd h8 (by omega))
  refine j_iconst hx dX12_may_37 ?_
  have g9 : s2 a 0 = x2 := (by rw [e_s2, zU_at (Or.inl (zne (zr (k := 1) (t2 := 71) hG ha rfl) ha (by decide))), e_s1, zU_eq])
  have g10 : s2 a 3 = s0 a 3 := (by rw [e_s2, zU_at (Or.inl (zne (zr (k := 1) (t2 := 71) hG ha rfl) ha (by decide))), e_s1, zU_at (Or.inr (by decide))])
  have f11 := zf hS0 ha (k := 3) rfl
  have g12 : s2 a 4 = s0 a 4 := (by rw [e_s2, zU_at (Or.inl (zne (zr (k := 1) (t2 := 71) hG ha rfl) ha (by decide))), e_s1, zU_at (Or.inr (by decide))])
  have f13 := zf hS0 ha (k := 4) rfl
  have g14 : s2 a 5 = s0 a 5 := (by rw [e_s2, zU_at (Or.inl (zne (zr (k := 1) (t2 := 71) hG ha rfl) ha (by decide))), e_s1, zU_at (Or.inr (by decide))])
  have f15 := zf hS0 ha (k := 5) rfl
  have g16 : s2 a 7 = s0 a 7 := (by rw [e_s2, zU_at (Or.inl (zne (zr (k := 1) (t2 := 71) hG ha rfl) ha (by decide))), e_s1, zU_at (Or.inr (by decide))])
  have f17 := zf hS0 ha (k := 7) rfl
  have g18 : s2 a 21 = s0 a 21 := (by rw [e_s2, zU_at (Or.inl (zne (zr (k := 1) (t2 := 71) hG ha rfl) ha (by decide))), e_s1, zU_at (Or.inr (by decide))])
  have f19 := zf hS0 ha (k := 21) rfl
  have g20 : s2 a 22 = s0 a 22 := (by rw [e_s2, zU_at (Or.inl (zne (zr (k := 1) (t2 := 71) hG ha rfl) ha (by decide))), e_s1, zU_at (Or.inr (by decide))])
  have f21 := zf hS0 ha (k := 22) rfl
  have g22 : s2 a 23 = s0 a 23 := (by rw [e_s2, zU_at (Or.inl (zne (zr (k := 1) (t2 := 71) hG ha rfl) ha (by decide))), e_s1, zU_at (Or.inr (by decide))])
  have f23 := zf hS0 ha (k := 23) rfl
  have g24 : s2 a 24 = s0 a 24 := (by rw [e_s2, zU_at (Or.inl (zne (zr (k := 1) (t2 := 71) hG ha rfl) ha (by decide))), e_s1, zU_at (Or.inr (by decide))])
  have f25 := zf hS0 ha (k := 24) rfl
  have g26 : s2 a 38 = s0 a 38 := (by rw [e_s2, zU_at (Or.inl (zne (zr (k := 1) (t2 := 71) hG ha rfl) ha (by decide))), e_s1, zU_at (Or.inr (by decide))])
  have f27 := zf hS0 ha (k := 38) rfl
  have g28 : s2 a 51 = s0 a 51 := (by rw [e_s2, zU_at (Or.inl (zne (zr (k := 1) (t2 := 71) hG ha rfl) ha (by decide))), e_s1, zU_at (Or.inr (by decide))])
  have f29 := zf hS0 ha (k := 51) rfl
  have g30 : s2 a 52 = s0 a 52 := (by rw [e_s2, zU_at (Or.inl (zne (zr (k := 1) (t2 := 71) hG ha rfl) ha (by decide))), e_s1, zU_at (Or.inr (by decide))])
  have f31 := zf hS0 ha (k := 52) rfl
  exact j_zret hx hq rfl (by decide) (by decide) dX12_may_38 (by omega) ⟨0, rfl, rfl, hS_s2, (zFr_u (zFr_u zFr_rf e_s1 ha (by decide)) e_s2 (zr (k := 1) (t2 := 71) hG ha rfl) (by decide)), ⟨(by omega), by omega, by omega, by omega, by omega, by omega, by omega, by omega, by omega, by omega, by omega, by omega, by omega⟩⟩

set_option maxHeartbeats 1200000 in
set_option maxRecDepth 20000 in
theorem c_X12_may_t {E : zE} {l : Launch} (hst : l.stackTraces = false) (a : Nat) (x1 : Int) (x2 : Int) (x3 : Int) : Con E l yX12_may cX12_may 4 (some .boolean) { frames := 0, cells := 0, slots := 0, locals := 0 } (fun G s vs => vs = [.ref a, .int (zI x1), .int (zI x2), .int (zI x3)] ∧ zGK G ∧ zSK G s ∧ (gT G a = 13) ∧ (1 ≤ x1 ∧ x1 ≤ 1) ∧ (1 ≤ x2 ∧ x2 ≤ 2) ∧ (0 ≤ x3 ∧ x3 ≤ 1) ∧ (s a 0 = 0)) (fun G s _ => pI (fun r G2 s2 => G2 = G ∧ s2 = s ∧ (1 ≤ r ∧ r ≤ 1))) := by
  refine Con.mk hst (by decide) (fun G s vs h => by rw [h.1]; exact Nat.le_of_ble_eq_true rfl) ?_
  rintro X G s0 vs ⟨rfl, hG, hS0, ha, hx1, hx2, hx3, e0⟩ rfl hx hq
  show JJ X E 4 G s0 0 0 [(0, .ref a), (1, .int (zI x1)), (2, .int (zI x2)), (3, .int (zI x3))] 0 []
  refine j_iload_n hx 1 dX12_may_0 rfl ?_
  refine j_if_ne hx 26 dX12_may_1 rfl (by omega) (fun h1 => ?_) (fun h1 => absurd h1 (by omega))
  refine j_aload_n hx 0 dX12_may_26 rfl ?_
  refine g13_0 hx hG ha kf_RX12_3 rfl dX12_may_27 ?_
  refine j_if_ne hx 37 dX12_may_30 rfl (by omega) (fun h2 => absurd h2 (by omega)) (fun h2 => ?_)
  refine j_iconst hx dX12_may_33 ?_
  refine j_goto hx 38 dX12_may_34 rfl ?_
  exact j_zret hx hq rfl (by decide) (by decide) dX12_may_38 (by omega) ⟨1, rfl, rfl, rfl, (by omega)⟩
